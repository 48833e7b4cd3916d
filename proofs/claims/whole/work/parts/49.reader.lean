/-! THE READER, in numbers -/
theorem beh_all {tb : Nat → Int32} {ts : Nat} {s : Int32} : ∀ (n p i : Nat), p ≤ i → i < behG tb ts s n p → srF (byF tb ts i) = s
  | 0, p, i, h1, h2 => by
    unfold behG at h2
    omega
  | n + 1, p, i, h1, h2 => by
    unfold behG at h2
    split at h2
    · rename_i e
      by_cases q : i = p
      · rw [q]; exact e
      · exact beh_all n (p + 1) i (by omega) h2
    · omega
theorem ite_le9 {P : Prop} {_ : Decidable P} {a c m : Int32} (ha : a ≤ m) (hc : c ≤ m) : (if P then a else c) ≤ m := by
  split
  · exact ha
  · exact hc
theorem wt_le {tb : Nat → Int32} {ts : Nat} (f t : Nat) : wtF tb ts f t ≤ 5 := by
  unfold wtF
  iterate 12 refine ite_le9 (by decide) ?_
  decide
theorem tk_num {tb : Nat → Int32} {ts p : Nat} (h : 1000 ≤ tkF tb ts p) : ∃ v, v < 10000 ∧ tkF tb ts p = nI (1000 + v) := by
  unfold tkF at h ⊢
  split at h
  · rename_i e
    rw [if_pos e]
    unfold ntF at h ⊢
    split at h
    · exact absurd h (by decide)
    · rename_i e4
      rw [if_neg e4]
      obtain ⟨v, hv, ev⟩ := nu_le (tb := tb) (ts := ts) (f := fmF tb ts p) (behF tb ts 1 (fmF tb ts p) - fmF tb ts p) (by omega) (fun j hj => beh_all (ts - fmF tb ts p) (fmF tb ts p) _ (Nat.le_add_right _ _) (by unfold behF at hj; omega))
      rw [ev]
      exact ⟨v, Nat.lt_of_lt_of_le hv (Nat.pow_le_pow_right (by decide) (by omega) : _ ≤ 10 ^ 4), nI_add 1000 v⟩
  · split at h
    · exact absurd (Int32.le_trans h (wt_le _ _)) (by decide)
    · split at h
      · rename_i e1 e2 e3
        exfalso
        unfold srF at e3
        split at e3
        · exact absurd e3 (by decide)
        · split at e3
          · exact absurd e3 (by decide)
          · split at e3
            · exact absurd e3 (by decide)
            · split at e3
              · rename_i q
                rcases q with q | q | q | q | q | q | q | q <;> rw [q] at h <;> exact absurd h (by decide)
              · exact absurd e3 (by decide)
      · split at h <;> exact absurd h (by decide)
theorem tk_num0 {tb : Nat → Int32} {ts : Nat} (p : Nat) (h : 1000 ≤ tkF tb ts p) : 0 ≤ tkF tb ts p - 1000 := by
  obtain ⟨v, hv, e⟩ := tk_num h
  rw [e, show (1000 : Int32) = nI 1000 from rfl, pk_sub (by omega)]
  exact nI_pos' (by omega)
/-- what the reader sees of the class's cells -/
def CSr (Sh : HS) (b : Nat) : Prop := True ∧ Sh.2 (b + 1) = (5, 4) ∧ Sh.2 (b + 2) = (9, 160) ∧ Sh.2 (b + 3) = (9, 161) ∧ Sh.2 (b + 4) = (9, 161) ∧ Sh.2 (b + 5) = (2, 5) ∧ True ∧ True ∧ (∀ t, t < 6 → ShT Sh (b + 8 + 3 * t)) ∧ True
def CRr (R : HR) (b : Nat) : Prop := True ∧ True ∧ True ∧ True ∧ True ∧ True ∧ True ∧ True ∧ R (b + 1) 0 = some (b + 2) ∧ R (b + 1) 2 = some (b + 3) ∧ R (b + 1) 3 = some (b + 4) ∧ R (b + 5) 0 = some (b + 1) ∧ True ∧ True ∧ (∀ t, t < 6 → RT R (b + 8 + 3 * t)) ∧ True
def RC (b t : Nat) (Sh : HS) (R : HR) : Prop := CSr Sh b ∧ CRr R b ∧ t < 6
theorem RC.of {b t : Nat} {Sh : HS} {R : HR} (h : CSh Sh b) (h2 : CRf R b) (h3 : t < 6) : RC b t Sh R := by
  obtain ⟨s0, s1, s2, s3, s4, s5, s6, s7, sT, sS⟩ := h
  obtain ⟨r0, r1, r2, r4, r5, r6, r8, r9, rt0, rt2, rt3, rr0, rT, rS, rTT, rSS⟩ := h2
  exact ⟨⟨trivial, s1, s2, s3, s4, s5, trivial, trivial, sT, trivial⟩, ⟨trivial, trivial, trivial, trivial, trivial, trivial, trivial, trivial, rt0, rt2, rt3, rr0, trivial, trivial, rTT, trivial⟩, h3⟩
def rdE (b t : Nat) (I J : HI) : Prop := ∀ a k, ¬ (a = b + 5 ∧ 1 ≤ k) → ¬ (a = b + 8 + 3 * t ∧ k = 2) → ¬ a = b + 8 + 3 * t + 1 → J a k = I a k
theorem rdE.rf {b t : Nat} {I : HI} : rdE b t I I := fun _ _ _ _ _ => rfl
theorem rdE.tr {b t : Nat} {I J J2 : HI} (h : rdE b t I J) (h2 : rdE b t J J2) : rdE b t I J2 := fun a k q1 q2 q3 => (h2 a k q1 q2 q3).trans (h a k q1 q2 q3)
/-- all is well so far -/
def GS (tb : Nat → Int32) (ts b t K k p o : Nat) (C : List Int32) (J : HI) : Prop := J (b + 5) 1 = nI k ∧ J (b + 5) 2 = tkF tb ts p ∧ J (b + 5) 3 = nI o ∧ J (b + 5) 4 = -1 ∧ p = poF tb ts k ∧ k ≤ K ∧ cutP tb ts (b + 1) J K ∧ J (b + 8 + 3 * t) 2 = nI C.length ∧ C.length ≤ 160 ∧ (∀ j (x : Int32), C[j]? = some x → J (b + 8 + 3 * t + 1) j = x) ∧ ts ≤ 160
/-- a fault was found -/
def FS (tb : Nat → Int32) (ts b t f : Nat) (J : HI) : Prop := J (b + 5) 2 = 2 ∧ J (b + 5) 4 = nI (fmF tb ts f) ∧ f ≤ ts ∧ ts ≤ 160
theorem cutP.rd {tb : Nat → Int32} {ts b t K : Nat} {I J : HI} (h : cutP tb ts (b + 1) I K) (e : rdE b t I J) : cutP tb ts (b + 1) J K :=
  ⟨h.1, fun j hj => ⟨(e _ _ (by omega) (by omega) (by omega)).trans (h.2.1 j hj).1, (e _ _ (by omega) (by omega) (by omega)).trans (h.2.1 j hj).2⟩, h.2.2⟩
section
variable {tb : Nat → Int32} {ts b t K k p o : Nat} {C : List Int32} {J : HI}
theorem GS.ps (h : GS tb ts b t K k p o C J) : p ≤ ts := by
  rw [h.2.2.2.2.1]
  exact po_le k
theorem GS.le (h : GS tb ts b t K k p o C J) : k ≤ 160 := by
  have h1 := h.2.2.2.2.2.1
  have h2 := h.2.2.2.2.2.2.1.1
  omega
theorem GS.lt (h : GS tb ts b t K k p o C J) (he : ¬ endT (tkF tb ts p)) : k + 1 ≤ K := by
  have h1 := h.2.2.2.2.2.1
  by_cases e : k = K
  · exfalso
    apply he
    rw [h.2.2.2.2.1, e]
    exact h.2.2.2.2.2.2.1.2.2.2
  · omega
theorem GS.up {J' : HI} (h : GS tb ts b t K k p o C J) (e : rdE b t J J') {k' p' o' : Nat} {C' : List Int32} (h1 : J' (b + 5) 1 = nI k') (h2 : J' (b + 5) 2 = tkF tb ts p') (h3 : J' (b + 5) 3 = nI o') (h4 : J' (b + 5) 4 = -1) (h5 : p' = poF tb ts k') (h6 : k' ≤ K) (h7 : J' (b + 8 + 3 * t) 2 = nI C'.length) (h8 : C'.length ≤ 160) (h9 : ∀ j (x : Int32), C'[j]? = some x → J' (b + 8 + 3 * t + 1) j = x) : GS tb ts b t K k' p' o' C' J' :=
  ⟨h1, h2, h3, h4, h5, h6, h.2.2.2.2.2.2.1.rd e, h7, h8, h9, h.2.2.2.2.2.2.2.2.2.2⟩
theorem GS.next {J' : HI} (h : GS tb ts b t K k p o C J) (he : ¬ endT (tkF tb ts p)) (e : J' = u2 (u2 J (b + 5) 1 (nI (k + 1))) (b + 5) 2 (J (b + 3) (k + 1))) : GS tb ts b t K (k + 1) (nxF tb ts p) o C J' ∧ rdE b t J J' := by
  have hlt := h.lt he
  have hp := h.ps
  have hx := nx_lt hp he
  obtain ⟨h1, h2, h3, h4, h5, h6, h7, h8, h9, hA, hB⟩ := id h
  have e2 : rdE b t J J' := fun a q q1 q2 q3 => by rw [e, u2_ne (by omega), u2_ne (by omega)]
  refine ⟨h.up e2 ?_ ?_ ?_ ?_ ?_ hlt ?_ h9 ?_, e2⟩
  · rw [e, u2_ne (by omega), u2_same]
  · rw [e, u2_same]
    have := (h7.2.1 (k + 1) (by omega)).1
    rw [h5]
    exact this
  · rw [e, u2_ne (by omega), u2_ne (by omega)]; exact h3
  · rw [e, u2_ne (by omega), u2_ne (by omega)]; exact h4
  · rw [h5]; rfl
  · rw [e, u2_ne (by omega), u2_ne (by omega)]; exact h8
  · intro j x q
    rw [e, u2_ne (by omega), u2_ne (by omega)]; exact hA j x q
theorem GS.opn {J' : HI} {o' : Nat} (h : GS tb ts b t K k p o C J) (e : J' = u2 J (b + 5) 3 (nI o')) : GS tb ts b t K k p o' C J' ∧ rdE b t J J' := by
  obtain ⟨h1, h2, h3, h4, h5, h6, h7, h8, h9, hA, hB⟩ := id h
  have e2 : rdE b t J J' := fun a q q1 q2 q3 => by rw [e, u2_ne (by omega)]
  refine ⟨h.up e2 ?_ ?_ ?_ ?_ h5 h6 ?_ h9 ?_, e2⟩
  · rw [e, u2_ne (by omega)]; exact h1
  · rw [e, u2_ne (by omega)]; exact h2
  · rw [e, u2_same]
  · rw [e, u2_ne (by omega)]; exact h4
  · rw [e, u2_ne (by omega)]; exact h8
  · intro j x q
    rw [e, u2_ne (by omega)]; exact hA j x q
theorem GS.add {J' : HI} {c : Int32} (h : GS tb ts b t K k p o C J) (hp : C.length + 1 ≤ 160) (e : J' = u2 (u2 J (b + 8 + 3 * t + 1) C.length c) (b + 8 + 3 * t) 2 (nI (C.length + 1))) : GS tb ts b t K k p o (C ++ [c]) J' ∧ rdE b t J J' := by
  obtain ⟨h1, h2, h3, h4, h5, h6, h7, h8, h9, hA, hB⟩ := id h
  have e2 : rdE b t J J' := fun a q q1 q2 q3 => by rw [e, u2_ne (by omega), u2_ne (by omega)]
  have hl : (C ++ [c]).length = C.length + 1 := by simp
  refine ⟨h.up e2 ?_ ?_ ?_ ?_ h5 h6 ?_ (by omega) ?_, e2⟩
  · rw [e, u2_ne (by omega), u2_ne (by omega)]; exact h1
  · rw [e, u2_ne (by omega), u2_ne (by omega)]; exact h2
  · rw [e, u2_ne (by omega), u2_ne (by omega)]; exact h3
  · rw [e, u2_ne (by omega), u2_ne (by omega)]; exact h4
  · rw [e, u2_same, hl]
  · intro j x q
    rw [e, u2_ne (by omega)]
    by_cases ej : j = C.length
    · subst ej
      rw [u2_same]
      simpa using q
    · have hj : j < (C ++ [c]).length := (List.getElem?_eq_some_iff.mp q).1
      rw [u2_ne (by omega)]
      rw [List.getElem?_append_left (by omega)] at q
      exact hA j x q
theorem GS.fail {J' : HI} (h : GS tb ts b t K k p o C J) (e : J' = u2 (u2 J (b + 5) 4 (nI (fmF tb ts p))) (b + 5) 2 2) : FS tb ts b t p J' ∧ rdE b t J J' := by
  refine ⟨⟨by rw [e, u2_same], by rw [e, u2_ne (by omega), u2_same], h.ps, h.2.2.2.2.2.2.2.2.2.2⟩, fun a q q1 q2 q3 => by rw [e, u2_ne (by omega), u2_ne (by omega)]⟩
theorem FS.up {J' : HI} {f : Nat} (h : FS tb ts b t f J) (e : ∀ k, k = 2 ∨ k = 4 → J' (b + 5) k = J (b + 5) k) : FS tb ts b t f J' :=
  ⟨(e 2 (Or.inl rfl)).trans h.1, (e 4 (Or.inr rfl)).trans h.2.1, h.2.2⟩
theorem FS.fm {f : Nat} (h : FS tb ts b t f J) : fmF tb ts f ≤ ts := (beh_le (tb := tb) (s := 0) h.2.2.1).2
end

set_option maxHeartbeats 4000000 in
set_option maxRecDepth 100000 in
theorem k_goTo {G : GG} {Sh : HS} {R : HR} {b t K ts : Nat} {tb : Nat → Int32} (rc : RC b t Sh R) {J : HI} {n : Nat} (hn : n ≤ 160) : AM G 1 0 0 yX2_goTo cX2_goTo 2 none [.ref (b + 5), .int (nI n)] (Sh, J, R) (qv fun g => g = (Sh, u2 (u2 J (b + 5) 1 (nI n)) (b + 5) 2 (J (b + 3) n), R)) := by
  obtain ⟨_, z1, z2, z3, z4, z5, _, _, zz, _⟩ := rc.1
  have zT := zz t rc.2.2
  obtain ⟨_, _, _, _, _, _, _, _, w1, w2, w3, w0, _, _, wW, _⟩ := rc.2.1
  have wT := wW t rc.2.2
  have t6 := rc.2.2
  refine am_intro (by decide) (Nat.le_of_ble_eq_true rfl) ?_
  refine x_iload_n dX2_goTo_0 1 rfl rfl ?_
  refine x_if_lt (tgt := 32) dX2_goTo_1 (by decide) (fun c_1 => False.elim (nI_pos (by omega) c_1)) (fun c_1 => ?_)
  refine x_iload_n dX2_goTo_4 1 rfl rfl ?_
  refine x_sipush (v := nI 160) dX2_goTo_5 (by decide) ?_
  refine x_icmp_gt (tgt := 32) dX2_goTo_8 (by decide) (fun c_8 => False.elim (absurd ((nI_ltI (a := 160) (by omega) (by omega)).mp c_8) (by omega))) (fun c_8 => ?_)
  refine x_aload_n dX2_goTo_11 0 rfl rfl ?_
  refine x_iload_n dX2_goTo_12 1 rfl rfl ?_
  refine x_pI dX2_goTo_13 fl_2_62 rfl rfl rfl z5 (fun Iq1 e_Iq1 => ?_)
  refine x_aload_n dX2_goTo_16 0 rfl rfl ?_
  refine x_aload_n dX2_goTo_17 0 rfl rfl ?_
  refine x_gR (b := b + 1) dX2_goTo_18 fl_2_9 rfl z5 w0 ?_
  refine x_gR (b := b + 3) dX2_goTo_21 fl_2_88 rfl z1 w2 ?_
  refine x_aload_n dX2_goTo_24 0 rfl rfl ?_
  refine x_gI (v := nI n) dX2_goTo_25 fl_2_62 rfl z5 (by rw [e_Iq1]; exact u2_same) ?_
  refine x_ia (j := n) (v := J (b + 3) n) dX2_goTo_28 z3 rfl (by omega) (by omega) (by rw [e_Iq1]; exact u2_ne (by omega)) ?_
  refine x_pI dX2_goTo_29 fl_2_46 rfl rfl rfl z5 (fun Iq2 e_Iq2 => ?_)
  refine x_vret dX2_goTo_32 rfl (Nat.le_refl _) (Nat.le_refl _) ?_
  subst_vars
  rfl

set_option maxHeartbeats 4000000 in
set_option maxRecDepth 100000 in
theorem k_fail {G : GG} {Sh : HS} {R : HR} {b t K ts : Nat} {tb : Nat → Int32} (rc : RC b t Sh R) {k p o : Nat} {C : List Int32} {J : HI} (hg : GS tb ts b t K k p o C J) : AM G 1 0 0 yX2_fail cX2_fail 1 none [.ref (b + 5)] (Sh, J, R) (qv fun g => ∃ J2 : HI, g = (Sh, J2, R) ∧ FS tb ts b t p J2 ∧ rdE b t J J2) := by
  obtain ⟨_, z1, z2, z3, z4, z5, _, _, zz, _⟩ := rc.1
  have zT := zz t rc.2.2
  obtain ⟨_, _, _, _, _, _, _, _, w1, w2, w3, w0, _, _, wW, _⟩ := rc.2.1
  have wT := wW t rc.2.2
  have t6 := rc.2.2
  refine am_intro (by decide) (Nat.le_of_ble_eq_true rfl) ?_
  refine x_aload_n dX2_fail_0 0 rfl rfl ?_
  refine x_gI (v := (-1)) dX2_fail_1 fl_2_29 rfl z5 hg.2.2.2.1 ?_
  refine x_iconst (v := (-1)) dX2_fail_4 (by decide) ?_
  refine x_icmp_ne (tgt := 41) dX2_fail_5 (by decide) (fun c_5 => False.elim (c_5 rfl)) (fun c_5 => ?_)
  refine x_aload_n dX2_fail_8 0 rfl rfl ?_
  refine x_gI (v := nI k) dX2_fail_9 fl_2_62 rfl z5 hg.1 ?_
  refine x_if_lt (tgt := 41) dX2_fail_12 (by decide) (fun c_12 => False.elim (nI_pos (by have := hg.le; omega) c_12)) (fun c_12 => ?_)
  refine x_aload_n dX2_fail_15 0 rfl rfl ?_
  refine x_gI (v := nI k) dX2_fail_16 fl_2_62 rfl z5 hg.1 ?_
  refine x_sipush (v := 160) dX2_fail_19 (by decide) ?_
  refine x_icmp_gt (tgt := 41) dX2_fail_22 (by decide) (fun c_22 => False.elim (absurd ((nI_ltI (a := 160) (by omega) (by have := hg.le; omega)).mp c_22) (by have := hg.le; omega))) (fun c_22 => ?_)
  refine x_aload_n dX2_fail_25 0 rfl rfl ?_
  refine x_aload_n dX2_fail_26 0 rfl rfl ?_
  refine x_gR (b := b + 1) dX2_fail_27 fl_2_9 rfl z5 w0 ?_
  refine x_gR (b := b + 4) dX2_fail_30 fl_2_92 rfl z1 w3 ?_
  refine x_aload_n dX2_fail_33 0 rfl rfl ?_
  refine x_gI (v := nI k) dX2_fail_34 fl_2_62 rfl z5 hg.1 ?_
  refine x_ia (j := k) (v := nI (fmF tb ts p)) dX2_fail_37 z4 rfl (by have := hg.le; omega) (by omega) (by rw [hg.2.2.2.2.1]; exact (hg.2.2.2.2.2.2.1.2.1 k (by have := hg.2.2.2.2.2.1; omega)).2) ?_
  refine x_pI dX2_fail_38 fl_2_29 rfl rfl rfl z5 (fun Iq1 e_Iq1 => ?_)
  refine x_aload_n dX2_fail_41 0 rfl rfl ?_
  refine x_iconst (v := 2) dX2_fail_42 (by decide) ?_
  refine x_pI dX2_fail_43 fl_2_46 rfl rfl rfl z5 (fun Iq2 e_Iq2 => ?_)
  refine x_vret dX2_fail_46 rfl (Nat.le_refl _) (Nat.le_refl _) ?_
  exact ⟨Iq2, rfl, hg.fail (by rw [e_Iq2, e_Iq1])⟩

set_option maxHeartbeats 4000000 in
set_option maxRecDepth 100000 in
theorem k_failF {G : GG} {Sh : HS} {R : HR} {b t K ts : Nat} {tb : Nat → Int32} (rc : RC b t Sh R) {f : Nat} {J : HI} (hf : FS tb ts b t f J) : AM G 1 0 0 yX2_fail cX2_fail 1 none [.ref (b + 5)] (Sh, J, R) (qv fun g => ∃ J2 : HI, g = (Sh, J2, R) ∧ FS tb ts b t f J2 ∧ rdE b t J J2) := by
  obtain ⟨_, z1, z2, z3, z4, z5, _, _, zz, _⟩ := rc.1
  have zT := zz t rc.2.2
  obtain ⟨_, _, _, _, _, _, _, _, w1, w2, w3, w0, _, _, wW, _⟩ := rc.2.1
  have wT := wW t rc.2.2
  have t6 := rc.2.2
  refine am_intro (by decide) (Nat.le_of_ble_eq_true rfl) ?_
  refine x_aload_n dX2_fail_0 0 rfl rfl ?_
  refine x_gI (v := nI (fmF tb ts f)) dX2_fail_1 fl_2_29 rfl z5 hf.2.1 ?_
  refine x_iconst (v := (-1)) dX2_fail_4 (by decide) ?_
  refine x_icmp_ne (tgt := 41) dX2_fail_5 (by decide) (fun c_5 => ?_) (fun c_5 => False.elim (nI_pos (n := fmF tb ts f) (by have := hf.fm; have := hf.2.2.2; omega) (by rw [c_5]; decide)))
  refine x_aload_n dX2_fail_41 0 rfl rfl ?_
  refine x_iconst (v := 2) dX2_fail_42 (by decide) ?_
  refine x_pI dX2_fail_43 fl_2_46 rfl rfl rfl z5 (fun Iq1 e_Iq1 => ?_)
  refine x_vret dX2_fail_46 rfl (Nat.le_refl _) (Nat.le_refl _) ?_
  refine ⟨Iq1, rfl, ⟨by rw [e_Iq1, u2_same], by rw [e_Iq1, u2_ne (by omega)]; exact hf.2.1, hf.2.2⟩, fun a q q1 q2 q3 => by rw [e_Iq1, u2_ne (by omega)]⟩

set_option maxHeartbeats 4000000 in
set_option maxRecDepth 100000 in
theorem k_add1 {G : GG} {Sh : HS} {R : HR} {b t K ts : Nat} {tb : Nat → Int32} (rc : RC b t Sh R) {k p o : Nat} {C : List Int32} {J : HI} (hg : GS tb ts b t K k p o C J) (hp : C.length + 1 ≤ 160) {c : Int32} : AM G 1 0 0 yX6_add cX6_add 2 none [.ref (b + 8 + 3 * t), .int c] (Sh, J, R) (qv fun g => ∃ J2 : HI, g = (Sh, J2, R) ∧ GS tb ts b t K k p o (C ++ [c]) J2 ∧ rdE b t J J2) := by
  obtain ⟨_, z1, z2, z3, z4, z5, _, _, zz, _⟩ := rc.1
  have zT := zz t rc.2.2
  obtain ⟨_, _, _, _, _, _, _, _, w1, w2, w3, w0, _, _, wW, _⟩ := rc.2.1
  have wT := wW t rc.2.2
  have t6 := rc.2.2
  have hps := hg.ps
  have h160 := hg.2.2.2.2.2.2.2.2.2.2
  refine am_intro (by decide) (Nat.le_of_ble_eq_true rfl) ?_
  refine x_aload_n dX6_add_0 0 rfl rfl ?_
  refine x_gI (v := nI C.length) dX6_add_1 fl_6_22 rfl zT.1 hg.2.2.2.2.2.2.2.1 ?_
  refine x_if_lt (tgt := 37) dX6_add_4 (by decide) (fun c_4 => False.elim (nI_pos (by omega) c_4)) (fun c_4 => ?_)
  refine x_aload_n dX6_add_7 0 rfl rfl ?_
  refine x_gI (v := nI C.length) dX6_add_8 fl_6_22 rfl zT.1 hg.2.2.2.2.2.2.2.1 ?_
  refine x_sipush (v := nI 160) dX6_add_11 (by decide) ?_
  refine x_icmp_ge (tgt := 37) dX6_add_14 (by decide) (fun c_14 => False.elim (absurd ((nI_leI (a := 160) (by omega) (by omega)).mp c_14) (by omega))) (fun c_14 => ?_)
  refine x_aload_n dX6_add_17 0 rfl rfl ?_
  refine x_gR (b := b + 8 + 3 * t + 1) dX6_add_18 fl_6_9 rfl zT.1 wT.1 ?_
  refine x_aload_n dX6_add_21 0 rfl rfl ?_
  refine x_gI (v := nI C.length) dX6_add_22 fl_6_22 rfl zT.1 hg.2.2.2.2.2.2.2.1 ?_
  refine x_iload_n dX6_add_25 1 rfl rfl ?_
  refine x_is (j := C.length) dX6_add_26 zT.2.1 rfl (by omega) (by omega) (fun Iq1 e_Iq1 => ?_)
  refine x_aload_n dX6_add_27 0 rfl rfl ?_
  refine x_dup dX6_add_28 rfl ?_
  refine x_gI (v := nI C.length) dX6_add_29 fl_6_22 rfl zT.1 (by rw [e_Iq1, u2_ne (by omega)]; exact hg.2.2.2.2.2.2.2.1) ?_
  refine x_iconst (v := nI 1) dX6_add_32 (by decide) ?_
  refine x_iadd dX6_add_33 ?_
  refine x_vali (nI_add C.length 1) ?_
  refine x_pI dX6_add_34 fl_6_22 rfl rfl rfl zT.1 (fun Iq2 e_Iq2 => ?_)
  refine x_vret dX6_add_37 rfl (Nat.le_refl _) (Nat.le_refl _) ?_
  exact ⟨Iq2, rfl, hg.add hp (by rw [e_Iq2, e_Iq1])⟩

set_option maxHeartbeats 4000000 in
set_option maxRecDepth 100000 in
theorem k_addF {G : GG} {Sh : HS} {R : HR} {b t K ts : Nat} {tb : Nat → Int32} (rc : RC b t Sh R) {J : HI} {c : Int32} : AM G 1 0 0 yX6_add cX6_add 2 none [.ref (b + 8 + 3 * t), .int c] (Sh, J, R) (qv fun g => ∃ J2 : HI, g = (Sh, J2, R) ∧ (∀ k, J2 (b + 5) k = J (b + 5) k) ∧ rdE b t J J2) := by
  obtain ⟨_, z1, z2, z3, z4, z5, _, _, zz, _⟩ := rc.1
  have zT := zz t rc.2.2
  obtain ⟨_, _, _, _, _, _, _, _, w1, w2, w3, w0, _, _, wW, _⟩ := rc.2.1
  have wT := wW t rc.2.2
  have t6 := rc.2.2
  refine am_intro (by decide) (Nat.le_of_ble_eq_true rfl) ?_
  refine x_aload_n dX6_add_0 0 rfl rfl ?_
  refine x_gI (v := J (b + 8 + 3 * t) 2) dX6_add_1 fl_6_22 rfl zT.1 rfl ?_
  refine x_if_lt (tgt := 37) dX6_add_4 (by decide) (fun c_4 => ?_) (fun c_4 => ?_)
  · refine x_vret dX6_add_37 rfl (Nat.le_refl _) (Nat.le_refl _) ?_
    exact ⟨J, rfl, fun _ => rfl, rdE.rf⟩
  · refine x_aload_n dX6_add_7 0 rfl rfl ?_
    refine x_gI (v := J (b + 8 + 3 * t) 2) dX6_add_8 fl_6_22 rfl zT.1 rfl ?_
    refine x_sipush (v := 160) dX6_add_11 (by decide) ?_
    refine x_icmp_ge (tgt := 37) dX6_add_14 (by decide) (fun c_14 => ?_) (fun c_14 => ?_)
    · refine x_vret dX6_add_37 rfl (Nat.le_refl _) (Nat.le_refl _) ?_
      exact ⟨J, rfl, fun _ => rfl, rdE.rf⟩
    · obtain ⟨sz, hsz, esz⟩ := nI_of2 (M := 159) (n := 159) (by decide) c_4 (by
        apply Int32.not_lt.mp
        intro z
        apply c_14
        have z1 := Int32.lt_iff_toInt_lt.mp z
        have z2 : (159 : Int32).toInt = 159 := by decide
        have z3 : (160 : Int32).toInt = 160 := by decide
        apply Int32.le_iff_toInt_le.mpr
        omega)
      refine x_aload_n dX6_add_17 0 rfl rfl ?_
      refine x_gR (b := b + 8 + 3 * t + 1) dX6_add_18 fl_6_9 rfl zT.1 wT.1 ?_
      refine x_aload_n dX6_add_21 0 rfl rfl ?_
      refine x_gI (v := J (b + 8 + 3 * t) 2) dX6_add_22 fl_6_22 rfl zT.1 rfl ?_
      refine x_iload_n dX6_add_25 1 rfl rfl ?_
      refine x_is (j := sz) dX6_add_26 zT.2.1 esz (by omega) (by omega) (fun Iq1 e_Iq1 => ?_)
      refine x_aload_n dX6_add_27 0 rfl rfl ?_
      refine x_dup dX6_add_28 rfl ?_
      refine x_gI (v := Iq1 (b + 8 + 3 * t) 2) dX6_add_29 fl_6_22 rfl zT.1 rfl ?_
      refine x_iconst (v := 1) dX6_add_32 (by decide) ?_
      refine x_iadd dX6_add_33 ?_
      refine x_pI dX6_add_34 fl_6_22 rfl rfl rfl zT.1 (fun Iq2 e_Iq2 => ?_)
      refine x_vret dX6_add_37 rfl (Nat.le_refl _) (Nat.le_refl _) ?_
      exact ⟨Iq2, rfl, fun k => by rw [e_Iq2, u2_ne (by omega), e_Iq1, u2_ne (by omega)], fun a q q1 q2 q3 => by rw [e_Iq2, u2_ne (by omega), e_Iq1, u2_ne (by omega)]⟩

