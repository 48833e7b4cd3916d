/-! THE REFERENCE'S READER, in numbers -/
def cdW (i : Nat) : Int32 := ([0, 3, 4, 5, -9, -10, -7, -1, -2, -3, -4, -5, -6] : List Int32).getD i 0
theorem wd_tb : ((List.range 13).all fun i => (List.range 13).all fun j => i == 0 || (j == 0 || (i == j || (!(kTn i == kTn j) || !((List.range (kTn i)).all fun c => kC i c == kC j c))))) = true := by decide +kernel
theorem wd_tab (i : Nat) (hi : i < 13) (j : Nat) (hj : j < 13) (h1 : 1 ≤ i) (h2 : 1 ≤ j) (e : kTn i = kTn j) (h : ∀ c, c < kTn i → kC i c = kC j c) : i = j := by
  have z := List.all_eq_true.mp (List.all_eq_true.mp wd_tb i (List.mem_range.mpr hi)) j (List.mem_range.mpr hj)
  simp only [Bool.or_eq_true, beq_iff_eq, Bool.not_eq_true', beq_eq_false_iff_ne] at z
  rcases z with z | z | z | z | z
  · omega
  · omega
  · exact z
  · exact absurd e z
  · have : ((List.range (kTn i)).all fun c => kC i c == kC j c) = true := List.all_eq_true.mpr (fun c hc => beq_iff_eq.mpr (h c (List.mem_range.mp hc)))
    rw [this] at z
    cases z
theorem cd_tab : ∀ i : Nat, i < 13 → ∀ j : Nat, j < 13 → 1 ≤ i → 1 ≤ j → cdW i = cdW j → i = j := by decide +kernel
theorem cd_2 : ∀ i : Nat, i < 13 → 1 ≤ i → ¬ cdW i = 2 ∧ mtF (cdW i) = 119 := by decide +kernel
section
variable {tb : Nat → Int32} {ts p : Nat}
theorem wd_uniq {f t i j : Nat} (h : wdP tb ts i f t) (h2 : wdP tb ts j f t) (hi : i < 13) (hj : j < 13) (h1 : 1 ≤ i) (h3 : 1 ≤ j) : i = j :=
  wd_tab i hi j hj h1 h3 (h.1.symm.trans h2.1) (fun c hc => (h.2 c hc).symm.trans (h2.2 c (by rw [← h2.1, h.1]; exact hc)))
theorem wt_of {f t i : Nat} (h : wdP tb ts i f t) (h1 : 1 ≤ i) (h2 : i ≤ 12) : wtF tb ts f t = cdW i := by
  have no : ∀ j, j ≠ i → 1 ≤ j → j ≤ 12 → ¬ wdP tb ts j f t := fun j hj q1 q2 y => hj (wd_uniq y h (by omega) (by omega) q1 h1)
  have hc : i = 1 ∨ i = 2 ∨ i = 3 ∨ i = 4 ∨ i = 5 ∨ i = 6 ∨ i = 7 ∨ i = 8 ∨ i = 9 ∨ i = 10 ∨ i = 11 ∨ i = 12 := by omega
  rcases hc with rfl | rfl | rfl | rfl | rfl | rfl | rfl | rfl | rfl | rfl | rfl | rfl
  · unfold wtF
    rw [if_pos h]
    rfl
  · unfold wtF
    rw [if_neg (no 1 (by decide) (by decide) (by decide)), if_pos h]
    rfl
  · unfold wtF
    rw [if_neg (no 1 (by decide) (by decide) (by decide)), if_neg (no 2 (by decide) (by decide) (by decide)), if_pos h]
    rfl
  · unfold wtF
    rw [if_neg (no 1 (by decide) (by decide) (by decide)), if_neg (no 2 (by decide) (by decide) (by decide)), if_neg (no 3 (by decide) (by decide) (by decide)), if_pos h]
    rfl
  · unfold wtF
    rw [if_neg (no 1 (by decide) (by decide) (by decide)), if_neg (no 2 (by decide) (by decide) (by decide)), if_neg (no 3 (by decide) (by decide) (by decide)), if_neg (no 4 (by decide) (by decide) (by decide)), if_pos h]
    rfl
  · unfold wtF
    rw [if_neg (no 1 (by decide) (by decide) (by decide)), if_neg (no 2 (by decide) (by decide) (by decide)), if_neg (no 3 (by decide) (by decide) (by decide)), if_neg (no 4 (by decide) (by decide) (by decide)), if_neg (no 5 (by decide) (by decide) (by decide)), if_pos h]
    rfl
  · unfold wtF
    rw [if_neg (no 1 (by decide) (by decide) (by decide)), if_neg (no 2 (by decide) (by decide) (by decide)), if_neg (no 3 (by decide) (by decide) (by decide)), if_neg (no 4 (by decide) (by decide) (by decide)), if_neg (no 5 (by decide) (by decide) (by decide)), if_neg (no 6 (by decide) (by decide) (by decide)), if_pos h]
    rfl
  · unfold wtF
    rw [if_neg (no 1 (by decide) (by decide) (by decide)), if_neg (no 2 (by decide) (by decide) (by decide)), if_neg (no 3 (by decide) (by decide) (by decide)), if_neg (no 4 (by decide) (by decide) (by decide)), if_neg (no 5 (by decide) (by decide) (by decide)), if_neg (no 6 (by decide) (by decide) (by decide)), if_neg (no 7 (by decide) (by decide) (by decide)), if_pos h]
    rfl
  · unfold wtF
    rw [if_neg (no 1 (by decide) (by decide) (by decide)), if_neg (no 2 (by decide) (by decide) (by decide)), if_neg (no 3 (by decide) (by decide) (by decide)), if_neg (no 4 (by decide) (by decide) (by decide)), if_neg (no 5 (by decide) (by decide) (by decide)), if_neg (no 6 (by decide) (by decide) (by decide)), if_neg (no 7 (by decide) (by decide) (by decide)), if_neg (no 8 (by decide) (by decide) (by decide)), if_pos h]
    rfl
  · unfold wtF
    rw [if_neg (no 1 (by decide) (by decide) (by decide)), if_neg (no 2 (by decide) (by decide) (by decide)), if_neg (no 3 (by decide) (by decide) (by decide)), if_neg (no 4 (by decide) (by decide) (by decide)), if_neg (no 5 (by decide) (by decide) (by decide)), if_neg (no 6 (by decide) (by decide) (by decide)), if_neg (no 7 (by decide) (by decide) (by decide)), if_neg (no 8 (by decide) (by decide) (by decide)), if_neg (no 9 (by decide) (by decide) (by decide)), if_pos h]
    rfl
  · unfold wtF
    rw [if_neg (no 1 (by decide) (by decide) (by decide)), if_neg (no 2 (by decide) (by decide) (by decide)), if_neg (no 3 (by decide) (by decide) (by decide)), if_neg (no 4 (by decide) (by decide) (by decide)), if_neg (no 5 (by decide) (by decide) (by decide)), if_neg (no 6 (by decide) (by decide) (by decide)), if_neg (no 7 (by decide) (by decide) (by decide)), if_neg (no 8 (by decide) (by decide) (by decide)), if_neg (no 9 (by decide) (by decide) (by decide)), if_neg (no 10 (by decide) (by decide) (by decide)), if_pos h]
    rfl
  · unfold wtF
    rw [if_neg (no 1 (by decide) (by decide) (by decide)), if_neg (no 2 (by decide) (by decide) (by decide)), if_neg (no 3 (by decide) (by decide) (by decide)), if_neg (no 4 (by decide) (by decide) (by decide)), if_neg (no 5 (by decide) (by decide) (by decide)), if_neg (no 6 (by decide) (by decide) (by decide)), if_neg (no 7 (by decide) (by decide) (by decide)), if_neg (no 8 (by decide) (by decide) (by decide)), if_neg (no 9 (by decide) (by decide) (by decide)), if_neg (no 10 (by decide) (by decide) (by decide)), if_neg (no 11 (by decide) (by decide) (by decide)), if_pos h]
    rfl
theorem wt_iff {f t i : Nat} (h1 : 1 ≤ i) (h2 : i ≤ 12) : wdP tb ts i f t ↔ wtF tb ts f t = cdW i := by
  refine ⟨fun h => wt_of h h1 h2, fun h => ?_⟩
  refine Classical.byContradiction (fun no => ?_)
  by_cases e : ∃ j, 1 ≤ j ∧ j ≤ 12 ∧ wdP tb ts j f t
  · obtain ⟨j, q1, q2, q3⟩ := e
    have := cd_tab i (by omega) j (by omega) h1 q1 (h.symm.trans (wt_of q3 q1 q2))
    exact no (this ▸ q3)
  · exact (cd_2 i (by omega) h1).1 (h.symm.trans (wt_none (fun j q1 q2 q3 => e ⟨j, q1, q2, q3⟩)))
theorem nt_num (h : srF (byF tb ts (fmF tb ts p)) = 1) : tkF tb ts p = 2 ∨ 1000 ≤ tkF tb ts p := by
  obtain ⟨k1, -⟩ := tk_1 h
  rw [k1]
  unfold ntF
  split
  · exact Or.inl rfl
  · rename_i e4
    obtain ⟨v, hv, ev⟩ := nu_le (tb := tb) (ts := ts) (f := fmF tb ts p) (behF tb ts 1 (fmF tb ts p) - fmF tb ts p) (by omega) (fun j hj => beh_all (ts - fmF tb ts p) (fmF tb ts p) _ (Nat.le_add_right _ _) (by unfold behF at hj; omega))
    have hv4 : v < 10000 := Nat.lt_of_lt_of_le hv (Nat.pow_le_pow_right (by decide) (by omega) : _ ≤ 10 ^ 4)
    rw [ev, show (1000 : Int32) + nI v = nI (1000 + v) from nI_add 1000 v]
    exact Or.inr ((nI_leI (a := 1000) (b := 1000 + v) (by omega) (by omega)).mpr (by omega))
/-- a token is never a letter's or a digit's byte -/
theorem tk_not {x : Int32} (h : ¬ srF x = 3) (h5 : 5 < x) (h1 : x < 1000) : ¬ tkF tb ts p = x := by
  intro e
  by_cases s1 : srF (byF tb ts (fmF tb ts p)) = 1
  · rcases nt_num s1 with q | q
    · rw [← e, q] at h5
      exact absurd h5 (by decide)
    · rw [e] at q
      exact absurd h1 (Int32.not_lt.mpr q)
  · by_cases s2 : srF (byF tb ts (fmF tb ts p)) = 2
    · have := wt_le (tb := tb) (ts := ts) (fmF tb ts p) (behF tb ts 2 (fmF tb ts p))
      rw [← (tk_2 s2).1, e] at this
      exact absurd h5 (Int32.not_lt.mpr this)
    · by_cases s3 : srF (byF tb ts (fmF tb ts p)) = 3
      · rw [(tk_3 s3).1] at e
        rw [e] at s3
        exact h s3
      · by_cases hl : fmF tb ts p < ts
        · rw [tk_4 s1 s2 s3 hl] at e
          rw [← e] at h5
          exact absurd h5 (by decide)
        · rw [tk_e hl] at e
          rw [← e] at h5
          exact absurd h5 (by decide)
theorem tk_w {m : Nat} {J : HI} (ht : TPm m ts tb J) (h : mtF (tkF tb ts p) = 119) : srF (byF tb ts (fmF tb ts p)) = 2 := by
  refine Classical.byContradiction (fun s2 => ?_)
  by_cases s1 : srF (byF tb ts (fmF tb ts p)) = 1
  · rcases nt_num s1 with q | q
    · rw [q] at h
      exact absurd h (by decide)
    · unfold mtF at h
      rw [if_pos q] at h
      exact absurd h (by decide)
  · by_cases s3 : srF (byF tb ts (fmF tb ts p)) = 3
    · have hl := by_lt (tb := tb) (ts := ts) (p := fmF tb ts p) (by rw [s3]; decide)
      have h5 := (sr_by ht hl).2.2.2.2 s3
      rw [(tk_3 s3).1, by_in hl, h5.2.1] at h
      rw [by_in hl, h] at s3
      exact absurd s3 (by decide)
    · by_cases hl : fmF tb ts p < ts
      · rw [tk_4 s1 s2 s3 hl] at h
        exact absurd h (by decide)
      · rw [tk_e hl] at h
        exact absurd h (by decide)
theorem mt_sg {t s : Int32} (hs : s = 40 ∨ s = 41 ∨ s = 42 ∨ s = 43 ∨ s = 45 ∨ s = 59 ∨ s = 60 ∨ s = 61) : mtF t = s ↔ t = s := by
  constructor
  · intro h
    unfold mtF at h
    split at h
    · rcases hs with rfl | rfl | rfl | rfl | rfl | rfl | rfl | rfl <;> exact absurd h (by decide)
    · split at h
      · rcases hs with rfl | rfl | rfl | rfl | rfl | rfl | rfl | rfl <;> exact absurd h (by decide)
      · split at h
        · rcases hs with rfl | rfl | rfl | rfl | rfl | rfl | rfl | rfl <;> exact absurd h (by decide)
        · split at h
          · rcases hs with rfl | rfl | rfl | rfl | rfl | rfl | rfl | rfl <;> exact absurd h (by decide)
          · exact h
  · rintro rfl
    rcases hs with rfl | rfl | rfl | rfl | rfl | rfl | rfl | rfl <;> decide
theorem mt_48 : mtF (tkF tb ts p) = 48 ↔ 1000 ≤ tkF tb ts p := by
  constructor
  · intro h
    unfold mtF at h
    split at h
    · assumption
    · split at h
      · exact absurd h (by decide)
      · split at h
        · exact absurd h (by decide)
        · split at h
          · exact absurd h (by decide)
          · exact absurd h (tk_not (by decide) (by decide) (by decide))
  · intro h
    unfold mtF
    rw [if_pos h]
theorem mt_101 : mtF (tkF tb ts p) = 101 ↔ tkF tb ts p = 1 := by
  constructor
  · intro h
    unfold mtF at h
    split at h
    · exact absurd h (by decide)
    · split at h
      · exact absurd h (by decide)
      · split at h
        · exact absurd h (by decide)
        · split at h
          · assumption
          · exact absurd h (tk_not (by decide) (by decide) (by decide))
  · intro h
    rw [h]
    decide
theorem mt_119 : mtF (tkF tb ts p) = 119 ↔ ¬ 1000 ≤ tkF tb ts p ∧ (tkF tb ts p ≤ -1 ∨ tkF tb ts p = 3 ∨ tkF tb ts p = 4 ∨ tkF tb ts p = 5) := by
  constructor
  · intro h
    unfold mtF at h
    split at h
    · exact absurd h (by decide)
    · rename_i q
      split at h
      · rename_i q2
        exact ⟨q, q2⟩
      · split at h
        · exact absurd h (by decide)
        · split at h
          · exact absurd h (by decide)
          · exact absurd h (tk_not (by decide) (by decide) (by decide))
  · rintro ⟨h1, h2⟩
    unfold mtF
    rw [if_neg h1, if_pos h2]
theorem end_119 (h : mtF (tkF tb ts p) = 119) : ¬ endT (tkF tb ts p) := fun z => by
  rcases z with z | z <;> rw [z] at h <;> exact absurd h (by decide)
end
/-- the codes so far -/
def CdS (m c0 : Nat) (C : List Int32) (J : HI) : Prop := J m 15 = nI (c0 + C.length) ∧ c0 ≤ 800 ∧ C.length ≤ 160 ∧ ∀ j (x : Int32), C[j]? = some x → J (m + 9) (c0 + j) = mcF x
def GM (tb : Nat → Int32) (ts m c0 p o : Nat) (C : List Int32) (J : HI) : Prop := TPm m ts tb J ∧ TOK tb ts m p J ∧ J m 21 = nI o ∧ CdS m c0 C J ∧ p ≤ ts
def frP (m c0 : Nat) (I J : HI) : Prop := ∀ a k, ¬ (a = m ∧ 15 ≤ k ∧ k ≤ 21) → ¬ (a = m + 9 ∧ c0 ≤ k) → J a k = I a k
theorem frP.rf {m c0 : Nat} {I : HI} : frP m c0 I I := fun _ _ _ _ => rfl
theorem frP.tr {m c0 : Nat} {I J J2 : HI} (h : frP m c0 I J) (h2 : frP m c0 J J2) : frP m c0 I J2 := fun a k q1 q2 => (h2 a k q1 q2).trans (h a k q1 q2)
theorem frX.fp {m c0 : Nat} {I J : HI} (h : frX m I J) : frP m c0 I J := fun a k q1 q2 => h a k (by omega)
theorem TPm.fp {m c0 ts : Nat} {tb : Nat → Int32} {I J : HI} (h : TPm m ts tb I) (e : frP m c0 I J) : TPm m ts tb J :=
  ⟨(e _ _ (by omega) (by omega)).trans h.1, h.2.1, fun j hj => (e _ _ (by omega) (by omega)).trans (h.2.2.1 j hj), h.2.2.2⟩
section
variable {tb : Nat → Int32} {ts m c0 p o : Nat} {C : List Int32} {J J2 : HI}
theorem GM.nxt (h : GM tb ts m c0 p o C J) (hn : ¬ endT (tkF tb ts p)) (e : frX m J J2) (t : TOK tb ts m (nxF tb ts p) J2) : GM tb ts m c0 (nxF tb ts p) o C J2 := by
  obtain ⟨h1, h2, h3, ⟨h4, h5, h6, h7⟩, h8⟩ := h
  exact ⟨h1.fx e, t, (e _ _ (by omega)).trans h3, ⟨(e _ _ (by omega)).trans h4, h5, h6, fun j x q => (e _ _ (by omega)).trans (h7 j x q)⟩, (nx_le h8).2⟩
theorem GM.opn {o' : Nat} (h : GM tb ts m c0 p o C J) (e : J2 = u2 J m 21 (nI o')) : GM tb ts m c0 p o' C J2 ∧ frP m c0 J J2 := by
  obtain ⟨h1, ⟨t1, t2, t3, t4⟩, h3, ⟨h4, h5, h6, h7⟩, h8⟩ := h
  have f : frP m c0 J J2 := fun a k q1 q2 => by rw [e, u2_ne (by omega)]
  refine ⟨⟨h1.fp f, ⟨?_, ?_, fun z => ?_, fun z => ?_⟩, ?_, ⟨?_, h5, h6, fun j x q => ?_⟩, h8⟩, f⟩
  · rw [e, u2_ne (by omega)]; exact t1
  · rw [e, u2_ne (by omega)]; exact t2
  · rw [e, u2_ne (by omega)]; exact t3 z
  · rw [e, u2_ne (by omega)]; exact t4 z
  · rw [e, u2_same]
  · rw [e, u2_ne (by omega)]; exact h4
  · rw [e, u2_ne (by omega)]; exact h7 j x q
theorem GM.cod {c x : Int32} (h : GM tb ts m c0 p o C J) (hl : C.length + 1 ≤ 160) (hx : x = mcF c) (e : J2 = u2 (u2 J m 15 (nI (c0 + C.length + 1))) (m + 9) (c0 + C.length) x) : GM tb ts m c0 p o (C ++ [c]) J2 ∧ frP m c0 J J2 := by
  obtain ⟨h1, ⟨t1, t2, t3, t4⟩, h3, ⟨h4, h5, h6, h7⟩, h8⟩ := h
  have f : frP m c0 J J2 := fun a k q1 q2 => by rw [e, u2_ne (by omega), u2_ne (by omega)]
  have hle : (C ++ [c]).length = C.length + 1 := by simp
  refine ⟨⟨h1.fp f, ⟨?_, ?_, fun z => ?_, fun z => ?_⟩, ?_, ⟨?_, h5, by omega, fun j x q => ?_⟩, h8⟩, f⟩
  · rw [e, u2_ne (by omega), u2_ne (by omega)]; exact t1
  · rw [e, u2_ne (by omega), u2_ne (by omega)]; exact t2
  · rw [e, u2_ne (by omega), u2_ne (by omega)]; exact t3 z
  · rw [e, u2_ne (by omega), u2_ne (by omega)]; exact t4 z
  · rw [e, u2_ne (by omega), u2_ne (by omega)]; exact h3
  · rw [e, u2_ne (by omega), u2_same, hle]
    rfl
  · rw [e]
    by_cases ej : j = C.length
    · subst ej
      rw [u2_same, hx]
      simp at q
      rw [q]
    · have hj : j < (C ++ [c]).length := (List.getElem?_eq_some_iff.mp q).1
      rw [u2_ne (by omega), u2_ne (by omega)]
      rw [List.getElem?_append_left (by omega)] at q
      exact h7 j x q
end

set_option maxHeartbeats 4000000 in
set_option maxRecDepth 100000 in
theorem k_mcodes {G : GG} {Sh : HS} {J : HI} {R : HR} {m : Nat} (hsh : MSh Sh m) (hrf : MRf R m) {n : Nat} (hn : J m 15 = nI n) (hn9 : n < 3000) {x : Int32} : AM G 1 0 0 yX8_codes cX8_codes 2 (some .boolean) [.ref m, .int x] (Sh, J, R) (qi fun r g => r = 1 ∧ ∃ J2 : HI, g = (Sh, J2, R) ∧ J2 = u2 (u2 J m 15 (nI (n + 1))) (m + 9) n x) := by
  obtain ⟨z0, z1, z6, z7, z8, z9, z10, z11, z12, z13, z14, z15, z16, z17⟩ := id hsh
  obtain ⟨y1, y6, y7, y8, y9, y10, y11, y12, y13, y14, y15, y16, y17⟩ := id hrf
  refine am_intro (by decide) (Nat.le_of_ble_eq_true rfl) ?_
  refine x_aload_n dX8_codes_0 0 rfl rfl ?_
  refine x_gR (b := m + 9) dX8_codes_1 fl_8_34 rfl z0 y9 ?_
  refine x_aload_n dX8_codes_4 0 rfl rfl ?_
  refine x_dup dX8_codes_5 rfl ?_
  refine x_gI (v := nI n) dX8_codes_6 fl_8_179 rfl z0 hn ?_
  refine x_dup_x1 dX8_codes_9 rfl rfl ?_
  refine x_iconst (v := nI 1) dX8_codes_10 (by decide) ?_
  refine x_iadd dX8_codes_11 ?_
  refine x_vali (nI_add n 1) ?_
  refine x_pI dX8_codes_12 fl_8_179 rfl rfl rfl z0 (fun Iq1 e_Iq1 => ?_)
  refine x_iload_n dX8_codes_15 1 rfl rfl ?_
  refine x_is (j := n) dX8_codes_16 z9 rfl (by omega) (by omega) (fun Iq2 e_Iq2 => ?_)
  refine x_iconst (v := 1) dX8_codes_17 (by decide) ?_
  refine x_zret dX8_codes_18 rfl rfl (Nat.le_refl _) (Nat.le_refl _) ?_
  exact ⟨rfl, _, rfl, by rw [e_Iq2, e_Iq1]⟩

set_option maxHeartbeats 4000000 in
set_option maxRecDepth 100000 in
theorem k_mfails {G : GG} {Sh : HS} {J : HI} {R : HR} {m : Nat} (hsh : MSh Sh m) (hrf : MRf R m) : AM G 1 0 0 yX8_fails cX8_fails 1 (some .boolean) [.ref m] (Sh, J, R) (qi fun r g => r = 0 ∧ ∃ J2 : HI, g = (Sh, J2, R) ∧ J2 = u2 J m 20 (J m 16)) := by
  obtain ⟨z0, z1, z6, z7, z8, z9, z10, z11, z12, z13, z14, z15, z16, z17⟩ := id hsh
  obtain ⟨y1, y6, y7, y8, y9, y10, y11, y12, y13, y14, y15, y16, y17⟩ := id hrf
  refine am_intro (by decide) (Nat.le_of_ble_eq_true rfl) ?_
  refine x_aload_n dX8_fails_0 0 rfl rfl ?_
  refine x_aload_n dX8_fails_1 0 rfl rfl ?_
  refine x_gI (v := J m 16) dX8_fails_2 fl_8_123 rfl z0 rfl ?_
  refine x_pI dX8_fails_5 fl_8_169 rfl rfl rfl z0 (fun Iq1 e_Iq1 => ?_)
  refine x_iconst (v := 0) dX8_fails_8 (by decide) ?_
  refine x_zret dX8_fails_9 rfl rfl (Nat.le_refl _) (Nat.le_refl _) ?_
  exact ⟨rfl, _, rfl, e_Iq1⟩

set_option maxHeartbeats 4000000 in
set_option maxRecDepth 100000 in
theorem k_misWord0 {G : GG} {Sh : HS} {J : HI} {R : HR} {m : Nat} (hsh : MSh Sh m) (hrf : MRf R m) {i : Nat} (hk : ¬ J m 18 = 119) {P : Prop} (hP : ¬ P) : AM G 5 0 0 yX8_isWord cX8_isWord 3 (some .boolean) [.ref m, .ref (gK G i)] (Sh, J, R) (qi fun r g => r = bI P ∧ g = (Sh, J, R)) := by
  obtain ⟨z0, z1, z6, z7, z8, z9, z10, z11, z12, z13, z14, z15, z16, z17⟩ := id hsh
  obtain ⟨y1, y6, y7, y8, y9, y10, y11, y12, y13, y14, y15, y16, y17⟩ := id hrf
  refine am_intro (by decide) (Nat.le_of_ble_eq_true rfl) ?_
  refine x_aload_n dX8_isWord_0 0 rfl rfl ?_
  refine x_gI (v := J m 18) dX8_isWord_1 fl_8_117 rfl z0 rfl ?_
  refine x_bipush (v := 119) dX8_isWord_4 (by decide) ?_
  refine x_icmp_ne (tgt := 25) dX8_isWord_6 (by decide) (fun c_6 => ?_) (fun c_6 => False.elim (hk c_6))
  refine x_iconst (v := 0) dX8_isWord_25 (by decide) ?_
  refine x_zret dX8_isWord_26 rfl rfl (Nat.le_refl _) (Nat.le_refl _) ?_
  exact ⟨(bI_f hP).symm, rfl⟩

theorem k_pword {G : GG} {Sh : HS} {J : HI} {R : HR} {m : Nat} (hsh : MSh Sh m) (hrf : MRf R m) {tb : Nat → Int32} {ts c0 p o i : Nat} {C : List Int32} (hg : GM tb ts m c0 p o C J) (h1 : 1 ≤ i) (h2 : i ≤ 12) : AM G 5 0 0 yX8_isWord cX8_isWord 3 (some .boolean) [.ref m, .ref (gK G i)] (Sh, J, R) (qi fun r g => r = bI (tkF tb ts p = cdW i) ∧ g = (Sh, J, R)) := by
  obtain ⟨g1, ⟨t1, t2, t3, t4⟩, g3, g4, g5⟩ := id hg
  by_cases h : J m 18 = 119
  · have hw := t2.symm.trans h
    have s2 := tk_w g1 hw
    obtain ⟨k1, k2⟩ := tk_2 s2
    have e : (tkF tb ts p = cdW i) = (J m 18 = 119 ∧ wdP tb ts i (fmF tb ts p) (nxF tb ts p)) := by
      refine propext ⟨fun q => ⟨h, ?_⟩, fun q => ?_⟩
      · rw [k2]
        rw [k1] at q
        exact (wt_iff h1 h2).mpr q
      · have z := q.2
        rw [k2] at z
        rw [k1]
        exact wt_of z h1 h2
    rw [e]
    have hf := beh_le (tb := tb) (s := 0) g5
    have hb := beh_le (tb := tb) (s := 2) (show fmF tb ts p ≤ ts from hf.2)
    exact k_misWord hsh hrf g1 (by omega) t1 (t3 (end_119 hw)) (by rw [k2]; exact hb.1) (by rw [k2]; exact hb.2)
  · refine k_misWord0 hsh hrf h (fun q => h ?_)
    rw [t2, q]
    exact (cd_2 i (by omega) h1).2

theorem nm_tk {tb : Nat → Int32} {ts m p : Nat} {J : HI} {r : Int32} (ht : TPm m ts tb J) (h : mtF (tkF tb ts p) = 119) (hr : nmF tb ts (fmF tb ts p) (nxF tb ts p) r 0) : (tkF tb ts p ≤ -1 ∧ -6 ≤ tkF tb ts p ∧ r = mcF (tkF tb ts p) ∧ ¬ r = -1) ∨ (¬ (tkF tb ts p ≤ -1 ∧ -6 ≤ tkF tb ts p) ∧ r = -1) := by
  obtain ⟨k1, k2⟩ := tk_2 (tk_w ht h)
  rcases hr with ⟨j, h1, h2, rfl, h4⟩ | ⟨rfl, h4⟩
  · rw [k2] at h4
    have e := wt_of h4 (by omega) (by omega)
    rw [← k1] at e
    rw [e]
    have : j = 0 ∨ j = 1 ∨ j = 2 ∨ j = 3 ∨ j = 4 ∨ j = 5 := by omega
    rcases this with rfl | rfl | rfl | rfl | rfl | rfl <;> exact Or.inl (by decide)
  · refine Or.inr ⟨fun q => ?_, rfl⟩
    have hc : ∃ j, j ≤ 5 ∧ tkF tb ts p = cdW (7 + j) := by
      have hx : ∀ k : Int, -7 < k → k < 0 → (tkF tb ts p).toInt = k → tkF tb ts p = Int32.ofInt k := fun k _ _ e => by rw [← e]; exact (Int32.ofInt_toInt _).symm
      have q1 := q.1
      have q2 := q.2
      rw [Int32.le_iff_toInt_le] at q1 q2
      have e1 : (-1 : Int32).toInt = -1 := by decide
      have e6 : (-6 : Int32).toInt = -6 := by decide
      have hd : (tkF tb ts p).toInt = -1 ∨ (tkF tb ts p).toInt = -2 ∨ (tkF tb ts p).toInt = -3 ∨ (tkF tb ts p).toInt = -4 ∨ (tkF tb ts p).toInt = -5 ∨ (tkF tb ts p).toInt = -6 := by omega
      rcases hd with e | e | e | e | e | e
      · exact ⟨0, by omega, by rw [hx _ (by decide) (by decide) e]; decide⟩
      · exact ⟨1, by omega, by rw [hx _ (by decide) (by decide) e]; decide⟩
      · exact ⟨2, by omega, by rw [hx _ (by decide) (by decide) e]; decide⟩
      · exact ⟨3, by omega, by rw [hx _ (by decide) (by decide) e]; decide⟩
      · exact ⟨4, by omega, by rw [hx _ (by decide) (by decide) e]; decide⟩
      · exact ⟨5, by omega, by rw [hx _ (by decide) (by decide) e]; decide⟩
    obtain ⟨j, hj, e⟩ := hc
    refine h4 j (by omega) hj ?_
    rw [k2]
    rw [k1] at e
    exact (wt_iff (by omega) (by omega)).mpr e

set_option maxHeartbeats 4000000 in
set_option maxRecDepth 100000 in
theorem k_takesA {G : GG} {Sh : HS} {J : HI} {R : HR} {m : Nat} (hsh : MSh Sh m) (hrf : MRf R m) {tb : Nat → Int32} {ts c0 p o : Nat} {C : List Int32} (hg : GM tb ts m c0 p o C J) {w : Int32} (h : mtF (tkF tb ts p) = w) (hnt : ¬ endT (tkF tb ts p)) : AM G 8 0 0 yX8_takes cX8_takes 2 (some .boolean) [.ref m, .int w] (Sh, J, R) (qi fun r g => r = 1 ∧ ∃ J2 : HI, g = (Sh, J2, R) ∧ frX m J J2 ∧ GM tb ts m c0 (nxF tb ts p) o C J2) := by
  obtain ⟨z0, z1, z6, z7, z8, z9, z10, z11, z12, z13, z14, z15, z16, z17⟩ := id hsh
  obtain ⟨y1, y6, y7, y8, y9, y10, y11, y12, y13, y14, y15, y16, y17⟩ := id hrf
  refine am_intro (by decide) (Nat.le_of_ble_eq_true rfl) ?_
  refine x_aload_n dX8_takes_0 0 rfl rfl ?_
  refine x_gI (v := mtF (tkF tb ts p)) dX8_takes_1 fl_8_117 rfl z0 hg.2.1.2.1 ?_
  refine x_iload_n dX8_takes_4 1 rfl rfl ?_
  refine x_icmp_eq (tgt := 13) dX8_takes_5 (by decide) (fun c_5 => ?_) (fun c_5 => False.elim (c_5 h))
  refine x_aload_n dX8_takes_13 0 rfl rfl ?_
  refine x_callV (k_next (G := G) (I := J) hsh hrf hg.1 (p := nxF tb ts p) (nx_le hg.2.2.2.2).2 (hg.2.1.2.2.1 hnt)) dX8_takes_14 crc_X8_next vc_8_176 z0 rfl rfl rfl rfl (Nat.le_of_ble_eq_true rfl) (roomy_k (by omega) (by decide)) (Nat.le_refl _) (Nat.le_refl _) ?_
  rintro _ _ ⟨rfl, J2, rfl, hfx, htok⟩
  have hg2 := hg.nxt hnt hfx htok
  refine x_iconst (v := 1) dX8_takes_17 (by decide) ?_
  refine x_zret dX8_takes_18 rfl rfl (Nat.le_refl _) (Nat.le_refl _) ?_
  exact ⟨rfl, J2, rfl, hfx, hg2⟩

set_option maxHeartbeats 4000000 in
set_option maxRecDepth 100000 in
theorem k_takesB {G : GG} {Sh : HS} {J : HI} {R : HR} {m : Nat} (hsh : MSh Sh m) (hrf : MRf R m) {tb : Nat → Int32} {ts c0 p o : Nat} {C : List Int32} (hg : GM tb ts m c0 p o C J) {w : Int32} (h : ¬ mtF (tkF tb ts p) = w) : AM G 8 0 0 yX8_takes cX8_takes 2 (some .boolean) [.ref m, .int w] (Sh, J, R) (qi fun r g => r = 0 ∧ ∃ J2 : HI, g = (Sh, J2, R) ∧ J2 = u2 J m 20 (J m 16)) := by
  obtain ⟨z0, z1, z6, z7, z8, z9, z10, z11, z12, z13, z14, z15, z16, z17⟩ := id hsh
  obtain ⟨y1, y6, y7, y8, y9, y10, y11, y12, y13, y14, y15, y16, y17⟩ := id hrf
  refine am_intro (by decide) (Nat.le_of_ble_eq_true rfl) ?_
  refine x_aload_n dX8_takes_0 0 rfl rfl ?_
  refine x_gI (v := mtF (tkF tb ts p)) dX8_takes_1 fl_8_117 rfl z0 hg.2.1.2.1 ?_
  refine x_iload_n dX8_takes_4 1 rfl rfl ?_
  refine x_icmp_eq (tgt := 13) dX8_takes_5 (by decide) (fun c_5 => False.elim (h c_5)) (fun c_5 => ?_)
  refine x_aload_n dX8_takes_8 0 rfl rfl ?_
  refine x_callV (k_mfails (G := G) (J := J) hsh hrf) dX8_takes_9 crc_X8_fails vc_8_172 z0 rfl rfl rfl rfl (Nat.le_of_ble_eq_true rfl) (roomy_k (by omega) (by decide)) (Nat.le_refl _) (Nat.le_refl _) ?_
  rintro _ _ ⟨_, rfl, rfl, J2, rfl, hJ2⟩
  refine x_zret dX8_takes_12 rfl rfl (Nat.le_refl _) (Nat.le_refl _) ?_
  exact ⟨rfl, J2, rfl, hJ2⟩

set_option maxHeartbeats 4000000 in
set_option maxRecDepth 100000 in
theorem k_takesWA {G : GG} {Sh : HS} {J : HI} {R : HR} {m : Nat} (hsh : MSh Sh m) (hrf : MRf R m) {tb : Nat → Int32} {ts c0 p o : Nat} {C : List Int32} (hg : GM tb ts m c0 p o C J) {i : Nat} (h1 : 1 ≤ i) (h2 : i ≤ 12) (h : tkF tb ts p = cdW i) (hnt : ¬ endT (tkF tb ts p)) : AM G 8 0 0 yX8_takes_ cX8_takes_ 2 (some .boolean) [.ref m, .ref (gK G i)] (Sh, J, R) (qi fun r g => r = 1 ∧ ∃ J2 : HI, g = (Sh, J2, R) ∧ frX m J J2 ∧ GM tb ts m c0 (nxF tb ts p) o C J2) := by
  obtain ⟨z0, z1, z6, z7, z8, z9, z10, z11, z12, z13, z14, z15, z16, z17⟩ := id hsh
  obtain ⟨y1, y6, y7, y8, y9, y10, y11, y12, y13, y14, y15, y16, y17⟩ := id hrf
  refine am_intro (by decide) (Nat.le_of_ble_eq_true rfl) ?_
  refine x_aload_n dX8_takes__0 0 rfl rfl ?_
  refine x_aload_n dX8_takes__1 1 rfl rfl ?_
  refine x_callV (k_pword (G := G) hsh hrf hg h1 h2) dX8_takes__2 crc_X8_isWord vc_8_136 z0 rfl rfl rfl rfl (Nat.le_of_ble_eq_true rfl) (roomy_k (by omega) (by decide)) (Nat.le_refl _) (Nat.le_refl _) ?_
  rintro _ _ ⟨_, rfl, rfl, rfl⟩
  refine x_if_neB (tgt := 13) dX8_takes__5 (by decide) (fun c_5 => ?_) (fun c_5 => False.elim (c_5 h))
  refine x_aload_n dX8_takes__13 0 rfl rfl ?_
  refine x_callV (k_next (G := G) (I := J) hsh hrf hg.1 (p := nxF tb ts p) (nx_le hg.2.2.2.2).2 (hg.2.1.2.2.1 hnt)) dX8_takes__14 crc_X8_next vc_8_176 z0 rfl rfl rfl rfl (Nat.le_of_ble_eq_true rfl) (roomy_k (by omega) (by decide)) (Nat.le_refl _) (Nat.le_refl _) ?_
  rintro _ _ ⟨rfl, J2, rfl, hfx, htok⟩
  have hg2 := hg.nxt hnt hfx htok
  refine x_iconst (v := 1) dX8_takes__17 (by decide) ?_
  refine x_zret dX8_takes__18 rfl rfl (Nat.le_refl _) (Nat.le_refl _) ?_
  exact ⟨rfl, J2, rfl, hfx, hg2⟩

set_option maxHeartbeats 4000000 in
set_option maxRecDepth 100000 in
theorem k_takesWB {G : GG} {Sh : HS} {J : HI} {R : HR} {m : Nat} (hsh : MSh Sh m) (hrf : MRf R m) {tb : Nat → Int32} {ts c0 p o : Nat} {C : List Int32} (hg : GM tb ts m c0 p o C J) {i : Nat} (h1 : 1 ≤ i) (h2 : i ≤ 12) (h : ¬ tkF tb ts p = cdW i) : AM G 8 0 0 yX8_takes_ cX8_takes_ 2 (some .boolean) [.ref m, .ref (gK G i)] (Sh, J, R) (qi fun r g => r = 0 ∧ ∃ J2 : HI, g = (Sh, J2, R) ∧ J2 = u2 J m 20 (J m 16)) := by
  obtain ⟨z0, z1, z6, z7, z8, z9, z10, z11, z12, z13, z14, z15, z16, z17⟩ := id hsh
  obtain ⟨y1, y6, y7, y8, y9, y10, y11, y12, y13, y14, y15, y16, y17⟩ := id hrf
  refine am_intro (by decide) (Nat.le_of_ble_eq_true rfl) ?_
  refine x_aload_n dX8_takes__0 0 rfl rfl ?_
  refine x_aload_n dX8_takes__1 1 rfl rfl ?_
  refine x_callV (k_pword (G := G) hsh hrf hg h1 h2) dX8_takes__2 crc_X8_isWord vc_8_136 z0 rfl rfl rfl rfl (Nat.le_of_ble_eq_true rfl) (roomy_k (by omega) (by decide)) (Nat.le_refl _) (Nat.le_refl _) ?_
  rintro _ _ ⟨_, rfl, rfl, rfl⟩
  refine x_if_neB (tgt := 13) dX8_takes__5 (by decide) (fun c_5 => False.elim (h c_5)) (fun c_5 => ?_)
  refine x_aload_n dX8_takes__8 0 rfl rfl ?_
  refine x_callV (k_mfails (G := G) (J := J) hsh hrf) dX8_takes__9 crc_X8_fails vc_8_172 z0 rfl rfl rfl rfl (Nat.le_of_ble_eq_true rfl) (roomy_k (by omega) (by decide)) (Nat.le_refl _) (Nat.le_refl _) ?_
  rintro _ _ ⟨_, rfl, rfl, J2, rfl, hJ2⟩
  refine x_zret dX8_takes__12 rfl rfl (Nat.le_refl _) (Nat.le_refl _) ?_
  exact ⟨rfl, J2, rfl, hJ2⟩

