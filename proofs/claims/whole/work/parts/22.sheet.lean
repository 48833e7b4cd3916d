/-- an item of a sheet -/
def itF (f : Nat → Int32) (sz : Nat) (i : Int32) : Int32 := if ¬ i < 0 ∧ i < nI sz then f i.toNatClampNeg else 0
/-- what a sheet of a sort keeps of a number -/
def cutF (so v : Int32) : Int32 := if so = 0 then v.toInt8.toInt32 else if so = 1 then v.toInt16.toInt32 else v
theorem itF_in {f : Nat → Int32} {sz j : Nat} (hj : j < sz) (hs : sz ≤ 40) : itF f sz (nI j) = f j := by
  unfold itF
  rw [if_pos ⟨nI_pos (by omega), (nI_ltI (by omega) (by omega)).mpr hj⟩, nI_clamp (by omega)]

set_option maxHeartbeats 4000000 in
set_option maxRecDepth 100000 in
theorem k_become_l {G : GG} {Sh : HS} {I : HI} {R : HR} {A : Nat} (hA : Sh.2 A = (3, 3) ∧ Sh.2 (A + 1) = (9, 40)) (hRA : R A 0 = some (A + 1)) {Q : AH → Prop} {so nn : Int32} (hQ : ∀ J : HI, (∀ j, j < 40 → J (A + 1) j = 0) → (∀ a k, a ≠ A + 1 → J a k = I a k) → Q (Sh, J, R)) : ∀ (m : Nat) (i : Nat) (J : HI), (i ≤ 40) → (40 < i + m) → (∀ j, j < i → J (A + 1) j = 0) → (∀ a k, a ≠ A + 1 → J a k = I a k) → X G (kM G 2 0 0 (qv Q)) yX3_become cX3_become 4 none 0 0 21 [(3, .int (nI i)), (0, .ref A), (1, .int so), (2, .int nn)] [] (Sh, J, R) := by
  intro m
  induction m with
  | zero =>
    intro i J hi hm hd hfr
    exact absurd hm (by omega)
  | succ m ih =>
    intro i J hi hm hd hfr
    refine x_iload_n dX3_become_21 0 rfl rfl ?_
    refine x_bipush (v := 40) dX3_become_22 (by decide) ?_
    refine x_icmp_ge (tgt := 40) dX3_become_24 (by decide) (fun c_24 => ?_) (fun c_24 => ?_)
    · have c_24 : 40 ≤ i := (nI_leI (a := 40) (b := i) (by omega) (by omega)).mp c_24
      refine x_vret dX3_become_40 rfl (Nat.le_refl _) (Nat.le_refl _) ?_
      exact hQ J (fun j hj => hd j (by omega)) hfr
    · have c_24 : ¬ 40 ≤ i := fun q => c_24 ((nI_leI (a := 40) (b := i) (by omega) (by omega)).mpr q)
      refine x_aload_n dX3_become_27 1 rfl rfl ?_
      refine x_gR (b := A + 1) dX3_become_28 fl_3_9 rfl hA.1 hRA ?_
      refine x_iload_n dX3_become_31 0 rfl rfl ?_
      refine x_iconst (v := 0) dX3_become_32 (by decide) ?_
      refine x_is (j := i) dX3_become_33 hA.2 rfl (by omega) (by omega) (fun Iq1 e_Iq1 => ?_)
      refine x_iinc (v := nI (i + 1)) (lv' := [(3, .int (nI (i + 1))), (0, .ref A), (1, .int so), (2, .int nn)]) dX3_become_34 0 rfl (nI_1 i) (by decide) rfl ?_
      refine x_goto (tgt := 21) dX3_become_37 (by decide) ?_
      refine x_sub [0, 1, 2, 3] rfl ?_
      exact ih (i + 1) Iq1 (by omega) (by omega) (fun j hj => by
        rw [e_Iq1]
        by_cases e : j = i
        · subst e
          exact u2_same
        · rw [u2_ne (by omega)]
          exact hd j (by omega)) (fun a k q => by rw [e_Iq1, u2_ne (by omega)]; exact hfr a k q)

set_option maxHeartbeats 4000000 in
set_option maxRecDepth 100000 in
theorem k_become_l' {G : GG} {Sh : HS} {I : HI} {R : HR} {A : Nat} (hA : Sh.2 A = (3, 3) ∧ Sh.2 (A + 1) = (9, 40)) (hRA : R A 0 = some (A + 1)) {Q : AH → Prop} {so nn : Int32} (hQ : ∀ J : HI, (∀ j, j < 40 → J (A + 1) j = 0) → (∀ a k, a ≠ A + 1 → J a k = I a k) → Q (Sh, J, R)) : X G (kM G 2 0 0 (qv Q)) yX3_become cX3_become 4 none 0 0 21 [(3, .int (nI 0)), (0, .ref A), (1, .int so), (2, .int nn)] [] (Sh, I, R) := k_become_l hA hRA hQ 41 0 I (by omega) (by omega) (fun j hj => absurd hj (by omega)) (fun _ _ _ => rfl)
set_option maxHeartbeats 4000000 in
set_option maxRecDepth 100000 in
theorem k_become {G : GG} {Sh : HS} {I : HI} {R : HR} {A : Nat} (hA : Sh.2 A = (3, 3) ∧ Sh.2 (A + 1) = (9, 40)) (hRA : R A 0 = some (A + 1)) {so nn : Int32} : AM G 2 0 0 yX3_become cX3_become 4 none [.ref A, .int so, .int nn] (Sh, I, R) (qv fun g => ∃ J : HI, g = (Sh, J, R) ∧ J A 1 = so ∧ J A 2 = mxI 0 (mnI 40 nn) ∧ (∀ j, j < 40 → J (A + 1) j = 0) ∧ ∀ a k, ¬ (a = A ∧ (k = 1 ∨ k = 2)) → a ≠ A + 1 → J a k = I a k) := by
  refine am_intro (by decide) (Nat.le_of_ble_eq_true rfl) ?_
  refine x_aload_n dX3_become_0 0 rfl rfl ?_
  refine x_iload_n dX3_become_1 1 rfl rfl ?_
  refine x_pI dX3_become_2 fl_3_15 rfl rfl rfl hA.1 (fun Iq1 e_Iq1 => ?_)
  refine x_aload_n dX3_become_5 0 rfl rfl ?_
  refine x_iconst (v := 0) dX3_become_6 (by decide) ?_
  refine x_bipush (v := 40) dX3_become_7 (by decide) ?_
  refine x_iload_n dX3_become_9 2 rfl rfl ?_
  refine x_mmin dX3_become_10 sc_3_19 (Nat.le_of_ble_eq_true rfl) (roomy_k (by omega) (by decide)) (Nat.le_refl _) (Nat.le_refl _) ?_
  refine x_mmax dX3_become_13 sc_3_25 (Nat.le_of_ble_eq_true rfl) (roomy_k (by omega) (by decide)) (Nat.le_refl _) (Nat.le_refl _) ?_
  refine x_pI dX3_become_16 fl_3_28 rfl rfl rfl hA.1 (fun Iq2 e_Iq2 => ?_)
  refine x_iconst (v := 0) dX3_become_19 (by decide) ?_
  refine x_istore_n (lv' := [(3, .int 0), (0, .ref A), (1, .int so), (2, .int nn)]) dX3_become_20 rfl (by decide) rfl ?_
  refine k_become_l' hA hRA (fun J h1 h2 => ⟨J, rfl, ?_, ?_, h1, fun a k q1 q2 => ?_⟩)
  · rw [h2 _ _ (by omega), e_Iq2, u2_ne (by omega), e_Iq1, u2_same]
  · rw [h2 _ _ (by omega), e_Iq2, u2_same]
  · rw [h2 _ _ q2, e_Iq2, u2_ne (by omega), e_Iq1, u2_ne (by omega)]

set_option maxHeartbeats 4000000 in
set_option maxRecDepth 100000 in
theorem k_isMissing {G : GG} {Sh : HS} {I : HI} {R : HR} {A : Nat} (hA : Sh.2 A = (3, 3) ∧ Sh.2 (A + 1) = (9, 40)) (hRA : R A 0 = some (A + 1)) : AM G 1 0 0 yX3_isMissing cX3_isMissing 1 (some .boolean) [.ref A] (Sh, I, R) (qi fun r g => r = bI (I A 1 = -1) ∧ g = (Sh, I, R)) := by
  refine am_intro (by decide) (Nat.le_of_ble_eq_true rfl) ?_
  refine x_aload_n dX3_isMissing_0 0 rfl rfl ?_
  refine x_gI (v := I A 1) dX3_isMissing_1 fl_3_15 rfl hA.1 rfl ?_
  refine x_iconst (v := (-1)) dX3_isMissing_4 (by decide) ?_
  refine x_icmp_ne (tgt := 12) dX3_isMissing_5 (by decide) (fun c_5 => ?_) (fun c_5 => ?_)
  · refine x_iconst (v := 0) dX3_isMissing_12 (by decide) ?_
    refine x_zret dX3_isMissing_13 rfl rfl (Nat.le_refl _) (Nat.le_refl _) ?_
    exact ⟨(bI_f c_5).symm, rfl⟩
  · refine x_iconst (v := 1) dX3_isMissing_8 (by decide) ?_
    refine x_goto (tgt := 13) dX3_isMissing_9 (by decide) ?_
    refine x_zret dX3_isMissing_13 rfl rfl (Nat.le_refl _) (Nat.le_refl _) ?_
    exact ⟨(bI_t c_5).symm, rfl⟩

set_option maxHeartbeats 4000000 in
set_option maxRecDepth 100000 in
theorem k_spans {G : GG} {Sh : HS} {I : HI} {R : HR} {A : Nat} (hA : Sh.2 A = (3, 3) ∧ Sh.2 (A + 1) = (9, 40)) (hRA : R A 0 = some (A + 1)) {sz : Nat} (hsz : I A 2 = nI sz) (hs40 : sz ≤ 40) {fr nn : Int32} : AM G 1 0 0 yX3_spans cX3_spans 3 (some .boolean) [.ref A, .int fr, .int nn] (Sh, I, R) (qi fun r g => r = bI (0 ≤ fr ∧ 0 ≤ nn ∧ fr ≤ nI sz - nn) ∧ g = (Sh, I, R)) := by
  refine am_intro (by decide) (Nat.le_of_ble_eq_true rfl) ?_
  refine x_iload_n dX3_spans_0 1 rfl rfl ?_
  refine x_if_lt (tgt := 22) dX3_spans_1 (by decide) (fun c_1 => ?_) (fun c_1 => ?_)
  · refine x_iconst (v := 0) dX3_spans_22 (by decide) ?_
    refine x_zret dX3_spans_23 rfl rfl (Nat.le_refl _) (Nat.le_refl _) ?_
    exact ⟨(bI_f (fun q => absurd c_1 (Int32.not_lt.mpr q.1))).symm, rfl⟩
  · refine x_iload_n dX3_spans_4 2 rfl rfl ?_
    refine x_if_lt (tgt := 22) dX3_spans_5 (by decide) (fun c_5 => ?_) (fun c_5 => ?_)
    · refine x_iconst (v := 0) dX3_spans_22 (by decide) ?_
      refine x_zret dX3_spans_23 rfl rfl (Nat.le_refl _) (Nat.le_refl _) ?_
      exact ⟨(bI_f (fun q => absurd c_5 (Int32.not_lt.mpr q.2.1))).symm, rfl⟩
    · refine x_iload_n dX3_spans_8 1 rfl rfl ?_
      refine x_aload_n dX3_spans_9 0 rfl rfl ?_
      refine x_gI (v := nI sz) dX3_spans_10 fl_3_28 rfl hA.1 hsz ?_
      refine x_iload_n dX3_spans_13 2 rfl rfl ?_
      refine x_isub dX3_spans_14 ?_
      refine x_icmp_gt (tgt := 22) dX3_spans_15 (by decide) (fun c_15 => ?_) (fun c_15 => ?_)
      · refine x_iconst (v := 0) dX3_spans_22 (by decide) ?_
        refine x_zret dX3_spans_23 rfl rfl (Nat.le_refl _) (Nat.le_refl _) ?_
        exact ⟨(bI_f (fun q => absurd c_15 (Int32.not_lt.mpr q.2.2))).symm, rfl⟩
      · refine x_iconst (v := 1) dX3_spans_18 (by decide) ?_
        refine x_goto (tgt := 23) dX3_spans_19 (by decide) ?_
        refine x_zret dX3_spans_23 rfl rfl (Nat.le_refl _) (Nat.le_refl _) ?_
        exact ⟨(bI_t ⟨Int32.not_lt.mp c_1, Int32.not_lt.mp c_5, Int32.not_lt.mp c_15⟩).symm, rfl⟩

set_option maxHeartbeats 4000000 in
set_option maxRecDepth 100000 in
theorem k_item {G : GG} {Sh : HS} {I : HI} {R : HR} {A : Nat} (hA : Sh.2 A = (3, 3) ∧ Sh.2 (A + 1) = (9, 40)) (hRA : R A 0 = some (A + 1)) {sz : Nat} (hsz : I A 2 = nI sz) (hs40 : sz ≤ 40) {i : Int32} : AM G 1 0 0 yX3_item cX3_item 2 (some .int) [.ref A, .int i] (Sh, I, R) (qi fun r g => r = itF (I (A + 1)) sz i ∧ g = (Sh, I, R)) := by
  refine am_intro (by decide) (Nat.le_of_ble_eq_true rfl) ?_
  refine x_iload_n dX3_item_0 1 rfl rfl ?_
  refine x_if_lt (tgt := 27) dX3_item_1 (by decide) (fun c_1 => ?_) (fun c_1 => ?_)
  · refine x_iconst (v := 0) dX3_item_27 (by decide) ?_
    refine x_iret dX3_item_28 rfl (Nat.le_refl _) (Nat.le_refl _) ?_
    refine ⟨?_, rfl⟩
    unfold itF
    rw [if_neg (fun q => q.1 c_1)]
  · refine x_iload_n dX3_item_4 1 rfl rfl ?_
    refine x_aload_n dX3_item_5 0 rfl rfl ?_
    refine x_gI (v := nI sz) dX3_item_6 fl_3_28 rfl hA.1 hsz ?_
    refine x_icmp_ge (tgt := 27) dX3_item_9 (by decide) (fun c_9 => ?_) (fun c_9 => ?_)
    · refine x_iconst (v := 0) dX3_item_27 (by decide) ?_
      refine x_iret dX3_item_28 rfl (Nat.le_refl _) (Nat.le_refl _) ?_
      refine ⟨?_, rfl⟩
      unfold itF
      rw [if_neg (fun q => absurd c_9 (Int32.not_le.mpr q.2))]
    · refine x_iload_n dX3_item_12 1 rfl rfl ?_
      refine x_bipush (v := 40) dX3_item_13 (by decide) ?_
      refine x_icmp_ge (tgt := 27) dX3_item_15 (by decide) (fun c_15 => ?_) (fun c_15 => ?_)
      · refine x_iconst (v := 0) dX3_item_27 (by decide) ?_
        refine x_iret dX3_item_28 rfl (Nat.le_refl _) (Nat.le_refl _) ?_
        refine ⟨?_, rfl⟩
        unfold itF
        rw [if_neg (fun q => absurd c_15 (Int32.not_le.mpr (Int32.lt_of_lt_of_le q.2 (nI_le (b := 40) hs40 (by omega)))))]
      · obtain ⟨j, hj, hij⟩ := idx_of c_1 c_9 (by omega)
        refine x_aload_n dX3_item_18 0 rfl rfl ?_
        refine x_gR (b := A + 1) dX3_item_19 fl_3_9 rfl hA.1 hRA ?_
        refine x_iload_n dX3_item_22 1 rfl rfl ?_
        refine x_ia (j := j) (v := I (A + 1) j) dX3_item_23 hA.2 hij (by omega) (by omega) rfl ?_
        refine x_goto (tgt := 28) dX3_item_24 (by decide) ?_
        refine x_iret dX3_item_28 rfl (Nat.le_refl _) (Nat.le_refl _) ?_
        refine ⟨?_, rfl⟩
        subst hij
        exact (itF_in hj hs40).symm

set_option maxHeartbeats 4000000 in
set_option maxRecDepth 100000 in
theorem k_put {G : GG} {Sh : HS} {I : HI} {R : HR} {A : Nat} (hA : Sh.2 A = (3, 3) ∧ Sh.2 (A + 1) = (9, 40)) (hRA : R A 0 = some (A + 1)) {sz : Nat} (hsz : I A 2 = nI sz) (hs40 : sz ≤ 40) {i v : Int32} : AM G 1 0 0 yX3_put cX3_put 3 (some .boolean) [.ref A, .int i, .int v] (Sh, I, R) (qi fun r g => (∃ j, j < sz ∧ i = nI j ∧ r = 1 ∧ g = (Sh, u2 I (A + 1) j (cutF (I A 1) v), R)) ∨ ((i < 0 ∨ nI sz ≤ i) ∧ r = 0 ∧ g = (Sh, I, R))) := by
  refine am_intro (by decide) (Nat.le_of_ble_eq_true rfl) ?_
  refine x_iload_n dX3_put_0 1 rfl rfl ?_
  refine x_if_lt (tgt := 18) dX3_put_1 (by decide) (fun c_1 => ?_) (fun c_1 => ?_)
  · refine x_iconst (v := 0) dX3_put_18 (by decide) ?_
    refine x_zret dX3_put_19 rfl rfl (Nat.le_refl _) (Nat.le_refl _) ?_
    exact Or.inr ⟨Or.inl c_1, rfl, rfl⟩
  · refine x_iload_n dX3_put_4 1 rfl rfl ?_
    refine x_aload_n dX3_put_5 0 rfl rfl ?_
    refine x_gI (v := nI sz) dX3_put_6 fl_3_28 rfl hA.1 hsz ?_
    refine x_icmp_ge (tgt := 18) dX3_put_9 (by decide) (fun c_9 => ?_) (fun c_9 => ?_)
    · refine x_iconst (v := 0) dX3_put_18 (by decide) ?_
      refine x_zret dX3_put_19 rfl rfl (Nat.le_refl _) (Nat.le_refl _) ?_
      exact Or.inr ⟨Or.inr c_9, rfl, rfl⟩
    · refine x_iload_n dX3_put_12 1 rfl rfl ?_
      refine x_bipush (v := 40) dX3_put_13 (by decide) ?_
      refine x_icmp_lt (tgt := 20) dX3_put_15 (by decide) (fun c_15 => ?_) (fun c_15 => ?_)
      · obtain ⟨j, hj, hij⟩ := idx_of c_1 c_9 (by omega)
        refine x_aload_n dX3_put_20 0 rfl rfl ?_
        refine x_gI (v := I A 1) dX3_put_21 fl_3_15 rfl hA.1 rfl ?_
        refine x_if_ne (tgt := 38) dX3_put_24 (by decide) (fun c_24 => ?_) (fun c_24 => ?_)
        · refine x_aload_n dX3_put_38 0 rfl rfl ?_
          refine x_gI (v := I A 1) dX3_put_39 fl_3_15 rfl hA.1 rfl ?_
          refine x_iconst (v := 1) dX3_put_42 (by decide) ?_
          refine x_icmp_ne (tgt := 57) dX3_put_43 (by decide) (fun c_43 => ?_) (fun c_43 => ?_)
          · refine x_aload_n dX3_put_57 0 rfl rfl ?_
            refine x_gR (b := A + 1) dX3_put_58 fl_3_9 rfl hA.1 hRA ?_
            refine x_iload_n dX3_put_61 1 rfl rfl ?_
            refine x_iload_n dX3_put_62 2 rfl rfl ?_
            refine x_is (j := j) dX3_put_63 hA.2 hij (by omega) (by omega) (fun Iq1 e_Iq1 => ?_)
            refine x_iconst (v := 1) dX3_put_64 (by decide) ?_
            refine x_zret dX3_put_65 rfl rfl (Nat.le_refl _) (Nat.le_refl _) ?_
            refine Or.inl ⟨j, hj, hij, rfl, ?_⟩
            rw [e_Iq1]
            unfold cutF
            rw [if_neg c_24, if_neg c_43]
          · refine x_aload_n dX3_put_46 0 rfl rfl ?_
            refine x_gR (b := A + 1) dX3_put_47 fl_3_9 rfl hA.1 hRA ?_
            refine x_iload_n dX3_put_50 1 rfl rfl ?_
            refine x_iload_n dX3_put_51 2 rfl rfl ?_
            refine x_i2s (v := v.toInt16.toInt32) dX3_put_52 rfl ?_
            refine x_is (j := j) dX3_put_53 hA.2 hij (by omega) (by omega) (fun Iq2 e_Iq2 => ?_)
            refine x_goto (tgt := 64) dX3_put_54 (by decide) ?_
            refine x_iconst (v := 1) dX3_put_64 (by decide) ?_
            refine x_zret dX3_put_65 rfl rfl (Nat.le_refl _) (Nat.le_refl _) ?_
            refine Or.inl ⟨j, hj, hij, rfl, ?_⟩
            rw [e_Iq2]
            unfold cutF
            rw [if_neg c_24, if_pos c_43]
        · refine x_aload_n dX3_put_27 0 rfl rfl ?_
          refine x_gR (b := A + 1) dX3_put_28 fl_3_9 rfl hA.1 hRA ?_
          refine x_iload_n dX3_put_31 1 rfl rfl ?_
          refine x_iload_n dX3_put_32 2 rfl rfl ?_
          refine x_i2b (v := v.toInt8.toInt32) dX3_put_33 rfl ?_
          refine x_is (j := j) dX3_put_34 hA.2 hij (by omega) (by omega) (fun Iq3 e_Iq3 => ?_)
          refine x_goto (tgt := 64) dX3_put_35 (by decide) ?_
          refine x_iconst (v := 1) dX3_put_64 (by decide) ?_
          refine x_zret dX3_put_65 rfl rfl (Nat.le_refl _) (Nat.le_refl _) ?_
          refine Or.inl ⟨j, hj, hij, rfl, ?_⟩
          rw [e_Iq3]
          unfold cutF
          rw [if_pos c_24]
      · refine x_iconst (v := 0) dX3_put_18 (by decide) ?_
        refine x_zret dX3_put_19 rfl rfl (Nat.le_refl _) (Nat.le_refl _) ?_
        exact Or.inr ⟨Or.inr (Int32.le_trans (nI_le (b := 40) hs40 (by omega)) (Int32.not_lt.mp c_15)), rfl, rfl⟩

