set_option maxHeartbeats 4000000 in
set_option maxRecDepth 100000 in
theorem k_mwithin {G : GG} {Sh : HS} {I : HI} {R : HR} {v lo hi : Int32} : AM G 1 0 0 yX8_within cX8_within 3 (some .boolean) [.int v, .int lo, .int hi] (Sh, I, R) (qi fun r g => r = bI (lo ≤ v ∧ v ≤ hi) ∧ g = (Sh, I, R)) := by
  refine am_intro (by decide) (Nat.le_of_ble_eq_true rfl) ?_
  refine x_iload_n dX8_within_0 0 rfl rfl ?_
  refine x_iload_n dX8_within_1 1 rfl rfl ?_
  refine x_icmp_lt (tgt := 14) dX8_within_2 (by decide) (fun c_2 => ?_) (fun c_2 => ?_)
  · refine x_iconst (v := 0) dX8_within_14 (by decide) ?_
    refine x_zret dX8_within_15 rfl rfl (Nat.le_refl _) (Nat.le_refl _) ?_
    exact ⟨(bI_f (fun q => absurd c_2 (Int32.not_lt.mpr q.1))).symm, rfl⟩
  · refine x_iload_n dX8_within_5 0 rfl rfl ?_
    refine x_iload_n dX8_within_6 2 rfl rfl ?_
    refine x_icmp_gt (tgt := 14) dX8_within_7 (by decide) (fun c_7 => ?_) (fun c_7 => ?_)
    · refine x_iconst (v := 0) dX8_within_14 (by decide) ?_
      refine x_zret dX8_within_15 rfl rfl (Nat.le_refl _) (Nat.le_refl _) ?_
      exact ⟨(bI_f (fun q => absurd c_7 (Int32.not_lt.mpr q.2))).symm, rfl⟩
    · refine x_iconst (v := 1) dX8_within_10 (by decide) ?_
      refine x_goto (tgt := 15) dX8_within_11 (by decide) ?_
      refine x_zret dX8_within_15 rfl rfl (Nat.le_refl _) (Nat.le_refl _) ?_
      exact ⟨(bI_t ⟨Int32.not_lt.mp c_2, Int32.not_lt.mp c_7⟩).symm, rfl⟩

theorem bI_iff {P Q : Prop} (h : P ↔ Q) : bI P = bI Q := by rw [propext h]
theorem id_iff {n : Nat} {x : Int32} (hn : n ≤ 8) : (0 ≤ x ∧ x ≤ nI n - 1) ↔ (idF n x).isSome = true := by
  have e : ∀ z : Int32, z ≤ nI n - 1 ↔ z < nI n := by
    intro z
    have h1 : (nI n).toInt = (n : Int) := nI_toInt (by omega)
    have e1 : (1 : Int32).toInt = 1 := by decide
    rw [Int32.le_iff_toInt_le, Int32.lt_iff_toInt_lt, Int32.toInt_sub, h1, e1, Int.bmod_def]
    omega
  unfold idF
  constructor
  · rintro ⟨h1, h2⟩
    rw [if_pos ⟨Int32.not_lt.mpr h1, (e x).mp h2⟩]
    rfl
  · intro h
    split at h
    · rename_i q
      exact ⟨Int32.not_lt.mp q.1, (e x).mpr q.2⟩
    · cases h
theorem id4_iff {x : Int32} : (0 ≤ x ∧ x ≤ 3) ↔ (idF 4 x).isSome = true := id_iff (n := 4) (by omega)

set_option maxHeartbeats 4000000 in
set_option maxRecDepth 100000 in
theorem k_misFort {G : GG} {Sh : HS} {I : HI} {R : HR} {m n : Nat} (hsh : MSh Sh m) (hn : I m 2 = nI n) (hn8 : n ≤ 8) {f : Int32} : AM G 2 0 0 yX8_isFort cX8_isFort 2 (some .boolean) [.ref m, .int f] (Sh, I, R) (qi fun r g => r = bI ((idF n f).isSome = true) ∧ g = (Sh, I, R)) := by
  refine am_intro (by decide) (Nat.le_of_ble_eq_true rfl) ?_
  refine x_iload_n dX8_isFort_0 1 rfl rfl ?_
  refine x_iconst (v := 0) dX8_isFort_1 (by decide) ?_
  refine x_aload_n dX8_isFort_2 0 rfl rfl ?_
  refine x_gI (v := nI n) dX8_isFort_3 fl_8_79 rfl hsh.1 hn ?_
  refine x_iconst (v := 1) dX8_isFort_6 (by decide) ?_
  refine x_isub dX8_isFort_7 ?_
  refine x_callS (rest := []) (k_mwithin (G := G) (Sh := Sh) (I := I) (R := R) (v := f) (lo := 0) (hi := (nI n) - 1)) dX8_isFort_8 crc_X8_within sc_8_82 rfl rfl (Nat.le_of_ble_eq_true rfl) (roomy_k (by omega) (by decide)) (Nat.le_refl _) (Nat.le_refl _) ?_
  rintro _ _ ⟨rw, rfl, hrw, rfl⟩
  subst hrw
  refine x_zret dX8_isFort_11 rfl (bI_nar _) (Nat.le_refl _) (Nat.le_refl _) ?_
  exact ⟨bI_iff (id_iff hn8), rfl⟩

set_option maxHeartbeats 4000000 in
set_option maxRecDepth 100000 in
theorem k_misWaves {G : GG} {Sh : HS} {I : HI} {R : HR} {n : Int32} : AM G 2 0 0 yX8_isWaves cX8_isWaves 1 (some .boolean) [.int n] (Sh, I, R) (qi fun r g => r = bI (aheadP n) ∧ g = (Sh, I, R)) := by
  refine am_intro (by decide) (Nat.le_of_ble_eq_true rfl) ?_
  refine x_iload_n dX8_isWaves_0 0 rfl rfl ?_
  refine x_iconst (v := 0) dX8_isWaves_1 (by decide) ?_
  refine x_bipush (v := 40) dX8_isWaves_2 (by decide) ?_
  refine x_callS (rest := []) (k_mwithin (G := G) (Sh := Sh) (I := I) (R := R) (v := n) (lo := 0) (hi := 40)) dX8_isWaves_4 crc_X8_within sc_8_82 rfl rfl (Nat.le_of_ble_eq_true rfl) (roomy_k (by omega) (by decide)) (Nat.le_refl _) (Nat.le_refl _) ?_
  rintro _ _ ⟨rw, rfl, hrw, rfl⟩
  subst hrw
  refine x_zret dX8_isWaves_7 rfl (bI_nar _) (Nat.le_refl _) (Nat.le_refl _) ?_
  exact ⟨rfl, rfl⟩

set_option maxHeartbeats 4000000 in
set_option maxRecDepth 100000 in
theorem k_misSheet {G : GG} {Sh : HS} {I : HI} {R : HR} {s : Int32} : AM G 2 0 0 yX8_isSheet cX8_isSheet 1 (some .boolean) [.int s] (Sh, I, R) (qi fun r g => r = bI ((idF 4 s).isSome = true) ∧ g = (Sh, I, R)) := by
  refine am_intro (by decide) (Nat.le_of_ble_eq_true rfl) ?_
  refine x_iload_n dX8_isSheet_0 0 rfl rfl ?_
  refine x_iconst (v := 0) dX8_isSheet_1 (by decide) ?_
  refine x_iconst (v := 3) dX8_isSheet_2 (by decide) ?_
  refine x_callS (rest := []) (k_mwithin (G := G) (Sh := Sh) (I := I) (R := R) (v := s) (lo := 0) (hi := 3)) dX8_isSheet_3 crc_X8_within sc_8_82 rfl rfl (Nat.le_of_ble_eq_true rfl) (roomy_k (by omega) (by decide)) (Nat.le_refl _) (Nat.le_refl _) ?_
  rintro _ _ ⟨rw, rfl, hrw, rfl⟩
  subst hrw
  refine x_zret dX8_isSheet_6 rfl (bI_nar _) (Nat.le_refl _) (Nat.le_refl _) ?_
  exact ⟨bI_iff id4_iff, rfl⟩

set_option maxHeartbeats 4000000 in
set_option maxRecDepth 100000 in
theorem k_mshelter_l {G : GG} {Sh : HS} {I : HI} {R : HR} {m n t : Nat} {P : Nat → List Int32} (w : MW Sh I R m n t P) {f : Nat} (hf : f < 8) : ∀ (m9 : Nat) (q : Nat) (acc : Int32), (q ≤ n) → (n < q + m9) → (acc = shelF (fun o k => I (m + 1 + k) o) (I (m + 1 + 2) f) q) → X G (kM G 1 0 0 (qi fun r g => r = shelF (fun o k => I (m + 1 + k) o) (I (m + 1 + 2) f) n ∧ g = (Sh, I, R))) yX8_shelter cX8_shelter 4 (some .int) 0 0 4 [(3, .int (nI q)), (2, .int acc), (0, .ref m), (1, .int (nI f))] [] (Sh, I, R) := by
  intro m9
  induction m9 with
  | zero =>
    intro q acc hq hm hacc
    exact absurd hm (by omega)
  | succ m9 ih =>
    intro q acc hq hm hacc
    obtain ⟨hsh, hrf, hn, hn8, hru, hr6, cd9, hcd9, htx⟩ := id w
    obtain ⟨z0, z1, z6, z7, z8, z9, z10, z11, z12, z13, z14, z15, z16, z17⟩ := id hsh
    obtain ⟨y1, y6, y7, y8, y9, y10, y11, y12, y13, y14, y15, y16, y17⟩ := id hrf
    refine x_iload_n dX8_shelter_4 0 rfl rfl ?_
    refine x_aload_n dX8_shelter_5 2 rfl rfl ?_
    refine x_gI (v := nI n) dX8_shelter_6 fl_8_79 rfl z0 hn ?_
    refine x_icmp_ge (tgt := 55) dX8_shelter_9 (by decide) (fun c_9 => ?_) (fun c_9 => ?_)
    · have c_9 : n ≤ q := (nI_leI (a := n) (b := q) (by omega) (by omega)).mp c_9
      refine x_iload_n dX8_shelter_55 1 rfl rfl ?_
      refine x_iret dX8_shelter_56 rfl (Nat.le_refl _) (Nat.le_refl _) ?_
      have hqn : q = n := by omega
      subst hqn
      exact ⟨hacc, rfl⟩
    · have c_9 : ¬ n ≤ q := fun zz9 => c_9 ((nI_leI (a := n) (b := q) (by omega) (by omega)).mpr zz9)
      refine x_aload_n dX8_shelter_12 2 rfl rfl ?_
      refine x_gR (b := m + 1 + 4) dX8_shelter_13 fl_8_22 rfl z0 (y1 4 (by omega)) ?_
      refine x_iload_n dX8_shelter_16 0 rfl rfl ?_
      refine x_ia (j := q) (v := I (m + 1 + 4) q) dX8_shelter_17 (z1 4 (by omega)) rfl (by omega) (by omega) rfl ?_
      refine x_if_le (tgt := 49) dX8_shelter_18 (by decide) (fun c_18 => ?_) (fun c_18 => ?_)
      · refine x_iinc (v := nI (q + 1)) (lv' := [(3, .int (nI (q + 1))), (2, .int acc), (0, .ref m), (1, .int (nI f))]) dX8_shelter_49 0 rfl (nI_1 q) (by decide) rfl ?_
        refine x_goto (tgt := 4) dX8_shelter_52 (by decide) ?_
        refine x_sub [0, 1, 2, 3] rfl ?_
        exact ih (q + 1) acc (by omega) (by omega) (by
          unfold shelF at *
          rw [fd_s, ← hacc]
          rw [if_neg (fun q => absurd q.2.1 (Int32.not_lt.mpr c_18))])
      · refine x_aload_n dX8_shelter_21 2 rfl rfl ?_
        refine x_gR (b := m + 1 + 2) dX8_shelter_22 fl_8_16 rfl z0 (y1 2 (by omega)) ?_
        refine x_iload_n dX8_shelter_25 0 rfl rfl ?_
        refine x_ia (j := q) (v := I (m + 1 + 2) q) dX8_shelter_26 (z1 2 (by omega)) rfl (by omega) (by omega) rfl ?_
        refine x_aload_n dX8_shelter_27 2 rfl rfl ?_
        refine x_gR (b := m + 1 + 2) dX8_shelter_28 fl_8_16 rfl z0 (y1 2 (by omega)) ?_
        refine x_iload_n dX8_shelter_31 3 rfl rfl ?_
        refine x_ia (j := f) (v := I (m + 1 + 2) f) dX8_shelter_32 (z1 2 (by omega)) rfl (by omega) (by omega) rfl ?_
        refine x_icmp_ge (tgt := 49) dX8_shelter_33 (by decide) (fun c_33 => ?_) (fun c_33 => ?_)
        · refine x_iinc (v := nI (q + 1)) (lv' := [(3, .int (nI (q + 1))), (2, .int acc), (0, .ref m), (1, .int (nI f))]) dX8_shelter_49 0 rfl (nI_1 q) (by decide) rfl ?_
          refine x_goto (tgt := 4) dX8_shelter_52 (by decide) ?_
          refine x_sub [0, 1, 2, 3] rfl ?_
          exact ih (q + 1) acc (by omega) (by omega) (by
            unfold shelF at *
            rw [fd_s, ← hacc]
            rw [if_neg (fun q => absurd q.1 (Int32.not_lt.mpr c_33))])
        · refine x_aload_n dX8_shelter_36 2 rfl rfl ?_
          refine x_gR (b := m + 1 + 0) dX8_shelter_37 fl_8_7 rfl z0 (y1 0 (by omega)) ?_
          refine x_iload_n dX8_shelter_40 0 rfl rfl ?_
          refine x_ia (j := q) (v := I (m + 1 + 0) q) dX8_shelter_41 (z1 0 (by omega)) rfl (by omega) (by omega) rfl ?_
          refine x_iconst (v := 2) dX8_shelter_42 (by decide) ?_
          refine x_icmp_eq (tgt := 49) dX8_shelter_43 (by decide) (fun c_43 => ?_) (fun c_43 => ?_)
          · refine x_iinc (v := nI (q + 1)) (lv' := [(3, .int (nI (q + 1))), (2, .int acc), (0, .ref m), (1, .int (nI f))]) dX8_shelter_49 0 rfl (nI_1 q) (by decide) rfl ?_
            refine x_goto (tgt := 4) dX8_shelter_52 (by decide) ?_
            refine x_sub [0, 1, 2, 3] rfl ?_
            exact ih (q + 1) acc (by omega) (by omega) (by
              unfold shelF at *
              rw [fd_s, ← hacc]
              rw [if_neg (fun q => q.2.2 c_43)])
          · obtain ⟨xq1, e_xq1⟩ : ∃ z : Int32, z = acc + 1 := ⟨_, rfl⟩
            refine x_iinc (v := xq1) (lv' := [(2, .int xq1), (3, .int (nI q)), (0, .ref m), (1, .int (nI f))]) dX8_shelter_46 1 rfl e_xq1.symm (by decide) rfl ?_
            refine x_iinc (v := nI (q + 1)) (lv' := [(3, .int (nI (q + 1))), (2, .int xq1), (0, .ref m), (1, .int (nI f))]) dX8_shelter_49 1 rfl (nI_1 q) (by decide) rfl ?_
            refine x_goto (tgt := 4) dX8_shelter_52 (by decide) ?_
            refine x_sub [0, 1, 2, 3] rfl ?_
            exact ih (q + 1) xq1 (by omega) (by omega) (by
              unfold shelF at *
              rw [fd_s, ← hacc]
              rw [if_pos ⟨Int32.not_le.mp c_33, Int32.not_le.mp c_18, c_43⟩]; exact e_xq1)

set_option maxHeartbeats 4000000 in
set_option maxRecDepth 100000 in
theorem k_mshelter {G : GG} {Sh : HS} {I : HI} {R : HR} {m n t : Nat} {P : Nat → List Int32} (w : MW Sh I R m n t P) {f : Nat} (hf : f < 8) : AM G 1 0 0 yX8_shelter cX8_shelter 4 (some .int) [.ref m, .int (nI f)] (Sh, I, R) (qi fun r g => r = shelF (fun o k => I (m + 1 + k) o) (I (m + 1 + 2) f) n ∧ g = (Sh, I, R)) := by
  refine am_intro (by decide) (Nat.le_of_ble_eq_true rfl) ?_
  refine x_iconst (v := 0) dX8_shelter_0 (by decide) ?_
  refine x_istore_n (lv' := [(2, .int 0), (0, .ref m), (1, .int (nI f))]) dX8_shelter_1 rfl (by decide) rfl ?_
  refine x_iconst (v := nI 0) dX8_shelter_2 (by decide) ?_
  refine x_istore_n (lv' := [(3, .int (nI 0)), (2, .int 0), (0, .ref m), (1, .int (nI f))]) dX8_shelter_3 rfl (by decide) rfl ?_
  exact k_mshelter_l w hf (n + 1) 0 0 (by omega) (by omega) rfl

set_option maxHeartbeats 4000000 in
set_option maxRecDepth 100000 in
theorem k_mboth {G : GG} {Sh : HS} {I : HI} {R : HR} {c a b : Int32} : AM G 1 0 0 yX8_both cX8_both 3 (some .int) [.int c, .int a, .int b] (Sh, I, R) (qi fun r g => r = bthF c a b ∧ g = (Sh, I, R)) := by
  refine am_intro (by decide) (Nat.le_of_ble_eq_true rfl) ?_
  refine x_iload_n dX8_both_0 0 rfl rfl ?_
  refine x_tsw [(6, 40), (7, 44), (8, 48), (9, 52), (10, 63), (11, 74)] 88 dX8_both_1 (by decide) (by decide +kernel) (fun c_1 => ?_) ?_
  · have d_1 : ¬ c = 6 ∧ ¬ c = 7 ∧ ¬ c = 8 ∧ ¬ c = 9 ∧ ¬ c = 10 ∧ ¬ c = 11 := ⟨fun q => c_1 (6, 40) (by simp) (q.trans (by decide)), fun q => c_1 (7, 44) (by simp) (q.trans (by decide)), fun q => c_1 (8, 48) (by simp) (q.trans (by decide)), fun q => c_1 (9, 52) (by simp) (q.trans (by decide)), fun q => c_1 (10, 63) (by simp) (q.trans (by decide)), fun q => c_1 (11, 74) (by simp) (q.trans (by decide))⟩
    refine x_iload_n dX8_both_88 1 rfl rfl ?_
    refine x_if_ne (tgt := 96) dX8_both_89 (by decide) (fun c_89 => ?_) (fun c_89 => ?_)
    · refine x_iconst (v := 1) dX8_both_96 (by decide) ?_
      refine x_goto (tgt := 101) dX8_both_97 (by decide) ?_
      refine x_iret dX8_both_101 rfl (Nat.le_refl _) (Nat.le_refl _) ?_
      refine ⟨?_, rfl⟩
      unfold bthF
      rw [if_neg d_1.1, if_neg d_1.2.1, if_neg d_1.2.2.1, if_neg d_1.2.2.2.1, if_neg d_1.2.2.2.2.1, if_neg d_1.2.2.2.2.2]
      exact (bI_t (Or.inl c_89)).symm
    · refine x_iload_n dX8_both_92 2 rfl rfl ?_
      refine x_if_eq (tgt := 100) dX8_both_93 (by decide) (fun c_93 => ?_) (fun c_93 => ?_)
      · refine x_iconst (v := 0) dX8_both_100 (by decide) ?_
        refine x_iret dX8_both_101 rfl (Nat.le_refl _) (Nat.le_refl _) ?_
        refine ⟨?_, rfl⟩
        unfold bthF
        rw [if_neg d_1.1, if_neg d_1.2.1, if_neg d_1.2.2.1, if_neg d_1.2.2.2.1, if_neg d_1.2.2.2.2.1, if_neg d_1.2.2.2.2.2]
        exact (bI_f (fun z => z.elim (fun y => y c_89) (fun y => y c_93))).symm
      · refine x_iconst (v := 1) dX8_both_96 (by decide) ?_
        refine x_goto (tgt := 101) dX8_both_97 (by decide) ?_
        refine x_iret dX8_both_101 rfl (Nat.le_refl _) (Nat.le_refl _) ?_
        refine ⟨?_, rfl⟩
        unfold bthF
        rw [if_neg d_1.1, if_neg d_1.2.1, if_neg d_1.2.2.1, if_neg d_1.2.2.2.1, if_neg d_1.2.2.2.2.1, if_neg d_1.2.2.2.2.2]
        exact (bI_t (Or.inr c_93)).symm
  · refine List.forall_mem_cons.mpr ⟨fun c_1 => ?_, List.forall_mem_cons.mpr ⟨fun c_1 => ?_, List.forall_mem_cons.mpr ⟨fun c_1 => ?_, List.forall_mem_cons.mpr ⟨fun c_1 => ?_, List.forall_mem_cons.mpr ⟨fun c_1 => ?_, List.forall_mem_cons.mpr ⟨fun c_1 => ?_, fun _ h9 => absurd h9 List.not_mem_nil⟩⟩⟩⟩⟩⟩
    · have c_1 : c = 6 := c_1.trans (by decide)
      refine x_iload_n dX8_both_40 1 rfl rfl ?_
      refine x_iload_n dX8_both_41 2 rfl rfl ?_
      refine x_iadd dX8_both_42 ?_
      refine x_iret dX8_both_43 rfl (Nat.le_refl _) (Nat.le_refl _) ?_
      refine ⟨?_, rfl⟩
      rw [c_1]
      rfl
    · have c_1 : c = 7 := c_1.trans (by decide)
      refine x_iload_n dX8_both_44 1 rfl rfl ?_
      refine x_iload_n dX8_both_45 2 rfl rfl ?_
      refine x_isub dX8_both_46 ?_
      refine x_iret dX8_both_47 rfl (Nat.le_refl _) (Nat.le_refl _) ?_
      refine ⟨?_, rfl⟩
      rw [c_1]
      rfl
    · have c_1 : c = 8 := c_1.trans (by decide)
      refine x_iload_n dX8_both_48 1 rfl rfl ?_
      refine x_iload_n dX8_both_49 2 rfl rfl ?_
      refine x_imul dX8_both_50 ?_
      refine x_iret dX8_both_51 rfl (Nat.le_refl _) (Nat.le_refl _) ?_
      refine ⟨?_, rfl⟩
      rw [c_1]
      rfl
    · have c_1 : c = 9 := c_1.trans (by decide)
      refine x_iload_n dX8_both_52 1 rfl rfl ?_
      refine x_iload_n dX8_both_53 2 rfl rfl ?_
      refine x_icmp_ge (tgt := 61) dX8_both_54 (by decide) (fun c_54 => ?_) (fun c_54 => ?_)
      · refine x_iconst (v := 0) dX8_both_61 (by decide) ?_
        refine x_iret dX8_both_62 rfl (Nat.le_refl _) (Nat.le_refl _) ?_
        refine ⟨?_, rfl⟩
        rw [c_1]
        exact (bI_f (Int32.not_lt.mpr c_54)).symm
      · refine x_iconst (v := 1) dX8_both_57 (by decide) ?_
        refine x_goto (tgt := 62) dX8_both_58 (by decide) ?_
        refine x_iret dX8_both_62 rfl (Nat.le_refl _) (Nat.le_refl _) ?_
        refine ⟨?_, rfl⟩
        rw [c_1]
        exact (bI_t (Int32.not_le.mp c_54)).symm
    · have c_1 : c = 10 := c_1.trans (by decide)
      refine x_iload_n dX8_both_63 1 rfl rfl ?_
      refine x_iload_n dX8_both_64 2 rfl rfl ?_
      refine x_icmp_ne (tgt := 72) dX8_both_65 (by decide) (fun c_65 => ?_) (fun c_65 => ?_)
      · refine x_iconst (v := 0) dX8_both_72 (by decide) ?_
        refine x_iret dX8_both_73 rfl (Nat.le_refl _) (Nat.le_refl _) ?_
        refine ⟨?_, rfl⟩
        rw [c_1]
        exact (bI_f c_65).symm
      · refine x_iconst (v := 1) dX8_both_68 (by decide) ?_
        refine x_goto (tgt := 73) dX8_both_69 (by decide) ?_
        refine x_iret dX8_both_73 rfl (Nat.le_refl _) (Nat.le_refl _) ?_
        refine ⟨?_, rfl⟩
        rw [c_1]
        exact (bI_t c_65).symm
    · have c_1 : c = 11 := c_1.trans (by decide)
      refine x_iload_n dX8_both_74 1 rfl rfl ?_
      refine x_if_eq (tgt := 86) dX8_both_75 (by decide) (fun c_75 => ?_) (fun c_75 => ?_)
      · refine x_iconst (v := 0) dX8_both_86 (by decide) ?_
        refine x_iret dX8_both_87 rfl (Nat.le_refl _) (Nat.le_refl _) ?_
        refine ⟨?_, rfl⟩
        rw [c_1]
        exact (bI_f (fun z => z.1 c_75)).symm
      · refine x_iload_n dX8_both_78 2 rfl rfl ?_
        refine x_if_eq (tgt := 86) dX8_both_79 (by decide) (fun c_79 => ?_) (fun c_79 => ?_)
        · refine x_iconst (v := 0) dX8_both_86 (by decide) ?_
          refine x_iret dX8_both_87 rfl (Nat.le_refl _) (Nat.le_refl _) ?_
          refine ⟨?_, rfl⟩
          rw [c_1]
          exact (bI_f (fun z => z.2 c_79)).symm
        · refine x_iconst (v := 1) dX8_both_82 (by decide) ?_
          refine x_goto (tgt := 87) dX8_both_83 (by decide) ?_
          refine x_iret dX8_both_87 rfl (Nat.le_refl _) (Nat.le_refl _) ?_
          refine ⟨?_, rfl⟩
          rw [c_1]
          exact (bI_t ⟨c_75, c_79⟩).symm

