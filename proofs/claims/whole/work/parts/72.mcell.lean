theorem so_neg2 {σ : SG} {s : Nat} (h : WI σ) (hs : s < 4) : ¬ 0 ≤ gSo σ s ↔ gSo σ s = -1 := by
  rw [← so_neg h hs]
  exact Int32.not_le
theorem ci_iff {sz : Nat} {i : Int32} (hs : sz ≤ 40) : (0 ≤ i ∧ i ≤ nI sz - 1) ↔ (¬ i < 0 ∧ i < nI sz) := by
  have h1 : (nI sz).toInt = (sz : Int) := nI_toInt (by omega)
  have e1 : (1 : Int32).toInt = 1 := by decide
  have e0 : (0 : Int32).toInt = 0 := by decide
  simp only [Int32.le_iff_toInt_le, Int32.lt_iff_toInt_lt, Int32.toInt_sub, h1, e1, e0, Int.bmod_def]
  omega
theorem cell_ok {σ : SG} {s9 i : Nat} {v : Int32} (h4 : s9 < 4) (hso : ¬ gSo σ s9 = -1) (hi : i < gSz σ s9) (h40 : gSz σ s9 ≤ 40) : cellV σ (nI s9) (nI i) = 1 ∧ cellS σ (nI s9) (nI i) v = withSh σ s9 (gSo σ s9, gSz σ s9, fun q => if q = i then cutF (gSo σ s9) v else gRo σ s9 q) := by
  have q : ¬ nI i < 0 ∧ nI i < nI (gSz σ s9) := ⟨nI_pos (by omega), (nI_ltI (by omega) (by omega)).mpr hi⟩
  unfold cellV cellS
  rw [idF_in h4 (by omega)]
  dsimp only
  rw [if_neg hso, if_neg hso, if_pos q, if_pos q, nI_clamp (by omega)]
  exact ⟨rfl, rfl⟩

set_option maxHeartbeats 4000000 in
set_option maxRecDepth 100000 in
theorem k_mcell {G : GG} {Sh : HS} {I : HI} {R : HR} {m : Nat} {σ : SG} (hm0 : MI m Sh I R σ) (hw0 : WI σ) {s i v : Int32} : AM G 3 0 0 yX8_cell cX8_cell 4 (some .int) [.ref m, .int s, .int i, .int v] (Sh, I, R) (qi (updM m Sh I R (cellV σ s i) (cellS σ s i v))) := by
  obtain ⟨hsh, hrf, ⟨hn, hn8⟩, hs, ⟨hru, hrt⟩, ⟨htc, htc6⟩, hmt, hmp, him, hse⟩ := id hm0
  have hmw := hm0.mw
  have hnb := hw0.nb
  obtain ⟨z0, z1, z6, z7, z8, z9, z10, z11, z12, z13, z14, z15, z16, z17⟩ := id hsh
  obtain ⟨y1, y6, y7, y8, y9, y10, y11, y12, y13, y14, y15, y16, y17⟩ := id hrf
  refine am_intro (by decide) (Nat.le_of_ble_eq_true rfl) ?_
  refine x_iload_n dX8_cell_0 1 rfl rfl ?_
  refine x_callS (rest := []) (k_misSheet (G := G) (Sh := Sh) (I := I) (R := R) (s := s)) dX8_cell_1 crc_X8_isSheet sc_8_277 rfl rfl (Nat.le_of_ble_eq_true rfl) (roomy_k (by omega) (by decide)) (Nat.le_refl _) (Nat.le_refl _) ?_
  rintro _ _ ⟨rs, rfl, hrs, rfl⟩
  subst hrs
  refine x_if_neB (tgt := 10) dX8_cell_4 (by decide) (fun c_4 => ?_) (fun c_4 => ?_)
  · obtain ⟨s9, hid_s9⟩ := Option.isSome_iff_exists.mp c_4
    obtain ⟨hi_s9, hie_s9⟩ := idF_some (by omega) hid_s9
    subst hie_s9
    have hse9 := hse s9 hi_s9
    have hsz := hse9.2.2.1
    refine x_aload_n dX8_cell_10 0 rfl rfl ?_
    refine x_gR (b := m + 15) dX8_cell_11 fl_8_52 rfl z0 y15 ?_
    refine x_iload_n dX8_cell_14 1 rfl rfl ?_
    refine x_ia (j := s9) (v := gSo σ s9) dX8_cell_15 z15 rfl (by omega) (by omega) hse9.1 ?_
    refine x_if_ge (tgt := 22) dX8_cell_16 (by decide) (fun c_16 => ?_) (fun c_16 => ?_)
    · refine x_iload_n dX8_cell_22 2 rfl rfl ?_
      refine x_iconst (v := 0) dX8_cell_23 (by decide) ?_
      refine x_aload_n dX8_cell_24 0 rfl rfl ?_
      refine x_gR (b := m + 16) dX8_cell_25 fl_8_55 rfl z0 y16 ?_
      refine x_iload_n dX8_cell_28 1 rfl rfl ?_
      refine x_ia (j := s9) (v := nI (gSz σ s9)) dX8_cell_29 z16 rfl (by omega) (by omega) hse9.2.1 ?_
      refine x_iconst (v := 1) dX8_cell_30 (by decide) ?_
      refine x_isub dX8_cell_31 ?_
      refine x_callS (rest := []) (k_mwithin (G := G) (Sh := Sh) (I := I) (R := R) (v := i) (lo := 0) (hi := (nI (gSz σ s9)) - 1)) dX8_cell_32 crc_X8_within sc_8_82 rfl rfl (Nat.le_of_ble_eq_true rfl) (roomy_k (by omega) (by decide)) (Nat.le_refl _) (Nat.le_refl _) ?_
      rintro _ _ ⟨rw, rfl, hrw, rfl⟩
      subst hrw
      refine x_if_neB (tgt := 41) dX8_cell_35 (by decide) (fun c_35 => ?_) (fun c_35 => ?_)
      · obtain ⟨i, hi9, hie⟩ : ∃ j, j < gSz σ s9 ∧ i = nI j := idx_of ((ci_iff hsz).mp c_35).1 (Int32.not_le.mpr ((ci_iff hsz).mp c_35).2) (by omega)
        subst hie
        have hso : ¬ gSo σ s9 = -1 := fun z => (so_neg2 hw0 hi_s9).mpr z c_16
        have hck := cell_ok (v := v) hi_s9 hso hi9 hsz
        refine x_aload_n dX8_cell_41 0 rfl rfl ?_
        refine x_gR (b := m + 17) dX8_cell_42 fl_8_58 rfl z0 y17 ?_
        refine x_bipush (v := nI 40) dX8_cell_45 (by decide) ?_
        refine x_iload_n dX8_cell_47 1 rfl rfl ?_
        refine x_imul dX8_cell_48 ?_
        refine x_vali (pk_mul 40 s9) ?_
        refine x_iload_n dX8_cell_49 2 rfl rfl ?_
        refine x_iadd dX8_cell_50 ?_
        refine x_vali (nI_add (40 * s9) i) ?_
        refine x_aload_n dX8_cell_51 0 rfl rfl ?_
        refine x_gR (b := m + 15) dX8_cell_52 fl_8_52 rfl z0 y15 ?_
        refine x_iload_n dX8_cell_55 1 rfl rfl ?_
        refine x_ia (j := s9) (v := gSo σ s9) dX8_cell_56 z15 rfl (by omega) (by omega) hse9.1 ?_
        refine x_if_ne (tgt := 65) dX8_cell_57 (by decide) (fun c_57 => ?_) (fun c_57 => ?_)
        · refine x_aload_n dX8_cell_65 0 rfl rfl ?_
          refine x_gR (b := m + 15) dX8_cell_66 fl_8_52 rfl z0 y15 ?_
          refine x_iload_n dX8_cell_69 1 rfl rfl ?_
          refine x_ia (j := s9) (v := gSo σ s9) dX8_cell_70 z15 rfl (by omega) (by omega) hse9.1 ?_
          refine x_iconst (v := 1) dX8_cell_71 (by decide) ?_
          refine x_icmp_ne (tgt := 80) dX8_cell_72 (by decide) (fun c_72 => ?_) (fun c_72 => ?_)
          · refine x_iload_n dX8_cell_80 3 rfl rfl ?_
            refine x_is (j := 40 * s9 + i) dX8_cell_81 z17 rfl (by omega) (by omega) (fun Iq1 e_Iq1 => ?_)
            refine x_iconst (v := 1) dX8_cell_82 (by decide) ?_
            refine x_iret dX8_cell_83 rfl (Nat.le_refl _) (Nat.le_refl _) ?_
            refine ⟨hck.1.symm, Iq1, rfl, ?_, fun a k q => by rw [e_Iq1, u2_ne (by omega)]⟩
            rw [hck.2, e_Iq1]
            refine hm0.sheet hi_s9 (fun a k q1 q2 q3 => u2_ne (by omega)) ((u2_ne (by omega)).trans hse9.1) ((u2_ne (by omega)).trans hse9.2.1) hsz (fun j hj => ?_)
            by_cases z : j = i
            · subst z
              rw [u2_same]
              show _ = ite _ _ _
              rw [if_pos rfl]
              unfold cutF
              rw [if_neg c_57, if_neg c_72]
            · rw [u2_ne (by omega)]
              show _ = ite _ _ _
              rw [if_neg z]
              exact hse9.2.2.2 j hj
          · refine x_iload_n dX8_cell_75 3 rfl rfl ?_
            refine x_i2s (v := v.toInt16.toInt32) dX8_cell_76 rfl ?_
            refine x_goto (tgt := 81) dX8_cell_77 (by decide) ?_
            refine x_is (j := 40 * s9 + i) dX8_cell_81 z17 rfl (by omega) (by omega) (fun Iq2 e_Iq2 => ?_)
            refine x_iconst (v := 1) dX8_cell_82 (by decide) ?_
            refine x_iret dX8_cell_83 rfl (Nat.le_refl _) (Nat.le_refl _) ?_
            refine ⟨hck.1.symm, Iq2, rfl, ?_, fun a k q => by rw [e_Iq2, u2_ne (by omega)]⟩
            rw [hck.2, e_Iq2]
            refine hm0.sheet hi_s9 (fun a k q1 q2 q3 => u2_ne (by omega)) ((u2_ne (by omega)).trans hse9.1) ((u2_ne (by omega)).trans hse9.2.1) hsz (fun j hj => ?_)
            by_cases z : j = i
            · subst z
              rw [u2_same]
              show _ = ite _ _ _
              rw [if_pos rfl]
              unfold cutF
              rw [if_neg c_57, if_pos c_72]
            · rw [u2_ne (by omega)]
              show _ = ite _ _ _
              rw [if_neg z]
              exact hse9.2.2.2 j hj
        · refine x_iload_n dX8_cell_60 3 rfl rfl ?_
          refine x_i2b (v := v.toInt8.toInt32) dX8_cell_61 rfl ?_
          refine x_goto (tgt := 81) dX8_cell_62 (by decide) ?_
          refine x_is (j := 40 * s9 + i) dX8_cell_81 z17 rfl (by omega) (by omega) (fun Iq3 e_Iq3 => ?_)
          refine x_iconst (v := 1) dX8_cell_82 (by decide) ?_
          refine x_iret dX8_cell_83 rfl (Nat.le_refl _) (Nat.le_refl _) ?_
          refine ⟨hck.1.symm, Iq3, rfl, ?_, fun a k q => by rw [e_Iq3, u2_ne (by omega)]⟩
          rw [hck.2, e_Iq3]
          refine hm0.sheet hi_s9 (fun a k q1 q2 q3 => u2_ne (by omega)) ((u2_ne (by omega)).trans hse9.1) ((u2_ne (by omega)).trans hse9.2.1) hsz (fun j hj => ?_)
          by_cases z : j = i
          · subst z
            rw [u2_same]
            show _ = ite _ _ _
            rw [if_pos rfl]
            unfold cutF
            rw [if_pos c_57]
          · rw [u2_ne (by omega)]
            show _ = ite _ _ _
            rw [if_neg z]
            exact hse9.2.2.2 j hj
      · refine x_bipush (v := (-12)) dX8_cell_38 (by decide) ?_
        refine x_iret dX8_cell_40 rfl (Nat.le_refl _) (Nat.le_refl _) ?_
        have hso : ¬ gSo σ s9 = -1 := fun z => (so_neg2 hw0 hi_s9).mpr z c_16
        unfold cellV cellS
        rw [idF_in hi_s9 (by omega)]
        dsimp only
        rw [if_neg hso, if_neg hso, if_neg (fun z => c_35 ((ci_iff hsz).mpr z)), if_neg (fun z => c_35 ((ci_iff hsz).mpr z))]
        exact ⟨rfl, I, rfl, hm0, FrM.rf⟩
    · refine x_bipush (v := (-11)) dX8_cell_19 (by decide) ?_
      refine x_iret dX8_cell_21 rfl (Nat.le_refl _) (Nat.le_refl _) ?_
      have hso := (so_neg2 hw0 hi_s9).mp c_16
      unfold cellV cellS
      rw [idF_in hi_s9 (by omega)]
      dsimp only
      rw [if_pos hso, if_pos hso]
      exact ⟨rfl, I, rfl, hm0, FrM.rf⟩
  · refine x_bipush (v := (-2)) dX8_cell_7 (by decide) ?_
    refine x_iret dX8_cell_9 rfl (Nat.le_refl _) (Nat.le_refl _) ?_
    have hno := Option.not_isSome_iff_eq_none.mp c_4
    unfold cellV cellS
    rw [hno]
    exact ⟨rfl, I, rfl, hm0, FrM.rf⟩

theorem cut_small {x : Int32} (h : ∃ a, a < 100 ∧ x = nI a) : cutF 0 x = x := by
  obtain ⟨a, ha, rfl⟩ := h
  unfold cutF
  rw [if_pos rfl]
  apply Int32.toInt_inj.mp
  rw [Int8.toInt_toInt32, Int32.toInt_toInt8, nI_toInt (by omega)]
  exact Int.bmod_eq_of_le (by omega) (by omega)
theorem mx_le {a b : Int32} (h : ∃ x, x < 100 ∧ a = nI x) (hb : 0 ≤ b) : ∃ y, y < 100 ∧ mxI 0 (a - b) = nI y := by
  obtain ⟨x, hx, rfl⟩ := h
  have e0 : (0 : Int32).toInt = 0 := by decide
  have h1 := mx_t (a := 0) (b := nI x - b)
  have hb' := Int32.le_iff_toInt_le.mp hb
  have hxi : (nI x).toInt = (x : Int) := nI_toInt (by omega)
  have hlt : b.toInt < 2147483648 := Int32.toInt_lt b
  have hs : (nI x - b).toInt = x - b.toInt := by
    rw [Int32.toInt_sub, hxi]
    exact Int.bmod_eq_of_le (by omega) (by omega)
  obtain ⟨y, hy, e⟩ := nI_of2 (M := 99) (n := 99) (x := mxI 0 (nI x - b)) (by decide) (by
    rw [Int32.lt_iff_toInt_lt]
    omega) (by
    rw [Int32.le_iff_toInt_le]
    have e99 : (99 : Int32).toInt = 99 := by decide
    omega)
  exact ⟨y, by omega, e⟩

