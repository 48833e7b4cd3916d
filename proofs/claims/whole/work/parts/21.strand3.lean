set_option maxHeartbeats 4000000 in
set_option maxRecDepth 100000 in
theorem k_bay_l {G : GG} {Sh : HS} {I : HI} {R : HR} {S T n : Nat} {P : Nat → List Int32} {v : SV} (w : SW Sh I R S T n P) (hv : SR I S n v) : ∀ (m : Nat) (i : Nat) (acc qcc : Int32), (i ≤ n) → (n < i + m) → (acc = bayM v i) → (qcc = bayQ v i) → X G (kM G 2 0 0 (qi fun r g => r = bayF n v ∧ g = (Sh, I, R))) yX4_bay cX4_bay 6 (some .int) 0 0 6 [(3, .int (nI i)), (2, .int qcc), (1, .int acc), (0, .ref S)] [] (Sh, I, R) := by
  intro m
  induction m with
  | zero =>
    intro i acc qcc hi hm hacc hqcc
    exact absurd hm (by omega)
  | succ m ih =>
    intro i acc qcc hi hm hacc hqcc
    obtain ⟨hS, hR, hn, hn8, hrl, hT, hRT, hTX, hTS⟩ := id w
    refine x_iload_n dX4_bay_6 0 rfl rfl ?_
    refine x_aload_n dX4_bay_7 3 rfl rfl ?_
    refine x_gI (v := nI n) dX4_bay_8 fl_4_22 rfl hS.1 hn ?_
    refine x_icmp_ge (tgt := 77) dX4_bay_11 (by decide) (fun c_11 => ?_) (fun c_11 => ?_)
    · have c_11 : n ≤ i := (nI_leI (a := n) (b := i) (by omega) (by omega)).mp c_11
      refine x_iload_n dX4_bay_77 2 rfl rfl ?_
      refine x_if_eq (tgt := 85) dX4_bay_78 (by decide) (fun c_78 => ?_) (fun c_78 => ?_)
      · refine x_iload_n dX4_bay_85 1 rfl rfl ?_
        refine x_istore_n (lv' := [(3, .int qcc), (2, .int qcc), (1, .int acc), (0, .ref S)]) dX4_bay_86 rfl (by decide) rfl ?_
        refine x_iload_n dX4_bay_87 0 rfl rfl ?_
        refine x_if_ne (tgt := 93) dX4_bay_88 (by decide) (fun c_88 => ?_) (fun c_88 => ?_)
        · refine x_iload_n dX4_bay_93 0 rfl rfl ?_
          refine x_if_le (tgt := 101) dX4_bay_94 (by decide) (fun c_94 => ?_) (fun c_94 => ?_)
          · refine x_iconst (v := 1) dX4_bay_101 (by decide) ?_
            refine x_iret dX4_bay_102 rfl (Nat.le_refl _) (Nat.le_refl _) ?_
            have hin : i = n := by omega
            subst hin
            refine ⟨?_, rfl⟩
            have hx : (if ¬ acc = 0 then acc else qcc) = qcc := by rw [if_neg (fun q => q c_78)]
            unfold bayF bayX
            rw [← hacc, ← hqcc, hx, if_neg c_88, if_neg (Int32.not_lt.mpr c_94)]
          · refine x_iconst (v := 0) dX4_bay_97 (by decide) ?_
            refine x_goto (tgt := 102) dX4_bay_98 (by decide) ?_
            refine x_iret dX4_bay_102 rfl (Nat.le_refl _) (Nat.le_refl _) ?_
            have hin : i = n := by omega
            subst hin
            refine ⟨?_, rfl⟩
            have hx : (if ¬ acc = 0 then acc else qcc) = qcc := by rw [if_neg (fun q => q c_78)]
            unfold bayF bayX
            rw [← hacc, ← hqcc, hx, if_neg c_88, if_pos (Int32.not_le.mp c_94)]
        · refine x_iconst (v := (-1)) dX4_bay_91 (by decide) ?_
          refine x_iret dX4_bay_92 rfl (Nat.le_refl _) (Nat.le_refl _) ?_
          have hin : i = n := by omega
          subst hin
          refine ⟨?_, rfl⟩
          have hx : (if ¬ acc = 0 then acc else qcc) = qcc := by rw [if_neg (fun q => q c_78)]
          unfold bayF bayX
          rw [← hacc, ← hqcc, hx, if_pos c_88]
      · refine x_iload_n dX4_bay_81 2 rfl rfl ?_
        refine x_goto (tgt := 86) dX4_bay_82 (by decide) ?_
        refine x_istore_n (lv' := [(3, .int acc), (2, .int qcc), (1, .int acc), (0, .ref S)]) dX4_bay_86 rfl (by decide) rfl ?_
        refine x_iload_n dX4_bay_87 0 rfl rfl ?_
        refine x_if_ne (tgt := 93) dX4_bay_88 (by decide) (fun c_88 => ?_) (fun c_88 => ?_)
        · refine x_iload_n dX4_bay_93 0 rfl rfl ?_
          refine x_if_le (tgt := 101) dX4_bay_94 (by decide) (fun c_94 => ?_) (fun c_94 => ?_)
          · refine x_iconst (v := 1) dX4_bay_101 (by decide) ?_
            refine x_iret dX4_bay_102 rfl (Nat.le_refl _) (Nat.le_refl _) ?_
            have hin : i = n := by omega
            subst hin
            refine ⟨?_, rfl⟩
            have hx : (if ¬ acc = 0 then acc else qcc) = acc := if_pos c_78
            unfold bayF bayX
            rw [← hacc, ← hqcc, hx, if_neg c_88, if_neg (Int32.not_lt.mpr c_94)]
          · refine x_iconst (v := 0) dX4_bay_97 (by decide) ?_
            refine x_goto (tgt := 102) dX4_bay_98 (by decide) ?_
            refine x_iret dX4_bay_102 rfl (Nat.le_refl _) (Nat.le_refl _) ?_
            have hin : i = n := by omega
            subst hin
            refine ⟨?_, rfl⟩
            have hx : (if ¬ acc = 0 then acc else qcc) = acc := if_pos c_78
            unfold bayF bayX
            rw [← hacc, ← hqcc, hx, if_neg c_88, if_pos (Int32.not_le.mp c_94)]
        · refine x_iconst (v := (-1)) dX4_bay_91 (by decide) ?_
          refine x_iret dX4_bay_92 rfl (Nat.le_refl _) (Nat.le_refl _) ?_
          have hin : i = n := by omega
          subst hin
          refine ⟨?_, rfl⟩
          have hx : (if ¬ acc = 0 then acc else qcc) = acc := if_pos c_78
          unfold bayF bayX
          rw [← hacc, ← hqcc, hx, if_pos c_88]
    · have c_11 : ¬ n ≤ i := fun q => c_11 ((nI_leI (a := n) (b := i) (by omega) (by omega)).mpr q)
      refine x_iload_n dX4_bay_14 0 rfl rfl ?_
      refine x_bipush (v := 8) dX4_bay_15 (by decide) ?_
      refine x_icmp_ge (tgt := 77) dX4_bay_17 (by decide) (fun c_17 => ?_) (fun c_17 => ?_)
      · have c_17 : 8 ≤ i := (nI_leI (a := 8) (b := i) (by omega) (by omega)).mp c_17
        refine x_iload_n dX4_bay_77 2 rfl rfl ?_
        refine x_if_eq (tgt := 85) dX4_bay_78 (by decide) (fun c_78 => ?_) (fun c_78 => ?_)
        · refine x_iload_n dX4_bay_85 1 rfl rfl ?_
          refine x_istore_n (lv' := [(3, .int qcc), (2, .int qcc), (1, .int acc), (0, .ref S)]) dX4_bay_86 rfl (by decide) rfl ?_
          refine x_iload_n dX4_bay_87 0 rfl rfl ?_
          refine x_if_ne (tgt := 93) dX4_bay_88 (by decide) (fun c_88 => ?_) (fun c_88 => ?_)
          · refine x_iload_n dX4_bay_93 0 rfl rfl ?_
            refine x_if_le (tgt := 101) dX4_bay_94 (by decide) (fun c_94 => ?_) (fun c_94 => ?_)
            · refine x_iconst (v := 1) dX4_bay_101 (by decide) ?_
              refine x_iret dX4_bay_102 rfl (Nat.le_refl _) (Nat.le_refl _) ?_
              have hin : i = n := by omega
              subst hin
              refine ⟨?_, rfl⟩
              have hx : (if ¬ acc = 0 then acc else qcc) = qcc := by rw [if_neg (fun q => q c_78)]
              unfold bayF bayX
              rw [← hacc, ← hqcc, hx, if_neg c_88, if_neg (Int32.not_lt.mpr c_94)]
            · refine x_iconst (v := 0) dX4_bay_97 (by decide) ?_
              refine x_goto (tgt := 102) dX4_bay_98 (by decide) ?_
              refine x_iret dX4_bay_102 rfl (Nat.le_refl _) (Nat.le_refl _) ?_
              have hin : i = n := by omega
              subst hin
              refine ⟨?_, rfl⟩
              have hx : (if ¬ acc = 0 then acc else qcc) = qcc := by rw [if_neg (fun q => q c_78)]
              unfold bayF bayX
              rw [← hacc, ← hqcc, hx, if_neg c_88, if_pos (Int32.not_le.mp c_94)]
          · refine x_iconst (v := (-1)) dX4_bay_91 (by decide) ?_
            refine x_iret dX4_bay_92 rfl (Nat.le_refl _) (Nat.le_refl _) ?_
            have hin : i = n := by omega
            subst hin
            refine ⟨?_, rfl⟩
            have hx : (if ¬ acc = 0 then acc else qcc) = qcc := by rw [if_neg (fun q => q c_78)]
            unfold bayF bayX
            rw [← hacc, ← hqcc, hx, if_pos c_88]
        · refine x_iload_n dX4_bay_81 2 rfl rfl ?_
          refine x_goto (tgt := 86) dX4_bay_82 (by decide) ?_
          refine x_istore_n (lv' := [(3, .int acc), (2, .int qcc), (1, .int acc), (0, .ref S)]) dX4_bay_86 rfl (by decide) rfl ?_
          refine x_iload_n dX4_bay_87 0 rfl rfl ?_
          refine x_if_ne (tgt := 93) dX4_bay_88 (by decide) (fun c_88 => ?_) (fun c_88 => ?_)
          · refine x_iload_n dX4_bay_93 0 rfl rfl ?_
            refine x_if_le (tgt := 101) dX4_bay_94 (by decide) (fun c_94 => ?_) (fun c_94 => ?_)
            · refine x_iconst (v := 1) dX4_bay_101 (by decide) ?_
              refine x_iret dX4_bay_102 rfl (Nat.le_refl _) (Nat.le_refl _) ?_
              have hin : i = n := by omega
              subst hin
              refine ⟨?_, rfl⟩
              have hx : (if ¬ acc = 0 then acc else qcc) = acc := if_pos c_78
              unfold bayF bayX
              rw [← hacc, ← hqcc, hx, if_neg c_88, if_neg (Int32.not_lt.mpr c_94)]
            · refine x_iconst (v := 0) dX4_bay_97 (by decide) ?_
              refine x_goto (tgt := 102) dX4_bay_98 (by decide) ?_
              refine x_iret dX4_bay_102 rfl (Nat.le_refl _) (Nat.le_refl _) ?_
              have hin : i = n := by omega
              subst hin
              refine ⟨?_, rfl⟩
              have hx : (if ¬ acc = 0 then acc else qcc) = acc := if_pos c_78
              unfold bayF bayX
              rw [← hacc, ← hqcc, hx, if_neg c_88, if_pos (Int32.not_le.mp c_94)]
          · refine x_iconst (v := (-1)) dX4_bay_91 (by decide) ?_
            refine x_iret dX4_bay_92 rfl (Nat.le_refl _) (Nat.le_refl _) ?_
            have hin : i = n := by omega
            subst hin
            refine ⟨?_, rfl⟩
            have hx : (if ¬ acc = 0 then acc else qcc) = acc := if_pos c_78
            unfold bayF bayX
            rw [← hacc, ← hqcc, hx, if_pos c_88]
      · have c_17 : ¬ 8 ≤ i := fun q => c_17 ((nI_leI (a := 8) (b := i) (by omega) (by omega)).mpr q)
        refine x_aload_n dX4_bay_20 3 rfl rfl ?_
        refine x_gR (b := S + 1) dX4_bay_21 fl_4_11 rfl hS.1 hR.1 ?_
        refine x_iload_n dX4_bay_24 0 rfl rfl ?_
        refine x_aa (j := i) (b := S + 2 + i) dX4_bay_25 hS.2.1 (by decide) (by decide) rfl (by omega) (by omega) (hR.2 i (by omega)) ?_
        refine x_astore (lv' := [(4, .ref (S + 2 + i)), (3, .int (nI i)), (2, .int qcc), (1, .int acc), (0, .ref S)]) dX4_bay_26 (by decide) rfl ?_
        refine x_aload dX4_bay_28 0 rfl ?_
        refine x_gI (v := I (S + 2 + i) 3) dX4_bay_30 fl_4_88 rfl (hS.2.2 i (by omega)) rfl ?_
        refine x_if_ne (tgt := 40) dX4_bay_33 (by decide) (fun c_33 => ?_) (fun c_33 => ?_)
        · refine x_iconst (v := (-1)) dX4_bay_40 (by decide) ?_
          refine x_istore (lv' := [(5, .int (-1)), (4, .ref (S + 2 + i)), (3, .int (nI i)), (2, .int qcc), (1, .int acc), (0, .ref S)]) dX4_bay_41 (by decide) rfl ?_
          refine x_iload_n dX4_bay_43 4 rfl rfl ?_
          refine x_aload dX4_bay_44 1 rfl ?_
          refine x_callV (k_stands (G := G) (Sh := Sh) (I := I) (R := R) (f := S + 2 + i) (hS.2.2 i (by omega))) dX4_bay_46 crc_X0_stands vc_4_66 (hS.2.2 i (by omega)) rfl rfl rfl rfl (Nat.le_of_ble_eq_true rfl) (roomy_k (by omega) (by decide)) (Nat.le_refl _) (Nat.le_refl _) ?_
          rintro _ _ ⟨rs, rfl, hrs, rfl⟩
          subst hrs
          refine x_if_eqB (tgt := 57) dX4_bay_49 (by decide) (fun c_49 => ?_) (fun c_49 => ?_)
          · refine x_iconst (v := 0) dX4_bay_57 (by decide) ?_
            refine x_iadd dX4_bay_58 ?_
            refine x_topi (fun xq1 e_xq1 => ?_)
            refine x_istore_n (lv' := [(1, .int xq1), (5, .int (-1)), (4, .ref (S + 2 + i)), (3, .int (nI i)), (2, .int qcc), (0, .ref S)]) dX4_bay_59 rfl (by decide) rfl ?_
            refine x_iload_n dX4_bay_60 4 rfl rfl ?_
            refine x_iload dX4_bay_61 1 rfl ?_
            refine x_aload dX4_bay_63 2 rfl ?_
            refine x_gI (v := I (S + 2 + i) 4) dX4_bay_65 fl_4_60 rfl (hS.2.2 i (by omega)) rfl ?_
            refine x_imul dX4_bay_68 ?_
            refine x_iadd dX4_bay_69 ?_
            refine x_topi (fun xq2 e_xq2 => ?_)
            refine x_istore_n (lv' := [(2, .int xq2), (1, .int xq1), (5, .int (-1)), (4, .ref (S + 2 + i)), (3, .int (nI i)), (0, .ref S)]) dX4_bay_70 rfl (by decide) rfl ?_
            refine x_iinc (v := nI (i + 1)) (lv' := [(3, .int (nI (i + 1))), (2, .int xq2), (1, .int xq1), (5, .int (-1)), (4, .ref (S + 2 + i)), (0, .ref S)]) dX4_bay_71 4 rfl (nI_1 i) (by decide) rfl ?_
            refine x_goto (tgt := 6) dX4_bay_74 (by decide) ?_
            refine x_sub [0, 1, 2, 5] rfl ?_
            have hsd : sideF v i = (-1) := by
              unfold sideF
              rw [← hv.1 i (by omega) 3 (by omega), if_neg c_33]
            exact ih (i + 1) xq1 xq2 (by omega) (by omega) (by
              unfold bayM at *
              rw [fd_s, ← hacc, ← hv.1 i (by omega) 4 (by omega), if_neg c_49, e_xq1, Int32.add_zero]) (by
              unfold bayQ at *
              rw [fd_s, ← hqcc, hsd, ← hv.1 i (by omega) 4 (by omega), e_xq2])
          · refine x_iload dX4_bay_52 0 rfl ?_
            refine x_goto (tgt := 58) dX4_bay_54 (by decide) ?_
            refine x_iadd dX4_bay_58 ?_
            refine x_topi (fun xq3 e_xq3 => ?_)
            refine x_istore_n (lv' := [(1, .int xq3), (5, .int (-1)), (4, .ref (S + 2 + i)), (3, .int (nI i)), (2, .int qcc), (0, .ref S)]) dX4_bay_59 rfl (by decide) rfl ?_
            refine x_iload_n dX4_bay_60 4 rfl rfl ?_
            refine x_iload dX4_bay_61 1 rfl ?_
            refine x_aload dX4_bay_63 2 rfl ?_
            refine x_gI (v := I (S + 2 + i) 4) dX4_bay_65 fl_4_60 rfl (hS.2.2 i (by omega)) rfl ?_
            refine x_imul dX4_bay_68 ?_
            refine x_iadd dX4_bay_69 ?_
            refine x_topi (fun xq4 e_xq4 => ?_)
            refine x_istore_n (lv' := [(2, .int xq4), (1, .int xq3), (5, .int (-1)), (4, .ref (S + 2 + i)), (3, .int (nI i)), (0, .ref S)]) dX4_bay_70 rfl (by decide) rfl ?_
            refine x_iinc (v := nI (i + 1)) (lv' := [(3, .int (nI (i + 1))), (2, .int xq4), (1, .int xq3), (5, .int (-1)), (4, .ref (S + 2 + i)), (0, .ref S)]) dX4_bay_71 4 rfl (nI_1 i) (by decide) rfl ?_
            refine x_goto (tgt := 6) dX4_bay_74 (by decide) ?_
            refine x_sub [0, 1, 2, 5] rfl ?_
            have hsd : sideF v i = (-1) := by
              unfold sideF
              rw [← hv.1 i (by omega) 3 (by omega), if_neg c_33]
            exact ih (i + 1) xq3 xq4 (by omega) (by omega) (by
              unfold bayM at *
              rw [fd_s, ← hacc, ← hv.1 i (by omega) 4 (by omega), if_pos c_49, e_xq3, hsd]) (by
              unfold bayQ at *
              rw [fd_s, ← hqcc, hsd, ← hv.1 i (by omega) 4 (by omega), e_xq4])
        · refine x_iconst (v := 1) dX4_bay_36 (by decide) ?_
          refine x_goto (tgt := 41) dX4_bay_37 (by decide) ?_
          refine x_istore (lv' := [(5, .int 1), (4, .ref (S + 2 + i)), (3, .int (nI i)), (2, .int qcc), (1, .int acc), (0, .ref S)]) dX4_bay_41 (by decide) rfl ?_
          refine x_iload_n dX4_bay_43 4 rfl rfl ?_
          refine x_aload dX4_bay_44 1 rfl ?_
          refine x_callV (k_stands (G := G) (Sh := Sh) (I := I) (R := R) (f := S + 2 + i) (hS.2.2 i (by omega))) dX4_bay_46 crc_X0_stands vc_4_66 (hS.2.2 i (by omega)) rfl rfl rfl rfl (Nat.le_of_ble_eq_true rfl) (roomy_k (by omega) (by decide)) (Nat.le_refl _) (Nat.le_refl _) ?_
          rintro _ _ ⟨rs, rfl, hrs, rfl⟩
          subst hrs
          refine x_if_eqB (tgt := 57) dX4_bay_49 (by decide) (fun c_49 => ?_) (fun c_49 => ?_)
          · refine x_iconst (v := 0) dX4_bay_57 (by decide) ?_
            refine x_iadd dX4_bay_58 ?_
            refine x_topi (fun xq5 e_xq5 => ?_)
            refine x_istore_n (lv' := [(1, .int xq5), (5, .int 1), (4, .ref (S + 2 + i)), (3, .int (nI i)), (2, .int qcc), (0, .ref S)]) dX4_bay_59 rfl (by decide) rfl ?_
            refine x_iload_n dX4_bay_60 4 rfl rfl ?_
            refine x_iload dX4_bay_61 1 rfl ?_
            refine x_aload dX4_bay_63 2 rfl ?_
            refine x_gI (v := I (S + 2 + i) 4) dX4_bay_65 fl_4_60 rfl (hS.2.2 i (by omega)) rfl ?_
            refine x_imul dX4_bay_68 ?_
            refine x_iadd dX4_bay_69 ?_
            refine x_topi (fun xq6 e_xq6 => ?_)
            refine x_istore_n (lv' := [(2, .int xq6), (1, .int xq5), (5, .int 1), (4, .ref (S + 2 + i)), (3, .int (nI i)), (0, .ref S)]) dX4_bay_70 rfl (by decide) rfl ?_
            refine x_iinc (v := nI (i + 1)) (lv' := [(3, .int (nI (i + 1))), (2, .int xq6), (1, .int xq5), (5, .int 1), (4, .ref (S + 2 + i)), (0, .ref S)]) dX4_bay_71 4 rfl (nI_1 i) (by decide) rfl ?_
            refine x_goto (tgt := 6) dX4_bay_74 (by decide) ?_
            refine x_sub [0, 1, 2, 5] rfl ?_
            have hsd : sideF v i = 1 := by
              unfold sideF
              rw [← hv.1 i (by omega) 3 (by omega), if_pos c_33]
            exact ih (i + 1) xq5 xq6 (by omega) (by omega) (by
              unfold bayM at *
              rw [fd_s, ← hacc, ← hv.1 i (by omega) 4 (by omega), if_neg c_49, e_xq5, Int32.add_zero]) (by
              unfold bayQ at *
              rw [fd_s, ← hqcc, hsd, ← hv.1 i (by omega) 4 (by omega), e_xq6])
          · refine x_iload dX4_bay_52 0 rfl ?_
            refine x_goto (tgt := 58) dX4_bay_54 (by decide) ?_
            refine x_iadd dX4_bay_58 ?_
            refine x_topi (fun xq7 e_xq7 => ?_)
            refine x_istore_n (lv' := [(1, .int xq7), (5, .int 1), (4, .ref (S + 2 + i)), (3, .int (nI i)), (2, .int qcc), (0, .ref S)]) dX4_bay_59 rfl (by decide) rfl ?_
            refine x_iload_n dX4_bay_60 4 rfl rfl ?_
            refine x_iload dX4_bay_61 1 rfl ?_
            refine x_aload dX4_bay_63 2 rfl ?_
            refine x_gI (v := I (S + 2 + i) 4) dX4_bay_65 fl_4_60 rfl (hS.2.2 i (by omega)) rfl ?_
            refine x_imul dX4_bay_68 ?_
            refine x_iadd dX4_bay_69 ?_
            refine x_topi (fun xq8 e_xq8 => ?_)
            refine x_istore_n (lv' := [(2, .int xq8), (1, .int xq7), (5, .int 1), (4, .ref (S + 2 + i)), (3, .int (nI i)), (0, .ref S)]) dX4_bay_70 rfl (by decide) rfl ?_
            refine x_iinc (v := nI (i + 1)) (lv' := [(3, .int (nI (i + 1))), (2, .int xq8), (1, .int xq7), (5, .int 1), (4, .ref (S + 2 + i)), (0, .ref S)]) dX4_bay_71 4 rfl (nI_1 i) (by decide) rfl ?_
            refine x_goto (tgt := 6) dX4_bay_74 (by decide) ?_
            refine x_sub [0, 1, 2, 5] rfl ?_
            have hsd : sideF v i = 1 := by
              unfold sideF
              rw [← hv.1 i (by omega) 3 (by omega), if_pos c_33]
            exact ih (i + 1) xq7 xq8 (by omega) (by omega) (by
              unfold bayM at *
              rw [fd_s, ← hacc, ← hv.1 i (by omega) 4 (by omega), if_pos c_49, e_xq7, hsd]) (by
              unfold bayQ at *
              rw [fd_s, ← hqcc, hsd, ← hv.1 i (by omega) 4 (by omega), e_xq8])

set_option maxHeartbeats 4000000 in
set_option maxRecDepth 100000 in
theorem k_bay {G : GG} {Sh : HS} {I : HI} {R : HR} {S T n : Nat} {P : Nat → List Int32} {v : SV} (w : SW Sh I R S T n P) (hv : SR I S n v) : AM G 2 0 0 yX4_bay cX4_bay 6 (some .int) [.ref S] (Sh, I, R) (qi fun r g => r = bayF n v ∧ g = (Sh, I, R)) := by
  refine am_intro (by decide) (Nat.le_of_ble_eq_true rfl) ?_
  refine x_iconst (v := 0) dX4_bay_0 (by decide) ?_
  refine x_istore_n (lv' := [(1, .int 0), (0, .ref S)]) dX4_bay_1 rfl (by decide) rfl ?_
  refine x_iconst (v := 0) dX4_bay_2 (by decide) ?_
  refine x_istore_n (lv' := [(2, .int 0), (1, .int 0), (0, .ref S)]) dX4_bay_3 rfl (by decide) rfl ?_
  refine x_iconst (v := 0) dX4_bay_4 (by decide) ?_
  refine x_istore_n (lv' := [(3, .int 0), (2, .int 0), (1, .int 0), (0, .ref S)]) dX4_bay_5 rfl (by decide) rfl ?_
  exact k_bay_l w hv (n + 1) 0 0 0 (by omega) (by omega) rfl rfl

set_option maxHeartbeats 4000000 in
set_option maxRecDepth 100000 in
theorem k_valueOf_l {G : GG} {Sh : HS} {I : HI} {R : HR} {S T n : Nat} {P : Nat → List Int32} {v : SV} (w : SW Sh I R S T n P) (hv : SR I S n v) {r : Int32} : ∀ (m : Nat) (i : Nat) (acc : Int32) (J : HI), (i ≤ n) → (n < i + m) → (offT T I J) → (acc = valueG P n r v i) → X G (kM G 5 0 0 (qi fun x g => x = valueF P n r v ∧ ∃ J : HI, offT T I J ∧ g = (Sh, J, R))) yX4_valueOf cX4_valueOf 6 (some .int) 0 0 4 [(3, .int (nI i)), (2, .int acc), (0, .ref S), (1, .int r)] [] (Sh, J, R) := by
  intro m
  induction m with
  | zero =>
    intro i acc J hi hm hoff hacc
    exact absurd hm (by omega)
  | succ m ih =>
    intro i acc J hi hm hoff hacc
    obtain ⟨hS, hR, hn, hn8, hrl, hT, hRT, hTX, hTS⟩ := id w
    refine x_iload_n dX4_valueOf_4 0 rfl rfl ?_
    refine x_aload_n dX4_valueOf_5 2 rfl rfl ?_
    refine x_gI (v := nI n) dX4_valueOf_6 fl_4_22 rfl hS.1 ((hoff.out (by omega)).trans hn) ?_
    refine x_icmp_ge (tgt := 72) dX4_valueOf_9 (by decide) (fun c_9 => ?_) (fun c_9 => ?_)
    · have c_9 : n ≤ i := (nI_leI (a := n) (b := i) (by omega) (by omega)).mp c_9
      refine x_iload_n dX4_valueOf_72 1 rfl rfl ?_
      refine x_iret dX4_valueOf_73 rfl (Nat.le_refl _) (Nat.le_refl _) ?_
      have hin : i = n := by omega
      subst hin
      exact ⟨hacc, J, hoff, rfl⟩
    · have c_9 : ¬ n ≤ i := fun q => c_9 ((nI_leI (a := n) (b := i) (by omega) (by omega)).mpr q)
      refine x_iload_n dX4_valueOf_12 0 rfl rfl ?_
      refine x_bipush (v := 8) dX4_valueOf_13 (by decide) ?_
      refine x_icmp_ge (tgt := 72) dX4_valueOf_15 (by decide) (fun c_15 => ?_) (fun c_15 => ?_)
      · have c_15 : 8 ≤ i := (nI_leI (a := 8) (b := i) (by omega) (by omega)).mp c_15
        refine x_iload_n dX4_valueOf_72 1 rfl rfl ?_
        refine x_iret dX4_valueOf_73 rfl (Nat.le_refl _) (Nat.le_refl _) ?_
        have hin : i = n := by omega
        subst hin
        exact ⟨hacc, J, hoff, rfl⟩
      · have c_15 : ¬ 8 ≤ i := fun q => c_15 ((nI_leI (a := 8) (b := i) (by omega) (by omega)).mpr q)
        refine x_aload_n dX4_valueOf_18 2 rfl rfl ?_
        refine x_gR (b := S + 1) dX4_valueOf_19 fl_4_11 rfl hS.1 hR.1 ?_
        refine x_iload_n dX4_valueOf_22 0 rfl rfl ?_
        refine x_aa (j := i) (b := S + 2 + i) dX4_valueOf_23 hS.2.1 (by decide) (by decide) rfl (by omega) (by omega) (hR.2 i (by omega)) ?_
        refine x_astore (lv' := [(4, .ref (S + 2 + i)), (3, .int (nI i)), (2, .int acc), (0, .ref S), (1, .int r)]) dX4_valueOf_24 (by decide) rfl ?_
        refine x_aload dX4_valueOf_26 0 rfl ?_
        refine x_callV (k_stands (G := G) (Sh := Sh) (I := J) (R := R) (f := S + 2 + i) (hS.2.2 i (by omega))) dX4_valueOf_28 crc_X0_stands vc_4_66 (hS.2.2 i (by omega)) rfl rfl rfl rfl (Nat.le_of_ble_eq_true rfl) (roomy_k (by omega) (by decide)) (Nat.le_refl _) (Nat.le_refl _) ?_
        rintro _ _ ⟨rs, rfl, hrs, rfl⟩
        subst hrs
        refine x_if_eqB (tgt := 66) dX4_valueOf_31 (by decide) (fun c_31 => ?_) (fun c_31 => ?_)
        · refine x_iinc (v := nI (i + 1)) (lv' := [(3, .int (nI (i + 1))), (4, .ref (S + 2 + i)), (2, .int acc), (0, .ref S), (1, .int r)]) dX4_valueOf_66 1 rfl (nI_1 i) (by decide) rfl ?_
          refine x_goto (tgt := 4) dX4_valueOf_69 (by decide) ?_
          refine x_sub [0, 2, 3, 4] rfl ?_
          exact ih (i + 1) acc J (by omega) (by omega) hoff (by
            unfold valueG at *
            rw [fd_s, ← hacc, ← (hv.off hoff hTS).1 i (by omega) 4 (by omega), if_neg c_31])
        · refine x_aload_n dX4_valueOf_34 3 rfl rfl ?_
          refine x_gR (b := T) dX4_valueOf_35 fl_4_17 rfl hS.1 hrl ?_
          refine x_aload_n dX4_valueOf_38 3 rfl rfl ?_
          refine x_aload dX4_valueOf_39 0 rfl ?_
          refine x_callV (k_worthOf (G := G) (I := J) (w.off hoff) (f := S + 2 + i) (hS.2.2 i (by omega)) (by omega)) dX4_valueOf_41 crc_X6_worthOf vc_4_91 hT.1 rfl rfl rfl rfl (Nat.le_of_ble_eq_true rfl) (roomy_k (by omega) (by decide)) (Nat.le_refl _) (Nat.le_refl _) ?_
          rintro _ _ ⟨rw_, rfl, hrw, I2, hoff2, rfl⟩
          refine x_istore (lv' := [(5, .int rw_), (4, .ref (S + 2 + i)), (3, .int (nI i)), (2, .int acc), (0, .ref S), (1, .int r)]) dX4_valueOf_44 (by decide) rfl ?_
          refine x_iload_n dX4_valueOf_46 3 rfl rfl ?_
          refine x_aload dX4_valueOf_47 1 rfl ?_
          refine x_gI (v := I2 (S + 2 + i) 3) dX4_valueOf_49 fl_4_88 rfl (hS.2.2 i (by omega)) rfl ?_
          refine x_iload_n dX4_valueOf_52 5 rfl rfl ?_
          refine x_icmp_ne (tgt := 61) dX4_valueOf_53 (by decide) (fun c_53 => ?_) (fun c_53 => ?_)
          · refine x_iload dX4_valueOf_61 0 rfl ?_
            refine x_ineg dX4_valueOf_63 ?_
            refine x_iadd dX4_valueOf_64 ?_
            refine x_topi (fun xq1 e_xq1 => ?_)
            refine x_istore_n (lv' := [(2, .int xq1), (5, .int rw_), (4, .ref (S + 2 + i)), (3, .int (nI i)), (0, .ref S), (1, .int r)]) dX4_valueOf_65 rfl (by decide) rfl ?_
            refine x_iinc (v := nI (i + 1)) (lv' := [(3, .int (nI (i + 1))), (2, .int xq1), (5, .int rw_), (4, .ref (S + 2 + i)), (0, .ref S), (1, .int r)]) dX4_valueOf_66 3 rfl (nI_1 i) (by decide) rfl ?_
            refine x_goto (tgt := 4) dX4_valueOf_69 (by decide) ?_
            refine x_sub [0, 1, 4, 5] rfl ?_
            exact ih (i + 1) xq1 I2 (by omega) (by omega) (hoff.tr hoff2) (by
              have hs := hv.off hoff hTS
              unfold valueG at *
              rw [fd_s, ← hacc, ← hs.1 i (by omega) 4 (by omega), if_pos c_31, ← hs.1 i (by omega) 3 (by omega), ← hoff2.out (a := S + 2 + i) (k := 3) (by omega), if_neg c_53, e_xq1, hrw, cx_cF hs (by omega)]
              rfl)
          · refine x_iload dX4_valueOf_56 0 rfl ?_
            refine x_goto (tgt := 64) dX4_valueOf_58 (by decide) ?_
            refine x_iadd dX4_valueOf_64 ?_
            refine x_topi (fun xq2 e_xq2 => ?_)
            refine x_istore_n (lv' := [(2, .int xq2), (5, .int rw_), (4, .ref (S + 2 + i)), (3, .int (nI i)), (0, .ref S), (1, .int r)]) dX4_valueOf_65 rfl (by decide) rfl ?_
            refine x_iinc (v := nI (i + 1)) (lv' := [(3, .int (nI (i + 1))), (2, .int xq2), (5, .int rw_), (4, .ref (S + 2 + i)), (0, .ref S), (1, .int r)]) dX4_valueOf_66 3 rfl (nI_1 i) (by decide) rfl ?_
            refine x_goto (tgt := 4) dX4_valueOf_69 (by decide) ?_
            refine x_sub [0, 1, 4, 5] rfl ?_
            exact ih (i + 1) xq2 I2 (by omega) (by omega) (hoff.tr hoff2) (by
              have hs := hv.off hoff hTS
              unfold valueG at *
              rw [fd_s, ← hacc, ← hs.1 i (by omega) 4 (by omega), if_pos c_31, ← hs.1 i (by omega) 3 (by omega), ← hoff2.out (a := S + 2 + i) (k := 3) (by omega), if_pos c_53, e_xq2, hrw, cx_cF hs (by omega)]
              rfl)

set_option maxHeartbeats 4000000 in
set_option maxRecDepth 100000 in
theorem k_valueOf {G : GG} {Sh : HS} {I : HI} {R : HR} {S T n : Nat} {P : Nat → List Int32} {v : SV} (w : SW Sh I R S T n P) (hv : SR I S n v) {r : Int32} : AM G 5 0 0 yX4_valueOf cX4_valueOf 6 (some .int) [.ref S, .int r] (Sh, I, R) (qi fun x g => x = valueF P n r v ∧ ∃ J : HI, offT T I J ∧ g = (Sh, J, R)) := by
  refine am_intro (by decide) (Nat.le_of_ble_eq_true rfl) ?_
  refine x_iconst (v := 0) dX4_valueOf_0 (by decide) ?_
  refine x_istore_n (lv' := [(2, .int 0), (0, .ref S), (1, .int r)]) dX4_valueOf_1 rfl (by decide) rfl ?_
  refine x_iconst (v := 0) dX4_valueOf_2 (by decide) ?_
  refine x_istore_n (lv' := [(3, .int 0), (2, .int 0), (0, .ref S), (1, .int r)]) dX4_valueOf_3 rfl (by decide) rfl ?_
  exact k_valueOf_l w hv (n + 1) 0 0 I (by omega) (by omega) offT.rf rfl

set_option maxHeartbeats 4000000 in
set_option maxRecDepth 100000 in
theorem k_isFort {G : GG} {Sh : HS} {I : HI} {R : HR} {k nu p : Int32} : AM G 1 0 0 yX4_isFort cX4_isFort 3 (some .boolean) [.int k, .int nu, .int p] (Sh, I, R) (qi fun r g => r = bI (0 ≤ k ∧ k < 6 ∧ 0 ≤ nu ∧ nu < 10 ∧ 0 ≤ p ∧ p < 16) ∧ g = (Sh, I, R)) := by
  refine am_intro (by decide) (Nat.le_of_ble_eq_true rfl) ?_
  refine x_iload_n dX4_isFort_0 0 rfl rfl ?_
  refine x_if_lt (tgt := 34) dX4_isFort_1 (by decide) (fun c_1 => ?_) (fun c_1 => ?_)
  · refine x_iconst (v := 0) dX4_isFort_34 (by decide) ?_
    refine x_zret dX4_isFort_35 rfl rfl (Nat.le_refl _) (Nat.le_refl _) ?_
    exact ⟨(bI_f (fun q => absurd c_1 (Int32.not_lt.mpr q.1))).symm, rfl⟩
  · refine x_iload_n dX4_isFort_4 0 rfl rfl ?_
    refine x_bipush (v := 6) dX4_isFort_5 (by decide) ?_
    refine x_icmp_ge (tgt := 34) dX4_isFort_7 (by decide) (fun c_7 => ?_) (fun c_7 => ?_)
    · refine x_iconst (v := 0) dX4_isFort_34 (by decide) ?_
      refine x_zret dX4_isFort_35 rfl rfl (Nat.le_refl _) (Nat.le_refl _) ?_
      exact ⟨(bI_f (fun q => absurd c_7 (Int32.not_le.mpr q.2.1))).symm, rfl⟩
    · refine x_iload_n dX4_isFort_10 1 rfl rfl ?_
      refine x_if_lt (tgt := 34) dX4_isFort_11 (by decide) (fun c_11 => ?_) (fun c_11 => ?_)
      · refine x_iconst (v := 0) dX4_isFort_34 (by decide) ?_
        refine x_zret dX4_isFort_35 rfl rfl (Nat.le_refl _) (Nat.le_refl _) ?_
        exact ⟨(bI_f (fun q => absurd c_11 (Int32.not_lt.mpr q.2.2.1))).symm, rfl⟩
      · refine x_iload_n dX4_isFort_14 1 rfl rfl ?_
        refine x_bipush (v := 10) dX4_isFort_15 (by decide) ?_
        refine x_icmp_ge (tgt := 34) dX4_isFort_17 (by decide) (fun c_17 => ?_) (fun c_17 => ?_)
        · refine x_iconst (v := 0) dX4_isFort_34 (by decide) ?_
          refine x_zret dX4_isFort_35 rfl rfl (Nat.le_refl _) (Nat.le_refl _) ?_
          exact ⟨(bI_f (fun q => absurd c_17 (Int32.not_le.mpr q.2.2.2.1))).symm, rfl⟩
        · refine x_iload_n dX4_isFort_20 2 rfl rfl ?_
          refine x_if_lt (tgt := 34) dX4_isFort_21 (by decide) (fun c_21 => ?_) (fun c_21 => ?_)
          · refine x_iconst (v := 0) dX4_isFort_34 (by decide) ?_
            refine x_zret dX4_isFort_35 rfl rfl (Nat.le_refl _) (Nat.le_refl _) ?_
            exact ⟨(bI_f (fun q => absurd c_21 (Int32.not_lt.mpr q.2.2.2.2.1))).symm, rfl⟩
          · refine x_iload_n dX4_isFort_24 2 rfl rfl ?_
            refine x_bipush (v := 16) dX4_isFort_25 (by decide) ?_
            refine x_icmp_ge (tgt := 34) dX4_isFort_27 (by decide) (fun c_27 => ?_) (fun c_27 => ?_)
            · refine x_iconst (v := 0) dX4_isFort_34 (by decide) ?_
              refine x_zret dX4_isFort_35 rfl rfl (Nat.le_refl _) (Nat.le_refl _) ?_
              exact ⟨(bI_f (fun q => absurd c_27 (Int32.not_le.mpr q.2.2.2.2.2))).symm, rfl⟩
            · refine x_iconst (v := 1) dX4_isFort_30 (by decide) ?_
              refine x_goto (tgt := 35) dX4_isFort_31 (by decide) ?_
              refine x_zret dX4_isFort_35 rfl rfl (Nat.le_refl _) (Nat.le_refl _) ?_
              exact ⟨(bI_t ⟨Int32.not_lt.mp c_1, Int32.not_le.mp c_7, Int32.not_lt.mp c_11, Int32.not_le.mp c_17, Int32.not_lt.mp c_21, Int32.not_le.mp c_27⟩).symm, rfl⟩

set_option maxHeartbeats 4000000 in
set_option maxRecDepth 100000 in
theorem k_add {G : GG} {Sh : HS} {I : HI} {R : HR} {S n : Nat} (hS : ShS Sh S) (hR : RS R S) (hn : I S 1 = nI n) (hn8 : n ≤ 8) {k nu p : Int32} : AM G 2 0 0 yX4_add cX4_add 4 (some .int) [.ref S, .int k, .int nu, .int p] (Sh, I, R) (qi fun r g => (n < 8 ∧ r = nI n ∧ g = (Sh, u2 (u2 (u2 (u2 (u2 (u2 I (S + 2 + n) 0 k) (S + 2 + n) 1 nu) (S + 2 + n) 2 p) (S + 2 + n) 3 0) (S + 2 + n) 4 20) S 1 (nI (n + 1)), R)) ∨ (n = 8 ∧ r = -4 ∧ g = (Sh, I, R))) := by
  refine am_intro (by decide) (Nat.le_of_ble_eq_true rfl) ?_
  refine x_aload_n dX4_add_0 0 rfl rfl ?_
  refine x_gI (v := nI n) dX4_add_1 fl_4_22 rfl hS.1 hn ?_
  refine x_if_lt (tgt := 16) dX4_add_4 (by decide) (fun c_4 => False.elim (nI_pos (by omega) c_4)) (fun c_4 => ?_)
  refine x_aload_n dX4_add_7 0 rfl rfl ?_
  refine x_gI (v := nI n) dX4_add_8 fl_4_22 rfl hS.1 hn ?_
  refine x_bipush (v := 8) dX4_add_11 (by decide) ?_
  refine x_icmp_lt (tgt := 19) dX4_add_13 (by decide) (fun c_13 => ?_) (fun c_13 => ?_)
  · have c_13 : n < 8 := (nI_ltI (a := n) (b := 8) (by omega) (by omega)).mp c_13
    refine x_aload_n dX4_add_19 0 rfl rfl ?_
    refine x_gR (b := S + 1) dX4_add_20 fl_4_11 rfl hS.1 hR.1 ?_
    refine x_aload_n dX4_add_23 0 rfl rfl ?_
    refine x_gI (v := nI n) dX4_add_24 fl_4_22 rfl hS.1 hn ?_
    refine x_aa (j := n) (b := S + 2 + n) dX4_add_27 hS.2.1 (by decide) (by decide) rfl (by omega) (by omega) (hR.2 n (by omega)) ?_
    refine x_iload_n dX4_add_28 1 rfl rfl ?_
    refine x_iload_n dX4_add_29 2 rfl rfl ?_
    refine x_iload_n dX4_add_30 3 rfl rfl ?_
    refine x_callV (k_begin (G := G) (Sh := Sh) (I := I) (R := R) (f := S + 2 + n) (k := k) (n := nu) (p := p) (hS.2.2 n (by omega))) dX4_add_31 crc_X0_begin vc_4_26 (hS.2.2 n (by omega)) rfl rfl rfl rfl (Nat.le_of_ble_eq_true rfl) (roomy_k (by omega) (by decide)) (Nat.le_refl _) (Nat.le_refl _) ?_
    rintro _ _ ⟨rfl, rfl⟩
    generalize hJ : u2 (u2 (u2 (u2 (u2 I (S + 2 + n) 0 k) (S + 2 + n) 1 nu) (S + 2 + n) 2 p) (S + 2 + n) 3 0) (S + 2 + n) 4 20 = J
    refine x_aload_n dX4_add_34 0 rfl rfl ?_
    refine x_dup dX4_add_35 rfl ?_
    refine x_gI (v := nI n) dX4_add_36 fl_4_22 rfl hS.1 (by rw [← hJ, u2_ne (by omega), u2_ne (by omega), u2_ne (by omega), u2_ne (by omega), u2_ne (by omega)]; exact hn) ?_
    refine x_iconst (v := 1) dX4_add_39 (by decide) ?_
    refine x_iadd dX4_add_40 ?_
    refine x_pI dX4_add_41 fl_4_22 rfl rfl rfl hS.1 (fun Iq1 e_Iq1 => ?_)
    refine x_aload_n dX4_add_44 0 rfl rfl ?_
    refine x_gI (v := nI (n + 1)) dX4_add_45 fl_4_22 rfl hS.1 (by rw [e_Iq1]; exact u2_same.trans (nI_1 n)) ?_
    refine x_iconst (v := 1) dX4_add_48 (by decide) ?_
    refine x_isub dX4_add_49 ?_
    refine x_iret dX4_add_50 rfl (Nat.le_refl _) (Nat.le_refl _) ?_
    rw [e_Iq1, ← hJ]
    exact Or.inl ⟨by omega, nI_pred n, by rw [show nI n + 1 = nI (n + 1) from nI_1 n]⟩
  · have c_13 : ¬ n < 8 := fun q => c_13 ((nI_ltI (a := n) (b := 8) (by omega) (by omega)).mpr q)
    refine x_bipush (v := (-4)) dX4_add_16 (by decide) ?_
    refine x_iret dX4_add_18 rfl (Nat.le_refl _) (Nat.le_refl _) ?_
    exact Or.inr ⟨by omega, rfl, rfl⟩

set_option maxHeartbeats 4000000 in
set_option maxRecDepth 100000 in
theorem k_stake_l {G : GG} {Sh : HS} {I : HI} {R : HR} {S U T : Nat} (hS : ShS Sh S) (hR : RS R S) (hU : ShS Sh U) (hRU : RS R U) (hrl : R U 4 = some T) (hne : S + 10 ≤ U ∨ U + 10 ≤ S) (hTS : Sh.2 T = (6, 7)) : ∀ (m : Nat) (i : Nat) (J : HI), (i ≤ 8) → (8 < i + m) → (∀ j, j < i → ∀ k, k < 5 → J (S + 2 + j) k = I (U + 2 + j) k) → (∀ a k, ¬ (S + 2 ≤ a ∧ a < S + 10) → J a k = I a k) → X G (kM G 2 0 0 (qv fun g => ∃ J : HI, g = (Sh, J, u2 R S 4 (some T)) ∧ (∀ i, i < 8 → ∀ k, k < 5 → J (S + 2 + i) k = I (U + 2 + i) k) ∧ J S 1 = I U 1 ∧ J S 2 = I U 2 ∧ J S 3 = I U 3 ∧ ∀ a k, ¬ (S ≤ a ∧ a < S + 10) → J a k = I a k)) yX4_take cX4_take 3 none 0 0 2 [(2, .int (nI i)), (0, .ref S), (1, .ref U)] [] (Sh, J, R) := by
  intro m
  induction m with
  | zero =>
    intro i J hi hm hdone hfr
    exact absurd hm (by omega)
  | succ m ih =>
    intro i J hi hm hdone hfr
    refine x_iload_n dX4_take_2 0 rfl rfl ?_
    refine x_bipush (v := 8) dX4_take_3 (by decide) ?_
    refine x_icmp_ge (tgt := 29) dX4_take_5 (by decide) (fun c_5 => ?_) (fun c_5 => ?_)
    · have c_5 : 8 ≤ i := (nI_leI (a := 8) (b := i) (by omega) (by omega)).mp c_5
      refine x_aload_n dX4_take_29 1 rfl rfl ?_
      refine x_aload_n dX4_take_30 2 rfl rfl ?_
      refine x_gI (v := I U 1) dX4_take_31 fl_4_22 rfl hU.1 (hfr _ _ (by omega)) ?_
      refine x_pI dX4_take_34 fl_4_22 rfl rfl rfl hS.1 (fun Iq1 e_Iq1 => ?_)
      refine x_aload_n dX4_take_37 1 rfl rfl ?_
      refine x_aload_n dX4_take_38 2 rfl rfl ?_
      refine x_gI (v := I U 2) dX4_take_39 fl_4_34 rfl hU.1 (by rw [e_Iq1, u2_ne (by omega), hfr _ _ (by omega)]) ?_
      refine x_pI dX4_take_42 fl_4_34 rfl rfl rfl hS.1 (fun Iq2 e_Iq2 => ?_)
      refine x_aload_n dX4_take_45 1 rfl rfl ?_
      refine x_aload_n dX4_take_46 2 rfl rfl ?_
      refine x_gI (v := I U 3) dX4_take_47 fl_4_37 rfl hU.1 (by rw [e_Iq2, u2_ne (by omega), e_Iq1, u2_ne (by omega), hfr _ _ (by omega)]) ?_
      refine x_pI dX4_take_50 fl_4_37 rfl rfl rfl hS.1 (fun Iq3 e_Iq3 => ?_)
      refine x_aload_n dX4_take_53 1 rfl rfl ?_
      refine x_aload_n dX4_take_54 2 rfl rfl ?_
      refine x_gR (b := T) dX4_take_55 fl_4_17 rfl hU.1 hrl ?_
      refine x_pR dX4_take_58 fl_4_17 rfl rfl rfl rfl hS.1 (fun Rq4 e_Rq4 => ?_)
      refine x_vret dX4_take_61 rfl (Nat.le_refl _) (Nat.le_refl _) ?_
      have hi8 : i = 8 := by omega
      subst hi8
      refine ⟨Iq3, by rw [e_Rq4], fun j hj k hk => ?_, ?_, ?_, ?_, fun a k q => ?_⟩
      · rw [e_Iq3, u2_ne (by omega), e_Iq2, u2_ne (by omega), e_Iq1, u2_ne (by omega)]
        exact hdone j hj k hk
      · rw [e_Iq3, u2_ne (by omega), e_Iq2, u2_ne (by omega), e_Iq1, u2_same]
      · rw [e_Iq3, u2_ne (by omega), e_Iq2, u2_same]
      · rw [e_Iq3, u2_same]
      · rw [e_Iq3, u2_ne (by omega), e_Iq2, u2_ne (by omega), e_Iq1, u2_ne (by omega)]
        exact hfr a k (by omega)
    · have c_5 : ¬ 8 ≤ i := fun q => c_5 ((nI_leI (a := 8) (b := i) (by omega) (by omega)).mpr q)
      refine x_aload_n dX4_take_8 1 rfl rfl ?_
      refine x_gR (b := S + 1) dX4_take_9 fl_4_11 rfl hS.1 hR.1 ?_
      refine x_iload_n dX4_take_12 0 rfl rfl ?_
      refine x_aa (j := i) (b := S + 2 + i) dX4_take_13 hS.2.1 (by decide) (by decide) rfl (by omega) (by omega) (hR.2 i (by omega)) ?_
      refine x_aload_n dX4_take_14 2 rfl rfl ?_
      refine x_gR (b := U + 1) dX4_take_15 fl_4_11 rfl hU.1 hRU.1 ?_
      refine x_iload_n dX4_take_18 0 rfl rfl ?_
      refine x_aa (j := i) (b := U + 2 + i) dX4_take_19 hU.2.1 (by decide) (by decide) rfl (by omega) (by omega) (hRU.2 i (by omega)) ?_
      refine x_callV (k_take (G := G) (Sh := Sh) (I := J) (R := R) (f := S + 2 + i) (g := U + 2 + i) (hU.2.2 i (by omega)) (by omega) (hS.2.2 i (by omega))) dX4_take_20 crc_X0_take vc_4_30 (hS.2.2 i (by omega)) rfl rfl rfl rfl (Nat.le_of_ble_eq_true rfl) (roomy_k (by omega) (by decide)) (Nat.le_refl _) (Nat.le_refl _) ?_
      rintro _ _ ⟨rfl, J2, rfl, ht1, ht2⟩
      refine x_iinc (v := nI (i + 1)) (lv' := [(2, .int (nI (i + 1))), (0, .ref S), (1, .ref U)]) dX4_take_23 0 rfl (nI_1 i) (by decide) rfl ?_
      refine x_goto (tgt := 2) dX4_take_26 (by decide) ?_
      refine x_sub [0, 1, 2] rfl ?_
      exact ih (i + 1) J2 (by omega) (by omega) (fun j hj k hk => by
        by_cases e : j = i
        · subst e
          rw [ht1 k hk]
          exact hfr _ _ (by omega)
        · rw [ht2 _ _ (by omega)]
          exact hdone j (by omega) k hk) (fun a k q => (ht2 a k (by omega)).trans (hfr a k q))

set_option maxHeartbeats 4000000 in
set_option maxRecDepth 100000 in
theorem k_stake {G : GG} {Sh : HS} {I : HI} {R : HR} {S U T : Nat} (hS : ShS Sh S) (hR : RS R S) (hU : ShS Sh U) (hRU : RS R U) (hrl : R U 4 = some T) (hne : S + 10 ≤ U ∨ U + 10 ≤ S) (hTS : Sh.2 T = (6, 7)) : AM G 2 0 0 yX4_take cX4_take 3 none [.ref S, .ref U] (Sh, I, R) (qv fun g => ∃ J : HI, g = (Sh, J, u2 R S 4 (some T)) ∧ (∀ i, i < 8 → ∀ k, k < 5 → J (S + 2 + i) k = I (U + 2 + i) k) ∧ J S 1 = I U 1 ∧ J S 2 = I U 2 ∧ J S 3 = I U 3 ∧ ∀ a k, ¬ (S ≤ a ∧ a < S + 10) → J a k = I a k) := by
  refine am_intro (by decide) (Nat.le_of_ble_eq_true rfl) ?_
  refine x_iconst (v := 0) dX4_take_0 (by decide) ?_
  refine x_istore_n (lv' := [(2, .int 0), (0, .ref S), (1, .ref U)]) dX4_take_1 rfl (by decide) rfl ?_
  exact k_stake_l hS hR hU hRU hrl hne hTS 9 0 I (by omega) (by omega) (fun j hj => absurd hj (by omega)) (fun _ _ _ => rfl)

