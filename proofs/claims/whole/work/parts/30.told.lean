set_option maxHeartbeats 4000000 in
set_option maxRecDepth 100000 in
theorem k_told {G : GG} {Sh : HS} {I : HI} {R : HR} {b : Nat} {σ : SG} (hc : CI b Sh I R σ) {of w : Int32} : AM G 6 0 0 yX7_told cX7_told 4 (some .int) [.ref b, .int of, .int w] (Sh, I, R) (qi (qryI b Sh I R (toldF σ of w))) := by
  obtain ⟨⟨s0, s1, s2, s3, s4, s5, s6, s7, sT, sS, sA, sB, sC, sG⟩, ⟨r0, r1, r2, r4, r5, r6, r8, r9, rt0, rt2, rt3, rr0, rT, rS, rTT, rSS, rA, rB, rC, rG⟩, hCT, hCK, hCTp, hCIm, hCSe⟩ := id hc
  have hn8 : gN σ ≤ 8 := hCK.2.1
  have hru := hc.ru
  have hs := hc.sr
  have hw := hc.sw
  refine am_intro (by decide) (Nat.le_of_ble_eq_true rfl) ?_
  refine x_iload_n dX7_told_0 2 rfl rfl ?_
  refine x_if_ne (tgt := 12) dX7_told_1 (by decide) (fun c_1 => ?_) (fun c_1 => ?_)
  · refine x_iload_n dX7_told_12 2 rfl rfl ?_
    refine x_iconst (v := 1) dX7_told_13 (by decide) ?_
    refine x_icmp_ne (tgt := 25) dX7_told_14 (by decide) (fun c_14 => ?_) (fun c_14 => ?_)
    · refine x_aload_n dX7_told_25 0 rfl rfl ?_
      refine x_gR (b := b + 34) dX7_told_26 fl_7_73 rfl s0 r4 ?_
      refine x_iload_n dX7_told_29 1 rfl rfl ?_
      refine x_callV (k_at (G := G) (Sh := Sh) (I := I) (R := R) (S := b + 34) (n := gN σ) (i := of) sA rA hCK.1 hn8) dX7_told_30 crc_X4_at vc_7_106 sA.1 rfl rfl rfl rfl (Nat.le_of_ble_eq_true rfl) (roomy_k (by omega) (by decide)) (Nat.le_refl _) (Nat.le_refl _) ?_
      rintro _ _ ⟨_, rfl, rfl, (⟨j, hj, hij, rfl⟩ | ⟨hno, rfl⟩)⟩
      · refine x_astore_n (lv' := [(3, .ref (b + 34 + 2 + j)), (0, .ref b), (1, .int of), (2, .int w)]) dX7_told_33 rfl (by decide) rfl ?_
        refine x_aload_n dX7_told_34 0 rfl rfl ?_
        refine x_ifnonnull (tgt := 41) dX7_told_35 (by decide) ?_
        refine x_iload_n dX7_told_41 3 rfl rfl ?_
        refine x_tsw [(2, 88), (3, 93), (4, 98), (5, 103), (6, 108), (7, 113), (8, 122), (9, 131)] 140 dX7_told_42 (by decide) (by decide +kernel) (fun c_42 => ?_) ?_
        · have d_42 : ¬ w = 2 ∧ ¬ w = 3 ∧ ¬ w = 4 ∧ ¬ w = 5 ∧ ¬ w = 6 ∧ ¬ w = 7 ∧ ¬ w = 8 ∧ ¬ w = 9 := ⟨fun q => c_42 (2, 88) (by simp) (q.trans (by decide)), fun q => c_42 (3, 93) (by simp) (q.trans (by decide)), fun q => c_42 (4, 98) (by simp) (q.trans (by decide)), fun q => c_42 (5, 103) (by simp) (q.trans (by decide)), fun q => c_42 (6, 108) (by simp) (q.trans (by decide)), fun q => c_42 (7, 113) (by simp) (q.trans (by decide)), fun q => c_42 (8, 122) (by simp) (q.trans (by decide)), fun q => c_42 (9, 131) (by simp) (q.trans (by decide))⟩
          refine x_bipush (v := (-2)) dX7_told_140 (by decide) ?_
          refine x_iret dX7_told_142 rfl (Nat.le_refl _) (Nat.le_refl _) ?_
          refine ⟨?_, I, R, rfl, pvE.rf, rvE.rf⟩
          unfold toldF
          rw [if_neg c_1, if_neg c_14, hij, idF_in hj hn8]
          obtain ⟨z2, z3, z4, z5, z6, z7, z8, z9⟩ := d_42
          show -2 = ite _ _ _
          rw [if_neg z2, if_neg z3, if_neg z4, if_neg z5, if_neg z6, if_neg z7, if_neg z8, if_neg z9]
        · refine List.forall_mem_cons.mpr ⟨fun c_42 => ?_, List.forall_mem_cons.mpr ⟨fun c_42 => ?_, List.forall_mem_cons.mpr ⟨fun c_42 => ?_, List.forall_mem_cons.mpr ⟨fun c_42 => ?_, List.forall_mem_cons.mpr ⟨fun c_42 => ?_, List.forall_mem_cons.mpr ⟨fun c_42 => ?_, List.forall_mem_cons.mpr ⟨fun c_42 => ?_, List.forall_mem_cons.mpr ⟨fun c_42 => ?_, fun _ h9 => absurd h9 List.not_mem_nil⟩⟩⟩⟩⟩⟩⟩⟩
          · have c_42 : w = 2 := c_42.trans (by decide)
            refine x_aload_n dX7_told_88 0 rfl rfl ?_
            refine x_gI (v := (gW σ).1 j 1) dX7_told_89 fl_7_121 rfl (sA.2.2 j (by omega)) (hs.1 j hj 1 (by omega)) ?_
            refine x_iret dX7_told_92 rfl (Nat.le_refl _) (Nat.le_refl _) ?_
            refine ⟨?_, I, R, rfl, pvE.rf, rvE.rf⟩
            unfold toldF
            rw [if_neg c_1, if_neg c_14, hij, idF_in hj hn8]
            subst c_42
            rfl
          · have c_42 : w = 3 := c_42.trans (by decide)
            refine x_aload_n dX7_told_93 0 rfl rfl ?_
            refine x_gI (v := (gW σ).1 j 2) dX7_told_94 fl_7_126 rfl (sA.2.2 j (by omega)) (hs.1 j hj 2 (by omega)) ?_
            refine x_iret dX7_told_97 rfl (Nat.le_refl _) (Nat.le_refl _) ?_
            refine ⟨?_, I, R, rfl, pvE.rf, rvE.rf⟩
            unfold toldF
            rw [if_neg c_1, if_neg c_14, hij, idF_in hj hn8]
            subst c_42
            rfl
          · have c_42 : w = 4 := c_42.trans (by decide)
            refine x_aload_n dX7_told_98 0 rfl rfl ?_
            refine x_gI (v := (gW σ).1 j 3) dX7_told_99 fl_7_129 rfl (sA.2.2 j (by omega)) (hs.1 j hj 3 (by omega)) ?_
            refine x_iret dX7_told_102 rfl (Nat.le_refl _) (Nat.le_refl _) ?_
            refine ⟨?_, I, R, rfl, pvE.rf, rvE.rf⟩
            unfold toldF
            rw [if_neg c_1, if_neg c_14, hij, idF_in hj hn8]
            subst c_42
            rfl
          · have c_42 : w = 5 := c_42.trans (by decide)
            refine x_aload_n dX7_told_103 0 rfl rfl ?_
            refine x_gI (v := (gW σ).1 j 4) dX7_told_104 fl_7_132 rfl (sA.2.2 j (by omega)) (hs.1 j hj 4 (by omega)) ?_
            refine x_iret dX7_told_107 rfl (Nat.le_refl _) (Nat.le_refl _) ?_
            refine ⟨?_, I, R, rfl, pvE.rf, rvE.rf⟩
            unfold toldF
            rw [if_neg c_1, if_neg c_14, hij, idF_in hj hn8]
            subst c_42
            rfl
          · have c_42 : w = 6 := c_42.trans (by decide)
            refine x_aload_n dX7_told_108 0 rfl rfl ?_
            refine x_gI (v := (gW σ).1 j 0) dX7_told_109 fl_7_135 rfl (sA.2.2 j (by omega)) (hs.1 j hj 0 (by omega)) ?_
            refine x_iret dX7_told_112 rfl (Nat.le_refl _) (Nat.le_refl _) ?_
            refine ⟨?_, I, R, rfl, pvE.rf, rvE.rf⟩
            unfold toldF
            rw [if_neg c_1, if_neg c_14, hij, idF_in hj hn8]
            subst c_42
            rfl
          · have c_42 : w = 7 := c_42.trans (by decide)
            refine x_aload_n dX7_told_113 1 rfl rfl ?_
            refine x_gR (b := b + 34) dX7_told_114 fl_7_73 rfl s0 r4 ?_
            refine x_aload_n dX7_told_117 0 rfl rfl ?_
            refine x_callV (k_losesOf (G := G) hw (f := b + 34 + 2 + j) (sA.2.2 j (by omega)) (by omega)) dX7_told_118 crc_X4_losesOf vc_7_138 sA.1 rfl rfl rfl rfl (Nat.le_of_ble_eq_true rfl) (roomy_k (by omega) (by decide)) (Nat.le_refl _) (Nat.le_refl _) ?_
            rintro _ _ ⟨r, rfl, hr, J, hoff, rfl⟩
            refine x_iret dX7_told_121 rfl (Nat.le_refl _) (Nat.le_refl _) ?_
            refine ⟨?_, J, R, rfl, (hoff.pv hru), rvE.rf⟩
            unfold toldF
            rw [if_neg c_1, if_neg c_14, hij, idF_in hj hn8]
            subst c_42
            show r = loF (gP σ) (gN σ) (gW σ) j
            rw [hr, hs.1 j hj 0 (by omega), hs.1 j hj 1 (by omega), cx_cF hs hj, hs.2.2]
            rfl
          · have c_42 : w = 8 := c_42.trans (by decide)
            refine x_aload_n dX7_told_122 1 rfl rfl ?_
            refine x_gR (b := b + 34) dX7_told_123 fl_7_73 rfl s0 r4 ?_
            refine x_aload_n dX7_told_126 0 rfl rfl ?_
            refine x_callV (k_risesOf (G := G) hw (f := b + 34 + 2 + j) (sA.2.2 j (by omega)) (by omega)) dX7_told_127 crc_X4_risesOf vc_7_142 sA.1 rfl rfl rfl rfl (Nat.le_of_ble_eq_true rfl) (roomy_k (by omega) (by decide)) (Nat.le_refl _) (Nat.le_refl _) ?_
            rintro _ _ ⟨r, rfl, hr, J, hoff, rfl⟩
            refine x_iret dX7_told_130 rfl (Nat.le_refl _) (Nat.le_refl _) ?_
            refine ⟨?_, J, R, rfl, (hoff.pv hru), rvE.rf⟩
            unfold toldF
            rw [if_neg c_1, if_neg c_14, hij, idF_in hj hn8]
            subst c_42
            show r = riF (gP σ) (gN σ) (gW σ) j
            rw [hr, hs.1 j hj 0 (by omega), cx_cF hs hj]
            rfl
          · have c_42 : w = 9 := c_42.trans (by decide)
            refine x_aload_n dX7_told_131 1 rfl rfl ?_
            refine x_gR (b := b + 34) dX7_told_132 fl_7_73 rfl s0 r4 ?_
            refine x_aload_n dX7_told_135 0 rfl rfl ?_
            refine x_callV (k_shelterOf (G := G) sA rA hCK.1 hn8 (f := b + 34 + 2 + j) (sA.2.2 j (by omega))) dX7_told_136 crc_X4_shelterOf vc_7_145 sA.1 rfl rfl rfl rfl (Nat.le_of_ble_eq_true rfl) (roomy_k (by omega) (by decide)) (Nat.le_refl _) (Nat.le_refl _) ?_
            rintro _ _ ⟨r, rfl, hr, rfl⟩
            refine x_iret dX7_told_139 rfl (Nat.le_refl _) (Nat.le_refl _) ?_
            refine ⟨?_, I, R, rfl, pvE.rf, rvE.rf⟩
            unfold toldF
            rw [if_neg c_1, if_neg c_14, hij, idF_in hj hn8]
            subst c_42
            show r = shelF (gW σ).1 ((gW σ).1 j 2) (gN σ)
            rw [hr, hs.1 j hj 2 (by omega)]
            exact shelF_congr (fun i hi k hk => hs.1 i hi k hk)
      · refine x_astore_nN (lv' := [(3, .null), (0, .ref b), (1, .int of), (2, .int w)]) dX7_told_33 rfl (by decide) rfl ?_
        refine x_aload_nN dX7_told_34 0 rfl rfl ?_
        refine x_ifnonnullN dX7_told_35 ?_
        refine x_bipush (v := (-2)) dX7_told_38 (by decide) ?_
        refine x_iret dX7_told_40 rfl (Nat.le_refl _) (Nat.le_refl _) ?_
        refine ⟨?_, I, R, rfl, pvE.rf, rvE.rf⟩
        unfold toldF
        rw [if_neg c_1, if_neg c_14, idF_out hn8 hno]
    · refine x_aload_n dX7_told_17 0 rfl rfl ?_
      refine x_gR (b := b + 34) dX7_told_18 fl_7_73 rfl s0 r4 ?_
      refine x_gI (v := (gW σ).2.2) dX7_told_21 fl_7_103 rfl sA.1 hs.2.2 ?_
      refine x_iret dX7_told_24 rfl (Nat.le_refl _) (Nat.le_refl _) ?_
      refine ⟨?_, I, R, rfl, pvE.rf, rvE.rf⟩
      unfold toldF
      rw [if_neg c_1, if_pos c_14]
  · refine x_aload_n dX7_told_4 0 rfl rfl ?_
    refine x_gR (b := b + 34) dX7_told_5 fl_7_73 rfl s0 r4 ?_
    refine x_gI (v := (gW σ).2.1) dX7_told_8 fl_7_100 rfl sA.1 hs.2.1 ?_
    refine x_iret dX7_told_11 rfl (Nat.le_refl _) (Nat.le_refl _) ?_
    refine ⟨?_, I, R, rfl, pvE.rf, rvE.rf⟩
    unfold toldF
    rw [if_pos c_1]

set_option maxHeartbeats 4000000 in
set_option maxRecDepth 100000 in
theorem k_bound {G : GG} {Sh : HS} {I : HI} {R : HR} {w : Int32} : AM G 1 0 0 yX7_bound cX7_bound 1 (some .int) [.int w] (Sh, I, R) (qi fun r g => r = boF w ∧ g = (Sh, I, R)) := by
  refine am_intro (by decide) (Nat.le_of_ble_eq_true rfl) ?_
  refine x_iload_n dX7_bound_0 0 rfl rfl ?_
  refine x_tsw [(0, 40), (1, 43), (2, 47), (3, 50), (4, 53), (5, 55)] 58 dX7_bound_1 (by decide) (by decide +kernel) (fun c_1 => ?_) ?_
  · have d_1 : ¬ w = 0 ∧ ¬ w = 1 ∧ ¬ w = 2 ∧ ¬ w = 3 ∧ ¬ w = 4 ∧ ¬ w = 5 := ⟨fun q => c_1 (0, 40) (by simp) (q.trans (by decide)), fun q => c_1 (1, 43) (by simp) (q.trans (by decide)), fun q => c_1 (2, 47) (by simp) (q.trans (by decide)), fun q => c_1 (3, 50) (by simp) (q.trans (by decide)), fun q => c_1 (4, 53) (by simp) (q.trans (by decide)), fun q => c_1 (5, 55) (by simp) (q.trans (by decide))⟩
    refine x_iconst (v := 0) dX7_bound_58 (by decide) ?_
    refine x_iret dX7_bound_59 rfl (Nat.le_refl _) (Nat.le_refl _) ?_
    refine ⟨?_, rfl⟩
    obtain ⟨z0, z1, z2, z3, z4, z5⟩ := d_1
    unfold boF
    rw [if_neg z0, if_neg z1, if_neg z2, if_neg z3, if_neg z4, if_neg z5]
  · refine List.forall_mem_cons.mpr ⟨fun c_1 => ?_, List.forall_mem_cons.mpr ⟨fun c_1 => ?_, List.forall_mem_cons.mpr ⟨fun c_1 => ?_, List.forall_mem_cons.mpr ⟨fun c_1 => ?_, List.forall_mem_cons.mpr ⟨fun c_1 => ?_, List.forall_mem_cons.mpr ⟨fun c_1 => ?_, fun _ h9 => absurd h9 List.not_mem_nil⟩⟩⟩⟩⟩⟩
    · have c_1 : w = 0 := c_1.trans (by decide)
      refine x_bipush (v := 10) dX7_bound_40 (by decide) ?_
      refine x_iret dX7_bound_42 rfl (Nat.le_refl _) (Nat.le_refl _) ?_
      refine ⟨?_, rfl⟩
      subst c_1
      rfl
    · have c_1 : w = 1 := c_1.trans (by decide)
      refine x_sipush (v := 1000) dX7_bound_43 (by decide) ?_
      refine x_iret dX7_bound_46 rfl (Nat.le_refl _) (Nat.le_refl _) ?_
      refine ⟨?_, rfl⟩
      subst c_1
      rfl
    · have c_1 : w = 2 := c_1.trans (by decide)
      refine x_bipush (v := 10) dX7_bound_47 (by decide) ?_
      refine x_iret dX7_bound_49 rfl (Nat.le_refl _) (Nat.le_refl _) ?_
      refine ⟨?_, rfl⟩
      subst c_1
      rfl
    · have c_1 : w = 3 := c_1.trans (by decide)
      refine x_bipush (v := 16) dX7_bound_50 (by decide) ?_
      refine x_iret dX7_bound_52 rfl (Nat.le_refl _) (Nat.le_refl _) ?_
      refine ⟨?_, rfl⟩
      subst c_1
      rfl
    · have c_1 : w = 4 := c_1.trans (by decide)
      refine x_iconst (v := 2) dX7_bound_53 (by decide) ?_
      refine x_iret dX7_bound_54 rfl (Nat.le_refl _) (Nat.le_refl _) ?_
      refine ⟨?_, rfl⟩
      subst c_1
      rfl
    · have c_1 : w = 5 := c_1.trans (by decide)
      refine x_bipush (v := 100) dX7_bound_55 (by decide) ?_
      refine x_iret dX7_bound_57 rfl (Nat.le_refl _) (Nat.le_refl _) ?_
      refine ⟨?_, rfl⟩
      subst c_1
      rfl

set_option maxHeartbeats 4000000 in
set_option maxRecDepth 100000 in
theorem k_change {G : GG} {Sh : HS} {I : HI} {R : HR} {f : Nat} {w v : Int32} (hf : Sh.2 f = (0, 6)) (hw : w = 2 ∨ w = 3 ∨ w = 4 ∨ w = 5) : AM G 1 0 0 yX7_change cX7_change 3 none [.ref f, .int w, .int v] (Sh, I, R) (qv fun g => g = (Sh, u2 I f (flF w) v, R)) := by
  refine am_intro (by decide) (Nat.le_of_ble_eq_true rfl) ?_
  refine x_aload_n dX7_change_0 0 rfl rfl ?_
  refine x_ifnonnull (tgt := 5) dX7_change_1 (by decide) ?_
  refine x_iload_n dX7_change_5 1 rfl rfl ?_
  refine x_tsw [(2, 36), (3, 44), (4, 52), (5, 60)] 68 dX7_change_6 (by decide) (by decide +kernel) (fun c_6 => ?_) ?_
  · have d_6 : ¬ w = 2 ∧ ¬ w = 3 ∧ ¬ w = 4 ∧ ¬ w = 5 := ⟨fun q => c_6 (2, 36) (by simp) (q.trans (by decide)), fun q => c_6 (3, 44) (by simp) (q.trans (by decide)), fun q => c_6 (4, 52) (by simp) (q.trans (by decide)), fun q => c_6 (5, 60) (by simp) (q.trans (by decide))⟩
    refine x_vret dX7_change_68 rfl (Nat.le_refl _) (Nat.le_refl _) ?_
    exfalso
    obtain ⟨z2, z3, z4, z5⟩ := d_6
    exact hw.elim z2 (fun q => q.elim z3 (fun q => q.elim z4 z5))
  · refine List.forall_mem_cons.mpr ⟨fun c_6 => ?_, List.forall_mem_cons.mpr ⟨fun c_6 => ?_, List.forall_mem_cons.mpr ⟨fun c_6 => ?_, List.forall_mem_cons.mpr ⟨fun c_6 => ?_, fun _ h9 => absurd h9 List.not_mem_nil⟩⟩⟩⟩
    · have c_6 : w = 2 := c_6.trans (by decide)
      refine x_aload_n dX7_change_36 0 rfl rfl ?_
      refine x_iload_n dX7_change_37 2 rfl rfl ?_
      refine x_pI dX7_change_38 fl_7_121 rfl rfl rfl hf (fun Iq1 e_Iq1 => ?_)
      refine x_goto (tgt := 68) dX7_change_41 (by decide) ?_
      refine x_vret dX7_change_68 rfl (Nat.le_refl _) (Nat.le_refl _) ?_
      subst c_6
      rw [e_Iq1]
      rfl
    · have c_6 : w = 3 := c_6.trans (by decide)
      refine x_aload_n dX7_change_44 0 rfl rfl ?_
      refine x_iload_n dX7_change_45 2 rfl rfl ?_
      refine x_pI dX7_change_46 fl_7_126 rfl rfl rfl hf (fun Iq2 e_Iq2 => ?_)
      refine x_goto (tgt := 68) dX7_change_49 (by decide) ?_
      refine x_vret dX7_change_68 rfl (Nat.le_refl _) (Nat.le_refl _) ?_
      subst c_6
      rw [e_Iq2]
      rfl
    · have c_6 : w = 4 := c_6.trans (by decide)
      refine x_aload_n dX7_change_52 0 rfl rfl ?_
      refine x_iload_n dX7_change_53 2 rfl rfl ?_
      refine x_pI dX7_change_54 fl_7_129 rfl rfl rfl hf (fun Iq3 e_Iq3 => ?_)
      refine x_goto (tgt := 68) dX7_change_57 (by decide) ?_
      refine x_vret dX7_change_68 rfl (Nat.le_refl _) (Nat.le_refl _) ?_
      subst c_6
      rw [e_Iq3]
      rfl
    · have c_6 : w = 5 := c_6.trans (by decide)
      refine x_aload_n dX7_change_60 0 rfl rfl ?_
      refine x_iload_n dX7_change_61 2 rfl rfl ?_
      refine x_pI dX7_change_62 fl_7_132 rfl rfl rfl hf (fun Iq4 e_Iq4 => ?_)
      refine x_goto (tgt := 68) dX7_change_65 (by decide) ?_
      refine x_vret dX7_change_68 rfl (Nat.le_refl _) (Nat.le_refl _) ?_
      subst c_6
      rw [e_Iq4]
      rfl

set_option maxHeartbeats 4000000 in
set_option maxRecDepth 100000 in
theorem k_set {G : GG} {Sh : HS} {I : HI} {R : HR} {b : Nat} {σ : SG} (hc : CI b Sh I R σ) {w of v : Int32} : AM G 7 0 0 yX7_set cX7_set 5 (some .int) [.ref b, .int w, .int of, .int v] (Sh, I, R) (qi (updI b Sh I R (setV σ w of v) (setS σ w of v))) := by
  obtain ⟨⟨s0, s1, s2, s3, s4, s5, s6, s7, sT, sS, sA, sB, sC, sG⟩, ⟨r0, r1, r2, r4, r5, r6, r8, r9, rt0, rt2, rt3, rr0, rT, rS, rTT, rSS, rA, rB, rC, rG⟩, hCT, hCK, hCTp, hCIm, hCSe⟩ := id hc
  have hn8 : gN σ ≤ 8 := hCK.2.1
  have hru := hc.ru
  have hs := hc.sr
  have hw := hc.sw
  refine am_intro (by decide) (Nat.le_of_ble_eq_true rfl) ?_
  refine x_iload_n dX7_set_0 3 rfl rfl ?_
  refine x_if_lt (tgt := 12) dX7_set_1 (by decide) (fun c_1 => ?_) (fun c_1 => ?_)
  · refine x_bipush (v := (-2)) dX7_set_12 (by decide) ?_
    refine x_iret dX7_set_14 rfl (Nat.le_refl _) (Nat.le_refl _) ?_
    have hno9 : ¬ setOk σ w of v := fun q => q.1 c_1
    unfold setV setS
    rw [if_neg hno9, if_neg hno9]
    exact ⟨rfl, I, R, rfl, hc, FrC.rf, FrC.rf⟩
  · refine x_iload_n dX7_set_4 3 rfl rfl ?_
    refine x_iload_n dX7_set_5 1 rfl rfl ?_
    refine x_callS (rest := [.int v]) (k_bound (G := G) (Sh := Sh) (I := I) (R := R) (w := w)) dX7_set_6 crc_X7_bound sc_7_92 rfl rfl (Nat.le_of_ble_eq_true rfl) (roomy_k (by omega) (by decide)) (Nat.le_refl _) (Nat.le_refl _) ?_
    rintro _ _ ⟨_, rfl, rfl, rfl⟩
    refine x_icmp_lt (tgt := 15) dX7_set_9 (by decide) (fun c_9 => ?_) (fun c_9 => ?_)
    · refine x_aload_n dX7_set_15 0 rfl rfl ?_
      refine x_iload_n dX7_set_16 2 rfl rfl ?_
      refine x_iload_n dX7_set_17 1 rfl rfl ?_
      refine x_callV (k_told (G := G) hc (of := of) (w := w)) dX7_set_18 crc_X7_told vc_7_96 s0 rfl rfl rfl rfl (Nat.le_of_ble_eq_true rfl) (roomy_k (by omega) (by decide)) (Nat.le_refl _) (Nat.le_refl _) ?_
      rintro _ _ ⟨r, rfl, hr, J, R2, rfl, hpv, hrv⟩
      have hc2 := hc.pv hpv hrv
      have hs2 := hc2.sr
      refine x_istore (lv' := [(4, .int r), (0, .ref b), (1, .int w), (2, .int of), (3, .int v)]) dX7_set_21 (by decide) rfl ?_
      refine x_iload dX7_set_23 0 rfl ?_
      refine x_bipush (v := (-2)) dX7_set_25 (by decide) ?_
      refine x_icmp_ne (tgt := 33) dX7_set_27 (by decide) (fun c_27 => ?_) (fun c_27 => ?_)
      · refine x_iload_n dX7_set_33 2 rfl rfl ?_
        refine x_if_ne (tgt := 48) dX7_set_34 (by decide) (fun c_34 => ?_) (fun c_34 => ?_)
        · refine x_iload_n dX7_set_48 2 rfl rfl ?_
          refine x_iconst (v := 1) dX7_set_49 (by decide) ?_
          refine x_icmp_ne (tgt := 64) dX7_set_50 (by decide) (fun c_50 => ?_) (fun c_50 => ?_)
          · refine x_aload_n dX7_set_64 1 rfl rfl ?_
            refine x_gR (b := b + 34) dX7_set_65 fl_7_73 rfl s0 ((hrv _ _ (by omega)).trans r4) ?_
            refine x_iload_n dX7_set_68 3 rfl rfl ?_
            refine x_callV (k_at (G := G) (Sh := Sh) (I := J) (R := R2) (S := b + 34) (n := gN σ) (i := of) sA hc2.2.1.2.2.2.2.2.2.2.2.2.2.2.2.2.2.2.2.1 hc2.2.2.2.1.1 hn8) dX7_set_69 crc_X4_at vc_7_106 sA.1 rfl rfl rfl rfl (Nat.le_of_ble_eq_true rfl) (roomy_k (by omega) (by decide)) (Nat.le_refl _) (Nat.le_refl _) ?_
            rintro _ _ ⟨_, rfl, rfl, (⟨j, hj, hij, rfl⟩ | ⟨hno, rfl⟩)⟩
            · refine x_iload_n dX7_set_72 2 rfl rfl ?_
              refine x_iload_n dX7_set_73 4 rfl rfl ?_
              have hw4 : w = 2 ∨ w = 3 ∨ w = 4 ∨ w = 5 := by
                by_cases e2 : w = 2
                · exact Or.inl e2
                · by_cases e3 : w = 3
                  · exact Or.inr (Or.inl e3)
                  · by_cases e4 : w = 4
                    · exact Or.inr (Or.inr (Or.inl e4))
                    · by_cases e5 : w = 5
                      · exact Or.inr (Or.inr (Or.inr e5))
                      · exfalso
                        unfold boF at c_9
                        rw [if_neg c_34, if_neg c_50, if_neg e2, if_neg e3, if_neg e4, if_neg e5] at c_9
                        exact c_1 c_9
              refine x_callS (rest := []) (k_change (G := G) (Sh := Sh) (I := J) (R := R2) (f := b + 34 + 2 + j) (w := w) (v := v) (sA.2.2 j (by omega)) hw4) dX7_set_74 crc_X7_change sc_7_110 rfl rfl (Nat.le_of_ble_eq_true rfl) (roomy_k (by omega) (by decide)) (Nat.le_refl _) (Nat.le_refl _) ?_
              rintro _ _ ⟨rfl, rfl⟩
              obtain ⟨J3, eJ3⟩ : ∃ z : HI, z = u2 J (b + 34 + 2 + j) (flF w) v := ⟨_, rfl⟩
              rw [← eJ3]
              refine x_iload dX7_set_77 0 rfl ?_
              refine x_iret dX7_set_79 rfl (Nat.le_refl _) (Nat.le_refl _) ?_
              have hok9 : setOk σ w of v := ⟨c_1, Int32.not_le.mpr c_9, fun q => c_27 (hr.trans q)⟩
              unfold setV setS
              rw [if_pos hok9, if_pos hok9]
              have hk2 := hc2.2.2.2.1
              rw [if_neg c_34, if_neg c_50, hij, idF_in hj hn8]
              refine ⟨by rw [← hij]; exact hr, J3, R2, rfl, CI.strand hc2 (fun a k q1 q2 => by rw [eJ3, u2_ne (by omega)]) (fun _ _ _ => rfl) ⟨by rw [eJ3, u2_ne (by omega)]; exact hk2.1, hk2.2.1, ⟨fun i hi k hk => ?_, by rw [eJ3, u2_ne (by omega)]; exact hs2.2.1, by rw [eJ3, u2_ne (by omega)]; exact hs2.2.2⟩, hk2.2.2.2⟩, (hpv.fc.tr (fun a k q => by rw [eJ3, u2_ne (by omega)])), hrv.fc⟩
              by_cases e : i = j ∧ k = flF w
              · obtain ⟨rfl, rfl⟩ := e
                rw [eJ3, u2_same]
                unfold upV
                simp
              · rw [eJ3, u2_ne (by omega), hs2.1 i hi k hk]
                unfold upV
                simp [e]
            · exfalso
              rw [hr] at c_27
              unfold toldF at c_27
              rw [if_neg c_34, if_neg c_50, idF_out hn8 hno] at c_27
              exact c_27 rfl
          · refine x_aload_n dX7_set_53 1 rfl rfl ?_
            refine x_gR (b := b + 34) dX7_set_54 fl_7_73 rfl s0 ((hrv _ _ (by omega)).trans r4) ?_
            refine x_iload_n dX7_set_57 4 rfl rfl ?_
            refine x_pI dX7_set_58 fl_7_103 rfl rfl rfl sA.1 (fun Iq1 e_Iq1 => ?_)
            refine x_goto (tgt := 77) dX7_set_61 (by decide) ?_
            refine x_iload dX7_set_77 0 rfl ?_
            refine x_iret dX7_set_79 rfl (Nat.le_refl _) (Nat.le_refl _) ?_
            have hok9 : setOk σ w of v := ⟨c_1, Int32.not_le.mpr c_9, fun q => c_27 (hr.trans q)⟩
            unfold setV setS
            rw [if_pos hok9, if_pos hok9]
            have hk2 := hc2.2.2.2.1
            rw [if_neg c_34, if_pos c_50]
            refine ⟨hr, Iq1, R2, rfl, CI.strand hc2 (fun a k q1 q2 => by rw [e_Iq1, u2_ne (by omega)]) (fun _ _ _ => rfl) ⟨by rw [e_Iq1, u2_ne (by omega)]; exact hk2.1, hk2.2.1, ⟨fun i hi k hk => by rw [e_Iq1, u2_ne (by omega)]; exact hs2.1 i hi k hk, by rw [e_Iq1, u2_ne (by omega)]; exact hs2.2.1, by rw [e_Iq1, u2_same]⟩, hk2.2.2.2⟩, (hpv.fc.tr (fun a k q => by rw [e_Iq1, u2_ne (by omega)])), hrv.fc⟩
        · refine x_aload_n dX7_set_37 1 rfl rfl ?_
          refine x_gR (b := b + 34) dX7_set_38 fl_7_73 rfl s0 ((hrv _ _ (by omega)).trans r4) ?_
          refine x_iload_n dX7_set_41 4 rfl rfl ?_
          refine x_pI dX7_set_42 fl_7_100 rfl rfl rfl sA.1 (fun Iq2 e_Iq2 => ?_)
          refine x_goto (tgt := 77) dX7_set_45 (by decide) ?_
          refine x_iload dX7_set_77 0 rfl ?_
          refine x_iret dX7_set_79 rfl (Nat.le_refl _) (Nat.le_refl _) ?_
          have hok9 : setOk σ w of v := ⟨c_1, Int32.not_le.mpr c_9, fun q => c_27 (hr.trans q)⟩
          unfold setV setS
          rw [if_pos hok9, if_pos hok9]
          have hk2 := hc2.2.2.2.1
          rw [if_pos c_34]
          refine ⟨hr, Iq2, R2, rfl, CI.strand hc2 (fun a k q1 q2 => by rw [e_Iq2, u2_ne (by omega)]) (fun _ _ _ => rfl) ⟨by rw [e_Iq2, u2_ne (by omega)]; exact hk2.1, hk2.2.1, ⟨fun i hi k hk => by rw [e_Iq2, u2_ne (by omega)]; exact hs2.1 i hi k hk, by rw [e_Iq2, u2_same], by rw [e_Iq2, u2_ne (by omega)]; exact hs2.2.2⟩, hk2.2.2.2⟩, (hpv.fc.tr (fun a k q => by rw [e_Iq2, u2_ne (by omega)])), hrv.fc⟩
      · refine x_bipush (v := (-2)) dX7_set_30 (by decide) ?_
        refine x_iret dX7_set_32 rfl (Nat.le_refl _) (Nat.le_refl _) ?_
        have hno9 : ¬ setOk σ w of v := fun q => q.2.2 (hr.symm.trans c_27)
        unfold setV setS
        rw [if_neg hno9, if_neg hno9]
        exact ⟨rfl, J, R2, rfl, hc2, hpv.fc, hrv.fc⟩
    · refine x_bipush (v := (-2)) dX7_set_12 (by decide) ?_
      refine x_iret dX7_set_14 rfl (Nat.le_refl _) (Nat.le_refl _) ?_
      have hno9 : ¬ setOk σ w of v := fun q => q.2.1 (Int32.not_lt.mp c_9)
      unfold setV setS
      rw [if_neg hno9, if_neg hno9]
      exact ⟨rfl, I, R, rfl, hc, FrC.rf, FrC.rf⟩

noncomputable def takenF (σ : SG) (of k : Int32) : Int32 := by
  classical
  exact if ¬ k < 0 ∧ ¬ 6 ≤ k then (match idF (gN σ) of with
    | none => -11
    | some j => if underF k ((gW σ).1 j 0) then (gW σ).1 j 1 else -13) else -2
set_option maxHeartbeats 4000000 in
set_option maxRecDepth 100000 in
theorem k_taken {G : GG} {Sh : HS} {I : HI} {R : HR} {b : Nat} {σ : SG} (hc : CI b Sh I R σ) {of k : Int32} : AM G 3 0 0 yX7_taken cX7_taken 4 (some .int) [.ref b, .int of, .int k] (Sh, I, R) (qi (qryI b Sh I R (takenF σ of k))) := by
  obtain ⟨⟨s0, s1, s2, s3, s4, s5, s6, s7, sT, sS, sA, sB, sC, sG⟩, ⟨r0, r1, r2, r4, r5, r6, r8, r9, rt0, rt2, rt3, rr0, rT, rS, rTT, rSS, rA, rB, rC, rG⟩, hCT, hCK, hCTp, hCIm, hCSe⟩ := id hc
  have hn8 : gN σ ≤ 8 := hCK.2.1
  have hru := hc.ru
  have hs := hc.sr
  have hw := hc.sw
  refine am_intro (by decide) (Nat.le_of_ble_eq_true rfl) ?_
  refine x_iload_n dX7_taken_0 2 rfl rfl ?_
  refine x_if_lt (tgt := 10) dX7_taken_1 (by decide) (fun c_1 => ?_) (fun c_1 => ?_)
  · refine x_bipush (v := (-2)) dX7_taken_10 (by decide) ?_
    refine x_iret dX7_taken_12 rfl (Nat.le_refl _) (Nat.le_refl _) ?_
    refine ⟨?_, I, R, rfl, pvE.rf, rvE.rf⟩
    unfold takenF
    rw [if_neg (fun q => q.1 c_1)]
  · refine x_iload_n dX7_taken_4 2 rfl rfl ?_
    refine x_bipush (v := 6) dX7_taken_5 (by decide) ?_
    refine x_icmp_lt (tgt := 13) dX7_taken_7 (by decide) (fun c_7 => ?_) (fun c_7 => ?_)
    · refine x_aload_n dX7_taken_13 0 rfl rfl ?_
      refine x_gR (b := b + 34) dX7_taken_14 fl_7_73 rfl s0 r4 ?_
      refine x_iload_n dX7_taken_17 1 rfl rfl ?_
      refine x_callV (k_at (G := G) (Sh := Sh) (I := I) (R := R) (S := b + 34) (n := gN σ) (i := of) sA rA hCK.1 hn8) dX7_taken_18 crc_X4_at vc_7_106 sA.1 rfl rfl rfl rfl (Nat.le_of_ble_eq_true rfl) (roomy_k (by omega) (by decide)) (Nat.le_refl _) (Nat.le_refl _) ?_
      rintro _ _ ⟨_, rfl, rfl, (⟨j, hj, hij, rfl⟩ | ⟨hno, rfl⟩)⟩
      · refine x_astore_n (lv' := [(3, .ref (b + 34 + 2 + j)), (0, .ref b), (1, .int of), (2, .int k)]) dX7_taken_21 rfl (by decide) rfl ?_
        refine x_aload_n dX7_taken_22 0 rfl rfl ?_
        refine x_ifnonnull (tgt := 29) dX7_taken_23 (by decide) ?_
        refine x_aload_n dX7_taken_29 0 rfl rfl ?_
        refine x_iload_n dX7_taken_30 3 rfl rfl ?_
        refine x_callV (k_isUnder (G := G) (Sh := Sh) (I := I) (R := R) (f := b + 34 + 2 + j) (k := k) (sA.2.2 j (by omega))) dX7_taken_31 crc_X0_isUnder vc_7_278 (sA.2.2 j (by omega)) rfl rfl rfl rfl (Nat.le_of_ble_eq_true rfl) (roomy_k (by omega) (by decide)) (Nat.le_refl _) (Nat.le_refl _) ?_
        rintro _ _ ⟨_, rfl, rfl, rfl⟩
        refine x_if_eqB (tgt := 44) dX7_taken_34 (by decide) (fun c_34 => ?_) (fun c_34 => ?_)
        · refine x_bipush (v := (-13)) dX7_taken_44 (by decide) ?_
          refine x_iret dX7_taken_46 rfl (Nat.le_refl _) (Nat.le_refl _) ?_
          refine ⟨?_, I, R, rfl, pvE.rf, rvE.rf⟩
          unfold takenF
          rw [if_pos ⟨c_1, Int32.not_le.mpr c_7⟩, hij, idF_in hj hn8]
          show _ = @ite Int32 _ (Classical.propDecidable _) _ _
          rw [← hs.1 j hj 0 (by omega), if_neg c_34]
        · refine x_aload_n dX7_taken_37 0 rfl rfl ?_
          refine x_gI (v := (gW σ).1 j 1) dX7_taken_38 fl_7_121 rfl (sA.2.2 j (by omega)) (hs.1 j hj 1 (by omega)) ?_
          refine x_goto (tgt := 46) dX7_taken_41 (by decide) ?_
          refine x_iret dX7_taken_46 rfl (Nat.le_refl _) (Nat.le_refl _) ?_
          refine ⟨?_, I, R, rfl, pvE.rf, rvE.rf⟩
          unfold takenF
          rw [if_pos ⟨c_1, Int32.not_le.mpr c_7⟩, hij, idF_in hj hn8]
          show _ = @ite Int32 _ (Classical.propDecidable _) _ _
          rw [← hs.1 j hj 0 (by omega), if_pos c_34]
      · refine x_astore_nN (lv' := [(3, .null), (0, .ref b), (1, .int of), (2, .int k)]) dX7_taken_21 rfl (by decide) rfl ?_
        refine x_aload_nN dX7_taken_22 0 rfl rfl ?_
        refine x_ifnonnullN dX7_taken_23 ?_
        refine x_bipush (v := (-11)) dX7_taken_26 (by decide) ?_
        refine x_iret dX7_taken_28 rfl (Nat.le_refl _) (Nat.le_refl _) ?_
        refine ⟨?_, I, R, rfl, pvE.rf, rvE.rf⟩
        unfold takenF
        rw [if_pos ⟨c_1, Int32.not_le.mpr c_7⟩, idF_out hn8 hno]
    · refine x_bipush (v := (-2)) dX7_taken_10 (by decide) ?_
      refine x_iret dX7_taken_12 rfl (Nat.le_refl _) (Nat.le_refl _) ?_
      refine ⟨?_, I, R, rfl, pvE.rf, rvE.rf⟩
      unfold takenF
      rw [if_neg (fun q => q.2 (Int32.not_lt.mp c_7))]

