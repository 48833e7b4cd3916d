set_option maxHeartbeats 4000000 in
set_option maxRecDepth 100000 in
theorem k_stands {G : GG} {Sh : HS} {I : HI} {R : HR} {f : Nat} (hf : Sh.2 f = (0, 6)) : AM G 1 0 0 yX0_stands cX0_stands 1 (some .boolean) [.ref f] (Sh, I, R) (qi fun r g => r = bI (0 < I f 4) ∧ g = (Sh, I, R)) := by
  refine am_intro (by decide) (Nat.le_of_ble_eq_true rfl) ?_
  refine x_aload_n dX0_stands_0 0 rfl rfl ?_
  refine x_gI (v := I f 4) dX0_stands_1 fl_0_24 rfl hf rfl ?_
  refine x_if_le (tgt := 11) dX0_stands_4 (by decide) (fun c_4 => ?_) (fun c_4 => ?_)
  · refine x_iconst (v := nI 0) dX0_stands_11 (by decide) ?_
    refine x_zret dX0_stands_12 rfl rfl (Nat.le_refl _) (Nat.le_refl _) ?_
    exact ⟨(bI_f (fun q => absurd c_4 (Int32.not_le.mpr q))).symm, rfl⟩
  · refine x_iconst (v := nI 1) dX0_stands_7 (by decide) ?_
    refine x_goto (tgt := 12) dX0_stands_8 (by decide) ?_
    refine x_zret dX0_stands_12 rfl rfl (Nat.le_refl _) (Nat.le_refl _) ?_
    exact ⟨(bI_t (Int32.not_le.mp c_4)).symm, rfl⟩

set_option maxHeartbeats 4000000 in
set_option maxRecDepth 100000 in
theorem k_isDry {G : GG} {Sh : HS} {I : HI} {R : HR} {f : Nat} {w : Int32} (hf : Sh.2 f = (0, 6)) : AM G 1 0 0 yX0_isDry cX0_isDry 3 (some .boolean) [.ref f, .int w] (Sh, I, R) (qi fun r g => r = bI (0 < I f 1 + 2 ∧ dryF (I f 1) w) ∧ g = (Sh, I, R)) := by
  refine am_intro (by decide) (Nat.le_of_ble_eq_true rfl) ?_
  refine x_aload_n dX0_isDry_0 0 rfl rfl ?_
  refine x_gI (v := I f 1) dX0_isDry_1 fl_0_15 rfl hf rfl ?_
  refine x_iconst (v := 2) dX0_isDry_4 (by decide) ?_
  refine x_iadd dX0_isDry_5 ?_
  refine x_topi (fun xq1 e_xq1 => ?_)
  refine x_istore_n (lv' := [(2, .int xq1), (0, .ref f), (1, .int w)]) dX0_isDry_6 rfl (by decide) rfl ?_
  refine x_iload_n dX0_isDry_7 0 rfl rfl ?_
  refine x_if_le (tgt := 21) dX0_isDry_8 (by decide) (fun c_8 => ?_) (fun c_8 => ?_)
  · refine x_iconst (v := 0) dX0_isDry_21 (by decide) ?_
    refine x_zret dX0_isDry_22 rfl rfl (Nat.le_refl _) (Nat.le_refl _) ?_
    subst e_xq1
    exact ⟨(bI_f (fun q => absurd q.1 (Int32.not_lt.mpr c_8))).symm, rfl⟩
  · refine x_iload_n dX0_isDry_11 2 rfl rfl ?_
    refine x_iload_n dX0_isDry_12 0 rfl rfl ?_
    refine x_irem dX0_isDry_13 (fun q => c_8 (by rw [q]; decide)) ?_
    refine x_if_ne (tgt := 21) dX0_isDry_14 (by decide) (fun c_14 => ?_) (fun c_14 => ?_)
    · refine x_iconst (v := 0) dX0_isDry_21 (by decide) ?_
      refine x_zret dX0_isDry_22 rfl rfl (Nat.le_refl _) (Nat.le_refl _) ?_
      subst e_xq1
      exact ⟨(bI_f (fun q => absurd q.2 c_14)).symm, rfl⟩
    · refine x_iconst (v := 1) dX0_isDry_17 (by decide) ?_
      refine x_goto (tgt := 22) dX0_isDry_18 (by decide) ?_
      refine x_zret dX0_isDry_22 rfl rfl (Nat.le_refl _) (Nat.le_refl _) ?_
      subst e_xq1
      exact ⟨(bI_t ⟨Int32.not_le.mp c_8, c_14⟩).symm, rfl⟩

set_option maxHeartbeats 4000000 in
set_option maxRecDepth 100000 in
theorem k_isUnder {G : GG} {Sh : HS} {I : HI} {R : HR} {f : Nat} {k : Int32} (hf : Sh.2 f = (0, 6)) : AM G 1 0 0 yX0_isUnder cX0_isUnder 2 (some .boolean) [.ref f, .int k] (Sh, I, R) (qi fun r g => r = bI (underF k (I f 0)) ∧ g = (Sh, I, R)) := by
  refine am_intro (by decide) (Nat.le_of_ble_eq_true rfl) ?_
  refine x_iload_n dX0_isUnder_0 1 rfl rfl ?_
  refine x_if_eq (tgt := 38) dX0_isUnder_1 (by decide) (fun c_1 => ?_) (fun c_1 => ?_)
  · refine x_iconst (v := 1) dX0_isUnder_38 (by decide) ?_
    refine x_goto (tgt := 43) dX0_isUnder_39 (by decide) ?_
    refine x_zret dX0_isUnder_43 rfl rfl (Nat.le_refl _) (Nat.le_refl _) ?_
    refine ⟨(bI_t ?_).symm, rfl⟩
    unfold underF
    simp_all
  · refine x_iload_n dX0_isUnder_4 1 rfl rfl ?_
    refine x_aload_n dX0_isUnder_5 0 rfl rfl ?_
    refine x_gI (v := I f 0) dX0_isUnder_6 fl_0_9 rfl hf rfl ?_
    refine x_icmp_eq (tgt := 38) dX0_isUnder_9 (by decide) (fun c_9 => ?_) (fun c_9 => ?_)
    · refine x_iconst (v := 1) dX0_isUnder_38 (by decide) ?_
      refine x_goto (tgt := 43) dX0_isUnder_39 (by decide) ?_
      refine x_zret dX0_isUnder_43 rfl rfl (Nat.le_refl _) (Nat.le_refl _) ?_
      refine ⟨(bI_t ?_).symm, rfl⟩
      unfold underF
      simp_all
    · refine x_iload_n dX0_isUnder_12 1 rfl rfl ?_
      refine x_iconst (v := 1) dX0_isUnder_13 (by decide) ?_
      refine x_icmp_ne (tgt := 25) dX0_isUnder_14 (by decide) (fun c_14 => ?_) (fun c_14 => ?_)
      · refine x_iload_n dX0_isUnder_25 1 rfl rfl ?_
        refine x_iconst (v := 2) dX0_isUnder_26 (by decide) ?_
        refine x_icmp_ne (tgt := 42) dX0_isUnder_27 (by decide) (fun c_27 => ?_) (fun c_27 => ?_)
        · refine x_iconst (v := 0) dX0_isUnder_42 (by decide) ?_
          refine x_zret dX0_isUnder_43 rfl rfl (Nat.le_refl _) (Nat.le_refl _) ?_
          refine ⟨(bI_f ?_).symm, rfl⟩
          unfold underF
          simp_all
        · refine x_aload_n dX0_isUnder_30 0 rfl rfl ?_
          refine x_gI (v := I f 0) dX0_isUnder_31 fl_0_9 rfl hf rfl ?_
          refine x_iconst (v := 4) dX0_isUnder_34 (by decide) ?_
          refine x_icmp_ne (tgt := 42) dX0_isUnder_35 (by decide) (fun c_35 => ?_) (fun c_35 => ?_)
          · refine x_iconst (v := 0) dX0_isUnder_42 (by decide) ?_
            refine x_zret dX0_isUnder_43 rfl rfl (Nat.le_refl _) (Nat.le_refl _) ?_
            refine ⟨(bI_f ?_).symm, rfl⟩
            unfold underF
            simp_all
          · refine x_iconst (v := 1) dX0_isUnder_38 (by decide) ?_
            refine x_goto (tgt := 43) dX0_isUnder_39 (by decide) ?_
            refine x_zret dX0_isUnder_43 rfl rfl (Nat.le_refl _) (Nat.le_refl _) ?_
            refine ⟨(bI_t ?_).symm, rfl⟩
            unfold underF
            simp_all
      · refine x_aload_n dX0_isUnder_17 0 rfl rfl ?_
        refine x_gI (v := I f 0) dX0_isUnder_18 fl_0_9 rfl hf rfl ?_
        refine x_iconst (v := 3) dX0_isUnder_21 (by decide) ?_
        refine x_icmp_eq (tgt := 38) dX0_isUnder_22 (by decide) (fun c_22 => ?_) (fun c_22 => ?_)
        · refine x_iconst (v := 1) dX0_isUnder_38 (by decide) ?_
          refine x_goto (tgt := 43) dX0_isUnder_39 (by decide) ?_
          refine x_zret dX0_isUnder_43 rfl rfl (Nat.le_refl _) (Nat.le_refl _) ?_
          refine ⟨(bI_t ?_).symm, rfl⟩
          unfold underF
          simp_all
        · refine x_iload_n dX0_isUnder_25 1 rfl rfl ?_
          refine x_iconst (v := 2) dX0_isUnder_26 (by decide) ?_
          refine x_icmp_ne (tgt := 42) dX0_isUnder_27 (by decide) (fun c_27 => ?_) (fun c_27 => ?_)
          · refine x_iconst (v := 0) dX0_isUnder_42 (by decide) ?_
            refine x_zret dX0_isUnder_43 rfl rfl (Nat.le_refl _) (Nat.le_refl _) ?_
            refine ⟨(bI_f ?_).symm, rfl⟩
            unfold underF
            simp_all
          · refine x_aload_n dX0_isUnder_30 0 rfl rfl ?_
            refine x_gI (v := I f 0) dX0_isUnder_31 fl_0_9 rfl hf rfl ?_
            refine x_iconst (v := 4) dX0_isUnder_34 (by decide) ?_
            refine x_icmp_ne (tgt := 42) dX0_isUnder_35 (by decide) (fun c_35 => ?_) (fun c_35 => ?_)
            · refine x_iconst (v := 0) dX0_isUnder_42 (by decide) ?_
              refine x_zret dX0_isUnder_43 rfl rfl (Nat.le_refl _) (Nat.le_refl _) ?_
              refine ⟨(bI_f ?_).symm, rfl⟩
              unfold underF
              simp_all
            · refine x_iconst (v := 1) dX0_isUnder_38 (by decide) ?_
              refine x_goto (tgt := 43) dX0_isUnder_39 (by decide) ?_
              refine x_zret dX0_isUnder_43 rfl rfl (Nat.le_refl _) (Nat.le_refl _) ?_
              refine ⟨(bI_t ?_).symm, rfl⟩
              unfold underF
              simp_all

set_option maxHeartbeats 4000000 in
set_option maxRecDepth 100000 in
theorem k_lossBy {G : GG} {Sh : HS} {I : HI} {R : HR} {f : Nat} {v w : Int32} (hf : Sh.2 f = (0, 6)) : AM G 2 0 0 yX0_lossBy cX0_lossBy 3 (some .int) [.ref f, .int v, .int w] (Sh, I, R) (qi fun r g => r = lossF (I f 0) (I f 1) v w ∧ g = (Sh, I, R)) := by
  refine am_intro (by decide) (Nat.le_of_ble_eq_true rfl) ?_
  refine x_aload_n dX0_lossBy_0 0 rfl rfl ?_
  refine x_gI (v := I f 0) dX0_lossBy_1 fl_0_9 rfl hf rfl ?_
  refine x_tsw [(1, 40), (2, 44), (3, 58), (4, 67), (5, 83)] 94 dX0_lossBy_4 (by decide) (by decide +kernel) (fun c_4 => ?_) ?_
  · refine x_iload_n dX0_lossBy_94 1 rfl rfl ?_
    refine x_iret dX0_lossBy_95 rfl (Nat.le_refl _) (Nat.le_refl _) ?_
    refine ⟨?_, rfl⟩
    unfold lossF
    simp_all
  · refine List.forall_mem_cons.mpr ⟨fun c_4 => ?_, List.forall_mem_cons.mpr ⟨fun c_4 => ?_, List.forall_mem_cons.mpr ⟨fun c_4 => ?_, List.forall_mem_cons.mpr ⟨fun c_4 => ?_, List.forall_mem_cons.mpr ⟨fun c_4 => ?_, fun _ h9 => absurd h9 List.not_mem_nil⟩⟩⟩⟩⟩
    · have c_4 : I f 0 = 1 := c_4.trans (by decide)
      refine x_iload_n dX0_lossBy_40 1 rfl rfl ?_
      refine x_iconst (v := 2) dX0_lossBy_41 (by decide) ?_
      refine x_idiv dX0_lossBy_42 (by decide) ?_
      refine x_iret dX0_lossBy_43 rfl (Nat.le_refl _) (Nat.le_refl _) ?_
      refine ⟨?_, rfl⟩
      unfold lossF
      simp_all
    · have c_4 : I f 0 = 2 := c_4.trans (by decide)
      refine x_aload_n dX0_lossBy_44 0 rfl rfl ?_
      refine x_iload_n dX0_lossBy_45 2 rfl rfl ?_
      refine x_callV (k_isDry (G := G) (Sh := Sh) (I := I) (R := R) (f := f) (w := w) hf) dX0_lossBy_46 crc_X0_isDry vc_0_27 hf rfl rfl rfl rfl (Nat.le_of_ble_eq_true rfl) (roomy_k (by omega) (by decide)) (Nat.le_refl _) (Nat.le_refl _) ?_
      rintro _ _ ⟨r, rfl, hr, rfl⟩
      subst hr
      refine x_if_eqB (tgt := 56) dX0_lossBy_49 (by decide) (fun c_49 => ?_) (fun c_49 => ?_)
      · refine x_iload_n dX0_lossBy_56 1 rfl rfl ?_
        refine x_iret dX0_lossBy_57 rfl (Nat.le_refl _) (Nat.le_refl _) ?_
        refine ⟨?_, rfl⟩
        unfold lossF
        simp_all
      · refine x_iconst (v := 0) dX0_lossBy_52 (by decide) ?_
        refine x_goto (tgt := 57) dX0_lossBy_53 (by decide) ?_
        refine x_iret dX0_lossBy_57 rfl (Nat.le_refl _) (Nat.le_refl _) ?_
        refine ⟨?_, rfl⟩
        unfold lossF
        simp_all
    · have c_4 : I f 0 = 3 := c_4.trans (by decide)
      refine x_iload_n dX0_lossBy_58 1 rfl rfl ?_
      refine x_iconst (v := 2) dX0_lossBy_59 (by decide) ?_
      refine x_idiv dX0_lossBy_60 (by decide) ?_
      refine x_aload_n dX0_lossBy_61 0 rfl rfl ?_
      refine x_gI (v := I f 1) dX0_lossBy_62 fl_0_15 rfl hf rfl ?_
      refine x_iadd dX0_lossBy_65 ?_
      refine x_iret dX0_lossBy_66 rfl (Nat.le_refl _) (Nat.le_refl _) ?_
      refine ⟨?_, rfl⟩
      unfold lossF
      simp_all
    · have c_4 : I f 0 = 4 := c_4.trans (by decide)
      refine x_aload_n dX0_lossBy_67 0 rfl rfl ?_
      refine x_iload_n dX0_lossBy_68 2 rfl rfl ?_
      refine x_callV (k_isDry (G := G) (Sh := Sh) (I := I) (R := R) (f := f) (w := w) hf) dX0_lossBy_69 crc_X0_isDry vc_0_27 hf rfl rfl rfl rfl (Nat.le_of_ble_eq_true rfl) (roomy_k (by omega) (by decide)) (Nat.le_refl _) (Nat.le_refl _) ?_
      rintro _ _ ⟨r, rfl, hr, rfl⟩
      subst hr
      refine x_if_eqB (tgt := 79) dX0_lossBy_72 (by decide) (fun c_72 => ?_) (fun c_72 => ?_)
      · refine x_iconst (v := 2) dX0_lossBy_79 (by decide) ?_
        refine x_iload_n dX0_lossBy_80 1 rfl rfl ?_
        refine x_imul dX0_lossBy_81 ?_
        refine x_iret dX0_lossBy_82 rfl (Nat.le_refl _) (Nat.le_refl _) ?_
        refine ⟨?_, rfl⟩
        unfold lossF
        simp_all
      · refine x_iconst (v := 0) dX0_lossBy_75 (by decide) ?_
        refine x_goto (tgt := 82) dX0_lossBy_76 (by decide) ?_
        refine x_iret dX0_lossBy_82 rfl (Nat.le_refl _) (Nat.le_refl _) ?_
        refine ⟨?_, rfl⟩
        unfold lossF
        simp_all
    · have c_4 : I f 0 = 5 := c_4.trans (by decide)
      refine x_iconst (v := 0) dX0_lossBy_83 (by decide) ?_
      refine x_iload_n dX0_lossBy_84 1 rfl rfl ?_
      refine x_aload_n dX0_lossBy_85 0 rfl rfl ?_
      refine x_gI (v := I f 1) dX0_lossBy_86 fl_0_15 rfl hf rfl ?_
      refine x_isub dX0_lossBy_89 ?_
      refine x_mmax dX0_lossBy_90 sc_0_31 (Nat.le_of_ble_eq_true rfl) (roomy_k (by omega) (by decide)) (Nat.le_refl _) (Nat.le_refl _) ?_
      refine x_iret dX0_lossBy_93 rfl (Nat.le_refl _) (Nat.le_refl _) ?_
      refine ⟨?_, rfl⟩
      unfold lossF
      simp_all

set_option maxHeartbeats 4000000 in
set_option maxRecDepth 100000 in
theorem k_riseBy {G : GG} {Sh : HS} {I : HI} {R : HR} {f : Nat} {v : Int32} (hf : Sh.2 f = (0, 6)) : AM G 1 0 0 yX0_riseBy cX0_riseBy 2 (some .int) [.ref f, .int v] (Sh, I, R) (qi fun r g => r = riseF (I f 0) v ∧ g = (Sh, I, R)) := by
  refine am_intro (by decide) (Nat.le_of_ble_eq_true rfl) ?_
  refine x_aload_n dX0_riseBy_0 0 rfl rfl ?_
  refine x_gI (v := I f 0) dX0_riseBy_1 fl_0_9 rfl hf rfl ?_
  refine x_tsw [(1, 36), (2, 40), (3, 36), (4, 44)] 50 dX0_riseBy_4 (by decide) (by decide +kernel) (fun c_4 => ?_) ?_
  · refine x_iload_n dX0_riseBy_50 1 rfl rfl ?_
    refine x_iret dX0_riseBy_51 rfl (Nat.le_refl _) (Nat.le_refl _) ?_
    refine ⟨?_, rfl⟩
    unfold riseF
    simp_all
  · refine List.forall_mem_cons.mpr ⟨fun c_4 => ?_, List.forall_mem_cons.mpr ⟨fun c_4 => ?_, List.forall_mem_cons.mpr ⟨fun c_4 => ?_, List.forall_mem_cons.mpr ⟨fun c_4 => ?_, fun _ h9 => absurd h9 List.not_mem_nil⟩⟩⟩⟩
    · have c_4 : I f 0 = 1 := c_4.trans (by decide)
      refine x_iload_n dX0_riseBy_36 1 rfl rfl ?_
      refine x_iconst (v := 1) dX0_riseBy_37 (by decide) ?_
      refine x_iadd dX0_riseBy_38 ?_
      refine x_iret dX0_riseBy_39 rfl (Nat.le_refl _) (Nat.le_refl _) ?_
      refine ⟨?_, rfl⟩
      unfold riseF
      simp_all
    · have c_4 : I f 0 = 2 := c_4.trans (by decide)
      refine x_iload_n dX0_riseBy_40 1 rfl rfl ?_
      refine x_iconst (v := 2) dX0_riseBy_41 (by decide) ?_
      refine x_idiv dX0_riseBy_42 (by decide) ?_
      refine x_iret dX0_riseBy_43 rfl (Nat.le_refl _) (Nat.le_refl _) ?_
      refine ⟨?_, rfl⟩
      unfold riseF
      simp_all
    · have c_4 : I f 0 = 3 := c_4.trans (by decide)
      refine x_iload_n dX0_riseBy_36 1 rfl rfl ?_
      refine x_iconst (v := 1) dX0_riseBy_37 (by decide) ?_
      refine x_iadd dX0_riseBy_38 ?_
      refine x_iret dX0_riseBy_39 rfl (Nat.le_refl _) (Nat.le_refl _) ?_
      refine ⟨?_, rfl⟩
      unfold riseF
      simp_all
    · have c_4 : I f 0 = 4 := c_4.trans (by decide)
      refine x_iload_n dX0_riseBy_44 1 rfl rfl ?_
      refine x_iconst (v := 2) dX0_riseBy_45 (by decide) ?_
      refine x_idiv dX0_riseBy_46 (by decide) ?_
      refine x_iconst (v := 1) dX0_riseBy_47 (by decide) ?_
      refine x_iadd dX0_riseBy_48 ?_
      refine x_iret dX0_riseBy_49 rfl (Nat.le_refl _) (Nat.le_refl _) ?_
      refine ⟨?_, rfl⟩
      unfold riseF
      simp_all

set_option maxHeartbeats 4000000 in
set_option maxRecDepth 100000 in
theorem k_begin {G : GG} {Sh : HS} {I : HI} {R : HR} {f : Nat} {k n p : Int32} (hf : Sh.2 f = (0, 6)) : AM G 1 0 0 yX0_begin cX0_begin 4 none [.ref f, .int k, .int n, .int p] (Sh, I, R) (qv fun g => g = (Sh, u2 (u2 (u2 (u2 (u2 I f 0 k) f 1 n) f 2 p) f 3 0) f 4 20, R)) := by
  refine am_intro (by decide) (Nat.le_of_ble_eq_true rfl) ?_
  refine x_aload_n dX0_begin_0 0 rfl rfl ?_
  refine x_iload_n dX0_begin_1 1 rfl rfl ?_
  refine x_pI dX0_begin_2 fl_0_9 rfl rfl rfl hf (fun Iq1 e_Iq1 => ?_)
  refine x_aload_n dX0_begin_5 0 rfl rfl ?_
  refine x_iload_n dX0_begin_6 2 rfl rfl ?_
  refine x_pI dX0_begin_7 fl_0_15 rfl rfl rfl hf (fun Iq2 e_Iq2 => ?_)
  refine x_aload_n dX0_begin_10 0 rfl rfl ?_
  refine x_iload_n dX0_begin_11 3 rfl rfl ?_
  refine x_pI dX0_begin_12 fl_0_18 rfl rfl rfl hf (fun Iq3 e_Iq3 => ?_)
  refine x_aload_n dX0_begin_15 0 rfl rfl ?_
  refine x_iconst (v := 0) dX0_begin_16 (by decide) ?_
  refine x_pI dX0_begin_17 fl_0_21 rfl rfl rfl hf (fun Iq4 e_Iq4 => ?_)
  refine x_aload_n dX0_begin_20 0 rfl rfl ?_
  refine x_bipush (v := 20) dX0_begin_21 (by decide) ?_
  refine x_pI dX0_begin_23 fl_0_24 rfl rfl rfl hf (fun Iq5 e_Iq5 => ?_)
  refine x_vret dX0_begin_26 rfl (Nat.le_refl _) (Nat.le_refl _) ?_
  subst_vars
  rfl

set_option maxHeartbeats 4000000 in
set_option maxRecDepth 100000 in
theorem k_take {G : GG} {Sh : HS} {I : HI} {R : HR} {f : Nat} {g : Nat} (hg : Sh.2 g = (0, 6)) (hne : g ≠ f) (hf : Sh.2 f = (0, 6)) : AM G 1 0 0 yX0_take cX0_take 2 none [.ref f, .ref g] (Sh, I, R) (qv fun h => ∃ I2, h = (Sh, I2, R) ∧ (∀ k, k < 5 → I2 f k = I g k) ∧ ∀ a k, ¬ (a = f ∧ k < 5) → I2 a k = I a k) := by
  refine am_intro (by decide) (Nat.le_of_ble_eq_true rfl) ?_
  refine x_aload_n dX0_take_0 0 rfl rfl ?_
  refine x_aload_n dX0_take_1 1 rfl rfl ?_
  refine x_gI (v := I g 0) dX0_take_2 fl_0_9 rfl hg rfl ?_
  refine x_pI dX0_take_5 fl_0_9 rfl rfl rfl hf (fun Iq1 e_Iq1 => ?_)
  refine x_aload_n dX0_take_8 0 rfl rfl ?_
  refine x_aload_n dX0_take_9 1 rfl rfl ?_
  refine x_gI (v := Iq1 g 1) dX0_take_10 fl_0_15 rfl hg rfl ?_
  refine x_pI dX0_take_13 fl_0_15 rfl rfl rfl hf (fun Iq2 e_Iq2 => ?_)
  refine x_aload_n dX0_take_16 0 rfl rfl ?_
  refine x_aload_n dX0_take_17 1 rfl rfl ?_
  refine x_gI (v := Iq2 g 2) dX0_take_18 fl_0_18 rfl hg rfl ?_
  refine x_pI dX0_take_21 fl_0_18 rfl rfl rfl hf (fun Iq3 e_Iq3 => ?_)
  refine x_aload_n dX0_take_24 0 rfl rfl ?_
  refine x_aload_n dX0_take_25 1 rfl rfl ?_
  refine x_gI (v := Iq3 g 3) dX0_take_26 fl_0_21 rfl hg rfl ?_
  refine x_pI dX0_take_29 fl_0_21 rfl rfl rfl hf (fun Iq4 e_Iq4 => ?_)
  refine x_aload_n dX0_take_32 0 rfl rfl ?_
  refine x_aload_n dX0_take_33 1 rfl rfl ?_
  refine x_gI (v := Iq4 g 4) dX0_take_34 fl_0_24 rfl hg rfl ?_
  refine x_pI dX0_take_37 fl_0_24 rfl rfl rfl hf (fun Iq5 e_Iq5 => ?_)
  refine x_vret dX0_take_40 rfl (Nat.le_refl _) (Nat.le_refl _) ?_
  refine ⟨_, rfl, ?_, ?_⟩
  · intro k hk
    subst_vars
    have h5 : k = 0 ∨ k = 1 ∨ k = 2 ∨ k = 3 ∨ k = 4 := by omega
    rcases h5 with rfl | rfl | rfl | rfl | rfl <;> simp [u2, hne]
  · intro a k h
    subst_vars
    simp only [u2]
    repeat rw [if_neg (by omega)]

