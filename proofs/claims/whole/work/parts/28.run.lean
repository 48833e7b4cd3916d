set_option maxHeartbeats 4000000 in
set_option maxRecDepth 100000 in
theorem k_think {G : GG} {Sh : HS} {I : HI} {R : HR} {b : Nat} {σ : SG} (hc : CI b Sh I R σ) : AM G 3 0 0 yX7_think cX7_think 1 (some (.object "Sandcastles$Strand")) [.ref b] (Sh, I, R) (qa fun r g => r = some (b + 44) ∧ ∃ (J : HI) (R' : HR), g = (Sh, J, R') ∧ TH b Sh J R' σ (gW σ) ∧ pvE b I J ∧ rvE b R R') := by
  obtain ⟨⟨s0, s1, s2, s3, s4, s5, s6, s7, sT, sS, sA, sB, sC, sG⟩, ⟨r0, r1, r2, r4, r5, r6, r8, r9, rt0, rt2, rt3, rr0, rT, rS, rTT, rSS, rA, rB, rC, rG⟩, hCT, hCK, hCTp, hCIm, hCSe⟩ := id hc
  have hn8 : gN σ ≤ 8 := hCK.2.1
  have hru := hc.ru
  refine am_intro (by decide) (Nat.le_of_ble_eq_true rfl) ?_
  refine x_aload_n dX7_think_0 0 rfl rfl ?_
  refine x_gR (b := b + 44) dX7_think_1 fl_7_77 rfl s0 r5 ?_
  refine x_aload_n dX7_think_4 0 rfl rfl ?_
  refine x_gR (b := b + 34) dX7_think_5 fl_7_73 rfl s0 r4 ?_
  refine x_callV (k_stake (G := G) (Sh := Sh) (I := I) (R := R) (S := b + 44) (U := b + 34) (T := b + 8 + 3 * gRu σ) sB rB sA rA hCK.2.2.2.1 (by omega) (sT _ hru).1) dX7_think_8 crc_X4_take vc_7_207 sB.1 rfl rfl rfl rfl (Nat.le_of_ble_eq_true rfl) (roomy_k (by omega) (by decide)) (Nat.le_refl _) (Nat.le_refl _) ?_
  rintro _ _ ⟨rfl, J, rfl, h1, h2, h3, h4, h5⟩
  obtain ⟨hth, hpv, hrv⟩ := TH.of hc h1 h2 h3 h4 h5
  generalize hR2 : u2 R (b + 44) 4 (some (b + 8 + 3 * gRu σ)) = R2 at hth hrv ⊢
  refine x_aload_n dX7_think_11 0 rfl rfl ?_
  refine x_gR (b := b + 44) dX7_think_12 fl_7_77 rfl s0 ((hrv _ _ (by omega)).trans r5) ?_
  refine x_aret dX7_think_15 rfl (Or.inl ⟨_, rfl⟩) (Nat.le_refl _) (Nat.le_refl _) ?_
  exact ⟨rfl, J, R2, rfl, hth, hpv, hrv⟩

set_option maxHeartbeats 4000000 in
set_option maxRecDepth 100000 in
theorem k_isAhead {G : GG} {Sh : HS} {I : HI} {R : HR} {n : Int32} : AM G 1 0 0 yX7_isAhead cX7_isAhead 1 (some .boolean) [.int n] (Sh, I, R) (qi fun r g => r = bI (aheadP n) ∧ g = (Sh, I, R)) := by
  refine am_intro (by decide) (Nat.le_of_ble_eq_true rfl) ?_
  refine x_iload_n dX7_isAhead_0 0 rfl rfl ?_
  refine x_if_lt (tgt := 14) dX7_isAhead_1 (by decide) (fun c_1 => ?_) (fun c_1 => ?_)
  · refine x_iconst (v := 0) dX7_isAhead_14 (by decide) ?_
    refine x_zret dX7_isAhead_15 rfl rfl (Nat.le_refl _) (Nat.le_refl _) ?_
    exact ⟨(bI_f (fun q => absurd c_1 (Int32.not_lt.mpr q.1))).symm, rfl⟩
  · refine x_iload_n dX7_isAhead_4 0 rfl rfl ?_
    refine x_bipush (v := 40) dX7_isAhead_5 (by decide) ?_
    refine x_icmp_gt (tgt := 14) dX7_isAhead_7 (by decide) (fun c_7 => ?_) (fun c_7 => ?_)
    · refine x_iconst (v := 0) dX7_isAhead_14 (by decide) ?_
      refine x_zret dX7_isAhead_15 rfl rfl (Nat.le_refl _) (Nat.le_refl _) ?_
      exact ⟨(bI_f (fun q => absurd c_7 (Int32.not_lt.mpr q.2))).symm, rfl⟩
    · refine x_iconst (v := 1) dX7_isAhead_10 (by decide) ?_
      refine x_goto (tgt := 15) dX7_isAhead_11 (by decide) ?_
      refine x_zret dX7_isAhead_15 rfl rfl (Nat.le_refl _) (Nat.le_refl _) ?_
      exact ⟨(bI_t ⟨Int32.not_lt.mp c_1, Int32.not_lt.mp c_7⟩).symm, rfl⟩

set_option maxHeartbeats 4000000 in
set_option maxRecDepth 100000 in
theorem k_isAnswer {G : GG} {Sh : HS} {I : HI} {R : HR} {w : Int32} : AM G 1 0 0 yX7_isAnswer cX7_isAnswer 1 (some .boolean) [.int w] (Sh, I, R) (qi fun r g => r = bI (ansP w) ∧ g = (Sh, I, R)) := by
  refine am_intro (by decide) (Nat.le_of_ble_eq_true rfl) ?_
  refine x_iload_n dX7_isAnswer_0 0 rfl rfl ?_
  refine x_if_eq (tgt := 9) dX7_isAnswer_1 (by decide) (fun c_1 => ?_) (fun c_1 => ?_)
  · refine x_iconst (v := 1) dX7_isAnswer_9 (by decide) ?_
    refine x_goto (tgt := 14) dX7_isAnswer_10 (by decide) ?_
    refine x_zret dX7_isAnswer_14 rfl rfl (Nat.le_refl _) (Nat.le_refl _) ?_
    exact ⟨(bI_t (Or.inl c_1)).symm, rfl⟩
  · refine x_iload_n dX7_isAnswer_4 0 rfl rfl ?_
    refine x_iconst (v := 1) dX7_isAnswer_5 (by decide) ?_
    refine x_icmp_ne (tgt := 13) dX7_isAnswer_6 (by decide) (fun c_6 => ?_) (fun c_6 => ?_)
    · refine x_iconst (v := 0) dX7_isAnswer_13 (by decide) ?_
      refine x_zret dX7_isAnswer_14 rfl rfl (Nat.le_refl _) (Nat.le_refl _) ?_
      exact ⟨(bI_f (fun q => q.elim c_1 c_6)).symm, rfl⟩
    · refine x_iconst (v := 1) dX7_isAnswer_9 (by decide) ?_
      refine x_goto (tgt := 14) dX7_isAnswer_10 (by decide) ?_
      refine x_zret dX7_isAnswer_14 rfl rfl (Nat.le_refl _) (Nat.le_refl _) ?_
      exact ⟨(bI_t (Or.inr c_6)).symm, rfl⟩

set_option maxHeartbeats 4000000 in
set_option maxRecDepth 100000 in
theorem k_sheetAt {G : GG} {Sh : HS} {I : HI} {R : HR} {b : Nat} {σ : SG} (hc : CI b Sh I R σ) {i : Int32} : AM G 1 0 0 yX7_sheetAt cX7_sheetAt 2 (some (.object "Sandcastles$Sheet")) [.ref b, .int i] (Sh, I, R) (qa fun r g => g = (Sh, I, R) ∧ ((∃ j, j < 4 ∧ i = nI j ∧ r = some (b + 26 + 2 * j)) ∨ ((∀ j, j < 4 → i ≠ nI j) ∧ r = none))) := by
  obtain ⟨⟨s0, s1, s2, s3, s4, s5, s6, s7, sT, sS, sA, sB, sC, sG⟩, ⟨r0, r1, r2, r4, r5, r6, r8, r9, rt0, rt2, rt3, rr0, rT, rS, rTT, rSS, rA, rB, rC, rG⟩, hCT, hCK, hCTp, hCIm, hCSe⟩ := id hc
  have hn8 : gN σ ≤ 8 := hCK.2.1
  have hru := hc.ru
  refine am_intro (by decide) (Nat.le_of_ble_eq_true rfl) ?_
  refine x_iload_n dX7_sheetAt_0 1 rfl rfl ?_
  refine x_if_lt (tgt := 18) dX7_sheetAt_1 (by decide) (fun c_1 => ?_) (fun c_1 => ?_)
  · refine x_null dX7_sheetAt_18 ?_
    refine x_aretN dX7_sheetAt_19 rfl (Or.inl ⟨_, rfl⟩) (Nat.le_refl _) (Nat.le_refl _) ?_
    exact ⟨rfl, Or.inr ⟨fun j hj => idx_no (n := 4) (Or.inl c_1) hj (by omega), rfl⟩⟩
  · refine x_iload_n dX7_sheetAt_4 1 rfl rfl ?_
    refine x_iconst (v := 4) dX7_sheetAt_5 (by decide) ?_
    refine x_icmp_ge (tgt := 18) dX7_sheetAt_6 (by decide) (fun c_6 => ?_) (fun c_6 => ?_)
    · refine x_null dX7_sheetAt_18 ?_
      refine x_aretN dX7_sheetAt_19 rfl (Or.inl ⟨_, rfl⟩) (Nat.le_refl _) (Nat.le_refl _) ?_
      exact ⟨rfl, Or.inr ⟨fun j hj => idx_no (n := 4) (Or.inr c_6) hj (by omega), rfl⟩⟩
    · obtain ⟨j, hj, hij⟩ := idx_of (n := 4) c_1 c_6 (by omega)
      refine x_aload_n dX7_sheetAt_9 0 rfl rfl ?_
      refine x_gR (b := b + 7) dX7_sheetAt_10 fl_7_33 rfl s0 r9 ?_
      refine x_iload_n dX7_sheetAt_13 1 rfl rfl ?_
      refine x_aa (j := j) (b := b + 26 + 2 * j) dX7_sheetAt_14 s7 (by decide) (by decide) hij hj (by omega) (rS j hj) ?_
      refine x_goto (tgt := 19) dX7_sheetAt_15 (by decide) ?_
      refine x_aret dX7_sheetAt_19 rfl (Or.inl ⟨_, rfl⟩) (Nat.le_refl _) (Nat.le_refl _) ?_
      exact ⟨rfl, Or.inl ⟨j, hj, hij, rfl⟩⟩

set_option maxHeartbeats 4000000 in
set_option maxRecDepth 100000 in
theorem k_isView {G : GG} {Sh : HS} {I : HI} {R : HR} {b : Nat} {σ : SG} (hc : CI b Sh I R σ) {w : Int32} : AM G 2 0 0 yX7_isView cX7_isView 2 (some .boolean) [.ref b, .int w] (Sh, I, R) (qi fun r g => r = bI (viewP (gN σ) w) ∧ g = (Sh, I, R)) := by
  obtain ⟨⟨s0, s1, s2, s3, s4, s5, s6, s7, sT, sS, sA, sB, sC, sG⟩, ⟨r0, r1, r2, r4, r5, r6, r8, r9, rt0, rt2, rt3, rr0, rT, rS, rTT, rSS, rA, rB, rC, rG⟩, hCT, hCK, hCTp, hCIm, hCSe⟩ := id hc
  have hn8 : gN σ ≤ 8 := hCK.2.1
  have hru := hc.ru
  refine am_intro (by decide) (Nat.le_of_ble_eq_true rfl) ?_
  refine x_iload_n dX7_isView_0 1 rfl rfl ?_
  refine x_if_lt (tgt := 9) dX7_isView_1 (by decide) (fun c_1 => ?_) (fun c_1 => ?_)
  · refine x_aload_n dX7_isView_9 0 rfl rfl ?_
    refine x_gR (b := b + 34) dX7_isView_10 fl_7_73 rfl s0 r4 ?_
    refine x_iload_n dX7_isView_13 1 rfl rfl ?_
    refine x_bipush (v := 10) dX7_isView_14 (by decide) ?_
    refine x_isub dX7_isView_16 ?_
    refine x_callV (k_at (G := G) (Sh := Sh) (I := I) (R := R) (S := b + 34) (n := gN σ) (i := w - 10) sA rA hCK.1 hn8) dX7_isView_17 crc_X4_at vc_7_106 sA.1 rfl rfl rfl rfl (Nat.le_of_ble_eq_true rfl) (roomy_k (by omega) (by decide)) (Nat.le_refl _) (Nat.le_refl _) ?_
    rintro _ _ ⟨_, rfl, rfl, (⟨j, hj, hij, rfl⟩ | ⟨hno, rfl⟩)⟩
    · refine x_ifnull dX7_isView_20 ?_
      refine x_iconst (v := 1) dX7_isView_23 (by decide) ?_
      refine x_goto (tgt := 28) dX7_isView_24 (by decide) ?_
      refine x_zret dX7_isView_28 rfl rfl (Nat.le_refl _) (Nat.le_refl _) ?_
      exact ⟨(bI_t (Or.inr (by rw [hij, idF_in hj hn8]; rfl))).symm, rfl⟩
    · refine x_ifnullN (tgt := 27) dX7_isView_20 (by decide) ?_
      refine x_iconst (v := 0) dX7_isView_27 (by decide) ?_
      refine x_zret dX7_isView_28 rfl rfl (Nat.le_refl _) (Nat.le_refl _) ?_
      exact ⟨(bI_f (fun q => q.elim (fun q => absurd c_1 (Int32.not_lt.mpr q.1)) (fun q => by rw [idF_out hn8 hno] at q; cases q))).symm, rfl⟩
  · refine x_iload_n dX7_isView_4 1 rfl rfl ?_
    refine x_iconst (v := 2) dX7_isView_5 (by decide) ?_
    refine x_icmp_le (tgt := 23) dX7_isView_6 (by decide) (fun c_6 => ?_) (fun c_6 => ?_)
    · refine x_iconst (v := 1) dX7_isView_23 (by decide) ?_
      refine x_goto (tgt := 28) dX7_isView_24 (by decide) ?_
      refine x_zret dX7_isView_28 rfl rfl (Nat.le_refl _) (Nat.le_refl _) ?_
      exact ⟨(bI_t (Or.inl ⟨Int32.not_lt.mp c_1, c_6⟩)).symm, rfl⟩
    · refine x_aload_n dX7_isView_9 0 rfl rfl ?_
      refine x_gR (b := b + 34) dX7_isView_10 fl_7_73 rfl s0 r4 ?_
      refine x_iload_n dX7_isView_13 1 rfl rfl ?_
      refine x_bipush (v := 10) dX7_isView_14 (by decide) ?_
      refine x_isub dX7_isView_16 ?_
      refine x_callV (k_at (G := G) (Sh := Sh) (I := I) (R := R) (S := b + 34) (n := gN σ) (i := w - 10) sA rA hCK.1 hn8) dX7_isView_17 crc_X4_at vc_7_106 sA.1 rfl rfl rfl rfl (Nat.le_of_ble_eq_true rfl) (roomy_k (by omega) (by decide)) (Nat.le_refl _) (Nat.le_refl _) ?_
      rintro _ _ ⟨_, rfl, rfl, (⟨j, hj, hij, rfl⟩ | ⟨hno, rfl⟩)⟩
      · refine x_ifnull dX7_isView_20 ?_
        refine x_iconst (v := 1) dX7_isView_23 (by decide) ?_
        refine x_goto (tgt := 28) dX7_isView_24 (by decide) ?_
        refine x_zret dX7_isView_28 rfl rfl (Nat.le_refl _) (Nat.le_refl _) ?_
        exact ⟨(bI_t (Or.inr (by rw [hij, idF_in hj hn8]; rfl))).symm, rfl⟩
      · refine x_ifnullN (tgt := 27) dX7_isView_20 (by decide) ?_
        refine x_iconst (v := 0) dX7_isView_27 (by decide) ?_
        refine x_zret dX7_isView_28 rfl rfl (Nat.le_refl _) (Nat.le_refl _) ?_
        exact ⟨(bI_f (fun q => q.elim (fun q => absurd q.2 c_6) (fun q => by rw [idF_out hn8 hno] at q; cases q))).symm, rfl⟩

set_option maxHeartbeats 4000000 in
set_option maxRecDepth 100000 in
theorem k_view {G : GG} {Sh : HS} {I : HI} {R : HR} {b : Nat} {σ : SG} {v : SV} (hc : CI b Sh I R σ) (ht : TH b Sh I R σ v) {w : Int32} : AM G 6 0 0 yX7_view cX7_view 3 (some .int) [.ref b, .int w] (Sh, I, R) (qi (qryI b Sh I R (vwF (gP σ) (gN σ) v w))) := by
  obtain ⟨⟨s0, s1, s2, s3, s4, s5, s6, s7, sT, sS, sA, sB, sC, sG⟩, ⟨r0, r1, r2, r4, r5, r6, r8, r9, rt0, rt2, rt3, rr0, rT, rS, rTT, rSS, rA, rB, rC, rG⟩, hCT, hCK, hCTp, hCIm, hCSe⟩ := id hc
  have hn8 : gN σ ≤ 8 := hCK.2.1
  have hru := hc.ru
  refine am_intro (by decide) (Nat.le_of_ble_eq_true rfl) ?_
  refine x_iload_n dX7_view_0 1 rfl rfl ?_
  refine x_tsw [(0, 28), (1, 36), (2, 44)] 53 dX7_view_1 (by decide) (by decide +kernel) (fun c_1 => ?_) ?_
  · refine x_aload_n dX7_view_53 0 rfl rfl ?_
    refine x_gR (b := b + 44) dX7_view_54 fl_7_77 rfl s0 r5 ?_
    refine x_iload_n dX7_view_57 1 rfl rfl ?_
    refine x_bipush (v := 10) dX7_view_58 (by decide) ?_
    refine x_isub dX7_view_60 ?_
    refine x_callV (k_at (G := G) (Sh := Sh) (I := I) (R := R) (S := b + 44) (n := gN σ) (i := w - 10) sB rB ht.1.2.2.1 hn8) dX7_view_61 crc_X4_at vc_7_106 sB.1 rfl rfl rfl rfl (Nat.le_of_ble_eq_true rfl) (roomy_k (by omega) (by decide)) (Nat.le_refl _) (Nat.le_refl _) ?_
    rintro _ _ ⟨_, rfl, rfl, (⟨j, hj, hij, rfl⟩ | ⟨hno, rfl⟩)⟩
    · refine x_astore_n (lv' := [(2, .ref (b + 44 + 2 + j)), (0, .ref b), (1, .int w)]) dX7_view_64 rfl (by decide) rfl ?_
      refine x_aload_n dX7_view_65 0 rfl rfl ?_
      refine x_ifnonnull (tgt := 74) dX7_view_66 (by decide) ?_
      refine x_aload_n dX7_view_74 0 rfl rfl ?_
      refine x_gI (v := v.1 j 4) dX7_view_75 fl_7_132 rfl (sB.2.2 j (by omega)) (ht.2.1 j hj 4 (by omega)) ?_
      refine x_iret dX7_view_78 rfl (Nat.le_refl _) (Nat.le_refl _) ?_
      refine ⟨?_, I, R, rfl, pvE.rf, rvE.rf⟩
      unfold vwF
      rw [if_neg (by simpa using c_1 (0, 28) (by simp)), if_neg (by simpa using c_1 (1, 36) (by simp)), if_neg (by simpa using c_1 (2, 44) (by simp)), hij, idF_in hj hn8]
    · refine x_astore_nN (lv' := [(2, .null), (0, .ref b), (1, .int w)]) dX7_view_64 rfl (by decide) rfl ?_
      refine x_aload_nN dX7_view_65 0 rfl rfl ?_
      refine x_ifnonnullN dX7_view_66 ?_
      refine x_ldc (v := (-100000)) dX7_view_69 (tw_at 627 (by decide +kernel) rfl) ?_
      refine x_goto (tgt := 78) dX7_view_71 (by decide) ?_
      refine x_iret dX7_view_78 rfl (Nat.le_refl _) (Nat.le_refl _) ?_
      refine ⟨?_, I, R, rfl, pvE.rf, rvE.rf⟩
      unfold vwF
      rw [if_neg (by simpa using c_1 (0, 28) (by simp)), if_neg (by simpa using c_1 (1, 36) (by simp)), if_neg (by simpa using c_1 (2, 44) (by simp)), idF_out hn8 hno]
  · refine List.forall_mem_cons.mpr ⟨fun c_1 => ?_, List.forall_mem_cons.mpr ⟨fun c_1 => ?_, List.forall_mem_cons.mpr ⟨fun c_1 => ?_, fun _ h9 => absurd h9 List.not_mem_nil⟩⟩⟩
    · have c_1 : w = 0 := c_1.trans (by decide)
      refine x_aload_n dX7_view_28 0 rfl rfl ?_
      refine x_gR (b := b + 44) dX7_view_29 fl_7_77 rfl s0 r5 ?_
      refine x_callV (k_standing (G := G) ht.1 ht.2) dX7_view_32 crc_X4_standing vc_7_161 sB.1 rfl rfl rfl rfl (Nat.le_of_ble_eq_true rfl) (roomy_k (by omega) (by decide)) (Nat.le_refl _) (Nat.le_refl _) ?_
      rintro _ _ ⟨r, rfl, hr, rfl⟩
      refine x_iret dX7_view_35 rfl (Nat.le_refl _) (Nat.le_refl _) ?_
      refine ⟨?_, I, R, rfl, pvE.rf, rvE.rf⟩
      unfold vwF
      rw [if_pos c_1]
      exact hr
    · have c_1 : w = 1 := c_1.trans (by decide)
      refine x_aload_n dX7_view_36 0 rfl rfl ?_
      refine x_gR (b := b + 44) dX7_view_37 fl_7_77 rfl s0 r5 ?_
      refine x_callV (k_bay (G := G) ht.1 ht.2) dX7_view_40 crc_X4_bay vc_7_201 sB.1 rfl rfl rfl rfl (Nat.le_of_ble_eq_true rfl) (roomy_k (by omega) (by decide)) (Nat.le_refl _) (Nat.le_refl _) ?_
      rintro _ _ ⟨r, rfl, hr, rfl⟩
      refine x_iret dX7_view_43 rfl (Nat.le_refl _) (Nat.le_refl _) ?_
      refine ⟨?_, I, R, rfl, pvE.rf, rvE.rf⟩
      unfold vwF
      subst c_1
      rw [if_neg (by decide), if_pos rfl]
      exact hr
    · have c_1 : w = 2 := c_1.trans (by decide)
      refine x_aload_n dX7_view_44 0 rfl rfl ?_
      refine x_gR (b := b + 44) dX7_view_45 fl_7_77 rfl s0 r5 ?_
      refine x_iconst (v := 0) dX7_view_48 (by decide) ?_
      refine x_callV (k_valueOf (G := G) ht.1 ht.2 (r := 0)) dX7_view_49 crc_X4_valueOf vc_7_204 sB.1 rfl rfl rfl rfl (Nat.le_of_ble_eq_true rfl) (roomy_k (by omega) (by decide)) (Nat.le_refl _) (Nat.le_refl _) ?_
      rintro _ _ ⟨r, rfl, hr, J, hoff, rfl⟩
      refine x_iret dX7_view_52 rfl (Nat.le_refl _) (Nat.le_refl _) ?_
      refine ⟨?_, J, R, rfl, hoff.pv hru, rvE.rf⟩
      unfold vwF
      subst c_1
      rw [if_neg (by decide), if_neg (by decide), if_pos rfl]
      exact hr

set_option maxHeartbeats 4000000 in
set_option maxRecDepth 100000 in
theorem k_run {G : GG} {Sh : HS} {I : HI} {R : HR} {b : Nat} {σ : SG} (hc : CI b Sh I R σ) {n w : Int32} : AM G 7 0 0 yX7_run cX7_run 3 (some .int) [.ref b, .int n, .int w] (Sh, I, R) (qi (qryI b Sh I R (runF σ n w))) := by
  obtain ⟨⟨s0, s1, s2, s3, s4, s5, s6, s7, sT, sS, sA, sB, sC, sG⟩, ⟨r0, r1, r2, r4, r5, r6, r8, r9, rt0, rt2, rt3, rr0, rT, rS, rTT, rSS, rA, rB, rC, rG⟩, hCT, hCK, hCTp, hCIm, hCSe⟩ := id hc
  have hn8 : gN σ ≤ 8 := hCK.2.1
  have hru := hc.ru
  refine am_intro (by decide) (Nat.le_of_ble_eq_true rfl) ?_
  refine x_iload_n dX7_run_0 1 rfl rfl ?_
  refine x_callS (rest := []) (k_isAhead (G := G) (Sh := Sh) (I := I) (R := R) (n := n)) dX7_run_1 crc_X7_isAhead sc_7_168 rfl rfl (Nat.le_of_ble_eq_true rfl) (roomy_k (by omega) (by decide)) (Nat.le_refl _) (Nat.le_refl _) ?_
  rintro _ _ ⟨_, rfl, rfl, rfl⟩
  refine x_if_eqB (tgt := 15) dX7_run_4 (by decide) (fun c_4 => ?_) (fun c_4 => ?_)
  · refine x_ldc (v := (-100000)) dX7_run_15 (tw_at 627 (by decide +kernel) rfl) ?_
    refine x_iret dX7_run_17 rfl (Nat.le_refl _) (Nat.le_refl _) ?_
    refine ⟨?_, I, R, rfl, pvE.rf, rvE.rf⟩
    unfold runF
    rw [if_neg (fun q => c_4 q.1)]
  · refine x_aload_n dX7_run_7 0 rfl rfl ?_
    refine x_iload_n dX7_run_8 2 rfl rfl ?_
    refine x_callV (k_isView (G := G) hc (w := w)) dX7_run_9 crc_X7_isView vc_7_171 s0 rfl rfl rfl rfl (Nat.le_of_ble_eq_true rfl) (roomy_k (by omega) (by decide)) (Nat.le_refl _) (Nat.le_refl _) ?_
    rintro _ _ ⟨_, rfl, rfl, rfl⟩
    refine x_if_neB (tgt := 18) dX7_run_12 (by decide) (fun c_12 => ?_) (fun c_12 => ?_)
    · refine x_aload_n dX7_run_18 0 rfl rfl ?_
      refine x_callV (k_think (G := G) hc) dX7_run_19 crc_X7_think vc_7_175 s0 rfl rfl rfl rfl (Nat.le_of_ble_eq_true rfl) (roomy_k (by omega) (by decide)) (Nat.le_refl _) (Nat.le_refl _) ?_
      rintro _ _ ⟨_, rfl, rfl, J, R2, rfl, ht, hpv, hrv⟩
      refine x_iload_n dX7_run_22 1 rfl rfl ?_
      obtain ⟨k, hk, rfl⟩ := ahead_nat c_4
      refine x_callV (k_pass (G := G) ht.1 ht.2 (k := k) (by omega)) dX7_run_23 crc_X4_pass vc_7_179 sB.1 rfl rfl rfl rfl (Nat.le_of_ble_eq_true rfl) (roomy_k (by omega) (by decide)) (Nat.le_refl _) (Nat.le_refl _) ?_
      rintro _ _ ⟨rfl, J2, rfl, hs2, hf2⟩
      refine x_aload_n dX7_run_26 0 rfl rfl ?_
      refine x_iload_n dX7_run_27 2 rfl rfl ?_
      have hpv2 := hpv.tr (hf2.pv hru rfl)
      refine x_callV (k_view (G := G) (hc.pv hpv2 hrv) ⟨ht.1.fr hf2, hs2⟩ (w := w)) dX7_run_28 crc_X7_view vc_7_182 s0 rfl rfl rfl rfl (Nat.le_of_ble_eq_true rfl) (roomy_k (by omega) (by decide)) (Nat.le_refl _) (Nat.le_refl _) ?_
      rintro _ _ ⟨r, rfl, hr, J3, R3, rfl, hpv3, hrv3⟩
      refine x_iret dX7_run_31 rfl (Nat.le_refl _) (Nat.le_refl _) ?_
      refine ⟨?_, J3, R3, rfl, hpv2.tr hpv3, hrv.tr hrv3⟩
      unfold runF
      rw [if_pos ⟨c_4, c_12⟩, nI_clamp (by omega)]
      exact hr
    · refine x_ldc (v := (-100000)) dX7_run_15 (tw_at 627 (by decide +kernel) rfl) ?_
      refine x_iret dX7_run_17 rfl (Nat.le_refl _) (Nat.le_refl _) ?_
      refine ⟨?_, I, R, rfl, pvE.rf, rvE.rf⟩
      unfold runF
      rw [if_neg (fun q => c_12 q.2)]

