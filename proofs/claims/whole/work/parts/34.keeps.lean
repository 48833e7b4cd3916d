theorem TH.rs {b : Nat} {Sh : HS} {I : HI} {R : HR} {σ : SG} {v : SV} (h : TH b Sh I R σ v) : RS R (b + 44) := h.1.2.1
theorem TH.sz {b : Nat} {Sh : HS} {I : HI} {R : HR} {σ : SG} {v : SV} (h : TH b Sh I R σ v) : I (b + 44) 1 = nI (gN σ) := h.1.2.2.1

set_option maxHeartbeats 4000000 in
set_option maxRecDepth 100000 in
theorem k_keeps_l {G : GG} {Sh : HS} {I : HI} {R : HR} {b : Nat} {σ : SG} (hc : CI b Sh I R σ) {i k hh : Nat} (hi : i < gN σ) (hk : k ≤ 40) (hh9 : hh < 100) (hhe : (gW σ).1 i 4 = nI hh) {f : Int32} : ∀ (m : Nat) (q : Nat) (J : HI) (R3 : HR), (q ≤ 100 - hh) → (100 - hh < q + m) → (fsF (fun j => 0 < (passF (gP σ) (gN σ) (upV (gW σ) i 4 ((gW σ).1 i 4 + nI j)) k).1 i 4) (100 - hh - q) q = fsF (fun j => 0 < (passF (gP σ) (gN σ) (upV (gW σ) i 4 ((gW σ).1 i 4 + nI j)) k).1 i 4) (100 - hh) 0) → (pvE b I J) → (rvE b R R3) → X G (kM G 7 0 0 (qi (qryI b Sh I R (fsF (fun j => 0 < (passF (gP σ) (gN σ) (upV (gW σ) i 4 ((gW σ).1 i 4 + nI j)) k).1 i 4) (100 - hh) 0)))) yX7_keeps cX7_keeps 6 (some .int) 0 0 32 [(5, .int (nI q)), (4, .int (nI hh)), (3, .ref (b + 44 + 2 + i)), (0, .ref b), (1, .int f), (2, .int (nI k))] [] (Sh, J, R3) := by
  intro m
  induction m with
  | zero =>
    intro q J R3 hq hm hval hpv hrv
    exact absurd hm (by omega)
  | succ m ih =>
    intro q J R3 hq hm hval hpv hrv
    obtain ⟨⟨s0, s1, s2, s3, s4, s5, s6, s7, sT, sS, sA, sB, sC, sG⟩, ⟨r0, r1, r2, r4, r5, r6, r8, r9, rt0, rt2, rt3, rr0, rT, rS, rTT, rSS, rA, rB, rC, rG⟩, hCT, hCK, hCTp, hCIm, hCSe⟩ := id hc
    have hn8 : gN σ ≤ 8 := hCK.2.1
    have hru := hc.ru
    have hs := hc.sr
    have hw := hc.sw
    refine x_iload dX7_keeps_32 1 rfl ?_
    refine x_iload dX7_keeps_34 0 rfl ?_
    refine x_iadd dX7_keeps_36 ?_
    refine x_vali (nI_add hh q) ?_
    refine x_bipush (v := 100) dX7_keeps_37 (by decide) ?_
    refine x_icmp_ge (tgt := 80) dX7_keeps_39 (by decide) (fun c_39 => ?_) (fun c_39 => ?_)
    · have c_39 : 100 ≤ (hh + q) := (nI_leI (a := 100) (b := (hh + q)) (by omega) (by omega)).mp c_39
      refine x_iconst (v := (-1)) dX7_keeps_80 (by decide) ?_
      refine x_iret dX7_keeps_81 rfl (Nat.le_refl _) (Nat.le_refl _) ?_
      exact ⟨by rw [← hval, show 100 - hh - q = 0 by omega]; rfl, J, R3, rfl, hpv, hrv⟩
    · have c_39 : ¬ 100 ≤ (hh + q) := fun zz9 => c_39 ((nI_leI (a := 100) (b := (hh + q)) (by omega) (by omega)).mpr zz9)
      refine x_aload_n dX7_keeps_42 3 rfl rfl ?_
      refine x_callV (k_think (G := G) (hc.pv hpv hrv)) dX7_keeps_43 crc_X7_think vc_7_175 s0 rfl rfl rfl rfl (Nat.le_of_ble_eq_true rfl) (roomy_k (by omega) (by decide)) (Nat.le_refl _) (Nat.le_refl _) ?_
      rintro _ _ ⟨_, rfl, rfl, J1t, R1t, rfl, ht, hpv2, hrv2⟩
      have hpv := hpv.tr hpv2
      have hrv := hrv.tr hrv2
      refine x_pop dX7_keeps_46 rfl ?_
      refine x_aload_n dX7_keeps_47 2 rfl rfl ?_
      refine x_iload dX7_keeps_48 1 rfl ?_
      refine x_iload dX7_keeps_50 0 rfl ?_
      refine x_iadd dX7_keeps_52 ?_
      refine x_vali (nI_add hh q) ?_
      refine x_pI dX7_keeps_53 fl_7_132 rfl rfl rfl (sB.2.2 i (by omega)) (fun Iq1 e_Iq1 => ?_)
      refine x_aload_n dX7_keeps_56 3 rfl rfl ?_
      refine x_gR (b := b + 44) dX7_keeps_57 fl_7_77 rfl s0 ((hrv _ _ (by omega)).trans r5) ?_
      refine x_iload_n dX7_keeps_60 5 rfl rfl ?_
      have hth := ht.put (x := nI (hh + q)) hi hn8 (k := 4) (by omega)
      rw [← e_Iq1] at hth
      have ht := hth.1
      have hpv := hpv.tr hth.2
      refine x_callV (k_pass (G := G) ht.1 ht.2 (k := k) (by omega)) dX7_keeps_61 crc_X4_pass vc_7_179 sB.1 rfl rfl rfl rfl (Nat.le_of_ble_eq_true rfl) (roomy_k (by omega) (by decide)) (Nat.le_refl _) (Nat.le_refl _) ?_
      rintro _ _ ⟨rfl, J9p, rfl, hs2, hf2⟩
      have ht := ht.fr hf2 hs2
      have hpv := hpv.tr (hf2.pv hru rfl)
      refine x_aload_n dX7_keeps_64 2 rfl rfl ?_
      refine x_callV (k_stands (G := G) (Sh := Sh) (I := J9p) (R := R1t) (f := b + 44 + 2 + i) (sB.2.2 i (by omega))) dX7_keeps_65 crc_X0_stands vc_7_210 (sB.2.2 i (by omega)) rfl rfl rfl rfl (Nat.le_of_ble_eq_true rfl) (roomy_k (by omega) (by decide)) (Nat.le_refl _) (Nat.le_refl _) ?_
      rintro _ _ ⟨_, rfl, rfl, rfl⟩
      refine x_if_eqB (tgt := 74) dX7_keeps_68 (by decide) (fun c_68 => ?_) (fun c_68 => ?_)
      · refine x_iinc (v := nI (q + 1)) (lv' := [(5, .int (nI (q + 1))), (4, .int (nI hh)), (3, .ref (b + 44 + 2 + i)), (0, .ref b), (1, .int f), (2, .int (nI k))]) dX7_keeps_74 0 rfl (nI_1 q) (by decide) rfl ?_
        refine x_goto (tgt := 32) dX7_keeps_77 (by decide) ?_
        refine x_sub [0, 1, 2, 3, 4, 5] rfl ?_
        have hpe : (0 < J9p (b + 44 + 2 + i) 4) ↔ 0 < (passF (gP σ) (gN σ) (upV (gW σ) i 4 ((gW σ).1 i 4 + nI q)) k).1 i 4 := by
          rw [ht.2.1 i hi 4 (by omega), hhe, nI_add]
        exact ih (q + 1) J9p R1t (by omega) (by omega) (by
          rw [← hval, show 100 - hh - q = (100 - hh - (q + 1)) + 1 by omega]
          exact (fs_f (p := (fun j => 0 < (passF (gP σ) (gN σ) (upV (gW σ) i 4 ((gW σ).1 i 4 + nI j)) k).1 i 4)) (fun z => c_68 (hpe.mpr z))).symm) hpv hrv
      · refine x_iload dX7_keeps_71 0 rfl ?_
        refine x_iret dX7_keeps_73 rfl (Nat.le_refl _) (Nat.le_refl _) ?_
        have hpe : (0 < J9p (b + 44 + 2 + i) 4) ↔ 0 < (passF (gP σ) (gN σ) (upV (gW σ) i 4 ((gW σ).1 i 4 + nI q)) k).1 i 4 := by
          rw [ht.2.1 i hi 4 (by omega), hhe, nI_add]
        refine ⟨?_, J9p, R1t, rfl, hpv, hrv⟩
        rw [← hval, show 100 - hh - q = (100 - hh - q - 1) + 1 by omega]
        exact (fs_t (p := (fun j => 0 < (passF (gP σ) (gN σ) (upV (gW σ) i 4 ((gW σ).1 i 4 + nI j)) k).1 i 4)) (hpe.mp c_68)).symm

set_option maxHeartbeats 4000000 in
set_option maxRecDepth 100000 in
theorem k_keeps {G : GG} {Sh : HS} {I : HI} {R : HR} {b : Nat} {σ : SG} (hc : CI b Sh I R σ) (hwf : WF (gN σ) (gW σ)) {f n : Int32} : AM G 7 0 0 yX7_keeps cX7_keeps 6 (some .int) [.ref b, .int f, .int n] (Sh, I, R) (qi (qryI b Sh I R (keepsF σ f n))) := by
  obtain ⟨⟨s0, s1, s2, s3, s4, s5, s6, s7, sT, sS, sA, sB, sC, sG⟩, ⟨r0, r1, r2, r4, r5, r6, r8, r9, rt0, rt2, rt3, rr0, rT, rS, rTT, rSS, rA, rB, rC, rG⟩, hCT, hCK, hCTp, hCIm, hCSe⟩ := id hc
  have hn8 : gN σ ≤ 8 := hCK.2.1
  have hru := hc.ru
  have hs := hc.sr
  have hw := hc.sw
  refine am_intro (by decide) (Nat.le_of_ble_eq_true rfl) ?_
  refine x_aload_n dX7_keeps_0 0 rfl rfl ?_
  refine x_callV (k_think (G := G) hc) dX7_keeps_1 crc_X7_think vc_7_175 s0 rfl rfl rfl rfl (Nat.le_of_ble_eq_true rfl) (roomy_k (by omega) (by decide)) (Nat.le_refl _) (Nat.le_refl _) ?_
  rintro _ _ ⟨_, rfl, rfl, J51t, R51t, rfl, ht, hpv, hrv⟩
  refine x_iload_n dX7_keeps_4 1 rfl rfl ?_
  refine x_callV (k_at (G := G) (Sh := Sh) (I := J51t) (R := R51t) (S := b + 44) (n := gN σ) (i := f) sB ht.rs ht.sz hn8) dX7_keeps_5 crc_X4_at vc_7_106 sB.1 rfl rfl rfl rfl (Nat.le_of_ble_eq_true rfl) (roomy_k (by omega) (by decide)) (Nat.le_refl _) (Nat.le_refl _) ?_
  rintro _ _ ⟨_, rfl, rfl, (⟨i, hi, hii, rfl⟩ | ⟨hno, rfl⟩)⟩
  · refine x_astore_n (lv' := [(3, .ref (b + 44 + 2 + i)), (0, .ref b), (1, .int f), (2, .int n)]) dX7_keeps_8 rfl (by decide) rfl ?_
    refine x_aload_n dX7_keeps_9 0 rfl rfl ?_
    refine x_ifnull dX7_keeps_10 ?_
    refine x_iload_n dX7_keeps_13 3 rfl rfl ?_
    refine x_callS (rest := []) (k_isAhead (G := G) (Sh := Sh) (I := J51t) (R := R51t) (n := n)) dX7_keeps_14 crc_X7_isAhead sc_7_168 rfl rfl (Nat.le_of_ble_eq_true rfl) (roomy_k (by omega) (by decide)) (Nat.le_refl _) (Nat.le_refl _) ?_
    rintro _ _ ⟨_, rfl, rfl, rfl⟩
    refine x_if_neB (tgt := 23) dX7_keeps_17 (by decide) (fun c_17 => ?_) (fun c_17 => ?_)
    · obtain ⟨k, hk, rfl⟩ := ahead_nat c_17
      obtain ⟨hh, hh9, hhe⟩ := (hwf i hi).2.2.2.2
      refine x_aload_n dX7_keeps_23 0 rfl rfl ?_
      refine x_gI (v := nI hh) dX7_keeps_24 fl_7_132 rfl (sB.2.2 i (by omega)) ((ht.2.1 i hi 4 (by omega)).trans hhe) ?_
      refine x_istore (lv' := [(4, .int (nI hh)), (3, .ref (b + 44 + 2 + i)), (0, .ref b), (1, .int f), (2, .int (nI k))]) dX7_keeps_27 (by decide) rfl ?_
      refine x_iconst (v := 0) dX7_keeps_29 (by decide) ?_
      refine x_istore (lv' := [(5, .int 0), (4, .int (nI hh)), (3, .ref (b + 44 + 2 + i)), (0, .ref b), (1, .int f), (2, .int (nI k))]) dX7_keeps_30 (by decide) rfl ?_
      refine x_sub [0, 1, 2, 3, 4, 5] rfl ?_
      have hfin : keepsF σ f (nI k) = fsF (fun j => 0 < (passF (gP σ) (gN σ) (upV (gW σ) i 4 ((gW σ).1 i 4 + nI j)) k).1 i 4) (100 - hh) 0 := by
        unfold keepsF
        rw [hii, idF_in hi hn8]
        dsimp only
        rw [if_pos c_17, nI_clamp (by omega), hhe, nI_clamp (by omega)]
      rw [hfin]
      exact k_keeps_l hc hi hk hh9 hhe 101 0 J51t R51t (by omega) (by omega) rfl hpv hrv
    · refine x_bipush (v := (-2)) dX7_keeps_20 (by decide) ?_
      refine x_iret dX7_keeps_22 rfl (Nat.le_refl _) (Nat.le_refl _) ?_
      refine ⟨?_, J51t, R51t, rfl, hpv, hrv⟩
      unfold keepsF
      rw [hii, idF_in hi hn8]
      dsimp only
      rw [if_neg c_17]
  · refine x_astore_nN (lv' := [(3, .null), (0, .ref b), (1, .int f), (2, .int n)]) dX7_keeps_8 rfl (by decide) rfl ?_
    refine x_aload_nN dX7_keeps_9 0 rfl rfl ?_
    refine x_ifnullN (tgt := 20) dX7_keeps_10 (by decide) ?_
    refine x_bipush (v := (-2)) dX7_keeps_20 (by decide) ?_
    refine x_iret dX7_keeps_22 rfl (Nat.le_refl _) (Nat.le_refl _) ?_
    refine ⟨?_, J51t, R51t, rfl, hpv, hrv⟩
    unfold keepsF
    rw [idF_out hn8 hno]

set_option maxHeartbeats 4000000 in
set_option maxRecDepth 100000 in
theorem k_best_l {G : GG} {Sh : HS} {I : HI} {R : HR} {b : Nat} {σ : SG} (hc : CI b Sh I R σ) {i k : Nat} (hi : i < gN σ) (hk : k ≤ 40) {f w : Int32} : ∀ (m : Nat) (q : Nat) (mo pl : Int32) (J : HI) (R3 : HR), (q ≤ 16) → (16 < q + m) → ((pl, mo) = bestG σ i k q) → (pvE b I J) → (rvE b R R3) → X G (kM G 7 0 0 (qi (qryI b Sh I R (if w = 0 then (bestG σ i k 16).1 else (bestG σ i k 16).2)))) yX7_best cX7_best 8 (some .int) 0 0 41 [(7, .int (nI q)), (6, .int mo), (5, .int pl), (4, .ref (b + 44 + 2 + i)), (0, .ref b), (1, .int f), (2, .int (nI k)), (3, .int w)] [] (Sh, J, R3) := by
  intro m
  induction m with
  | zero =>
    intro q mo pl J R3 hq hm hbg hpv hrv
    exact absurd hm (by omega)
  | succ m ih =>
    intro q mo pl J R3 hq hm hbg hpv hrv
    obtain ⟨⟨s0, s1, s2, s3, s4, s5, s6, s7, sT, sS, sA, sB, sC, sG⟩, ⟨r0, r1, r2, r4, r5, r6, r8, r9, rt0, rt2, rt3, rr0, rT, rS, rTT, rSS, rA, rB, rC, rG⟩, hCT, hCK, hCTp, hCIm, hCSe⟩ := id hc
    have hn8 : gN σ ≤ 8 := hCK.2.1
    have hru := hc.ru
    have hs := hc.sr
    have hw := hc.sw
    refine x_iload dX7_best_41 0 rfl ?_
    refine x_bipush (v := 16) dX7_best_43 (by decide) ?_
    refine x_icmp_ge (tgt := 95) dX7_best_45 (by decide) (fun c_45 => ?_) (fun c_45 => ?_)
    · have c_45 : 16 ≤ q := (nI_leI (a := 16) (b := q) (by omega) (by omega)).mp c_45
      refine x_iload_n dX7_best_95 7 rfl rfl ?_
      refine x_if_ne (tgt := 104) dX7_best_96 (by decide) (fun c_96 => ?_) (fun c_96 => ?_)
      · refine x_iload dX7_best_104 1 rfl ?_
        refine x_iret dX7_best_106 rfl (Nat.le_refl _) (Nat.le_refl _) ?_
        have hq16 : q = 16 := by omega
        subst hq16
        refine ⟨?_, J, R3, rfl, hpv, hrv⟩
        rw [if_neg c_96, ← hbg]
      · refine x_iload dX7_best_99 2 rfl ?_
        refine x_goto (tgt := 106) dX7_best_101 (by decide) ?_
        refine x_iret dX7_best_106 rfl (Nat.le_refl _) (Nat.le_refl _) ?_
        have hq16 : q = 16 := by omega
        subst hq16
        refine ⟨?_, J, R3, rfl, hpv, hrv⟩
        rw [if_pos c_96, ← hbg]
    · have c_45 : ¬ 16 ≤ q := fun zz9 => c_45 ((nI_leI (a := 16) (b := q) (by omega) (by omega)).mpr zz9)
      refine x_aload_n dX7_best_48 4 rfl rfl ?_
      refine x_callV (k_think (G := G) (hc.pv hpv hrv)) dX7_best_49 crc_X7_think vc_7_175 s0 rfl rfl rfl rfl (Nat.le_of_ble_eq_true rfl) (roomy_k (by omega) (by decide)) (Nat.le_refl _) (Nat.le_refl _) ?_
      rintro _ _ ⟨_, rfl, rfl, J101t, R101t, rfl, ht, hpv2, hrv2⟩
      have hpv := hpv.tr hpv2
      have hrv := hrv.tr hrv2
      refine x_pop dX7_best_52 rfl ?_
      refine x_aload dX7_best_53 3 rfl ?_
      refine x_iload dX7_best_55 0 rfl ?_
      refine x_pI dX7_best_57 fl_7_126 rfl rfl rfl (sB.2.2 i (by omega)) (fun Iq1 e_Iq1 => ?_)
      refine x_aload_n dX7_best_60 4 rfl rfl ?_
      refine x_gR (b := b + 44) dX7_best_61 fl_7_77 rfl s0 ((hrv _ _ (by omega)).trans r5) ?_
      refine x_iload_n dX7_best_64 6 rfl rfl ?_
      have hth := ht.put (x := nI q) hi hn8 (k := 2) (by omega)
      rw [← e_Iq1] at hth
      have ht := hth.1
      have hpv := hpv.tr hth.2
      refine x_callV (k_pass (G := G) ht.1 ht.2 (k := k) (by omega)) dX7_best_65 crc_X4_pass vc_7_179 sB.1 rfl rfl rfl rfl (Nat.le_of_ble_eq_true rfl) (roomy_k (by omega) (by decide)) (Nat.le_refl _) (Nat.le_refl _) ?_
      rintro _ _ ⟨rfl, J9p, rfl, hs2, hf2⟩
      have ht := ht.fr hf2 hs2
      have hpv := hpv.tr (hf2.pv hru rfl)
      refine x_aload dX7_best_68 3 rfl ?_
      refine x_gI (v := (passF (gP σ) (gN σ) (upV (gW σ) i 2 (nI q)) k).1 i 4) dX7_best_70 fl_7_132 rfl (sB.2.2 i (by omega)) (ht.2.1 i hi 4 (by omega)) ?_
      refine x_iload dX7_best_73 1 rfl ?_
      refine x_icmp_le (tgt := 89) dX7_best_75 (by decide) (fun c_75 => ?_) (fun c_75 => ?_)
      · refine x_iinc (v := nI (q + 1)) (lv' := [(7, .int (nI (q + 1))), (6, .int mo), (5, .int pl), (4, .ref (b + 44 + 2 + i)), (0, .ref b), (1, .int f), (2, .int (nI k)), (3, .int w)]) dX7_best_89 0 rfl (nI_1 q) (by decide) rfl ?_
        refine x_goto (tgt := 41) dX7_best_92 (by decide) ?_
        refine x_sub [0, 1, 2, 3, 4, 5, 6, 7] rfl ?_
        exact ih (q + 1) mo pl J9p R101t (by omega) (by omega) (by
          unfold bestG at *
          rw [fd_s, ← hbg]
          rw [if_neg (fun z => absurd c_75 (Int32.not_le.mpr z))]) hpv hrv
      · refine x_aload dX7_best_78 3 rfl ?_
        refine x_gI (v := (passF (gP σ) (gN σ) (upV (gW σ) i 2 (nI q)) k).1 i 4) dX7_best_80 fl_7_132 rfl (sB.2.2 i (by omega)) (ht.2.1 i hi 4 (by omega)) ?_
        refine x_topi (fun xq2 e_xq2 => ?_)
        refine x_istore (lv' := [(6, .int xq2), (7, .int (nI q)), (5, .int pl), (4, .ref (b + 44 + 2 + i)), (0, .ref b), (1, .int f), (2, .int (nI k)), (3, .int w)]) dX7_best_83 (by decide) rfl ?_
        refine x_iload dX7_best_85 1 rfl ?_
        refine x_istore (lv' := [(5, .int (nI q)), (6, .int xq2), (7, .int (nI q)), (4, .ref (b + 44 + 2 + i)), (0, .ref b), (1, .int f), (2, .int (nI k)), (3, .int w)]) dX7_best_87 (by decide) rfl ?_
        refine x_iinc (v := nI (q + 1)) (lv' := [(7, .int (nI (q + 1))), (5, .int (nI q)), (6, .int xq2), (4, .ref (b + 44 + 2 + i)), (0, .ref b), (1, .int f), (2, .int (nI k)), (3, .int w)]) dX7_best_89 2 rfl (nI_1 q) (by decide) rfl ?_
        refine x_goto (tgt := 41) dX7_best_92 (by decide) ?_
        refine x_sub [0, 2, 1, 3, 4, 5, 6, 7] rfl ?_
        exact ih (q + 1) xq2 (nI q) J9p R101t (by omega) (by omega) (by
          unfold bestG at *
          rw [fd_s, ← hbg]
          rw [if_pos (Int32.not_le.mp c_75), e_xq2]) hpv hrv

set_option maxHeartbeats 4000000 in
set_option maxRecDepth 100000 in
theorem k_best {G : GG} {Sh : HS} {I : HI} {R : HR} {b : Nat} {σ : SG} (hc : CI b Sh I R σ) {f n w : Int32} : AM G 7 0 0 yX7_best cX7_best 8 (some .int) [.ref b, .int f, .int n, .int w] (Sh, I, R) (qi (qryI b Sh I R (bestF σ f n w))) := by
  obtain ⟨⟨s0, s1, s2, s3, s4, s5, s6, s7, sT, sS, sA, sB, sC, sG⟩, ⟨r0, r1, r2, r4, r5, r6, r8, r9, rt0, rt2, rt3, rr0, rT, rS, rTT, rSS, rA, rB, rC, rG⟩, hCT, hCK, hCTp, hCIm, hCSe⟩ := id hc
  have hn8 : gN σ ≤ 8 := hCK.2.1
  have hru := hc.ru
  have hs := hc.sr
  have hw := hc.sw
  refine am_intro (by decide) (Nat.le_of_ble_eq_true rfl) ?_
  refine x_aload_n dX7_best_0 0 rfl rfl ?_
  refine x_callV (k_think (G := G) hc) dX7_best_1 crc_X7_think vc_7_175 s0 rfl rfl rfl rfl (Nat.le_of_ble_eq_true rfl) (roomy_k (by omega) (by decide)) (Nat.le_refl _) (Nat.le_refl _) ?_
  rintro _ _ ⟨_, rfl, rfl, J151t, R151t, rfl, ht, hpv, hrv⟩
  refine x_iload_n dX7_best_4 1 rfl rfl ?_
  refine x_callV (k_at (G := G) (Sh := Sh) (I := J151t) (R := R151t) (S := b + 44) (n := gN σ) (i := f) sB ht.rs ht.sz hn8) dX7_best_5 crc_X4_at vc_7_106 sB.1 rfl rfl rfl rfl (Nat.le_of_ble_eq_true rfl) (roomy_k (by omega) (by decide)) (Nat.le_refl _) (Nat.le_refl _) ?_
  rintro _ _ ⟨_, rfl, rfl, (⟨i, hi, hii, rfl⟩ | ⟨hno, rfl⟩)⟩
  · refine x_astore (lv' := [(4, .ref (b + 44 + 2 + i)), (0, .ref b), (1, .int f), (2, .int n), (3, .int w)]) dX7_best_8 (by decide) rfl ?_
    refine x_aload dX7_best_10 0 rfl ?_
    refine x_ifnull dX7_best_12 ?_
    refine x_iload_n dX7_best_15 3 rfl rfl ?_
    refine x_callS (rest := []) (k_isAhead (G := G) (Sh := Sh) (I := J151t) (R := R151t) (n := n)) dX7_best_16 crc_X7_isAhead sc_7_168 rfl rfl (Nat.le_of_ble_eq_true rfl) (roomy_k (by omega) (by decide)) (Nat.le_refl _) (Nat.le_refl _) ?_
    rintro _ _ ⟨_, rfl, rfl, rfl⟩
    refine x_if_eqB (tgt := 29) dX7_best_19 (by decide) (fun c_19 => ?_) (fun c_19 => ?_)
    · refine x_bipush (v := (-2)) dX7_best_29 (by decide) ?_
      refine x_iret dX7_best_31 rfl (Nat.le_refl _) (Nat.le_refl _) ?_
      refine ⟨?_, J151t, R151t, rfl, hpv, hrv⟩
      unfold bestF
      rw [hii, idF_in hi hn8]
      dsimp only
      rw [if_neg (fun z => c_19 z.1)]
    · refine x_iload_n dX7_best_22 4 rfl rfl ?_
      refine x_callS (rest := []) (k_isAnswer (G := G) (Sh := Sh) (I := J151t) (R := R151t) (w := w)) dX7_best_23 crc_X7_isAnswer sc_7_213 rfl rfl (Nat.le_of_ble_eq_true rfl) (roomy_k (by omega) (by decide)) (Nat.le_refl _) (Nat.le_refl _) ?_
      rintro _ _ ⟨_, rfl, rfl, rfl⟩
      refine x_if_neB (tgt := 32) dX7_best_26 (by decide) (fun c_26 => ?_) (fun c_26 => ?_)
      · obtain ⟨k, hk, rfl⟩ := ahead_nat c_19
        refine x_iconst (v := 0) dX7_best_32 (by decide) ?_
        refine x_istore (lv' := [(5, .int 0), (4, .ref (b + 44 + 2 + i)), (0, .ref b), (1, .int f), (2, .int (nI k)), (3, .int w)]) dX7_best_33 (by decide) rfl ?_
        refine x_iconst (v := (-1)) dX7_best_35 (by decide) ?_
        refine x_istore (lv' := [(6, .int (-1)), (5, .int 0), (4, .ref (b + 44 + 2 + i)), (0, .ref b), (1, .int f), (2, .int (nI k)), (3, .int w)]) dX7_best_36 (by decide) rfl ?_
        refine x_iconst (v := 0) dX7_best_38 (by decide) ?_
        refine x_istore (lv' := [(7, .int 0), (6, .int (-1)), (5, .int 0), (4, .ref (b + 44 + 2 + i)), (0, .ref b), (1, .int f), (2, .int (nI k)), (3, .int w)]) dX7_best_39 (by decide) rfl ?_
        refine x_sub [0, 1, 2, 3, 4, 5, 6, 7] rfl ?_
        have hfin : bestF σ f (nI k) w = if w = 0 then (bestG σ i k 16).1 else (bestG σ i k 16).2 := by
          unfold bestF
          rw [hii, idF_in hi hn8]
          dsimp only
          rw [if_pos ⟨c_19, c_26⟩, nI_clamp (by omega)]
        rw [hfin]
        exact k_best_l hc hi hk 17 0 (-1) 0 J151t R151t (by omega) (by omega) rfl hpv hrv
      · refine x_bipush (v := (-2)) dX7_best_29 (by decide) ?_
        refine x_iret dX7_best_31 rfl (Nat.le_refl _) (Nat.le_refl _) ?_
        refine ⟨?_, J151t, R151t, rfl, hpv, hrv⟩
        unfold bestF
        rw [hii, idF_in hi hn8]
        dsimp only
        rw [if_neg (fun z => c_26 z.2)]
  · refine x_astoreN (lv' := [(4, .null), (0, .ref b), (1, .int f), (2, .int n), (3, .int w)]) dX7_best_8 (by decide) rfl ?_
    refine x_aloadN dX7_best_10 0 rfl ?_
    refine x_ifnullN (tgt := 29) dX7_best_12 (by decide) ?_
    refine x_bipush (v := (-2)) dX7_best_29 (by decide) ?_
    refine x_iret dX7_best_31 rfl (Nat.le_refl _) (Nat.le_refl _) ?_
    refine ⟨?_, J151t, R151t, rfl, hpv, hrv⟩
    unfold bestF
    rw [idF_out hn8 hno]

