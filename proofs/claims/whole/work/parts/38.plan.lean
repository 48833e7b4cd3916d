set_option maxHeartbeats 4000000 in
set_option maxRecDepth 100000 in
theorem k_isPlan_l {G : GG} {Sh : HS} {I : HI} {R : HR} {b : Nat} {σ : SG} (hc : CI b Sh I R σ) {t : Nat} (ht9 : t < 4) : ∀ (m : Nat) (q : Nat), (q ≤ gSz σ t) → (gSz σ t < q + m) → (∀ j, j < q → gRo σ t j = -1 ∨ (idF (gN σ) (gRo σ t j)).isSome = true) → X G (kM G 2 0 0 (qi fun r g => r = bI (planOk σ t) ∧ g = (Sh, I, R))) yX7_isPlan cX7_isPlan 4 (some .boolean) 0 0 2 [(2, .int (nI q)), (0, .ref b), (1, .ref (b + 26 + 2 * t))] [] (Sh, I, R) := by
  intro m
  induction m with
  | zero =>
    intro q hq hm hok
    exact absurd hm (by omega)
  | succ m ih =>
    intro q hq hm hok
    obtain ⟨⟨s0, s1, s2, s3, s4, s5, s6, s7, sT, sS, sA, sB, sC, sG⟩, ⟨r0, r1, r2, r4, r5, r6, r8, r9, rt0, rt2, rt3, rr0, rT, rS, rTT, rSS, rA, rB, rC, rG⟩, hCT, hCK, hCTp, hCIm, hCSe⟩ := id hc
    have hn8 : gN σ ≤ 8 := hCK.2.1
    have hru := hc.ru
    have hs := hc.sr
    have hw := hc.sw
    have hsz9 := (hCSe t ht9).2.2.1
    refine x_iload_n dX7_isPlan_2 0 rfl rfl ?_
    refine x_aload_n dX7_isPlan_3 2 rfl rfl ?_
    refine x_gI (v := nI (gSz σ t)) dX7_isPlan_4 fl_7_197 rfl (sS t (by omega)).1 (hCSe t ht9).2.1 ?_
    refine x_icmp_ge (tgt := 40) dX7_isPlan_7 (by decide) (fun c_7 => ?_) (fun c_7 => ?_)
    · have c_7 : (gSz σ t) ≤ q := (nI_leI (a := (gSz σ t)) (b := q) (by omega) (by omega)).mp c_7
      refine x_iconst (v := 1) dX7_isPlan_40 (by decide) ?_
      refine x_zret dX7_isPlan_41 rfl rfl (Nat.le_refl _) (Nat.le_refl _) ?_
      exact ⟨(bI_t (fun j hj => hok j (by omega))).symm, rfl⟩
    · have c_7 : ¬ (gSz σ t) ≤ q := fun zz9 => c_7 ((nI_leI (a := (gSz σ t)) (b := q) (by omega) (by omega)).mpr zz9)
      refine x_aload_n dX7_isPlan_10 2 rfl rfl ?_
      refine x_iload_n dX7_isPlan_11 0 rfl rfl ?_
      refine x_callV (k_item (G := G) (Sh := Sh) (I := I) (R := R) (A := b + 26 + 2 * t) (sz := gSz σ t) (sS t ht9) (rSS t ht9) (hCSe t ht9).2.1 (hCSe t ht9).2.2.1 (i := nI q)) dX7_isPlan_12 crc_X3_item vc_7_198 (sS t (by omega)).1 rfl rfl rfl rfl (Nat.le_of_ble_eq_true rfl) (roomy_k (by omega) (by decide)) (Nat.le_refl _) (Nat.le_refl _) ?_
      rintro _ _ ⟨_, rfl, hvi, rfl⟩
      refine x_vali (hvi.trans ((itF_in (by omega) (by have := (hCSe t ht9).2.2.1; omega)).trans ((hCSe t ht9).2.2.2 q (by have := (hCSe t ht9).2.2.1; omega)))) ?_
      refine x_topi (fun xq1 e_xq1 => ?_)
      refine x_istore_n (lv' := [(3, .int xq1), (2, .int (nI q)), (0, .ref b), (1, .ref (b + 26 + 2 * t))]) dX7_isPlan_15 rfl (by decide) rfl ?_
      refine x_iload_n dX7_isPlan_16 0 rfl rfl ?_
      refine x_iconst (v := (-1)) dX7_isPlan_17 (by decide) ?_
      refine x_icmp_eq (tgt := 34) dX7_isPlan_18 (by decide) (fun c_18 => ?_) (fun c_18 => ?_)
      · refine x_iinc (v := nI (q + 1)) (lv' := [(2, .int (nI (q + 1))), (3, .int xq1), (0, .ref b), (1, .ref (b + 26 + 2 * t))]) dX7_isPlan_34 1 rfl (nI_1 q) (by decide) rfl ?_
        refine x_goto (tgt := 2) dX7_isPlan_37 (by decide) ?_
        refine x_sub [0, 2, 3] rfl ?_
        exact ih (q + 1) (by omega) (by omega) (fun j hj => by
          by_cases e : j = q
          · subst e
            exact Or.inl (by rw [← e_xq1]; exact c_18)
          · exact hok j (by omega))
      · refine x_aload_n dX7_isPlan_21 2 rfl rfl ?_
        refine x_gR (b := b + 34) dX7_isPlan_22 fl_7_73 rfl s0 r4 ?_
        refine x_iload_n dX7_isPlan_25 0 rfl rfl ?_
        refine x_callV (k_at (G := G) (Sh := Sh) (I := I) (R := R) (S := b + 34) (n := gN σ) (i := xq1) sA rA hCK.1 hn8) dX7_isPlan_26 crc_X4_at vc_7_106 sA.1 rfl rfl rfl rfl (Nat.le_of_ble_eq_true rfl) (roomy_k (by omega) (by decide)) (Nat.le_refl _) (Nat.le_refl _) ?_
        rintro _ _ ⟨_, rfl, rfl, (⟨i, hi, hii, rfl⟩ | ⟨hno, rfl⟩)⟩
        · refine x_ifnonnull (tgt := 34) dX7_isPlan_29 (by decide) ?_
          refine x_iinc (v := nI (q + 1)) (lv' := [(2, .int (nI (q + 1))), (3, .int xq1), (0, .ref b), (1, .ref (b + 26 + 2 * t))]) dX7_isPlan_34 1 rfl (nI_1 q) (by decide) rfl ?_
          refine x_goto (tgt := 2) dX7_isPlan_37 (by decide) ?_
          refine x_sub [0, 2, 3] rfl ?_
          exact ih (q + 1) (by omega) (by omega) (fun j hj => by
            by_cases e : j = q
            · subst e
              exact Or.inr (by rw [← e_xq1, hii, idF_in hi hn8]; rfl)
            · exact hok j (by omega))
        · refine x_ifnonnullN dX7_isPlan_29 ?_
          refine x_iconst (v := 0) dX7_isPlan_32 (by decide) ?_
          refine x_zret dX7_isPlan_33 rfl rfl (Nat.le_refl _) (Nat.le_refl _) ?_
          refine ⟨(bI_f (fun z => ?_)).symm, rfl⟩
          rcases z q (by omega) with z | z
          · exact c_18 (by rw [e_xq1]; exact z)
          · rw [← e_xq1, idF_out hn8 hno] at z
            cases z

set_option maxHeartbeats 4000000 in
set_option maxRecDepth 100000 in
theorem k_isPlan {G : GG} {Sh : HS} {I : HI} {R : HR} {b : Nat} {σ : SG} (hc : CI b Sh I R σ) {t : Nat} (ht9 : t < 4) : AM G 2 0 0 yX7_isPlan cX7_isPlan 4 (some .boolean) [.ref b, .ref (b + 26 + 2 * t)] (Sh, I, R) (qi fun r g => r = bI (planOk σ t) ∧ g = (Sh, I, R)) := by
  obtain ⟨⟨s0, s1, s2, s3, s4, s5, s6, s7, sT, sS, sA, sB, sC, sG⟩, ⟨r0, r1, r2, r4, r5, r6, r8, r9, rt0, rt2, rt3, rr0, rT, rS, rTT, rSS, rA, rB, rC, rG⟩, hCT, hCK, hCTp, hCIm, hCSe⟩ := id hc
  have hn8 : gN σ ≤ 8 := hCK.2.1
  have hru := hc.ru
  have hs := hc.sr
  have hw := hc.sw
  have hsz9 := (hCSe t ht9).2.2.1
  refine am_intro (by decide) (Nat.le_of_ble_eq_true rfl) ?_
  refine x_iconst (v := 0) dX7_isPlan_0 (by decide) ?_
  refine x_istore_n (lv' := [(2, .int 0), (0, .ref b), (1, .ref (b + 26 + 2 * t))]) dX7_isPlan_1 rfl (by decide) rfl ?_
  exact k_isPlan_l hc ht9 (gSz σ t + 1) 0 (by omega) (by omega) (fun j hj => absurd hj (by omega))

set_option maxHeartbeats 4000000 in
set_option maxRecDepth 100000 in
theorem k_plan_l {G : GG} {Sh : HS} {I : HI} {R : HR} {b : Nat} {σ : SG} (hc : CI b Sh I R σ) {t : Nat} (ht9 : t < 4) {R3 : HR} (hrv : rvE b R R3) {s w : Int32} : ∀ (m : Nat) (q : Nat) (J : HI), (q ≤ gSz σ t) → (gSz σ t < q + m) → (TH b Sh J R3 σ (plG σ t q)) → (pvE b I J) → X G (kM G 7 0 0 (qi (qryI b Sh I R (vwF (gP σ) (gN σ) (plG σ t (gSz σ t)) w)))) yX7_plan cX7_plan 6 (some .int) 0 0 44 [(4, .int (nI q)), (3, .ref (b + 26 + 2 * t)), (0, .ref b), (1, .int s), (2, .int w)] [] (Sh, J, R3) := by
  intro m
  induction m with
  | zero =>
    intro q J hq hm ht hpv
    exact absurd hm (by omega)
  | succ m ih =>
    intro q J hq hm ht hpv
    obtain ⟨⟨s0, s1, s2, s3, s4, s5, s6, s7, sT, sS, sA, sB, sC, sG⟩, ⟨r0, r1, r2, r4, r5, r6, r8, r9, rt0, rt2, rt3, rr0, rT, rS, rTT, rSS, rA, rB, rC, rG⟩, hCT, hCK, hCTp, hCIm, hCSe⟩ := id hc
    have hn8 : gN σ ≤ 8 := hCK.2.1
    have hru := hc.ru
    have hs := hc.sr
    have hw := hc.sw
    have hsz9 := (hCSe t ht9).2.2.1
    refine x_iload dX7_plan_44 0 rfl ?_
    refine x_aload_n dX7_plan_46 1 rfl rfl ?_
    refine x_gI (v := nI (gSz σ t)) dX7_plan_47 fl_7_197 rfl (sS t (by omega)).1 ((hc.pv hpv hrv).2.2.2.2.2.2 t ht9).2.1 ?_
    refine x_icmp_ge (tgt := 95) dX7_plan_50 (by decide) (fun c_50 => ?_) (fun c_50 => ?_)
    · have c_50 : (gSz σ t) ≤ q := (nI_leI (a := (gSz σ t)) (b := q) (by omega) (by omega)).mp c_50
      refine x_aload_n dX7_plan_95 2 rfl rfl ?_
      refine x_iload_n dX7_plan_96 4 rfl rfl ?_
      have hqz : q = gSz σ t := by omega
      subst hqz
      refine x_callV (k_view (G := G) (hc.pv hpv hrv) ht (w := w)) dX7_plan_97 crc_X7_view vc_7_182 s0 rfl rfl rfl rfl (Nat.le_of_ble_eq_true rfl) (roomy_k (by omega) (by decide)) (Nat.le_refl _) (Nat.le_refl _) ?_
      rintro _ _ ⟨r, rfl, hr, J3, R4, rfl, hpv3, hrv3⟩
      refine x_iret dX7_plan_100 rfl (Nat.le_refl _) (Nat.le_refl _) ?_
      exact ⟨hr, J3, R4, rfl, hpv.tr hpv3, hrv.tr hrv3⟩
    · have c_50 : ¬ (gSz σ t) ≤ q := fun zz9 => c_50 ((nI_leI (a := (gSz σ t)) (b := q) (by omega) (by omega)).mpr zz9)
      refine x_aload_n dX7_plan_53 2 rfl rfl ?_
      refine x_gR (b := b + 44) dX7_plan_54 fl_7_77 rfl s0 ((hrv _ _ (by omega)).trans r5) ?_
      refine x_aload_n dX7_plan_57 1 rfl rfl ?_
      refine x_iload dX7_plan_58 0 rfl ?_
      refine x_callV (k_item (G := G) (Sh := Sh) (I := J) (R := R3) (A := b + 26 + 2 * t) (sz := gSz σ t) (sS t ht9) ((hc.pv hpv hrv).2.1.2.2.2.2.2.2.2.2.2.2.2.2.2.2.2.1 t ht9) ((hc.pv hpv hrv).2.2.2.2.2.2 t ht9).2.1 ((hc.pv hpv hrv).2.2.2.2.2.2 t ht9).2.2.1 (i := nI q)) dX7_plan_60 crc_X3_item vc_7_198 (sS t (by omega)).1 rfl rfl rfl rfl (Nat.le_of_ble_eq_true rfl) (roomy_k (by omega) (by decide)) (Nat.le_refl _) (Nat.le_refl _) ?_
      rintro _ _ ⟨_, rfl, hvi, rfl⟩
      refine x_vali (hvi.trans ((itF_in (by omega) (by have := (hCSe t ht9).2.2.1; omega)).trans (((hc.pv hpv hrv).2.2.2.2.2.2 t ht9).2.2.2 q (by have := (hCSe t ht9).2.2.1; omega)))) ?_
      refine x_callV (k_at (G := G) (Sh := Sh) (I := J) (R := R3) (S := b + 44) (n := gN σ) (i := gRo σ t q) sB ht.rs ht.sz hn8) dX7_plan_63 crc_X4_at vc_7_106 sB.1 rfl rfl rfl rfl (Nat.le_of_ble_eq_true rfl) (roomy_k (by omega) (by decide)) (Nat.le_refl _) (Nat.le_refl _) ?_
      rintro _ _ ⟨_, rfl, rfl, (⟨i, hi, hii, rfl⟩ | ⟨hno, rfl⟩)⟩
      · refine x_astore (lv' := [(5, .ref (b + 44 + 2 + i)), (4, .int (nI q)), (3, .ref (b + 26 + 2 * t)), (0, .ref b), (1, .int s), (2, .int w)]) dX7_plan_66 (by decide) rfl ?_
        refine x_aload dX7_plan_68 0 rfl ?_
        refine x_ifnull dX7_plan_70 ?_
        refine x_aload_n dX7_plan_73 3 rfl rfl ?_
        refine x_gR (b := b + 44) dX7_plan_74 fl_7_77 rfl s0 ((hrv _ _ (by omega)).trans r5) ?_
        refine x_aload dX7_plan_77 0 rfl ?_
        refine x_callV (k_raise (G := G) ht.1 ht.2 (i := i) hi) dX7_plan_79 crc_X4_raise vc_7_164 sB.1 rfl rfl rfl rfl (Nat.le_of_ble_eq_true rfl) (roomy_k (by omega) (by decide)) (Nat.le_refl _) (Nat.le_refl _) ?_
        rintro _ _ ⟨rfl, J7, rfl, hs7, hf7⟩
        have ht := ht.fr hf7 hs7
        have hpv := hpv.tr (hf7.pv hru rfl)
        refine x_aload_n dX7_plan_82 3 rfl rfl ?_
        refine x_gR (b := b + 44) dX7_plan_83 fl_7_77 rfl s0 ((hrv _ _ (by omega)).trans r5) ?_
        refine x_callV (k_beat (G := G) ht.1 ht.2) dX7_plan_86 crc_X4_beat vc_7_158 sB.1 rfl rfl rfl rfl (Nat.le_of_ble_eq_true rfl) (roomy_k (by omega) (by decide)) (Nat.le_refl _) (Nat.le_refl _) ?_
        rintro _ _ ⟨rfl, J8, rfl, hs8, hf8⟩
        have ht := ht.fr hf8 hs8
        have hpv := hpv.tr (hf8.pv hru rfl)
        refine x_iinc (v := nI (q + 1)) (lv' := [(4, .int (nI (q + 1))), (5, .ref (b + 44 + 2 + i)), (3, .ref (b + 26 + 2 * t)), (0, .ref b), (1, .int s), (2, .int w)]) dX7_plan_89 1 rfl (nI_1 q) (by decide) rfl ?_
        refine x_goto (tgt := 44) dX7_plan_92 (by decide) ?_
        refine x_sub [0, 2, 3, 4, 5] rfl ?_
        exact ih (q + 1) J8 (by omega) (by omega) (by
          have e9 : plG σ t (q + 1) = beatF (gP σ) (gN σ) (match idF (gN σ) (gRo σ t q) with
            | some i => spadeF (gP σ) (gN σ) i (plG σ t q)
            | none => plG σ t q) := rfl
          rw [e9, hii, idF_in hi hn8]
          exact ht) hpv
      · refine x_astoreN (lv' := [(5, .null), (4, .int (nI q)), (3, .ref (b + 26 + 2 * t)), (0, .ref b), (1, .int s), (2, .int w)]) dX7_plan_66 (by decide) rfl ?_
        refine x_aloadN dX7_plan_68 0 rfl ?_
        refine x_ifnullN (tgt := 82) dX7_plan_70 (by decide) ?_
        refine x_aload_n dX7_plan_82 3 rfl rfl ?_
        refine x_gR (b := b + 44) dX7_plan_83 fl_7_77 rfl s0 ((hrv _ _ (by omega)).trans r5) ?_
        refine x_callV (k_beat (G := G) ht.1 ht.2) dX7_plan_86 crc_X4_beat vc_7_158 sB.1 rfl rfl rfl rfl (Nat.le_of_ble_eq_true rfl) (roomy_k (by omega) (by decide)) (Nat.le_refl _) (Nat.le_refl _) ?_
        rintro _ _ ⟨rfl, J8, rfl, hs8, hf8⟩
        have ht := ht.fr hf8 hs8
        have hpv := hpv.tr (hf8.pv hru rfl)
        refine x_iinc (v := nI (q + 1)) (lv' := [(4, .int (nI (q + 1))), (5, .null), (3, .ref (b + 26 + 2 * t)), (0, .ref b), (1, .int s), (2, .int w)]) dX7_plan_89 1 rfl (nI_1 q) (by decide) rfl ?_
        refine x_goto (tgt := 44) dX7_plan_92 (by decide) ?_
        refine x_sub [0, 2, 3, 4, 5] rfl ?_
        exact ih (q + 1) J8 (by omega) (by omega) (by
          have e9 : plG σ t (q + 1) = beatF (gP σ) (gN σ) (match idF (gN σ) (gRo σ t q) with
            | some i => spadeF (gP σ) (gN σ) i (plG σ t q)
            | none => plG σ t q) := rfl
          rw [e9, idF_out hn8 hno]
          exact ht) hpv

set_option maxHeartbeats 4000000 in
set_option maxRecDepth 100000 in
theorem k_plan {G : GG} {Sh : HS} {I : HI} {R : HR} {b : Nat} {σ : SG} (hc : CI b Sh I R σ) {s w : Int32} : AM G 7 0 0 yX7_plan cX7_plan 6 (some .int) [.ref b, .int s, .int w] (Sh, I, R) (qi (qryI b Sh I R (planF σ s w))) := by
  obtain ⟨⟨s0, s1, s2, s3, s4, s5, s6, s7, sT, sS, sA, sB, sC, sG⟩, ⟨r0, r1, r2, r4, r5, r6, r8, r9, rt0, rt2, rt3, rr0, rT, rS, rTT, rSS, rA, rB, rC, rG⟩, hCT, hCK, hCTp, hCIm, hCSe⟩ := id hc
  have hn8 : gN σ ≤ 8 := hCK.2.1
  have hru := hc.ru
  have hs := hc.sr
  have hw := hc.sw
  refine am_intro (by decide) (Nat.le_of_ble_eq_true rfl) ?_
  refine x_aload_n dX7_plan_0 0 rfl rfl ?_
  refine x_iload_n dX7_plan_1 1 rfl rfl ?_
  refine x_callV (k_sheetAt (G := G) hc (i := s)) dX7_plan_2 crc_X7_sheetAt vc_7_185 s0 rfl rfl rfl rfl (Nat.le_of_ble_eq_true rfl) (roomy_k (by omega) (by decide)) (Nat.le_refl _) (Nat.le_refl _) ?_
  rintro _ _ ⟨_, rfl, rfl, (⟨t, ht9, hit, rfl⟩ | ⟨hno4, rfl⟩)⟩
  · refine x_astore_n (lv' := [(3, .ref (b + 26 + 2 * t)), (0, .ref b), (1, .int s), (2, .int w)]) dX7_plan_5 rfl (by decide) rfl ?_
    refine x_aload_n dX7_plan_6 0 rfl rfl ?_
    refine x_ifnull dX7_plan_7 ?_
    refine x_aload_n dX7_plan_10 1 rfl rfl ?_
    refine x_iload_n dX7_plan_11 3 rfl rfl ?_
    refine x_callV (k_isView (G := G) hc (w := w)) dX7_plan_12 crc_X7_isView vc_7_171 s0 rfl rfl rfl rfl (Nat.le_of_ble_eq_true rfl) (roomy_k (by omega) (by decide)) (Nat.le_refl _) (Nat.le_refl _) ?_
    rintro _ _ ⟨_, rfl, rfl, rfl⟩
    refine x_if_eqB (tgt := 33) dX7_plan_15 (by decide) (fun c_15 => ?_) (fun c_15 => ?_)
    · refine x_ldc (v := (-100000)) dX7_plan_33 (tw_at 627 (by decide +kernel) rfl) ?_
      refine x_iret dX7_plan_35 rfl (Nat.le_refl _) (Nat.le_refl _) ?_
      refine ⟨?_, I, R, rfl, pvE.rf, rvE.rf⟩
      unfold planF
      rw [hit, idF_in (n := 4) ht9 (by omega)]
      dsimp only
      rw [if_neg (fun z => c_15 z.1)]
    · refine x_aload_n dX7_plan_18 0 rfl rfl ?_
      refine x_callV (k_isMissing (G := G) (I := I) (A := b + 26 + 2 * t) (sS t ht9) (rSS t ht9)) dX7_plan_19 crc_X3_isMissing vc_7_189 (sS t (by omega)).1 rfl rfl rfl rfl (Nat.le_of_ble_eq_true rfl) (roomy_k (by omega) (by decide)) (Nat.le_refl _) (Nat.le_refl _) ?_
      rintro _ _ ⟨_, rfl, rfl, rfl⟩
      refine x_if_neB (tgt := 33) dX7_plan_22 (by decide) (fun c_22 => ?_) (fun c_22 => ?_)
      · refine x_ldc (v := (-100000)) dX7_plan_33 (tw_at 627 (by decide +kernel) rfl) ?_
        refine x_iret dX7_plan_35 rfl (Nat.le_refl _) (Nat.le_refl _) ?_
        refine ⟨?_, I, R, rfl, pvE.rf, rvE.rf⟩
        unfold planF
        rw [hit, idF_in (n := 4) ht9 (by omega)]
        dsimp only
        rw [if_neg (fun z => z.2.1 ((hCSe t ht9).1.symm.trans c_22))]
      · refine x_aload_n dX7_plan_25 1 rfl rfl ?_
        refine x_aload_n dX7_plan_26 0 rfl rfl ?_
        refine x_callV (k_isPlan (G := G) hc ht9) dX7_plan_27 crc_X7_isPlan vc_7_193 s0 rfl rfl rfl rfl (Nat.le_of_ble_eq_true rfl) (roomy_k (by omega) (by decide)) (Nat.le_refl _) (Nat.le_refl _) ?_
        rintro _ _ ⟨_, rfl, rfl, rfl⟩
        refine x_if_neB (tgt := 36) dX7_plan_30 (by decide) (fun c_30 => ?_) (fun c_30 => ?_)
        · refine x_aload_n dX7_plan_36 1 rfl rfl ?_
          refine x_callV (k_think (G := G) hc) dX7_plan_37 crc_X7_think vc_7_175 s0 rfl rfl rfl rfl (Nat.le_of_ble_eq_true rfl) (roomy_k (by omega) (by decide)) (Nat.le_refl _) (Nat.le_refl _) ?_
          rintro _ _ ⟨_, rfl, rfl, J601t, R601t, rfl, ht, hpv, hrv⟩
          refine x_pop dX7_plan_40 rfl ?_
          refine x_iconst (v := 0) dX7_plan_41 (by decide) ?_
          refine x_istore (lv' := [(4, .int 0), (3, .ref (b + 26 + 2 * t)), (0, .ref b), (1, .int s), (2, .int w)]) dX7_plan_42 (by decide) rfl ?_
          refine x_sub [0, 1, 2, 3, 4] rfl ?_
          have hfin : planF σ s w = vwF (gP σ) (gN σ) (plG σ t (gSz σ t)) w := by
            unfold planF
            rw [hit, idF_in (n := 4) ht9 (by omega)]
            dsimp only
            rw [if_pos ⟨c_15, fun z => c_22 ((hCSe t ht9).1.trans z), c_30⟩]
          rw [hfin]
          exact k_plan_l hc ht9 hrv (gSz σ t + 1) 0 J601t (by omega) (by omega) ht hpv
        · refine x_ldc (v := (-100000)) dX7_plan_33 (tw_at 627 (by decide +kernel) rfl) ?_
          refine x_iret dX7_plan_35 rfl (Nat.le_refl _) (Nat.le_refl _) ?_
          refine ⟨?_, I, R, rfl, pvE.rf, rvE.rf⟩
          unfold planF
          rw [hit, idF_in (n := 4) ht9 (by omega)]
          dsimp only
          rw [if_neg (fun z => c_30 z.2.2)]
  · refine x_astore_nN (lv' := [(3, .null), (0, .ref b), (1, .int s), (2, .int w)]) dX7_plan_5 rfl (by decide) rfl ?_
    refine x_aload_nN dX7_plan_6 0 rfl rfl ?_
    refine x_ifnullN (tgt := 33) dX7_plan_7 (by decide) ?_
    refine x_ldc (v := (-100000)) dX7_plan_33 (tw_at 627 (by decide +kernel) rfl) ?_
    refine x_iret dX7_plan_35 rfl (Nat.le_refl _) (Nat.le_refl _) ?_
    refine ⟨?_, I, R, rfl, pvE.rf, rvE.rf⟩
    unfold planF
    rw [idF_out (n := 4) (by omega) hno4]

