theorem CI.rg {b : Nat} {Sh : HS} {I : HI} {R : HR} {σ : SG} (h : CI b Sh I R σ) : RG R (b + 64) (b + 44) := h.2.1.2.2.2.2.2.2.2.2.2.2.2.2.2.2.2.2.2.2.2
theorem TH.eq {b : Nat} {Sh : HS} {I : HI} {R : HR} {σ : SG} {v : SV} (h : TH b Sh I R σ v) {i k : Nat} (hi : i < gN σ) (hk : k < 5) : I (b + 44 + 2 + i) k = v.1 i k := h.2.1 i hi k hk

set_option maxHeartbeats 4000000 in
set_option maxRecDepth 100000 in
theorem k_matters_l {G : GG} {Sh : HS} {I : HI} {R : HR} {b : Nat} {σ : SG} (hc : CI b Sh I R σ) {i k : Nat} (hi : i < gN σ) (hk : k ≤ 40) {w : Int32} : ∀ (m : Nat) (q : Nat) (le wh : Int32) (J : HI) (R3 : HR), (q ≤ gN σ) → (gN σ < q + m) → ((wh, le) = mattG σ i k q) → (pvE b I J) → (rvE b R R3) → X G (kM G 7 0 0 (qi (qryI b Sh I R (if w = 0 then (mattG σ i k (gN σ)).1 else (mattG σ i k (gN σ)).2)))) yX7_matters cX7_matters 9 (some .int) 0 0 53 [(7, .int (nI q)), (6, .int wh), (5, .int le), (4, .ref (b + 44 + 2 + i)), (0, .ref b), (1, .int (nI i)), (2, .int (nI k)), (3, .int w)] [] (Sh, J, R3) := by
  intro m
  induction m with
  | zero =>
    intro q le wh J R3 hq hm hmg hpv hrv
    exact absurd hm (by omega)
  | succ m ih =>
    intro q le wh J R3 hq hm hmg hpv hrv
    obtain ⟨⟨s0, s1, s2, s3, s4, s5, s6, s7, sT, sS, sA, sB, sC, sG⟩, ⟨r0, r1, r2, r4, r5, r6, r8, r9, rt0, rt2, rt3, rr0, rT, rS, rTT, rSS, rA, rB, rC, rG⟩, hCT, hCK, hCTp, hCIm, hCSe⟩ := id hc
    have hn8 : gN σ ≤ 8 := hCK.2.1
    have hru := hc.ru
    have hs := hc.sr
    have hw := hc.sw
    refine x_iload dX7_matters_53 0 rfl ?_
    refine x_aload_n dX7_matters_55 4 rfl rfl ?_
    refine x_gR (b := b + 34) dX7_matters_56 fl_7_73 rfl s0 ((hrv _ _ (by omega)).trans r4) ?_
    refine x_gI (v := nI (gN σ)) dX7_matters_59 fl_7_216 rfl sA.1 ((hpv _ _ (by unfold prv; omega)).trans hCK.1) ?_
    refine x_icmp_ge (tgt := 144) dX7_matters_62 (by decide) (fun c_62 => ?_) (fun c_62 => ?_)
    · have c_62 : (gN σ) ≤ q := (nI_leI (a := (gN σ)) (b := q) (by omega) (by omega)).mp c_62
      refine x_iload_n dX7_matters_144 7 rfl rfl ?_
      refine x_if_ne (tgt := 153) dX7_matters_145 (by decide) (fun c_145 => ?_) (fun c_145 => ?_)
      · refine x_iload dX7_matters_153 2 rfl ?_
        refine x_iret dX7_matters_155 rfl (Nat.le_refl _) (Nat.le_refl _) ?_
        have hqn : q = gN σ := by omega
        subst hqn
        refine ⟨?_, J, R3, rfl, hpv, hrv⟩
        rw [if_neg c_145, ← hmg]
      · refine x_iload dX7_matters_148 1 rfl ?_
        refine x_goto (tgt := 155) dX7_matters_150 (by decide) ?_
        refine x_iret dX7_matters_155 rfl (Nat.le_refl _) (Nat.le_refl _) ?_
        have hqn : q = gN σ := by omega
        subst hqn
        refine ⟨?_, J, R3, rfl, hpv, hrv⟩
        rw [if_pos c_145, ← hmg]
    · have c_62 : ¬ (gN σ) ≤ q := fun zz9 => c_62 ((nI_leI (a := (gN σ)) (b := q) (by omega) (by omega)).mpr zz9)
      refine x_aload_n dX7_matters_65 4 rfl rfl ?_
      refine x_callV (k_think (G := G) (hc.pv hpv hrv)) dX7_matters_66 crc_X7_think vc_7_175 s0 rfl rfl rfl rfl (Nat.le_of_ble_eq_true rfl) (roomy_k (by omega) (by decide)) (Nat.le_refl _) (Nat.le_refl _) ?_
      rintro _ _ ⟨_, rfl, rfl, J201t, R201t, rfl, ht, hpv2, hrv2⟩
      have hpv := hpv.tr hpv2
      have hrv := hrv.tr hrv2
      refine x_iload dX7_matters_69 0 rfl ?_
      refine x_callV (k_at_in (G := G) (Sh := Sh) (I := J201t) (R := R201t) (S := b + 44) (n := gN σ) sB ht.rs ht.sz hn8 (i := q) (by omega)) dX7_matters_71 crc_X4_at vc_7_106 sB.1 rfl rfl rfl rfl (Nat.le_of_ble_eq_true rfl) (roomy_k (by omega) (by decide)) (Nat.le_refl _) (Nat.le_refl _) ?_
      rintro _ _ ⟨_, rfl, rfl, rfl⟩
      refine x_astore (lv' := [(8, .ref (b + 44 + 2 + q)), (7, .int (nI q)), (6, .int wh), (5, .int le), (4, .ref (b + 44 + 2 + i)), (0, .ref b), (1, .int (nI i)), (2, .int (nI k)), (3, .int w)]) dX7_matters_74 (by decide) rfl ?_
      refine x_aload dX7_matters_76 0 rfl ?_
      refine x_ifnull dX7_matters_78 ?_
      refine x_iload dX7_matters_81 1 rfl ?_
      refine x_iload_n dX7_matters_83 6 rfl rfl ?_
      refine x_icmp_eq (tgt := 138) dX7_matters_84 (by decide) (fun c_84 => ?_) (fun c_84 => ?_)
      · have c_84 : q = i := (nI_eq (a := q) (b := i) (by omega) (by omega)).mp c_84
        refine x_iinc (v := nI (q + 1)) (lv' := [(7, .int (nI (q + 1))), (8, .ref (b + 44 + 2 + q)), (6, .int wh), (5, .int le), (4, .ref (b + 44 + 2 + i)), (0, .ref b), (1, .int (nI i)), (2, .int (nI k)), (3, .int w)]) dX7_matters_138 1 rfl (nI_1 q) (by decide) rfl ?_
        refine x_goto (tgt := 53) dX7_matters_141 (by decide) ?_
        refine x_sub [0, 2, 3, 4, 5, 6, 7, 8] rfl ?_
        exact ih (q + 1) le wh J201t R201t (by omega) (by omega) (by
          unfold mattG at *
          rw [fd_s, ← hmg]
          rw [if_pos (Or.inl c_84)]) hpv hrv
      · have c_84 : ¬ q = i := fun zz9 => c_84 ((nI_eq (a := q) (b := i) (by omega) (by omega)).mpr zz9)
        refine x_aload dX7_matters_87 0 rfl ?_
        refine x_gI (v := (gW σ).1 q 3) dX7_matters_89 fl_7_129 rfl (sB.2.2 q (by omega)) (ht.eq (by omega) (by omega)) ?_
        refine x_aload dX7_matters_92 4 rfl ?_
        refine x_gI (v := (gW σ).1 i 3) dX7_matters_94 fl_7_129 rfl (sB.2.2 i (by omega)) (ht.eq hi (by omega)) ?_
        refine x_icmp_eq (tgt := 103) dX7_matters_97 (by decide) (fun c_97 => ?_) (fun c_97 => ?_)
        · refine x_aload dX7_matters_103 0 rfl ?_
          refine x_iconst (v := 0) dX7_matters_105 (by decide) ?_
          refine x_pI dX7_matters_106 fl_7_132 rfl rfl rfl (sB.2.2 q (by omega)) (fun Iq1 e_Iq1 => ?_)
          refine x_aload_n dX7_matters_109 5 rfl rfl ?_
          refine x_gR (b := b + 44) dX7_matters_110 fl_7_77 rfl s0 ((hrv _ _ (by omega)).trans r5) ?_
          refine x_iload_n dX7_matters_113 7 rfl rfl ?_
          have hq9 : q < gN σ := by omega
          have hth := ht.put (x := 0) hq9 hn8 (k := 4) (by omega)
          rw [← e_Iq1] at hth
          have ht := hth.1
          have hpv := hpv.tr hth.2
          refine x_callV (k_pass (G := G) ht.1 ht.2 (k := k) (by omega)) dX7_matters_114 crc_X4_pass vc_7_179 sB.1 rfl rfl rfl rfl (Nat.le_of_ble_eq_true rfl) (roomy_k (by omega) (by decide)) (Nat.le_refl _) (Nat.le_refl _) ?_
          rintro _ _ ⟨rfl, J9p, rfl, hs2, hf2⟩
          have ht := ht.fr hf2 hs2
          have hpv := hpv.tr (hf2.pv hru rfl)
          refine x_aload dX7_matters_117 4 rfl ?_
          refine x_gI (v := (passF (gP σ) (gN σ) (upV (gW σ) q 4 0) k).1 i 4) dX7_matters_119 fl_7_132 rfl (sB.2.2 i (by omega)) (ht.eq hi (by omega)) ?_
          refine x_iload dX7_matters_122 3 rfl ?_
          refine x_icmp_ge (tgt := 138) dX7_matters_124 (by decide) (fun c_124 => ?_) (fun c_124 => ?_)
          · refine x_iinc (v := nI (q + 1)) (lv' := [(7, .int (nI (q + 1))), (8, .ref (b + 44 + 2 + q)), (6, .int wh), (5, .int le), (4, .ref (b + 44 + 2 + i)), (0, .ref b), (1, .int (nI i)), (2, .int (nI k)), (3, .int w)]) dX7_matters_138 1 rfl (nI_1 q) (by decide) rfl ?_
            refine x_goto (tgt := 53) dX7_matters_141 (by decide) ?_
            refine x_sub [0, 2, 3, 4, 5, 6, 7, 8] rfl ?_
            exact ih (q + 1) le wh J9p R201t (by omega) (by omega) (by
              unfold mattG at *
              rw [fd_s, ← hmg]
              rw [if_neg (fun z => z.elim c_84 (fun z => z c_97))]
              rw [if_neg (fun z => absurd c_124 (Int32.not_le.mpr z))]) hpv hrv
          · refine x_aload dX7_matters_127 4 rfl ?_
            refine x_gI (v := (passF (gP σ) (gN σ) (upV (gW σ) q 4 0) k).1 i 4) dX7_matters_129 fl_7_132 rfl (sB.2.2 i (by omega)) (ht.eq hi (by omega)) ?_
            refine x_topi (fun xq2 e_xq2 => ?_)
            refine x_istore (lv' := [(5, .int xq2), (8, .ref (b + 44 + 2 + q)), (7, .int (nI q)), (6, .int wh), (4, .ref (b + 44 + 2 + i)), (0, .ref b), (1, .int (nI i)), (2, .int (nI k)), (3, .int w)]) dX7_matters_132 (by decide) rfl ?_
            refine x_iload dX7_matters_134 2 rfl ?_
            refine x_istore (lv' := [(6, .int (nI q)), (5, .int xq2), (8, .ref (b + 44 + 2 + q)), (7, .int (nI q)), (4, .ref (b + 44 + 2 + i)), (0, .ref b), (1, .int (nI i)), (2, .int (nI k)), (3, .int w)]) dX7_matters_136 (by decide) rfl ?_
            refine x_iinc (v := nI (q + 1)) (lv' := [(7, .int (nI (q + 1))), (6, .int (nI q)), (5, .int xq2), (8, .ref (b + 44 + 2 + q)), (4, .ref (b + 44 + 2 + i)), (0, .ref b), (1, .int (nI i)), (2, .int (nI k)), (3, .int w)]) dX7_matters_138 3 rfl (nI_1 q) (by decide) rfl ?_
            refine x_goto (tgt := 53) dX7_matters_141 (by decide) ?_
            refine x_sub [0, 1, 2, 4, 5, 6, 7, 8] rfl ?_
            exact ih (q + 1) xq2 (nI q) J9p R201t (by omega) (by omega) (by
              unfold mattG at *
              rw [fd_s, ← hmg]
              rw [if_neg (fun z => z.elim c_84 (fun z => z c_97))]
              rw [if_pos (Int32.not_le.mp c_124), e_xq2]) hpv hrv
        · refine x_goto (tgt := 138) dX7_matters_100 (by decide) ?_
          refine x_iinc (v := nI (q + 1)) (lv' := [(7, .int (nI (q + 1))), (8, .ref (b + 44 + 2 + q)), (6, .int wh), (5, .int le), (4, .ref (b + 44 + 2 + i)), (0, .ref b), (1, .int (nI i)), (2, .int (nI k)), (3, .int w)]) dX7_matters_138 1 rfl (nI_1 q) (by decide) rfl ?_
          refine x_goto (tgt := 53) dX7_matters_141 (by decide) ?_
          refine x_sub [0, 2, 3, 4, 5, 6, 7, 8] rfl ?_
          exact ih (q + 1) le wh J201t R201t (by omega) (by omega) (by
            unfold mattG at *
            rw [fd_s, ← hmg]
            rw [if_pos (Or.inr c_97)]) hpv hrv

set_option maxHeartbeats 4000000 in
set_option maxRecDepth 100000 in
theorem k_matters {G : GG} {Sh : HS} {I : HI} {R : HR} {b : Nat} {σ : SG} (hc : CI b Sh I R σ) {f n w : Int32} : AM G 7 0 0 yX7_matters cX7_matters 9 (some .int) [.ref b, .int f, .int n, .int w] (Sh, I, R) (qi (qryI b Sh I R (mattersF σ f n w))) := by
  obtain ⟨⟨s0, s1, s2, s3, s4, s5, s6, s7, sT, sS, sA, sB, sC, sG⟩, ⟨r0, r1, r2, r4, r5, r6, r8, r9, rt0, rt2, rt3, rr0, rT, rS, rTT, rSS, rA, rB, rC, rG⟩, hCT, hCK, hCTp, hCIm, hCSe⟩ := id hc
  have hn8 : gN σ ≤ 8 := hCK.2.1
  have hru := hc.ru
  have hs := hc.sr
  have hw := hc.sw
  refine am_intro (by decide) (Nat.le_of_ble_eq_true rfl) ?_
  refine x_aload_n dX7_matters_0 0 rfl rfl ?_
  refine x_callV (k_think (G := G) hc) dX7_matters_1 crc_X7_think vc_7_175 s0 rfl rfl rfl rfl (Nat.le_of_ble_eq_true rfl) (roomy_k (by omega) (by decide)) (Nat.le_refl _) (Nat.le_refl _) ?_
  rintro _ _ ⟨_, rfl, rfl, J251t, R251t, rfl, ht, hpv, hrv⟩
  refine x_iload_n dX7_matters_4 1 rfl rfl ?_
  refine x_callV (k_at (G := G) (Sh := Sh) (I := J251t) (R := R251t) (S := b + 44) (n := gN σ) (i := f) sB ht.rs ht.sz hn8) dX7_matters_5 crc_X4_at vc_7_106 sB.1 rfl rfl rfl rfl (Nat.le_of_ble_eq_true rfl) (roomy_k (by omega) (by decide)) (Nat.le_refl _) (Nat.le_refl _) ?_
  rintro _ _ ⟨_, rfl, rfl, (⟨i, hi, hii, rfl⟩ | ⟨hno, rfl⟩)⟩
  · refine x_astore (lv' := [(4, .ref (b + 44 + 2 + i)), (0, .ref b), (1, .int f), (2, .int n), (3, .int w)]) dX7_matters_8 (by decide) rfl ?_
    refine x_aload dX7_matters_10 0 rfl ?_
    refine x_ifnull dX7_matters_12 ?_
    refine x_iload_n dX7_matters_15 3 rfl rfl ?_
    refine x_callS (rest := []) (k_isAhead (G := G) (Sh := Sh) (I := J251t) (R := R251t) (n := n)) dX7_matters_16 crc_X7_isAhead sc_7_168 rfl rfl (Nat.le_of_ble_eq_true rfl) (roomy_k (by omega) (by decide)) (Nat.le_refl _) (Nat.le_refl _) ?_
    rintro _ _ ⟨_, rfl, rfl, rfl⟩
    refine x_if_eqB (tgt := 29) dX7_matters_19 (by decide) (fun c_19 => ?_) (fun c_19 => ?_)
    · refine x_bipush (v := (-2)) dX7_matters_29 (by decide) ?_
      refine x_iret dX7_matters_31 rfl (Nat.le_refl _) (Nat.le_refl _) ?_
      refine ⟨?_, J251t, R251t, rfl, hpv, hrv⟩
      unfold mattersF
      rw [hii, idF_in hi hn8]
      dsimp only
      rw [if_neg (fun z => c_19 z.1)]
    · refine x_iload_n dX7_matters_22 4 rfl rfl ?_
      refine x_callS (rest := []) (k_isAnswer (G := G) (Sh := Sh) (I := J251t) (R := R251t) (w := w)) dX7_matters_23 crc_X7_isAnswer sc_7_213 rfl rfl (Nat.le_of_ble_eq_true rfl) (roomy_k (by omega) (by decide)) (Nat.le_refl _) (Nat.le_refl _) ?_
      rintro _ _ ⟨_, rfl, rfl, rfl⟩
      refine x_if_neB (tgt := 32) dX7_matters_26 (by decide) (fun c_26 => ?_) (fun c_26 => ?_)
      · obtain ⟨k, hk, rfl⟩ := ahead_nat c_19
        refine x_aload_n dX7_matters_32 1 rfl rfl ?_
        refine x_gR (b := b + 44) dX7_matters_33 fl_7_77 rfl s0 ((hrv _ _ (by omega)).trans r5) ?_
        refine x_iload_n dX7_matters_36 3 rfl rfl ?_
        refine x_callV (k_pass (G := G) ht.1 ht.2 (k := k) (by omega)) dX7_matters_37 crc_X4_pass vc_7_179 sB.1 rfl rfl rfl rfl (Nat.le_of_ble_eq_true rfl) (roomy_k (by omega) (by decide)) (Nat.le_refl _) (Nat.le_refl _) ?_
        rintro _ _ ⟨rfl, J9p, rfl, hs2, hf2⟩
        have ht := ht.fr hf2 hs2
        have hpv := hpv.tr (hf2.pv hru rfl)
        refine x_aload dX7_matters_40 0 rfl ?_
        refine x_gI (v := (passF (gP σ) (gN σ) (gW σ) k).1 i 4) dX7_matters_42 fl_7_132 rfl (sB.2.2 i (by omega)) (ht.eq hi (by omega)) ?_
        refine x_topi (fun xq1 e_xq1 => ?_)
        refine x_istore (lv' := [(5, .int xq1), (4, .ref (b + 44 + 2 + i)), (0, .ref b), (1, .int f), (2, .int (nI k)), (3, .int w)]) dX7_matters_45 (by decide) rfl ?_
        refine x_iconst (v := (-1)) dX7_matters_47 (by decide) ?_
        refine x_istore (lv' := [(6, .int (-1)), (5, .int xq1), (4, .ref (b + 44 + 2 + i)), (0, .ref b), (1, .int f), (2, .int (nI k)), (3, .int w)]) dX7_matters_48 (by decide) rfl ?_
        refine x_iconst (v := 0) dX7_matters_50 (by decide) ?_
        refine x_istore (lv' := [(7, .int 0), (6, .int (-1)), (5, .int xq1), (4, .ref (b + 44 + 2 + i)), (0, .ref b), (1, .int f), (2, .int (nI k)), (3, .int w)]) dX7_matters_51 (by decide) rfl ?_
        refine x_sub [0, 1, 2, 3, 4, 5, 6, 7] rfl ?_
        have hfin : mattersF σ f (nI k) w = if w = 0 then (mattG σ i k (gN σ)).1 else (mattG σ i k (gN σ)).2 := by
          unfold mattersF
          rw [hii, idF_in hi hn8]
          dsimp only
          rw [if_pos ⟨c_19, c_26⟩, nI_clamp (by omega)]
        rw [hfin]
        subst hii
        exact k_matters_l hc hi hk (gN σ + 1) 0 xq1 (-1) J9p R251t (by omega) (by omega) (by rw [e_xq1]; rfl) hpv hrv
      · refine x_bipush (v := (-2)) dX7_matters_29 (by decide) ?_
        refine x_iret dX7_matters_31 rfl (Nat.le_refl _) (Nat.le_refl _) ?_
        refine ⟨?_, J251t, R251t, rfl, hpv, hrv⟩
        unfold mattersF
        rw [hii, idF_in hi hn8]
        dsimp only
        rw [if_neg (fun z => c_26 z.2)]
  · refine x_astoreN (lv' := [(4, .null), (0, .ref b), (1, .int f), (2, .int n), (3, .int w)]) dX7_matters_8 (by decide) rfl ?_
    refine x_aloadN dX7_matters_10 0 rfl ?_
    refine x_ifnullN (tgt := 29) dX7_matters_12 (by decide) ?_
    refine x_bipush (v := (-2)) dX7_matters_29 (by decide) ?_
    refine x_iret dX7_matters_31 rfl (Nat.le_refl _) (Nat.le_refl _) ?_
    refine ⟨?_, J251t, R251t, rfl, hpv, hrv⟩
    unfold mattersF
    rw [idF_out hn8 hno]

set_option maxHeartbeats 4000000 in
set_option maxRecDepth 100000 in
theorem k_wish_l {G : GG} {Sh : HS} {I : HI} {R : HR} {b : Nat} {σ : SG} (hc : CI b Sh I R σ) {k : Nat} (hk : k ≤ 40) {r w : Int32} : ∀ (m : Nat) (q : Nat) (mo wh : Int32) (J : HI) (R3 : HR), (q ≤ gN σ) → (gN σ < q + m) → ((wh, mo) = wishG σ r k q) → (pvE b I J) → (rvE b R R3) → X G (kM G 7 0 0 (qi (qryI b Sh I R (if w = 0 then (wishG σ r k (gN σ)).1 else (wishG σ r k (gN σ)).2)))) yX7_wish cX7_wish 9 (some .int) 0 0 50 [(6, .int (nI q)), (5, .int wh), (4, .int mo), (0, .ref b), (1, .int r), (2, .int (nI k)), (3, .int w)] [] (Sh, J, R3) := by
  intro m
  induction m with
  | zero =>
    intro q mo wh J R3 hq hm hwg hpv hrv
    exact absurd hm (by omega)
  | succ m ih =>
    intro q mo wh J R3 hq hm hwg hpv hrv
    obtain ⟨⟨s0, s1, s2, s3, s4, s5, s6, s7, sT, sS, sA, sB, sC, sG⟩, ⟨r0, r1, r2, r4, r5, r6, r8, r9, rt0, rt2, rt3, rr0, rT, rS, rTT, rSS, rA, rB, rC, rG⟩, hCT, hCK, hCTp, hCIm, hCSe⟩ := id hc
    have hn8 : gN σ ≤ 8 := hCK.2.1
    have hru := hc.ru
    have hs := hc.sr
    have hw := hc.sw
    refine x_iload dX7_wish_50 0 rfl ?_
    refine x_aload_n dX7_wish_52 3 rfl rfl ?_
    refine x_gR (b := b + 34) dX7_wish_53 fl_7_73 rfl s0 ((hrv _ _ (by omega)).trans r4) ?_
    refine x_gI (v := nI (gN σ)) dX7_wish_56 fl_7_216 rfl sA.1 ((hpv _ _ (by unfold prv; omega)).trans hCK.1) ?_
    refine x_icmp_ge (tgt := 135) dX7_wish_59 (by decide) (fun c_59 => ?_) (fun c_59 => ?_)
    · have c_59 : (gN σ) ≤ q := (nI_leI (a := (gN σ)) (b := q) (by omega) (by omega)).mp c_59
      refine x_iload_n dX7_wish_135 6 rfl rfl ?_
      refine x_if_ne (tgt := 144) dX7_wish_136 (by decide) (fun c_136 => ?_) (fun c_136 => ?_)
      · refine x_iload dX7_wish_144 2 rfl ?_
        refine x_iret dX7_wish_146 rfl (Nat.le_refl _) (Nat.le_refl _) ?_
        have hqn : q = gN σ := by omega
        subst hqn
        refine ⟨?_, J, R3, rfl, hpv, hrv⟩
        rw [if_neg c_136, ← hwg]
      · refine x_iload dX7_wish_139 1 rfl ?_
        refine x_goto (tgt := 146) dX7_wish_141 (by decide) ?_
        refine x_iret dX7_wish_146 rfl (Nat.le_refl _) (Nat.le_refl _) ?_
        have hqn : q = gN σ := by omega
        subst hqn
        refine ⟨?_, J, R3, rfl, hpv, hrv⟩
        rw [if_pos c_136, ← hwg]
    · have c_59 : ¬ (gN σ) ≤ q := fun zz9 => c_59 ((nI_leI (a := (gN σ)) (b := q) (by omega) (by omega)).mpr zz9)
      refine x_aload_n dX7_wish_62 3 rfl rfl ?_
      refine x_callV (k_think (G := G) (hc.pv hpv hrv)) dX7_wish_63 crc_X7_think vc_7_175 s0 rfl rfl rfl rfl (Nat.le_of_ble_eq_true rfl) (roomy_k (by omega) (by decide)) (Nat.le_refl _) (Nat.le_refl _) ?_
      rintro _ _ ⟨_, rfl, rfl, J301t, R301t, rfl, ht, hpv2, hrv2⟩
      have hpv := hpv.tr hpv2
      have hrv := hrv.tr hrv2
      refine x_iload dX7_wish_66 0 rfl ?_
      refine x_callV (k_at_in (G := G) (Sh := Sh) (I := J301t) (R := R301t) (S := b + 44) (n := gN σ) sB ht.rs ht.sz hn8 (i := q) (by omega)) dX7_wish_68 crc_X4_at vc_7_106 sB.1 rfl rfl rfl rfl (Nat.le_of_ble_eq_true rfl) (roomy_k (by omega) (by decide)) (Nat.le_refl _) (Nat.le_refl _) ?_
      rintro _ _ ⟨_, rfl, rfl, rfl⟩
      refine x_astore (lv' := [(7, .ref (b + 44 + 2 + q)), (6, .int (nI q)), (5, .int wh), (4, .int mo), (0, .ref b), (1, .int r), (2, .int (nI k)), (3, .int w)]) dX7_wish_71 (by decide) rfl ?_
      refine x_aload dX7_wish_73 0 rfl ?_
      refine x_ifnull dX7_wish_75 ?_
      refine x_aload dX7_wish_78 0 rfl ?_
      refine x_gI (v := (gW σ).1 q 3) dX7_wish_80 fl_7_129 rfl (sB.2.2 q (by omega)) (ht.eq (by omega) (by omega)) ?_
      refine x_iload_n dX7_wish_83 5 rfl rfl ?_
      refine x_icmp_ne (tgt := 90) dX7_wish_84 (by decide) (fun c_84 => ?_) (fun c_84 => ?_)
      · refine x_aload dX7_wish_90 0 rfl ?_
        refine x_iconst (v := 0) dX7_wish_92 (by decide) ?_
        refine x_pI dX7_wish_93 fl_7_132 rfl rfl rfl (sB.2.2 q (by omega)) (fun Iq1 e_Iq1 => ?_)
        refine x_aload_n dX7_wish_96 4 rfl rfl ?_
        refine x_gR (b := b + 44) dX7_wish_97 fl_7_77 rfl s0 ((hrv _ _ (by omega)).trans r5) ?_
        refine x_iload_n dX7_wish_100 6 rfl rfl ?_
        have hq9 : q < gN σ := by omega
        have hth := ht.put (x := 0) hq9 hn8 (k := 4) (by omega)
        rw [← e_Iq1] at hth
        have ht := hth.1
        have hpv := hpv.tr hth.2
        refine x_callV (k_pass (G := G) ht.1 ht.2 (k := k) (by omega)) dX7_wish_101 crc_X4_pass vc_7_179 sB.1 rfl rfl rfl rfl (Nat.le_of_ble_eq_true rfl) (roomy_k (by omega) (by decide)) (Nat.le_refl _) (Nat.le_refl _) ?_
        rintro _ _ ⟨rfl, J9p, rfl, hs2, hf2⟩
        have ht := ht.fr hf2 hs2
        have hpv := hpv.tr (hf2.pv hru rfl)
        refine x_aload_n dX7_wish_104 4 rfl rfl ?_
        refine x_gR (b := b + 44) dX7_wish_105 fl_7_77 rfl s0 ((hrv _ _ (by omega)).trans r5) ?_
        refine x_iload_n dX7_wish_108 5 rfl rfl ?_
        refine x_callV (k_valueOf (G := G) ht.1 ht.2 (r := r)) dX7_wish_109 crc_X4_valueOf vc_7_204 sB.1 rfl rfl rfl rfl (Nat.le_of_ble_eq_true rfl) (roomy_k (by omega) (by decide)) (Nat.le_refl _) (Nat.le_refl _) ?_
        rintro _ _ ⟨_, rfl, hvv, J8v, hoff, rfl⟩
        refine x_vali hvv ?_
        have ht : TH b Sh J8v _ σ _ := ⟨ht.1.off hoff, ht.2.off hoff (by omega)⟩
        have hpv := hpv.tr (hoff.pv hru)
        refine x_topi (fun xq2 e_xq2 => ?_)
        refine x_istore (lv' := [(8, .int xq2), (7, .ref (b + 44 + 2 + q)), (6, .int (nI q)), (5, .int wh), (4, .int mo), (0, .ref b), (1, .int r), (2, .int (nI k)), (3, .int w)]) dX7_wish_112 (by decide) rfl ?_
        refine x_iload dX7_wish_114 0 rfl ?_
        refine x_iload dX7_wish_116 4 rfl ?_
        refine x_icmp_le (tgt := 129) dX7_wish_118 (by decide) (fun c_118 => ?_) (fun c_118 => ?_)
        · refine x_iinc (v := nI (q + 1)) (lv' := [(6, .int (nI (q + 1))), (8, .int xq2), (7, .ref (b + 44 + 2 + q)), (5, .int wh), (4, .int mo), (0, .ref b), (1, .int r), (2, .int (nI k)), (3, .int w)]) dX7_wish_129 2 rfl (nI_1 q) (by decide) rfl ?_
          refine x_goto (tgt := 50) dX7_wish_132 (by decide) ?_
          refine x_sub [0, 3, 4, 5, 6, 7, 8] rfl ?_
          exact ih (q + 1) mo wh J8v R301t (by omega) (by omega) (by
            unfold wishG at *
            rw [fd_s, ← hwg]
            rw [if_neg c_84]
            rw [if_neg (fun z => absurd c_118 (Int32.not_le.mpr (by rw [e_xq2]; exact z)))]) hpv hrv
        · refine x_iload dX7_wish_121 0 rfl ?_
          refine x_istore (lv' := [(4, .int xq2), (8, .int xq2), (7, .ref (b + 44 + 2 + q)), (6, .int (nI q)), (5, .int wh), (0, .ref b), (1, .int r), (2, .int (nI k)), (3, .int w)]) dX7_wish_123 (by decide) rfl ?_
          refine x_iload dX7_wish_125 3 rfl ?_
          refine x_istore (lv' := [(5, .int (nI q)), (4, .int xq2), (8, .int xq2), (7, .ref (b + 44 + 2 + q)), (6, .int (nI q)), (0, .ref b), (1, .int r), (2, .int (nI k)), (3, .int w)]) dX7_wish_127 (by decide) rfl ?_
          refine x_iinc (v := nI (q + 1)) (lv' := [(6, .int (nI (q + 1))), (5, .int (nI q)), (4, .int xq2), (8, .int xq2), (7, .ref (b + 44 + 2 + q)), (0, .ref b), (1, .int r), (2, .int (nI k)), (3, .int w)]) dX7_wish_129 4 rfl (nI_1 q) (by decide) rfl ?_
          refine x_goto (tgt := 50) dX7_wish_132 (by decide) ?_
          refine x_sub [0, 1, 2, 5, 6, 7, 8] rfl ?_
          exact ih (q + 1) xq2 (nI q) J8v R301t (by omega) (by omega) (by
            unfold wishG at *
            rw [fd_s, ← hwg]
            rw [if_neg c_84]
            rw [if_pos (by have z := Int32.not_le.mp c_118; rw [e_xq2] at z; exact z), e_xq2]) hpv hrv
      · refine x_goto (tgt := 129) dX7_wish_87 (by decide) ?_
        refine x_iinc (v := nI (q + 1)) (lv' := [(6, .int (nI (q + 1))), (7, .ref (b + 44 + 2 + q)), (5, .int wh), (4, .int mo), (0, .ref b), (1, .int r), (2, .int (nI k)), (3, .int w)]) dX7_wish_129 1 rfl (nI_1 q) (by decide) rfl ?_
        refine x_goto (tgt := 50) dX7_wish_132 (by decide) ?_
        refine x_sub [0, 2, 3, 4, 5, 6, 7] rfl ?_
        exact ih (q + 1) mo wh J301t R301t (by omega) (by omega) (by
          unfold wishG at *
          rw [fd_s, ← hwg]
          rw [if_pos c_84]) hpv hrv

set_option maxHeartbeats 4000000 in
set_option maxRecDepth 100000 in
theorem k_wish {G : GG} {Sh : HS} {I : HI} {R : HR} {b : Nat} {σ : SG} (hc : CI b Sh I R σ) {r n w : Int32} : AM G 7 0 0 yX7_wish cX7_wish 9 (some .int) [.ref b, .int r, .int n, .int w] (Sh, I, R) (qi (qryI b Sh I R (wishF σ r n w))) := by
  obtain ⟨⟨s0, s1, s2, s3, s4, s5, s6, s7, sT, sS, sA, sB, sC, sG⟩, ⟨r0, r1, r2, r4, r5, r6, r8, r9, rt0, rt2, rt3, rr0, rT, rS, rTT, rSS, rA, rB, rC, rG⟩, hCT, hCK, hCTp, hCIm, hCSe⟩ := id hc
  have hn8 : gN σ ≤ 8 := hCK.2.1
  have hru := hc.ru
  have hs := hc.sr
  have hw := hc.sw
  refine am_intro (by decide) (Nat.le_of_ble_eq_true rfl) ?_
  refine x_iload_n dX7_wish_0 1 rfl rfl ?_
  refine x_if_lt (tgt := 23) dX7_wish_1 (by decide) (fun c_1 => ?_) (fun c_1 => ?_)
  · refine x_ldc (v := (-100000)) dX7_wish_23 (tw_at 627 (by decide +kernel) rfl) ?_
    refine x_iret dX7_wish_25 rfl (Nat.le_refl _) (Nat.le_refl _) ?_
    refine ⟨?_, I, R, rfl, pvE.rf, rvE.rf⟩
    unfold wishF
    rw [if_neg (fun z => absurd c_1 (Int32.not_lt.mpr z.1))]
  · refine x_iload_n dX7_wish_4 1 rfl rfl ?_
    refine x_iconst (v := 2) dX7_wish_5 (by decide) ?_
    refine x_icmp_ge (tgt := 23) dX7_wish_6 (by decide) (fun c_6 => ?_) (fun c_6 => ?_)
    · refine x_ldc (v := (-100000)) dX7_wish_23 (tw_at 627 (by decide +kernel) rfl) ?_
      refine x_iret dX7_wish_25 rfl (Nat.le_refl _) (Nat.le_refl _) ?_
      refine ⟨?_, I, R, rfl, pvE.rf, rvE.rf⟩
      unfold wishF
      rw [if_neg (fun z => absurd c_6 (Int32.not_le.mpr z.2.1))]
    · refine x_iload_n dX7_wish_9 2 rfl rfl ?_
      refine x_callS (rest := []) (k_isAhead (G := G) (Sh := Sh) (I := I) (R := R) (n := n)) dX7_wish_10 crc_X7_isAhead sc_7_168 rfl rfl (Nat.le_of_ble_eq_true rfl) (roomy_k (by omega) (by decide)) (Nat.le_refl _) (Nat.le_refl _) ?_
      rintro _ _ ⟨_, rfl, rfl, rfl⟩
      refine x_if_eqB (tgt := 23) dX7_wish_13 (by decide) (fun c_13 => ?_) (fun c_13 => ?_)
      · refine x_ldc (v := (-100000)) dX7_wish_23 (tw_at 627 (by decide +kernel) rfl) ?_
        refine x_iret dX7_wish_25 rfl (Nat.le_refl _) (Nat.le_refl _) ?_
        refine ⟨?_, I, R, rfl, pvE.rf, rvE.rf⟩
        unfold wishF
        rw [if_neg (fun z => c_13 z.2.2.1)]
      · refine x_iload_n dX7_wish_16 3 rfl rfl ?_
        refine x_callS (rest := []) (k_isAnswer (G := G) (Sh := Sh) (I := I) (R := R) (w := w)) dX7_wish_17 crc_X7_isAnswer sc_7_213 rfl rfl (Nat.le_of_ble_eq_true rfl) (roomy_k (by omega) (by decide)) (Nat.le_refl _) (Nat.le_refl _) ?_
        rintro _ _ ⟨_, rfl, rfl, rfl⟩
        refine x_if_neB (tgt := 26) dX7_wish_20 (by decide) (fun c_20 => ?_) (fun c_20 => ?_)
        · obtain ⟨k, hk, rfl⟩ := ahead_nat c_13
          refine x_aload_n dX7_wish_26 0 rfl rfl ?_
          refine x_callV (k_think (G := G) hc) dX7_wish_27 crc_X7_think vc_7_175 s0 rfl rfl rfl rfl (Nat.le_of_ble_eq_true rfl) (roomy_k (by omega) (by decide)) (Nat.le_refl _) (Nat.le_refl _) ?_
          rintro _ _ ⟨_, rfl, rfl, J351t, R351t, rfl, ht, hpv, hrv⟩
          refine x_iload_n dX7_wish_30 2 rfl rfl ?_
          refine x_callV (k_pass (G := G) ht.1 ht.2 (k := k) (by omega)) dX7_wish_31 crc_X4_pass vc_7_179 sB.1 rfl rfl rfl rfl (Nat.le_of_ble_eq_true rfl) (roomy_k (by omega) (by decide)) (Nat.le_refl _) (Nat.le_refl _) ?_
          rintro _ _ ⟨rfl, J9p, rfl, hs2, hf2⟩
          have ht := ht.fr hf2 hs2
          have hpv := hpv.tr (hf2.pv hru rfl)
          refine x_aload_n dX7_wish_34 0 rfl rfl ?_
          refine x_gR (b := b + 44) dX7_wish_35 fl_7_77 rfl s0 ((hrv _ _ (by omega)).trans r5) ?_
          refine x_iload_n dX7_wish_38 1 rfl rfl ?_
          refine x_callV (k_valueOf (G := G) ht.1 ht.2 (r := r)) dX7_wish_39 crc_X4_valueOf vc_7_204 sB.1 rfl rfl rfl rfl (Nat.le_of_ble_eq_true rfl) (roomy_k (by omega) (by decide)) (Nat.le_refl _) (Nat.le_refl _) ?_
          rintro _ _ ⟨_, rfl, hvv, J8v, hoff, rfl⟩
          refine x_vali hvv ?_
          have ht : TH b Sh J8v _ σ _ := ⟨ht.1.off hoff, ht.2.off hoff (by omega)⟩
          have hpv := hpv.tr (hoff.pv hru)
          refine x_topi (fun xq1 e_xq1 => ?_)
          refine x_istore (lv' := [(4, .int xq1), (0, .ref b), (1, .int r), (2, .int (nI k)), (3, .int w)]) dX7_wish_42 (by decide) rfl ?_
          refine x_iconst (v := (-1)) dX7_wish_44 (by decide) ?_
          refine x_istore (lv' := [(5, .int (-1)), (4, .int xq1), (0, .ref b), (1, .int r), (2, .int (nI k)), (3, .int w)]) dX7_wish_45 (by decide) rfl ?_
          refine x_iconst (v := 0) dX7_wish_47 (by decide) ?_
          refine x_istore (lv' := [(6, .int 0), (5, .int (-1)), (4, .int xq1), (0, .ref b), (1, .int r), (2, .int (nI k)), (3, .int w)]) dX7_wish_48 (by decide) rfl ?_
          refine x_sub [0, 1, 2, 3, 4, 5, 6] rfl ?_
          have hfin : wishF σ r (nI k) w = if w = 0 then (wishG σ r k (gN σ)).1 else (wishG σ r k (gN σ)).2 := by
            unfold wishF
            rw [if_pos ⟨Int32.not_lt.mp c_1, Int32.not_le.mp c_6, c_13, c_20⟩, nI_clamp (by omega)]
          rw [hfin]
          exact k_wish_l hc hk (gN σ + 1) 0 xq1 (-1) J8v R351t (by omega) (by omega) (by rw [e_xq1]; rfl) hpv hrv
        · refine x_ldc (v := (-100000)) dX7_wish_23 (tw_at 627 (by decide +kernel) rfl) ?_
          refine x_iret dX7_wish_25 rfl (Nat.le_refl _) (Nat.le_refl _) ?_
          refine ⟨?_, I, R, rfl, pvE.rf, rvE.rf⟩
          unfold wishF
          rw [if_neg (fun z => c_20 z.2.2.2)]

set_option maxHeartbeats 4000000 in
set_option maxRecDepth 100000 in
theorem k_game {G : GG} {Sh : HS} {I : HI} {R : HR} {b : Nat} {σ : SG} (hc : CI b Sh I R σ) {n w : Int32} : AM G 17 0 0 yX7_game cX7_game 4 (some .int) [.ref b, .int n, .int w] (Sh, I, R) (qi (qryI b Sh I R (gameF σ n w))) := by
  obtain ⟨⟨s0, s1, s2, s3, s4, s5, s6, s7, sT, sS, sA, sB, sC, sG⟩, ⟨r0, r1, r2, r4, r5, r6, r8, r9, rt0, rt2, rt3, rr0, rT, rS, rTT, rSS, rA, rB, rC, rG⟩, hCT, hCK, hCTp, hCIm, hCSe⟩ := id hc
  have hn8 : gN σ ≤ 8 := hCK.2.1
  have hru := hc.ru
  have hs := hc.sr
  have hw := hc.sw
  refine am_intro (by decide) (Nat.le_of_ble_eq_true rfl) ?_
  refine x_iload_n dX7_game_0 1 rfl rfl ?_
  refine x_iconst (v := 1) dX7_game_1 (by decide) ?_
  refine x_icmp_lt (tgt := 17) dX7_game_2 (by decide) (fun c_2 => ?_) (fun c_2 => ?_)
  · refine x_ldc (v := (-100000)) dX7_game_17 (tw_at 627 (by decide +kernel) rfl) ?_
    refine x_iret dX7_game_19 rfl (Nat.le_refl _) (Nat.le_refl _) ?_
    refine ⟨?_, I, R, rfl, pvE.rf, rvE.rf⟩
    unfold gameF
    rw [if_neg (fun z => absurd c_2 (Int32.not_lt.mpr z.1))]
  · refine x_iload_n dX7_game_5 1 rfl rfl ?_
    refine x_iconst (v := 3) dX7_game_6 (by decide) ?_
    refine x_icmp_gt (tgt := 17) dX7_game_7 (by decide) (fun c_7 => ?_) (fun c_7 => ?_)
    · refine x_ldc (v := (-100000)) dX7_game_17 (tw_at 627 (by decide +kernel) rfl) ?_
      refine x_iret dX7_game_19 rfl (Nat.le_refl _) (Nat.le_refl _) ?_
      refine ⟨?_, I, R, rfl, pvE.rf, rvE.rf⟩
      unfold gameF
      rw [if_neg (fun z => absurd c_7 (Int32.not_lt.mpr z.2.1))]
    · refine x_iload_n dX7_game_10 2 rfl rfl ?_
      refine x_callS (rest := []) (k_isAnswer (G := G) (Sh := Sh) (I := I) (R := R) (w := w)) dX7_game_11 crc_X7_isAnswer sc_7_213 rfl rfl (Nat.le_of_ble_eq_true rfl) (roomy_k (by omega) (by decide)) (Nat.le_refl _) (Nat.le_refl _) ?_
      rintro _ _ ⟨_, rfl, rfl, rfl⟩
      refine x_if_neB (tgt := 20) dX7_game_14 (by decide) (fun c_14 => ?_) (fun c_14 => ?_)
      · refine x_aload_n dX7_game_20 0 rfl rfl ?_
        refine x_callV (k_think (G := G) hc) dX7_game_21 crc_X7_think vc_7_175 s0 rfl rfl rfl rfl (Nat.le_of_ble_eq_true rfl) (roomy_k (by omega) (by decide)) (Nat.le_refl _) (Nat.le_refl _) ?_
        rintro _ _ ⟨_, rfl, rfl, J401t, R401t, rfl, ht, hpv, hrv⟩
        refine x_pop dX7_game_24 rfl ?_
        obtain ⟨k, hk, rfl⟩ := nI_of2 (M := 3) (n := 3) (by decide) (fun z => c_2 (Int32.lt_trans z (by decide))) (Int32.not_lt.mp (fun z => c_7 z))
        refine x_aload_n dX7_game_25 0 rfl rfl ?_
        refine x_gR (b := b + 64) dX7_game_26 fl_7_88 rfl s0 ((hrv _ _ (by omega)).trans r8) ?_
        refine x_iload_n dX7_game_29 1 rfl rfl ?_
        refine x_sipush (v := (-1000)) dX7_game_30 (by decide) ?_
        refine x_sipush (v := 1000) dX7_game_33 (by decide) ?_
        refine x_callV (k_most sG (hc.pv hpv hrv).rg (by omega) k hk J401t (gW σ) (-1000) 1000 ht.1 ht.2) dX7_game_36 crc_X1_most vc_7_217 sG.1 rfl rfl rfl rfl (Nat.le_of_ble_eq_true rfl) (roomy_k (by omega) (by decide)) (Nat.le_refl _) (Nat.le_refl _) ?_
        rintro _ _ ⟨r, rfl, J9m, rfl, hab, hs3, hf3, hff⟩
        have hpv2 := hpv.tr (hf3.pv hru hk)
        have hk1 : 1 ≤ k := by
          have z := Int32.not_lt.mp c_2
          exact (nI_leI (a := 1) (b := k) (by omega) (by omega)).mp z
        have hval : r = mvF (gP σ) (gN σ) k (gW σ) := by
          have hsm := small_mv (P := gP σ) hn8 k (gW σ)
          unfold smallI at hsm
          refine ab_in hab ?_ ?_
          · rw [Int32.lt_iff_toInt_lt]
            have e2 : (-1000 : Int32).toInt = -1000 := by decide
            omega
          · rw [Int32.lt_iff_toInt_lt]
            have e2 : (1000 : Int32).toInt = 1000 := by decide
            omega
        have hfi := hff (by decide) (by decide) hk1
        refine x_istore_n (lv' := [(3, .int r), (0, .ref b), (1, .int (nI k)), (2, .int w)]) dX7_game_39 rfl (by decide) rfl ?_
        refine x_iload_n dX7_game_40 3 rfl rfl ?_
        refine x_if_ne (tgt := 48) dX7_game_41 (by decide) (fun c_41 => ?_) (fun c_41 => ?_)
        · refine x_aload_n dX7_game_48 1 rfl rfl ?_
          refine x_gR (b := b + 64) dX7_game_49 fl_7_88 rfl s0 ((hrv _ _ (by omega)).trans r8) ?_
          refine x_gI (v := (ffF (gP σ) (gN σ) (mvF (gP σ) (gN σ) (k - 1)) (gW σ) (gN σ)).2) dX7_game_52 fl_7_220 rfl sG.1 hfi ?_
          refine x_iret dX7_game_55 rfl (Nat.le_refl _) (Nat.le_refl _) ?_
          refine ⟨?_, J9m, R401t, rfl, hpv2, hrv⟩
          unfold gameF
          rw [if_pos ⟨Int32.not_lt.mp c_2, Int32.not_lt.mp c_7, c_14⟩, nI_clamp (by omega), if_neg c_41]
        · refine x_iload_n dX7_game_44 0 rfl rfl ?_
          refine x_goto (tgt := 55) dX7_game_45 (by decide) ?_
          refine x_iret dX7_game_55 rfl (Nat.le_refl _) (Nat.le_refl _) ?_
          refine ⟨?_, J9m, R401t, rfl, hpv2, hrv⟩
          unfold gameF
          rw [if_pos ⟨Int32.not_lt.mp c_2, Int32.not_lt.mp c_7, c_14⟩, nI_clamp (by omega), if_pos c_41]
          exact hval
      · refine x_ldc (v := (-100000)) dX7_game_17 (tw_at 627 (by decide +kernel) rfl) ?_
        refine x_iret dX7_game_19 rfl (Nat.le_refl _) (Nat.le_refl _) ?_
        refine ⟨?_, I, R, rfl, pvE.rf, rvE.rf⟩
        unfold gameF
        rw [if_neg (fun z => c_14 z.2.2)]

