set_option maxHeartbeats 4000000 in
set_option maxRecDepth 100000 in
theorem k_passDrawn_l {G : GG} {Sh : HS} {I : HI} {R : HR} {b : Nat} {σ : SG} (hc : CI b Sh I R σ) {k : Nat} (hk : k ≤ 40) {s : Int32} {R3 : HR} (hrv : rvE b R R3) : ∀ (m : Nat) (q : Nat) (z : Int32) (v : SV) (J : HI), (q ≤ k) → (k < q + m) → ((z, v) = drG σ s q) → (TH b Sh J R3 σ v) → (pvE b I J) → X G (kM G 6 0 0 (qv fun g => ∃ (J : HI) (R2 : HR), g = (Sh, J, R2) ∧ TH b Sh J R2 σ (drG σ s k).2 ∧ pvE b I J ∧ rvE b R R2)) yX7_passDrawn cX7_passDrawn 5 none 0 0 10 [(4, .int (nI q)), (3, .int z), (0, .ref b), (1, .int s), (2, .int (nI k))] [] (Sh, J, R3) := by
  intro m
  induction m with
  | zero =>
    intro q z v J hq hm hdr ht hpv
    exact absurd hm (by omega)
  | succ m ih =>
    intro q z v J hq hm hdr ht hpv
    obtain ⟨⟨s0, s1, s2, s3, s4, s5, s6, s7, sT, sS, sA, sB, sC, sG⟩, ⟨r0, r1, r2, r4, r5, r6, r8, r9, rt0, rt2, rt3, rr0, rT, rS, rTT, rSS, rA, rB, rC, rG⟩, hCT, hCK, hCTp, hCIm, hCSe⟩ := id hc
    have hn8 : gN σ ≤ 8 := hCK.2.1
    have hru := hc.ru
    have hs := hc.sr
    have hw := hc.sw
    refine x_iload dX7_passDrawn_10 0 rfl ?_
    refine x_iload_n dX7_passDrawn_12 4 rfl rfl ?_
    refine x_icmp_ge (tgt := 52) dX7_passDrawn_13 (by decide) (fun c_13 => ?_) (fun c_13 => ?_)
    · have c_13 : k ≤ q := (nI_leI (a := k) (b := q) (by omega) (by omega)).mp c_13
      refine x_vret dX7_passDrawn_52 rfl (Nat.le_refl _) (Nat.le_refl _) ?_
      have hqk : q = k := by omega
      subst hqk
      exact ⟨J, R3, rfl, by rw [← hdr]; exact ht, hpv, hrv⟩
    · have c_13 : ¬ k ≤ q := fun zz9 => c_13 ((nI_leI (a := k) (b := q) (by omega) (by omega)).mpr zz9)
      refine x_iload_n dX7_passDrawn_16 1 rfl rfl ?_
      refine x_ldc (v := 1103515245) dX7_passDrawn_17 (tw_at 762 (by decide +kernel) rfl) ?_
      refine x_imul dX7_passDrawn_19 ?_
      refine x_sipush (v := 12345) dX7_passDrawn_20 (by decide) ?_
      refine x_iadd dX7_passDrawn_23 ?_
      refine x_topi (fun xq1 e_xq1 => ?_)
      refine x_istore_n (lv' := [(3, .int xq1), (4, .int (nI q)), (0, .ref b), (1, .int s), (2, .int (nI k))]) dX7_passDrawn_24 rfl (by decide) rfl ?_
      refine x_aload_n dX7_passDrawn_25 2 rfl rfl ?_
      refine x_gR (b := b + 44) dX7_passDrawn_26 fl_7_77 rfl s0 ((hrv _ _ (by omega)).trans r5) ?_
      refine x_iload_n dX7_passDrawn_29 0 rfl rfl ?_
      refine x_bipush (v := 9) dX7_passDrawn_30 (by decide) ?_
      refine x_iushr (v := ((xq1 : Int32).toUInt32 >>> ((9 : Int32).toUInt32 &&& Int32.toUInt32 31)).toInt32) dX7_passDrawn_32 rfl ?_
      refine x_bipush (v := 10) dX7_passDrawn_33 (by decide) ?_
      refine x_irem dX7_passDrawn_35 (by decide) ?_
      refine x_pI dX7_passDrawn_36 fl_7_100 rfl rfl rfl sB.1 (fun Iq2 e_Iq2 => ?_)
      refine x_aload_n dX7_passDrawn_39 2 rfl rfl ?_
      refine x_gR (b := b + 44) dX7_passDrawn_40 fl_7_77 rfl s0 ((hrv _ _ (by omega)).trans r5) ?_
      have hth := ht.moon (x := moonF (z * 1103515245 + 12345)) hn8
      have e9 : Iq2 = u2 J (b + 44) 2 (moonF (z * 1103515245 + 12345)) := by
        rw [e_Iq2]
        subst e_xq1
        rfl
      rw [← e9] at hth
      have ht := hth.1
      have hpv := hpv.tr hth.2
      refine x_callV (k_beat (G := G) ht.1 ht.2) dX7_passDrawn_43 crc_X4_beat vc_7_158 sB.1 rfl rfl rfl rfl (Nat.le_of_ble_eq_true rfl) (roomy_k (by omega) (by decide)) (Nat.le_refl _) (Nat.le_refl _) ?_
      rintro _ _ ⟨rfl, J8, rfl, hs2, hf2⟩
      have ht := ht.fr hf2 hs2
      have hpv := hpv.tr (hf2.pv hru rfl)
      refine x_iinc (v := nI (q + 1)) (lv' := [(4, .int (nI (q + 1))), (3, .int xq1), (0, .ref b), (1, .int s), (2, .int (nI k))]) dX7_passDrawn_46 1 rfl (nI_1 q) (by decide) rfl ?_
      refine x_goto (tgt := 10) dX7_passDrawn_49 (by decide) ?_
      refine x_sub [0, 1, 2, 3, 4] rfl ?_
      exact ih (q + 1) xq1 (beatF (gP σ) (gN σ) (v.1, moonF (z * 1103515245 + 12345), v.2.2)) J8 (by omega) (by omega) (by
        unfold drG at *
        rw [fd_s, ← hdr, e_xq1]) ht hpv

set_option maxHeartbeats 4000000 in
set_option maxRecDepth 100000 in
theorem k_passDrawn {G : GG} {Sh : HS} {I : HI} {R : HR} {b : Nat} {σ : SG} (hc : CI b Sh I R σ) {k : Nat} (hk : k ≤ 40) {s : Int32} : AM G 6 0 0 yX7_passDrawn cX7_passDrawn 5 none [.ref b, .int s, .int (nI k)] (Sh, I, R) (qv fun g => ∃ (J : HI) (R2 : HR), g = (Sh, J, R2) ∧ TH b Sh J R2 σ (drG σ s k).2 ∧ pvE b I J ∧ rvE b R R2) := by
  obtain ⟨⟨s0, s1, s2, s3, s4, s5, s6, s7, sT, sS, sA, sB, sC, sG⟩, ⟨r0, r1, r2, r4, r5, r6, r8, r9, rt0, rt2, rt3, rr0, rT, rS, rTT, rSS, rA, rB, rC, rG⟩, hCT, hCK, hCTp, hCIm, hCSe⟩ := id hc
  have hn8 : gN σ ≤ 8 := hCK.2.1
  have hru := hc.ru
  have hs := hc.sr
  have hw := hc.sw
  refine am_intro (by decide) (Nat.le_of_ble_eq_true rfl) ?_
  refine x_aload_n dX7_passDrawn_0 0 rfl rfl ?_
  refine x_callV (k_think (G := G) hc) dX7_passDrawn_1 crc_X7_think vc_7_175 s0 rfl rfl rfl rfl (Nat.le_of_ble_eq_true rfl) (roomy_k (by omega) (by decide)) (Nat.le_refl _) (Nat.le_refl _) ?_
  rintro _ _ ⟨_, rfl, rfl, J501t, R501t, rfl, ht, hpv, hrv⟩
  refine x_pop dX7_passDrawn_4 rfl ?_
  refine x_iload_n dX7_passDrawn_5 1 rfl rfl ?_
  refine x_istore_n (lv' := [(3, .int s), (0, .ref b), (1, .int s), (2, .int (nI k))]) dX7_passDrawn_6 rfl (by decide) rfl ?_
  refine x_iconst (v := 0) dX7_passDrawn_7 (by decide) ?_
  refine x_istore (lv' := [(4, .int 0), (3, .int s), (0, .ref b), (1, .int s), (2, .int (nI k))]) dX7_passDrawn_8 (by decide) rfl ?_
  exact k_passDrawn_l hc hk hrv (k + 1) 0 s (gW σ) J501t (by omega) (by omega) rfl ht hpv

set_option maxHeartbeats 4000000 in
set_option maxRecDepth 100000 in
theorem k_drawn {G : GG} {Sh : HS} {I : HI} {R : HR} {b : Nat} {σ : SG} (hc : CI b Sh I R σ) {s n : Int32} : AM G 7 0 0 yX7_drawn cX7_drawn 3 (some .int) [.ref b, .int s, .int n] (Sh, I, R) (qi (qryI b Sh I R (drawnF σ s n))) := by
  obtain ⟨⟨s0, s1, s2, s3, s4, s5, s6, s7, sT, sS, sA, sB, sC, sG⟩, ⟨r0, r1, r2, r4, r5, r6, r8, r9, rt0, rt2, rt3, rr0, rT, rS, rTT, rSS, rA, rB, rC, rG⟩, hCT, hCK, hCTp, hCIm, hCSe⟩ := id hc
  have hn8 : gN σ ≤ 8 := hCK.2.1
  have hru := hc.ru
  have hs := hc.sr
  have hw := hc.sw
  refine am_intro (by decide) (Nat.le_of_ble_eq_true rfl) ?_
  refine x_iload_n dX7_drawn_0 2 rfl rfl ?_
  refine x_callS (rest := []) (k_isAhead (G := G) (Sh := Sh) (I := I) (R := R) (n := n)) dX7_drawn_1 crc_X7_isAhead sc_7_168 rfl rfl (Nat.le_of_ble_eq_true rfl) (roomy_k (by omega) (by decide)) (Nat.le_refl _) (Nat.le_refl _) ?_
  rintro _ _ ⟨_, rfl, rfl, rfl⟩
  refine x_if_neB (tgt := 10) dX7_drawn_4 (by decide) (fun c_4 => ?_) (fun c_4 => ?_)
  · obtain ⟨k, hk, rfl⟩ := ahead_nat c_4
    refine x_aload_n dX7_drawn_10 0 rfl rfl ?_
    refine x_iload_n dX7_drawn_11 1 rfl rfl ?_
    refine x_iload_n dX7_drawn_12 2 rfl rfl ?_
    refine x_callV (k_passDrawn (G := G) hc hk (s := s)) dX7_drawn_13 crc_X7_passDrawn vc_7_241 s0 rfl rfl rfl rfl (Nat.le_of_ble_eq_true rfl) (roomy_k (by omega) (by decide)) (Nat.le_refl _) (Nat.le_refl _) ?_
    rintro _ _ ⟨rfl, J9, R9, rfl, ht, hpv2, hrv2⟩
    have hpv := hpv2
    have hrv := hrv2
    refine x_aload_n dX7_drawn_16 0 rfl rfl ?_
    refine x_gR (b := b + 44) dX7_drawn_17 fl_7_77 rfl s0 ((hrv _ _ (by omega)).trans r5) ?_
    refine x_callV (k_standing (G := G) ht.1 ht.2) dX7_drawn_20 crc_X4_standing vc_7_161 sB.1 rfl rfl rfl rfl (Nat.le_of_ble_eq_true rfl) (roomy_k (by omega) (by decide)) (Nat.le_refl _) (Nat.le_refl _) ?_
    rintro _ _ ⟨r, rfl, hr, rfl⟩
    refine x_iret dX7_drawn_23 rfl (Nat.le_refl _) (Nat.le_refl _) ?_
    refine ⟨?_, J9, R9, rfl, hpv, hrv⟩
    unfold drawnF
    rw [if_pos c_4, nI_clamp (by omega)]
    exact hr
  · refine x_bipush (v := (-2)) dX7_drawn_7 (by decide) ?_
    refine x_iret dX7_drawn_9 rfl (Nat.le_refl _) (Nat.le_refl _) ?_
    refine ⟨?_, I, R, rfl, pvE.rf, rvE.rf⟩
    unfold drawnF
    rw [if_neg c_4]

set_option maxHeartbeats 4000000 in
set_option maxRecDepth 100000 in
theorem k_cd_l {G : GG} {Sh : HS} {I : HI} {R : HR} {a m0 : Nat} (ha : a ≤ 20) (hm0 : m0 ≤ 20) : ∀ (m : Nat) (d : Nat), (d ≤ m0) → (d < m) → (cdG a m0 d = cdG a m0 m0) → X G (kM G 1 0 0 (qi fun r g => r = nI (cdG a m0 m0) ∧ g = (Sh, I, R))) yX7_commonDivisor cX7_commonDivisor 3 (some .int) 0 0 2 [(2, .int (nI d)), (0, .int (nI a)), (1, .int (nI m0))] [] (Sh, I, R) := by
  intro m
  induction m with
  | zero =>
    intro d hd hm hval
    exact absurd hm (by omega)
  | succ m ih =>
    intro d hd hm hval
    refine x_iload_n dX7_commonDivisor_2 0 rfl rfl ?_
    refine x_iconst (v := 1) dX7_commonDivisor_3 (by decide) ?_
    refine x_icmp_le (tgt := 27) dX7_commonDivisor_4 (by decide) (fun c_4 => ?_) (fun c_4 => ?_)
    · have c_4 : d ≤ 1 := (nI_leI (a := d) (b := 1) (by omega) (by omega)).mp c_4
      refine x_iconst (v := 1) dX7_commonDivisor_27 (by decide) ?_
      refine x_iret dX7_commonDivisor_28 rfl (Nat.le_refl _) (Nat.le_refl _) ?_
      refine ⟨?_, rfl⟩
      rw [← hval]
      rcases (by omega : d = 0 ∨ d = 1) with rfl | rfl <;> rfl
    · have c_4 : ¬ d ≤ 1 := fun zz9 => c_4 ((nI_leI (a := d) (b := 1) (by omega) (by omega)).mpr zz9)
      obtain ⟨e, rfl⟩ : ∃ e, d = e + 1 := ⟨d - 1, by omega⟩
      refine x_iload_n dX7_commonDivisor_7 1 rfl rfl ?_
      refine x_iload_n dX7_commonDivisor_8 0 rfl rfl ?_
      refine x_irem dX7_commonDivisor_9 (fun z => by have := (nI_eq (a := e + 1) (b := 0) (by omega) (by omega)).mp z; omega) ?_
      refine x_if_ne (tgt := 21) dX7_commonDivisor_10 (by decide) (fun c_10 => ?_) (fun c_10 => ?_)
      · refine x_iinc (v := nI e) (lv' := [(2, .int (nI e)), (0, .int (nI a)), (1, .int (nI m0))]) dX7_commonDivisor_21 0 rfl (pk_m1 e) (by decide) rfl ?_
        refine x_goto (tgt := 2) dX7_commonDivisor_24 (by decide) ?_
        refine x_sub [0, 1, 2] rfl ?_
        exact ih e (by omega) (by omega) (by
          rw [← hval]
          conv => rhs; unfold cdG
          rw [if_neg (by omega), if_neg (fun z => c_10 (by rw [(pk_rem (a := a) (d := e + 1) (by omega) (by omega) (by omega)), z.1]; rfl))])
      · refine x_iload_n dX7_commonDivisor_13 2 rfl rfl ?_
        refine x_iload_n dX7_commonDivisor_14 0 rfl rfl ?_
        refine x_irem dX7_commonDivisor_15 (fun z => by have := (nI_eq (a := e + 1) (b := 0) (by omega) (by omega)).mp z; omega) ?_
        refine x_if_ne (tgt := 21) dX7_commonDivisor_16 (by decide) (fun c_16 => ?_) (fun c_16 => ?_)
        · refine x_iinc (v := nI e) (lv' := [(2, .int (nI e)), (0, .int (nI a)), (1, .int (nI m0))]) dX7_commonDivisor_21 0 rfl (pk_m1 e) (by decide) rfl ?_
          refine x_goto (tgt := 2) dX7_commonDivisor_24 (by decide) ?_
          refine x_sub [0, 1, 2] rfl ?_
          exact ih e (by omega) (by omega) (by
            rw [← hval]
            conv => rhs; unfold cdG
            rw [if_neg (by omega), if_neg (fun z => c_16 (by rw [(pk_rem (a := m0) (d := e + 1) (by omega) (by omega) (by omega)), z.2]; rfl))])
        · refine x_iload_n dX7_commonDivisor_19 0 rfl rfl ?_
          refine x_iret dX7_commonDivisor_20 rfl (Nat.le_refl _) (Nat.le_refl _) ?_
          refine ⟨?_, rfl⟩
          rw [← hval]
          have z1 : a % (e + 1) = 0 := by
            rw [(pk_rem (a := a) (d := e + 1) (by omega) (by omega) (by omega))] at c_10
            exact (nI_eq (b := 0) (by have := Nat.mod_lt a (show 0 < e + 1 by omega); omega) (by omega)).mp c_10
          have z2 : m0 % (e + 1) = 0 := by
            rw [(pk_rem (a := m0) (d := e + 1) (by omega) (by omega) (by omega))] at c_16
            exact (nI_eq (b := 0) (by have := Nat.mod_lt m0 (show 0 < e + 1 by omega); omega) (by omega)).mp c_16
          unfold cdG
          rw [if_neg (by omega), if_pos ⟨z1, z2⟩]

set_option maxHeartbeats 4000000 in
set_option maxRecDepth 100000 in
theorem k_cd {G : GG} {Sh : HS} {I : HI} {R : HR} {a m0 : Nat} (ha : a ≤ 20) (hm0 : m0 ≤ 20) : AM G 1 0 0 yX7_commonDivisor cX7_commonDivisor 3 (some .int) [.int (nI a), .int (nI m0)] (Sh, I, R) (qi fun r g => r = nI (cdG a m0 m0) ∧ g = (Sh, I, R)) := by
  refine am_intro (by decide) (Nat.le_of_ble_eq_true rfl) ?_
  refine x_iload_n dX7_commonDivisor_0 1 rfl rfl ?_
  refine x_istore_n (lv' := [(2, .int (nI m0)), (0, .int (nI a)), (1, .int (nI m0))]) dX7_commonDivisor_1 rfl (by decide) rfl ?_
  exact k_cd_l ha hm0 (m0 + 1) m0 (Nat.le_refl _) (by omega) rfl

set_option maxHeartbeats 4000000 in
set_option maxRecDepth 100000 in
theorem k_chance_l {G : GG} {Sh : HS} {I : HI} {R : HR} {b : Nat} {σ : SG} (hc : CI b Sh I R σ) {k m0 : Nat} (hk : k ≤ 40) (hm0 : m0 ≤ 20) {s part : Int32} : ∀ (m : Nat) (q : Nat) (J : HI) (R3 : HR), (q ≤ m0) → (m0 < q + m) → (pvE b I J) → (rvE b R R3) → X G (kM G 7 0 0 (ql (qryL b Sh I R (if part = 0 then (nI (wonG σ s k m0) / nI (cdG (wonG σ s k m0) m0 m0)).toInt64 else (nI m0 / nI (cdG (wonG σ s k m0) m0 m0)).toInt64)))) yX7_chance cX7_chance 7 (some .long) 0 0 36 [(6, .int (nI q)), (5, .int (nI (wonG σ s k q))), (0, .ref b), (1, .int s), (2, .int (nI m0)), (3, .int (nI k)), (4, .int part)] [] (Sh, J, R3) := by
  intro m
  induction m with
  | zero =>
    intro q J R3 hq hm hpv hrv
    exact absurd hm (by omega)
  | succ m ih =>
    intro q J R3 hq hm hpv hrv
    obtain ⟨⟨s0, s1, s2, s3, s4, s5, s6, s7, sT, sS, sA, sB, sC, sG⟩, ⟨r0, r1, r2, r4, r5, r6, r8, r9, rt0, rt2, rt3, rr0, rT, rS, rTT, rSS, rA, rB, rC, rG⟩, hCT, hCK, hCTp, hCIm, hCSe⟩ := id hc
    have hn8 : gN σ ≤ 8 := hCK.2.1
    have hru := hc.ru
    have hs := hc.sr
    have hw := hc.sw
    refine x_iload dX7_chance_36 0 rfl ?_
    refine x_iload_n dX7_chance_38 4 rfl rfl ?_
    refine x_icmp_ge (tgt := 70) dX7_chance_39 (by decide) (fun c_39 => ?_) (fun c_39 => ?_)
    · have c_39 : m0 ≤ q := (nI_leI (a := m0) (b := q) (by omega) (by omega)).mp c_39
      have hqm : q = m0 := by omega
      subst hqm
      have hwl := won_le (σ := σ) (s := s) (k := k) q
      refine x_iload dX7_chance_70 1 rfl ?_
      refine x_iload_n dX7_chance_72 4 rfl rfl ?_
      refine x_callS (rest := []) (k_cd (G := G) (a := wonG σ s k q) (m0 := q) (by omega) (by omega)) dX7_chance_73 crc_X7_commonDivisor sc_7_246 rfl rfl (Nat.le_of_ble_eq_true rfl) (roomy_k (by omega) (by decide)) (Nat.le_refl _) (Nat.le_refl _) ?_
      rintro _ _ ⟨_, rfl, rfl, rfl⟩
      have hg1 := cdG_pos (a := wonG σ s k q) (m := q) q
      have hg2 := cdG_le (a := wonG σ s k q) (m := q) q
      refine x_topi (fun xq1 e_xq1 => ?_)
      refine x_istore (lv' := [(6, .int xq1), (5, .int (nI (wonG σ s k q))), (0, .ref b), (1, .int s), (2, .int (nI q)), (3, .int (nI k)), (4, .int part)]) dX7_chance_76 (by decide) rfl ?_
      refine x_iload dX7_chance_78 0 rfl ?_
      refine x_iconst (v := 1) dX7_chance_80 (by decide) ?_
      refine x_icmp_ge (tgt := 88) dX7_chance_81 (by decide) (fun c_81 => ?_) (fun c_81 => False.elim (c_81 (by rw [e_xq1]; exact (nI_leI (a := 1) (b := cdG (wonG σ s k q) q q) (by omega) (by omega)).mpr hg1)))
      refine x_iload dX7_chance_88 6 rfl ?_
      refine x_if_ne (tgt := 102) dX7_chance_90 (by decide) (fun c_90 => ?_) (fun c_90 => ?_)
      · refine x_iload_n dX7_chance_102 4 rfl rfl ?_
        refine x_iload dX7_chance_103 0 rfl ?_
        refine x_idiv dX7_chance_105 (fun z => by rw [e_xq1] at z; have := (nI_eq (b := 0) (by omega) (by omega)).mp z; omega) ?_
        refine x_i2l (v := ((nI q) / xq1).toInt64) dX7_chance_106 rfl ?_
        refine x_lret dX7_chance_107 rfl (Nat.le_refl _) (Nat.le_refl _) ?_
        refine ⟨?_, J, R3, rfl, hpv, hrv⟩
        rw [if_neg c_90, e_xq1]
      · refine x_iload dX7_chance_93 1 rfl ?_
        refine x_iload dX7_chance_95 0 rfl ?_
        refine x_idiv dX7_chance_97 (fun z => by rw [e_xq1] at z; have := (nI_eq (b := 0) (by omega) (by omega)).mp z; omega) ?_
        refine x_i2l (v := ((nI (wonG σ s k q)) / xq1).toInt64) dX7_chance_98 rfl ?_
        refine x_goto (tgt := 107) dX7_chance_99 (by decide) ?_
        refine x_lret dX7_chance_107 rfl (Nat.le_refl _) (Nat.le_refl _) ?_
        refine ⟨?_, J, R3, rfl, hpv, hrv⟩
        rw [if_pos c_90, e_xq1]
    · have c_39 : ¬ m0 ≤ q := fun zz9 => c_39 ((nI_leI (a := m0) (b := q) (by omega) (by omega)).mpr zz9)
      refine x_aload_n dX7_chance_42 2 rfl rfl ?_
      refine x_iload_n dX7_chance_43 3 rfl rfl ?_
      refine x_iload dX7_chance_44 0 rfl ?_
      refine x_iadd dX7_chance_46 ?_
      refine x_iload_n dX7_chance_47 5 rfl rfl ?_
      refine x_callV (k_passDrawn (G := G) (hc.pv hpv hrv) hk (s := s + (nI q))) dX7_chance_48 crc_X7_passDrawn vc_7_241 s0 rfl rfl rfl rfl (Nat.le_of_ble_eq_true rfl) (roomy_k (by omega) (by decide)) (Nat.le_refl _) (Nat.le_refl _) ?_
      rintro _ _ ⟨rfl, J9, R9, rfl, ht, hpv2, hrv2⟩
      have hpv := hpv.tr hpv2
      have hrv := hrv.tr hrv2
      refine x_aload_n dX7_chance_51 2 rfl rfl ?_
      refine x_gR (b := b + 44) dX7_chance_52 fl_7_77 rfl s0 ((hrv _ _ (by omega)).trans r5) ?_
      refine x_callV (k_bay (G := G) ht.1 ht.2) dX7_chance_55 crc_X4_bay vc_7_201 sB.1 rfl rfl rfl rfl (Nat.le_of_ble_eq_true rfl) (roomy_k (by omega) (by decide)) (Nat.le_refl _) (Nat.le_refl _) ?_
      rintro _ _ ⟨r, rfl, hr, rfl⟩
      refine x_if_ne (tgt := 64) dX7_chance_58 (by decide) (fun c_58 => ?_) (fun c_58 => ?_)
      · refine x_iinc (v := nI (q + 1)) (lv' := [(6, .int (nI (q + 1))), (5, .int (nI (wonG σ s k q))), (0, .ref b), (1, .int s), (2, .int (nI m0)), (3, .int (nI k)), (4, .int part)]) dX7_chance_64 0 rfl (nI_1 q) (by decide) rfl ?_
        refine x_goto (tgt := 36) dX7_chance_67 (by decide) ?_
        refine x_sub [0, 1, 2, 3, 4, 5, 6] rfl ?_
        have hwn : wonG σ s k (q + 1) = wonG σ s k q := by
          show (if bayF (gN σ) (drG σ (s + nI q) k).2 = 0 then wonG σ s k q + 1 else wonG σ s k q) = _
          rw [← hr, if_neg c_58]
        have h9 := ih (q + 1) J9 R9 (by omega) (by omega) hpv hrv
        rw [hwn] at h9
        exact h9
      · refine x_iinc (v := nI (wonG σ s k q + 1)) (lv' := [(5, .int (nI (wonG σ s k q + 1))), (6, .int (nI q)), (0, .ref b), (1, .int s), (2, .int (nI m0)), (3, .int (nI k)), (4, .int part)]) dX7_chance_61 1 rfl (nI_1 (wonG σ s k q)) (by decide) rfl ?_
        refine x_iinc (v := nI (q + 1)) (lv' := [(6, .int (nI (q + 1))), (5, .int (nI (wonG σ s k q + 1))), (0, .ref b), (1, .int s), (2, .int (nI m0)), (3, .int (nI k)), (4, .int part)]) dX7_chance_64 1 rfl (nI_1 q) (by decide) rfl ?_
        refine x_goto (tgt := 36) dX7_chance_67 (by decide) ?_
        refine x_sub [0, 1, 2, 3, 4, 5, 6] rfl ?_
        have hwn : wonG σ s k (q + 1) = wonG σ s k q + 1 := by
          show (if bayF (gN σ) (drG σ (s + nI q) k).2 = 0 then wonG σ s k q + 1 else wonG σ s k q) = _
          rw [← hr, if_pos c_58]
        have h9 := ih (q + 1) J9 R9 (by omega) (by omega) hpv hrv
        rw [hwn] at h9
        exact h9

set_option maxHeartbeats 4000000 in
set_option maxRecDepth 100000 in
theorem k_chance {G : GG} {Sh : HS} {I : HI} {R : HR} {b : Nat} {σ : SG} (hc : CI b Sh I R σ) {s n waves part : Int32} : AM G 7 0 0 yX7_chance cX7_chance 7 (some .long) [.ref b, .int s, .int n, .int waves, .int part] (Sh, I, R) (ql (qryL b Sh I R (chanceF σ s n waves part))) := by
  obtain ⟨⟨s0, s1, s2, s3, s4, s5, s6, s7, sT, sS, sA, sB, sC, sG⟩, ⟨r0, r1, r2, r4, r5, r6, r8, r9, rt0, rt2, rt3, rr0, rT, rS, rTT, rSS, rA, rB, rC, rG⟩, hCT, hCK, hCTp, hCIm, hCSe⟩ := id hc
  have hn8 : gN σ ≤ 8 := hCK.2.1
  have hru := hc.ru
  have hs := hc.sr
  have hw := hc.sw
  refine am_intro (by decide) (Nat.le_of_ble_eq_true rfl) ?_
  refine x_iload_n dX7_chance_0 2 rfl rfl ?_
  refine x_iconst (v := 1) dX7_chance_1 (by decide) ?_
  refine x_icmp_lt (tgt := 26) dX7_chance_2 (by decide) (fun c_2 => ?_) (fun c_2 => ?_)
  · refine x_ldc2 (v := (-4611686018427387904)) dX7_chance_26 (tw_at 767 (by decide +kernel) rfl) ?_
    refine x_lret dX7_chance_29 rfl (Nat.le_refl _) (Nat.le_refl _) ?_
    refine ⟨?_, I, R, rfl, pvE.rf, rvE.rf⟩
    unfold chanceF
    rw [if_neg (fun z => absurd c_2 (Int32.not_lt.mpr z.1))]
  · refine x_iload_n dX7_chance_5 2 rfl rfl ?_
    refine x_bipush (v := 20) dX7_chance_6 (by decide) ?_
    refine x_icmp_gt (tgt := 26) dX7_chance_8 (by decide) (fun c_8 => ?_) (fun c_8 => ?_)
    · refine x_ldc2 (v := (-4611686018427387904)) dX7_chance_26 (tw_at 767 (by decide +kernel) rfl) ?_
      refine x_lret dX7_chance_29 rfl (Nat.le_refl _) (Nat.le_refl _) ?_
      refine ⟨?_, I, R, rfl, pvE.rf, rvE.rf⟩
      unfold chanceF
      rw [if_neg (fun z => absurd c_8 (Int32.not_lt.mpr z.2.1))]
    · refine x_iload_n dX7_chance_11 3 rfl rfl ?_
      refine x_callS (rest := []) (k_isAhead (G := G) (Sh := Sh) (I := I) (R := R) (n := waves)) dX7_chance_12 crc_X7_isAhead sc_7_168 rfl rfl (Nat.le_of_ble_eq_true rfl) (roomy_k (by omega) (by decide)) (Nat.le_refl _) (Nat.le_refl _) ?_
      rintro _ _ ⟨_, rfl, rfl, rfl⟩
      refine x_if_eqB (tgt := 26) dX7_chance_15 (by decide) (fun c_15 => ?_) (fun c_15 => ?_)
      · refine x_ldc2 (v := (-4611686018427387904)) dX7_chance_26 (tw_at 767 (by decide +kernel) rfl) ?_
        refine x_lret dX7_chance_29 rfl (Nat.le_refl _) (Nat.le_refl _) ?_
        refine ⟨?_, I, R, rfl, pvE.rf, rvE.rf⟩
        unfold chanceF
        rw [if_neg (fun z => c_15 z.2.2.1)]
      · refine x_iload dX7_chance_18 4 rfl ?_
        refine x_callS (rest := []) (k_isAnswer (G := G) (Sh := Sh) (I := I) (R := R) (w := part)) dX7_chance_20 crc_X7_isAnswer sc_7_213 rfl rfl (Nat.le_of_ble_eq_true rfl) (roomy_k (by omega) (by decide)) (Nat.le_refl _) (Nat.le_refl _) ?_
        rintro _ _ ⟨_, rfl, rfl, rfl⟩
        refine x_if_neB (tgt := 30) dX7_chance_23 (by decide) (fun c_23 => ?_) (fun c_23 => ?_)
        · obtain ⟨k, hk, rfl⟩ := ahead_nat c_15
          obtain ⟨m0, hm0, rfl⟩ := nI_of2 (M := 20) (n := 20) (by decide) (fun z => c_2 (Int32.lt_trans z (by decide))) (Int32.not_lt.mp c_8)
          refine x_iconst (v := 0) dX7_chance_30 (by decide) ?_
          refine x_istore (lv' := [(5, .int 0), (0, .ref b), (1, .int s), (2, .int (nI m0)), (3, .int (nI k)), (4, .int part)]) dX7_chance_31 (by decide) rfl ?_
          refine x_iconst (v := 0) dX7_chance_33 (by decide) ?_
          refine x_istore (lv' := [(6, .int 0), (5, .int 0), (0, .ref b), (1, .int s), (2, .int (nI m0)), (3, .int (nI k)), (4, .int part)]) dX7_chance_34 (by decide) rfl ?_
          refine x_sub [0, 1, 2, 3, 4, 5, 6] rfl ?_
          have hfin : chanceF σ s (nI m0) (nI k) part = if part = 0 then (nI (wonG σ s k m0) / nI (cdG (wonG σ s k m0) m0 m0)).toInt64 else (nI m0 / nI (cdG (wonG σ s k m0) m0 m0)).toInt64 := by
            unfold chanceF
            rw [if_pos ⟨Int32.not_lt.mp c_2, Int32.not_lt.mp c_8, c_15, c_23⟩, nI_clamp (by omega), nI_clamp (by omega)]
          rw [hfin]
          exact k_chance_l hc hk hm0 (m0 + 1) 0 I R (by omega) (by omega) pvE.rf rvE.rf
        · refine x_ldc2 (v := (-4611686018427387904)) dX7_chance_26 (tw_at 767 (by decide +kernel) rfl) ?_
          refine x_lret dX7_chance_29 rfl (Nat.le_refl _) (Nat.le_refl _) ?_
          refine ⟨?_, I, R, rfl, pvE.rf, rvE.rf⟩
          unfold chanceF
          rw [if_neg (fun z => c_23 z.2.2.2)]

