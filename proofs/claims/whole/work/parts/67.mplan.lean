theorem se_idx {s j : Nat} (hs : s < 4) (hj : j < 40) : 40 * s + j < 160 := by omega
theorem pl_iff {n : Nat} {x : Int32} (hn : n ≤ 8) : (-1 ≤ x ∧ x ≤ nI n - 1) ↔ (x = -1 ∨ (idF n x).isSome = true) := by
  rw [← id_iff hn]
  constructor
  · rintro ⟨h1, h2⟩
    by_cases z : x = -1
    · exact Or.inl z
    · refine Or.inr ⟨?_, h2⟩
      rw [Int32.le_iff_toInt_le] at h1 ⊢
      have e1 : (-1 : Int32).toInt = -1 := by decide
      have e0 : (0 : Int32).toInt = 0 := by decide
      have : ¬ x.toInt = -1 := fun q => z (Int32.toInt_inj.mp (by rw [q]; decide))
      omega
  · rintro (h | ⟨h1, h2⟩)
    · rw [h]
      have h3 : (nI n).toInt = (n : Int) := nI_toInt (by omega)
      refine ⟨by decide, ?_⟩
      have e1 : (-1 : Int32).toInt = -1 := by decide
      have e2 : (1 : Int32).toInt = 1 := by decide
      rw [Int32.le_iff_toInt_le, Int32.toInt_sub, h3, e1, e2, Int.bmod_def]
      omega
    · exact ⟨Int32.le_trans (by decide) h1, h2⟩
theorem so_neg {σ : SG} {s : Nat} (h : WI σ) (hs : s < 4) : gSo σ s < 0 ↔ gSo σ s = -1 := by
  rcases h.2.2.2 s hs with q | q | q | q
  · rw [q.1]; decide
  all_goals (rw [q]; decide)

theorem id_m1 {n : Nat} : idF n (-1) = none := by
  unfold idF
  rw [if_neg (fun z => z.1 (by decide))]
theorem NB.pl {σ : SG} {t : Nat} (h : NB (gN σ) (gW σ)) (q : Nat) : NB (gN σ) (plG σ t q) := by
  induction q with
  | zero => exact h
  | succ q ih =>
    have hst : plG σ t (q + 1) = beatF (gP σ) (gN σ) (match idF (gN σ) (gRo σ t q) with | some i => spadeF (gP σ) (gN σ) i (plG σ t q) | none => plG σ t q) := rfl
    rw [hst]
    cases idF (gN σ) (gRo σ t q) with
    | none => exact ih.beat
    | some i => exact (ih.spade).beat

set_option maxHeartbeats 4000000 in
set_option maxRecDepth 100000 in
theorem k_mplan_l2 {G : GG} {Sh : HS} {I : HI} {R : HR} {m : Nat} {σ : SG} (hm0 : MI m Sh I R σ) (hw0 : WI σ) {s9 : Nat} (hi_s9 : s9 < 4) {w : Int32} (hvw : viewP (gN σ) w) (hok : planOk σ s9) : ∀ (m9 : Nat) (q : Nat) (J : HI), (q ≤ gSz σ s9) → (gSz σ s9 < q + m9) → (MS J m (gN σ) (plG σ s9 q)) → (TK m I J) → X G (kM G 6 0 0 (qi (qryM m Sh I R (vwF (gP σ) (gN σ) (plG σ s9 (gSz σ s9)) w)))) yX8_plan cX8_plan 5 (some .int) 0 0 80 [(3, .int (nI q)), (0, .ref m), (1, .int (nI s9)), (2, .int w)] [] (Sh, J, R) := by
  intro m9
  induction m9 with
  | zero =>
    intro q J hq hm hsq htk
    exact absurd hm (by omega)
  | succ m9 ih =>
    intro q J hq hm hsq htk
    obtain ⟨hsh, hrf, ⟨hn, hn8⟩, hs, ⟨hru, hrt⟩, ⟨htc, htc6⟩, hmt, hmp, him, hse⟩ := id hm0
    have hmw := hm0.mw
    have hnb := hw0.nb
    obtain ⟨z0, z1, z6, z7, z8, z9, z10, z11, z12, z13, z14, z15, z16, z17⟩ := id hsh
    obtain ⟨y1, y6, y7, y8, y9, y10, y11, y12, y13, y14, y15, y16, y17⟩ := id hrf
    have hse9 := hse s9 hi_s9
    have hsz := hse9.2.2.1
    have w9 := htk.mw hmw
    have hnbq := hnb.pl (t := s9) q
    have w9 := htk.mw hmw
    have hnbq := hnb.pl (t := s9) q
    refine x_iload_n dX8_plan_80 0 rfl rfl ?_
    refine x_aload_n dX8_plan_81 1 rfl rfl ?_
    refine x_gR (b := m + 16) dX8_plan_82 fl_8_55 rfl z0 y16 ?_
    refine x_iload_n dX8_plan_85 2 rfl rfl ?_
    refine x_ia (j := s9) (v := nI (gSz σ s9)) dX8_plan_86 z16 rfl (by omega) (by omega) ((htk.2.2.2 _ _ (by unfold prM; omega) (by omega) (by omega)).trans hse9.2.1) ?_
    refine x_icmp_ge (tgt := 125) dX8_plan_87 (by decide) (fun c_87 => ?_) (fun c_87 => ?_)
    · have c_87 : (gSz σ s9) ≤ q := (nI_leI (a := (gSz σ s9)) (b := q) (by omega) (by omega)).mp c_87
      refine x_aload_n dX8_plan_125 1 rfl rfl ?_
      refine x_iload_n dX8_plan_126 3 rfl rfl ?_
      refine x_callV (k_masked (G := G) w9 hsq hvw) dX8_plan_127 crc_X8_asked vc_8_271 z0 rfl rfl rfl rfl (Nat.le_of_ble_eq_true rfl) (roomy_k (by omega) (by decide)) (Nat.le_refl _) (Nat.le_refl _) ?_
      rintro _ _ ⟨ra, rfl, hra, J3, rfl, hof3⟩
      have htk := htk.fr hof3.fr
      refine x_istore_n (lv' := [(3, .int ra), (0, .ref m), (1, .int (nI s9)), (2, .int w)]) dX8_plan_130 rfl (by decide) rfl ?_
      refine x_aload_n dX8_plan_131 1 rfl rfl ?_
      refine x_callV (k_again (G := G) hsh hrf (J := J3) htk) dX8_plan_132 crc_X8_again vc_8_274 z0 rfl rfl rfl rfl (Nat.le_of_ble_eq_true rfl) (roomy_k (by omega) (by decide)) (Nat.le_refl _) (Nat.le_refl _) ?_
      rintro _ _ ⟨rfl, J9, rfl, hp9⟩
      refine x_iload_n dX8_plan_135 0 rfl rfl ?_
      refine x_iret dX8_plan_136 rfl (Nat.le_refl _) (Nat.le_refl _) ?_
      have hqs : q = gSz σ s9 := by omega
      subst hqs
      exact ⟨hra, J9, rfl, hp9⟩
    · have c_87 : ¬ (gSz σ s9) ≤ q := fun zz9 => c_87 ((nI_leI (a := (gSz σ s9)) (b := q) (by omega) (by omega)).mpr zz9)
      refine x_aload_n dX8_plan_90 1 rfl rfl ?_
      refine x_gR (b := m + 17) dX8_plan_91 fl_8_58 rfl z0 y17 ?_
      refine x_bipush (v := nI 40) dX8_plan_94 (by decide) ?_
      refine x_iload_n dX8_plan_96 2 rfl rfl ?_
      refine x_imul dX8_plan_97 ?_
      refine x_vali (pk_mul 40 s9) ?_
      refine x_iload_n dX8_plan_98 0 rfl rfl ?_
      refine x_iadd dX8_plan_99 ?_
      refine x_vali (nI_add (40 * s9) q) ?_
      refine x_ia (j := 40 * s9 + q) (v := gRo σ s9 q) dX8_plan_100 z17 rfl (by omega) (by omega) ((htk.2.2.2 _ _ (by unfold prM; omega) (by omega) (by omega)).trans (hse9.2.2.2 q (by omega))) ?_
      refine x_topi (fun fx e_fx => ?_)
      refine x_istore (lv' := [(4, .int fx), (3, .int (nI q)), (0, .ref m), (1, .int (nI s9)), (2, .int w)]) dX8_plan_101 (by decide) rfl ?_
      refine x_iload dX8_plan_103 0 rfl ?_
      refine x_iconst (v := (-1)) dX8_plan_105 (by decide) ?_
      refine x_icmp_eq (tgt := 115) dX8_plan_106 (by decide) (fun c_106 => ?_) (fun c_106 => ?_)
      · refine x_aload_n dX8_plan_115 2 rfl rfl ?_
        refine x_callV (k_comes (G := G) (I := J) w9 hsq hnbq) dX8_plan_116 crc_X8_comes vc_8_236 z0 rfl rfl rfl rfl (Nat.le_of_ble_eq_true rfl) (roomy_k (by omega) (by decide)) (Nat.le_refl _) (Nat.le_refl _) ?_
        rintro _ _ ⟨rfl, J6, rfl, hs6, hf6⟩
        have htk6 := htk.fr hf6
        refine x_iinc (v := nI (q + 1)) (lv' := [(3, .int (nI (q + 1))), (4, .int fx), (0, .ref m), (1, .int (nI s9)), (2, .int w)]) dX8_plan_119 1 rfl (nI_1 q) (by decide) rfl ?_
        refine x_goto (tgt := 80) dX8_plan_122 (by decide) ?_
        refine x_sub [0, 2, 3, 4] rfl ?_
        have hst : plG σ s9 (q + 1) = beatF (gP σ) (gN σ) (match idF (gN σ) (gRo σ s9 q) with | some i => spadeF (gP σ) (gN σ) i (plG σ s9 q) | none => plG σ s9 q) := rfl
        have hid : idF (gN σ) (gRo σ s9 q) = none := by
          rw [← e_fx, c_106]
          exact id_m1
        rw [hid] at hst
        exact ih (q + 1) J6 (by omega) (by omega) (by rw [hst]; exact hs6) htk6
      · obtain ⟨jf, hidj⟩ : ∃ jf, idF (gN σ) (gRo σ s9 q) = some jf := by
          rcases hok q (by omega) with z | z
          · exact absurd (e_fx.trans z) c_106
          · exact Option.isSome_iff_exists.mp z
        obtain ⟨hjf, hje⟩ := idF_some hn8 hidj
        have e_fx := e_fx.trans hje
        subst e_fx
        refine x_aload_n dX8_plan_109 2 rfl rfl ?_
        refine x_iload dX8_plan_110 0 rfl ?_
        refine x_callV (k_raised (G := G) (I := J) w9 hsq (f := jf) hjf) dX8_plan_112 crc_X8_raised vc_8_242 z0 rfl rfl rfl rfl (Nat.le_of_ble_eq_true rfl) (roomy_k (by omega) (by decide)) (Nat.le_refl _) (Nat.le_refl _) ?_
        rintro _ _ ⟨rfl, J5, rfl, hs5, hf5⟩
        have htk5 := htk.fr hf5
        have w5 := w9.fr hf5
        refine x_aload_n dX8_plan_115 2 rfl rfl ?_
        refine x_callV (k_comes (G := G) (I := J5) w5 hs5 hnbq.spade) dX8_plan_116 crc_X8_comes vc_8_236 z0 rfl rfl rfl rfl (Nat.le_of_ble_eq_true rfl) (roomy_k (by omega) (by decide)) (Nat.le_refl _) (Nat.le_refl _) ?_
        rintro _ _ ⟨rfl, J6, rfl, hs6, hf6⟩
        have htk6 := htk5.fr hf6
        refine x_iinc (v := nI (q + 1)) (lv' := [(3, .int (nI (q + 1))), (4, .int (nI jf)), (0, .ref m), (1, .int (nI s9)), (2, .int w)]) dX8_plan_119 1 rfl (nI_1 q) (by decide) rfl ?_
        refine x_goto (tgt := 80) dX8_plan_122 (by decide) ?_
        refine x_sub [0, 2, 3, 4] rfl ?_
        have hst : plG σ s9 (q + 1) = beatF (gP σ) (gN σ) (match idF (gN σ) (gRo σ s9 q) with | some i => spadeF (gP σ) (gN σ) i (plG σ s9 q) | none => plG σ s9 q) := rfl
        rw [hidj] at hst
        exact ih (q + 1) J6 (by omega) (by omega) (by rw [hst]; exact hs6) htk6

set_option maxHeartbeats 4000000 in
set_option maxRecDepth 100000 in
theorem k_mplan_l1 {G : GG} {Sh : HS} {I : HI} {R : HR} {m : Nat} {σ : SG} (hm0 : MI m Sh I R σ) (hw0 : WI σ) {s9 : Nat} (hi_s9 : s9 < 4) {w : Int32} (hvw : viewP (gN σ) w) (hso : ¬ gSo σ s9 = -1) : ∀ (m9 : Nat) (q : Nat), (q ≤ gSz σ s9) → (gSz σ s9 < q + m9) → (∀ j, j < q → gRo σ s9 j = -1 ∨ (idF (gN σ) (gRo σ s9 j)).isSome = true) → X G (kM G 6 0 0 (qi (qryM m Sh I R (planF σ (nI s9) w)))) yX8_plan cX8_plan 5 (some .int) 0 0 30 [(3, .int (nI q)), (0, .ref m), (1, .int (nI s9)), (2, .int w)] [] (Sh, I, R) := by
  intro m9
  induction m9 with
  | zero =>
    intro q hq hm hok
    exact absurd hm (by omega)
  | succ m9 ih =>
    intro q hq hm hok
    obtain ⟨hsh, hrf, ⟨hn, hn8⟩, hs, ⟨hru, hrt⟩, ⟨htc, htc6⟩, hmt, hmp, him, hse⟩ := id hm0
    have hmw := hm0.mw
    have hnb := hw0.nb
    obtain ⟨z0, z1, z6, z7, z8, z9, z10, z11, z12, z13, z14, z15, z16, z17⟩ := id hsh
    obtain ⟨y1, y6, y7, y8, y9, y10, y11, y12, y13, y14, y15, y16, y17⟩ := id hrf
    have hse9 := hse s9 hi_s9
    have hsz := hse9.2.2.1
    refine x_iload_n dX8_plan_30 0 rfl rfl ?_
    refine x_aload_n dX8_plan_31 1 rfl rfl ?_
    refine x_gR (b := m + 16) dX8_plan_32 fl_8_55 rfl z0 y16 ?_
    refine x_iload_n dX8_plan_35 2 rfl rfl ?_
    refine x_ia (j := s9) (v := nI (gSz σ s9)) dX8_plan_36 z16 rfl (by omega) (by omega) hse9.2.1 ?_
    refine x_icmp_ge (tgt := 74) dX8_plan_37 (by decide) (fun c_37 => ?_) (fun c_37 => ?_)
    · have c_37 : (gSz σ s9) ≤ q := (nI_leI (a := (gSz σ s9)) (b := q) (by omega) (by omega)).mp c_37
      refine x_aload_n dX8_plan_74 1 rfl rfl ?_
      refine x_callV (k_keep (G := G) (I := I) hsh hrf) dX8_plan_75 crc_X8_keep vc_8_265 z0 rfl rfl rfl rfl (Nat.le_of_ble_eq_true rfl) (roomy_k (by omega) (by decide)) (Nat.le_refl _) (Nat.le_refl _) ?_
      rintro _ _ ⟨rfl, J1, rfl, htk, hp1⟩
      have hs1 := hs.pv hp1
      have w1 := hmw.pv hp1
      refine x_iconst (v := nI 0) dX8_plan_78 (by decide) ?_
      refine x_istore_n (lv' := [(3, .int (nI 0)), (0, .ref m), (1, .int (nI s9)), (2, .int w)]) dX8_plan_79 rfl (by decide) rfl ?_
      refine x_sub [0, 1, 2, 3] rfl ?_
      have hqs : q = gSz σ s9 := by omega
      subst hqs
      have hfin : planF σ (nI s9) w = vwF (gP σ) (gN σ) (plG σ s9 (gSz σ s9)) w := by
        unfold planF
        rw [idF_in hi_s9 (by omega)]
        dsimp only
        rw [if_pos ⟨hvw, hso, hok⟩]
      rw [hfin]
      exact k_mplan_l2 hm0 hw0 hi_s9 hvw hok (gSz σ s9 + 1) 0 J1 (by omega) (by omega) hs1 htk
    · have c_37 : ¬ (gSz σ s9) ≤ q := fun zz9 => c_37 ((nI_leI (a := (gSz σ s9)) (b := q) (by omega) (by omega)).mpr zz9)
      refine x_aload_n dX8_plan_40 1 rfl rfl ?_
      refine x_gR (b := m + 17) dX8_plan_41 fl_8_58 rfl z0 y17 ?_
      refine x_bipush (v := nI 40) dX8_plan_44 (by decide) ?_
      refine x_iload_n dX8_plan_46 2 rfl rfl ?_
      refine x_imul dX8_plan_47 ?_
      refine x_vali (pk_mul 40 s9) ?_
      refine x_iload_n dX8_plan_48 0 rfl rfl ?_
      refine x_iadd dX8_plan_49 ?_
      refine x_vali (nI_add (40 * s9) q) ?_
      refine x_ia (j := 40 * s9 + q) (v := gRo σ s9 q) dX8_plan_50 z17 rfl (by omega) (by omega) (hse9.2.2.2 q (by omega)) ?_
      refine x_iconst (v := (-1)) dX8_plan_51 (by decide) ?_
      refine x_aload_n dX8_plan_52 1 rfl rfl ?_
      refine x_gI (v := nI (gN σ)) dX8_plan_53 fl_8_79 rfl z0 hn ?_
      refine x_iconst (v := 1) dX8_plan_56 (by decide) ?_
      refine x_isub dX8_plan_57 ?_
      refine x_callS (rest := []) (k_mwithin (G := G) (Sh := Sh) (I := I) (R := R) (v := gRo σ s9 q) (lo := (-1)) (hi := (nI (gN σ)) - 1)) dX8_plan_58 crc_X8_within sc_8_82 rfl rfl (Nat.le_of_ble_eq_true rfl) (roomy_k (by omega) (by decide)) (Nat.le_refl _) (Nat.le_refl _) ?_
      rintro _ _ ⟨rw, rfl, hrw, rfl⟩
      subst hrw
      refine x_if_neB (tgt := 68) dX8_plan_61 (by decide) (fun c_61 => ?_) (fun c_61 => ?_)
      · refine x_iinc (v := nI (q + 1)) (lv' := [(3, .int (nI (q + 1))), (0, .ref m), (1, .int (nI s9)), (2, .int w)]) dX8_plan_68 0 rfl (nI_1 q) (by decide) rfl ?_
        refine x_goto (tgt := 30) dX8_plan_71 (by decide) ?_
        refine x_sub [0, 1, 2, 3] rfl ?_
        exact ih (q + 1) (by omega) (by omega) (fun j hj => by
          by_cases z : j = q
          · rw [z]; exact (pl_iff hn8).mp c_61
          · exact hok j (by omega))
      · refine x_ldcw (v := (-100000)) dX8_plan_64 (tw_at 1164 (by decide +kernel) rfl) ?_
        refine x_iret dX8_plan_67 rfl (Nat.le_refl _) (Nat.le_refl _) ?_
        refine ⟨?_, I, rfl, pvM.rf⟩
        unfold planF
        rw [idF_in hi_s9 (by omega)]
        dsimp only
        rw [if_neg (fun z => c_61 ((pl_iff hn8).mpr (z.2.2 q (by omega))))]

set_option maxHeartbeats 4000000 in
set_option maxRecDepth 100000 in
theorem k_mplan {G : GG} {Sh : HS} {I : HI} {R : HR} {m : Nat} {σ : SG} (hm0 : MI m Sh I R σ) (hw0 : WI σ) {s w : Int32} : AM G 6 0 0 yX8_plan cX8_plan 5 (some .int) [.ref m, .int s, .int w] (Sh, I, R) (qi (qryM m Sh I R (planF σ s w))) := by
  obtain ⟨hsh, hrf, ⟨hn, hn8⟩, hs, ⟨hru, hrt⟩, ⟨htc, htc6⟩, hmt, hmp, him, hse⟩ := id hm0
  have hmw := hm0.mw
  have hnb := hw0.nb
  obtain ⟨z0, z1, z6, z7, z8, z9, z10, z11, z12, z13, z14, z15, z16, z17⟩ := id hsh
  obtain ⟨y1, y6, y7, y8, y9, y10, y11, y12, y13, y14, y15, y16, y17⟩ := id hrf
  refine am_intro (by decide) (Nat.le_of_ble_eq_true rfl) ?_
  refine x_iload_n dX8_plan_0 1 rfl rfl ?_
  refine x_callS (rest := []) (k_misSheet (G := G) (Sh := Sh) (I := I) (R := R) (s := s)) dX8_plan_1 crc_X8_isSheet sc_8_277 rfl rfl (Nat.le_of_ble_eq_true rfl) (roomy_k (by omega) (by decide)) (Nat.le_refl _) (Nat.le_refl _) ?_
  rintro _ _ ⟨rs, rfl, hrs, rfl⟩
  subst hrs
  refine x_if_eqB (tgt := 24) dX8_plan_4 (by decide) (fun c_4 => ?_) (fun c_4 => ?_)
  · refine x_ldcw (v := (-100000)) dX8_plan_24 (tw_at 1164 (by decide +kernel) rfl) ?_
    refine x_iret dX8_plan_27 rfl (Nat.le_refl _) (Nat.le_refl _) ?_
    refine ⟨?_, I, rfl, pvM.rf⟩
    unfold planF
    rw [Option.not_isSome_iff_eq_none.mp c_4]
  · refine x_aload_n dX8_plan_7 0 rfl rfl ?_
    refine x_iload_n dX8_plan_8 2 rfl rfl ?_
    refine x_callV (k_misAsked (G := G) (Sh := Sh) (I := I) (R := R) hsh hn hn8 (w := w)) dX8_plan_9 crc_X8_isAsked vc_8_261 z0 rfl rfl rfl rfl (Nat.le_of_ble_eq_true rfl) (roomy_k (by omega) (by decide)) (Nat.le_refl _) (Nat.le_refl _) ?_
    rintro _ _ ⟨ra, rfl, hra, rfl⟩
    subst hra
    refine x_if_eqB (tgt := 24) dX8_plan_12 (by decide) (fun c_12 => ?_) (fun c_12 => ?_)
    · refine x_ldcw (v := (-100000)) dX8_plan_24 (tw_at 1164 (by decide +kernel) rfl) ?_
      refine x_iret dX8_plan_27 rfl (Nat.le_refl _) (Nat.le_refl _) ?_
      refine ⟨?_, I, rfl, pvM.rf⟩
      unfold planF
      obtain ⟨s9, hid⟩ := Option.isSome_iff_exists.mp c_4
      rw [hid]
      dsimp only
      rw [if_neg (fun z => c_12 z.1)]
    · obtain ⟨s9, hid_s9⟩ := Option.isSome_iff_exists.mp c_4
      obtain ⟨hi_s9, hie_s9⟩ := idF_some (by omega) hid_s9
      subst hie_s9
      have hse9 := hse s9 hi_s9
      refine x_aload_n dX8_plan_15 0 rfl rfl ?_
      refine x_gR (b := m + 15) dX8_plan_16 fl_8_52 rfl z0 y15 ?_
      refine x_iload_n dX8_plan_19 1 rfl rfl ?_
      refine x_ia (j := s9) (v := gSo σ s9) dX8_plan_20 z15 rfl (by omega) (by omega) hse9.1 ?_
      refine x_if_ge (tgt := 28) dX8_plan_21 (by decide) (fun c_21 => ?_) (fun c_21 => ?_)
      · refine x_iconst (v := nI 0) dX8_plan_28 (by decide) ?_
        refine x_istore_n (lv' := [(3, .int (nI 0)), (0, .ref m), (1, .int (nI s9)), (2, .int w)]) dX8_plan_29 rfl (by decide) rfl ?_
        refine x_sub [0, 1, 2, 3] rfl ?_
        exact k_mplan_l1 hm0 hw0 hi_s9 c_12 (fun z => absurd (by rw [z]; decide) (Int32.not_lt.mpr c_21)) (gSz σ s9 + 1) 0 (by omega) (by omega) (fun j hj => absurd hj (by omega))
      · refine x_ldcw (v := (-100000)) dX8_plan_24 (tw_at 1164 (by decide +kernel) rfl) ?_
        refine x_iret dX8_plan_27 rfl (Nat.le_refl _) (Nat.le_refl _) ?_
        refine ⟨?_, I, rfl, pvM.rf⟩
        unfold planF
        rw [idF_in hi_s9 (by omega)]
        dsimp only
        rw [if_neg (fun z => z.2.1 ((so_neg hw0 hi_s9).mp (Int32.not_le.mp c_21)))]

theorem cd_gcd {a m : Nat} (hm : 1 ≤ m) : cdG a m m = Nat.gcd a m := by
  have hg : Nat.gcd a m ≤ m := Nat.gcd_le_right a (by omega)
  have hg1 : 1 ≤ Nat.gcd a m := Nat.gcd_pos_of_pos_right a (by omega)
  have key : ∀ d, Nat.gcd a m ≤ d → cdG a m d = Nat.gcd a m := by
    intro d
    induction d with
    | zero => intro h; omega
    | succ d ih =>
      intro h
      unfold cdG
      by_cases h1 : d + 1 ≤ 1
      · rw [if_pos h1]; omega
      · rw [if_neg h1]
        by_cases h2 : a % (d + 1) = 0 ∧ m % (d + 1) = 0
        · rw [if_pos h2]
          have : d + 1 ∣ Nat.gcd a m := Nat.dvd_gcd (Nat.dvd_of_mod_eq_zero h2.1) (Nat.dvd_of_mod_eq_zero h2.2)
          exact Nat.le_antisymm (Nat.le_of_dvd (by omega) this) h
        · rw [if_neg h2]
          refine ih ?_
          by_cases e : Nat.gcd a m = d + 1
          · exfalso
            apply h2
            rw [← e]
            exact ⟨Nat.mod_eq_zero_of_dvd (Nat.gcd_dvd_left a m), Nat.mod_eq_zero_of_dvd (Nat.gcd_dvd_right a m)⟩
          · omega
  exact key m hg
theorem nI_rem {a b : Nat} (ha : a < 2 ^ 31) (hb : b < 2 ^ 31) (h0 : 0 < b) : nI a - nI a / nI b * nI b = nI (a % b) := by
  have e1 : nI a / nI b = nI (a / b) := by
    apply Int32.toInt_inj.mp
    rw [Int32.toInt_div, nI_toInt ha, nI_toInt hb]
    have hz : Int.tdiv (a : Int) (b : Int) = ((a / b : Nat) : Int) := rfl
    have hle : (a / b) ≤ a := Nat.div_le_self a b
    have key : ∀ z : Nat, z < 2 ^ 31 → Int.bmod (z : Int) (2 ^ 32) = z := fun z h => Int.bmod_eq_of_le (by omega) (by omega)
    have hlt : a / b < 2 ^ 31 := Nat.lt_of_le_of_lt hle ha
    rw [hz, key _ hlt, nI_toInt hlt]
  have h2 : a / b * b ≤ a := Nat.div_mul_le_self a b
  rw [e1, pk_mul, pk_sub h2]
  congr 1
  have h3 := Nat.div_add_mod a b
  rw [Nat.mul_comm] at h3
  omega

def qryML (m : Nat) (Sh : HS) (I : HI) (R : HR) (val : Int64) : Int64 → AH → Prop := fun r g => r = val ∧ ∃ J : HI, g = (Sh, J, R) ∧ pvM m I J

set_option maxHeartbeats 4000000 in
set_option maxRecDepth 100000 in
theorem k_mgcd_l {G : GG} {Sh : HS} {I : HI} {R : HR} {m : Nat} {σ : SG} (hm0 : MI m Sh I R σ) (hw0 : WI σ) {s pt : Int32} {won n0 k : Nat} (hn1 : 1 ≤ n0) (hn20 : n0 ≤ 20) (hwn : won ≤ n0) (hwon : won = wonG σ s k n0) : ∀ (m9 : Nat) (x y : Nat) (J : HI), (x ≤ 20) → (y ≤ 20) → (y < m9) → (1 ≤ x + y) → (Nat.gcd x y = Nat.gcd won n0) → (pvM m I J) → X G (kM G 6 0 0 (ql (qryML m Sh I R (if pt = 0 then (nI (wonG σ s k n0) / nI (cdG (wonG σ s k n0) n0 n0)).toInt64 else (nI n0 / nI (cdG (wonG σ s k n0) n0 n0)).toInt64)))) yX8_chance cX8_chance 9 (some .long) 0 0 83 [(7, .int (nI y)), (6, .int (nI x)), (5, .int (nI won)), (0, .ref m), (1, .int s), (2, .int (nI n0)), (3, .int (nI k)), (4, .int pt)] [] (Sh, J, R) := by
  intro m9
  induction m9 with
  | zero =>
    intro x y J hx hy hm hx0 hg hpv
    exact absurd hm (by omega)
  | succ m9 ih =>
    intro x y J hx hy hm hx0 hg hpv
    obtain ⟨hsh, hrf, ⟨hn, hn8⟩, hs, ⟨hru, hrt⟩, ⟨htc, htc6⟩, hmt, hmp, him, hse⟩ := id hm0
    have hmw := hm0.mw
    have hnb := hw0.nb
    obtain ⟨z0, z1, z6, z7, z8, z9, z10, z11, z12, z13, z14, z15, z16, z17⟩ := id hsh
    obtain ⟨y1, y6, y7, y8, y9, y10, y11, y12, y13, y14, y15, y16, y17⟩ := id hrf
    refine x_iload dX8_chance_83 0 rfl ?_
    refine x_if_eq (tgt := 106) dX8_chance_85 (by decide) (fun c_85 => ?_) (fun c_85 => ?_)
    · have c_85 : y = 0 := (nI_eq (a := y) (b := 0) (by omega) (by omega)).mp c_85
      have hy0 : y = 0 := c_85
      subst hy0
      have hx9 : x = cdG won n0 n0 := by
        rw [cd_gcd hn1, ← hg, Nat.gcd_zero_right]
      have hcp := cdG_pos (a := won) (m := n0) n0
      have hcl := cdG_le (a := won) (m := n0) n0
      refine x_iload dX8_chance_106 7 rfl ?_
      refine x_if_ne (tgt := 120) dX8_chance_108 (by decide) (fun c_108 => ?_) (fun c_108 => ?_)
      · refine x_iload_n dX8_chance_120 5 rfl rfl ?_
        refine x_iload dX8_chance_121 1 rfl ?_
        refine x_idiv dX8_chance_123 (nI_ne0 (by have := cdG_pos (a := won) (m := n0) n0; omega) (by have := cdG_le (a := won) (m := n0) n0; omega)) ?_
        refine x_i2l (v := ((nI n0) / (nI x)).toInt64) dX8_chance_124 rfl ?_
        refine x_lret dX8_chance_125 rfl (Nat.le_refl _) (Nat.le_refl _) ?_
        refine ⟨?_, J, rfl, hpv⟩
        rw [← hwon]
        rw [if_neg c_108, hx9]
      · refine x_iload dX8_chance_111 2 rfl ?_
        refine x_iload dX8_chance_113 1 rfl ?_
        refine x_idiv dX8_chance_115 (nI_ne0 (by have := cdG_pos (a := won) (m := n0) n0; omega) (by have := cdG_le (a := won) (m := n0) n0; omega)) ?_
        refine x_i2l (v := ((nI won) / (nI x)).toInt64) dX8_chance_116 rfl ?_
        refine x_goto (tgt := 125) dX8_chance_117 (by decide) ?_
        refine x_lret dX8_chance_125 rfl (Nat.le_refl _) (Nat.le_refl _) ?_
        refine ⟨?_, J, rfl, hpv⟩
        rw [← hwon]
        rw [if_pos c_108, hx9]
    · have c_85 : ¬ y = 0 := fun zz9 => c_85 ((nI_eq (a := y) (b := 0) (by omega) (by omega)).mpr zz9)
      refine x_iload dX8_chance_88 1 rfl ?_
      refine x_iload dX8_chance_90 0 rfl ?_
      refine x_irem dX8_chance_92 (nI_ne0 (by omega) (by omega)) ?_
      refine x_topi (fun xq1 e_xq1 => ?_)
      refine x_istore (lv' := [(8, .int xq1), (7, .int (nI y)), (6, .int (nI x)), (5, .int (nI won)), (0, .ref m), (1, .int s), (2, .int (nI n0)), (3, .int (nI k)), (4, .int pt)]) dX8_chance_93 (by decide) rfl ?_
      refine x_iload dX8_chance_95 1 rfl ?_
      refine x_istore (lv' := [(6, .int (nI y)), (8, .int xq1), (7, .int (nI y)), (5, .int (nI won)), (0, .ref m), (1, .int s), (2, .int (nI n0)), (3, .int (nI k)), (4, .int pt)]) dX8_chance_97 (by decide) rfl ?_
      refine x_iload dX8_chance_99 1 rfl ?_
      refine x_istore (lv' := [(7, .int xq1), (6, .int (nI y)), (8, .int xq1), (5, .int (nI won)), (0, .ref m), (1, .int s), (2, .int (nI n0)), (3, .int (nI k)), (4, .int pt)]) dX8_chance_101 (by decide) rfl ?_
      refine x_goto (tgt := 83) dX8_chance_103 (by decide) ?_
      refine x_sub [0, 1, 3, 4, 5, 6, 7, 8] rfl ?_
      have hy1 : 1 ≤ y := by omega
      have hz : xq1 = nI (x % y) := by
        rw [e_xq1]
        exact nI_rem (by omega) (by omega) (by omega)
      subst hz
      have hlt : x % y < y := Nat.mod_lt _ (by omega)
      refine ih y (x % y) J hy (by omega) (by omega) (by omega) ?_ hpv
      rw [← hg, Nat.gcd_comm x y, Nat.gcd_rec y x, Nat.gcd_comm]

set_option maxHeartbeats 4000000 in
set_option maxRecDepth 100000 in
theorem k_mchance_l {G : GG} {Sh : HS} {I : HI} {R : HR} {m : Nat} {σ : SG} (hm0 : MI m Sh I R σ) (hw0 : WI σ) {s pt : Int32} {n0 k : Nat} (hn1 : 1 ≤ n0) (hn20 : n0 ≤ 20) (hk : k ≤ 40) : ∀ (m9 : Nat) (q won : Nat) (J : HI), (q ≤ n0) → (n0 < q + m9) → (won = wonG σ s k q) → (won ≤ q) → (pvM m I J) → X G (kM G 6 0 0 (ql (qryML m Sh I R (if pt = 0 then (nI (wonG σ s k n0) / nI (cdG (wonG σ s k n0) n0 n0)).toInt64 else (nI n0 / nI (cdG (wonG σ s k n0) n0 n0)).toInt64)))) yX8_chance cX8_chance 9 (some .long) 0 0 37 [(6, .int (nI q)), (5, .int (nI won)), (0, .ref m), (1, .int s), (2, .int (nI n0)), (3, .int (nI k)), (4, .int pt)] [] (Sh, J, R) := by
  intro m9
  induction m9 with
  | zero =>
    intro q won J hq hm hwon hwq hpv
    exact absurd hm (by omega)
  | succ m9 ih =>
    intro q won J hq hm hwon hwq hpv
    obtain ⟨hsh, hrf, ⟨hn, hn8⟩, hs, ⟨hru, hrt⟩, ⟨htc, htc6⟩, hmt, hmp, him, hse⟩ := id hm0
    have hmw := hm0.mw
    have hnb := hw0.nb
    obtain ⟨z0, z1, z6, z7, z8, z9, z10, z11, z12, z13, z14, z15, z16, z17⟩ := id hsh
    obtain ⟨y1, y6, y7, y8, y9, y10, y11, y12, y13, y14, y15, y16, y17⟩ := id hrf
    refine x_iload dX8_chance_37 0 rfl ?_
    refine x_iload_n dX8_chance_39 4 rfl rfl ?_
    refine x_icmp_ge (tgt := 76) dX8_chance_40 (by decide) (fun c_40 => ?_) (fun c_40 => ?_)
    · have c_40 : n0 ≤ q := (nI_leI (a := n0) (b := q) (by omega) (by omega)).mp c_40
      refine x_iload dX8_chance_76 1 rfl ?_
      refine x_istore (lv' := [(6, .int (nI won)), (5, .int (nI won)), (0, .ref m), (1, .int s), (2, .int (nI n0)), (3, .int (nI k)), (4, .int pt)]) dX8_chance_78 (by decide) rfl ?_
      refine x_iload_n dX8_chance_80 4 rfl rfl ?_
      refine x_istore (lv' := [(7, .int (nI n0)), (6, .int (nI won)), (5, .int (nI won)), (0, .ref m), (1, .int s), (2, .int (nI n0)), (3, .int (nI k)), (4, .int pt)]) dX8_chance_81 (by decide) rfl ?_
      refine x_sub [0, 1, 2, 3, 4, 5, 6, 7] rfl ?_
      have hqn : q = n0 := by omega
      subst hqn
      exact k_mgcd_l hm0 hw0 hn1 hn20 hwq hwon (q + 1) won q J (by omega) hn20 (by omega) (by omega) rfl hpv
    · have c_40 : ¬ n0 ≤ q := fun zz9 => c_40 ((nI_leI (a := n0) (b := q) (by omega) (by omega)).mpr zz9)
      refine x_aload_n dX8_chance_43 2 rfl rfl ?_
      refine x_callV (k_keep (G := G) (I := J) hsh hrf) dX8_chance_44 crc_X8_keep vc_8_265 z0 rfl rfl rfl rfl (Nat.le_of_ble_eq_true rfl) (roomy_k (by omega) (by decide)) (Nat.le_refl _) (Nat.le_refl _) ?_
      rintro _ _ ⟨rfl, J1, rfl, htk, hp1⟩
      have hs1 := (hs.pv hpv).pv hp1
      refine x_aload_n dX8_chance_47 2 rfl rfl ?_
      refine x_iload_n dX8_chance_48 3 rfl rfl ?_
      refine x_iload dX8_chance_49 0 rfl ?_
      refine x_iadd dX8_chance_51 ?_
      refine x_iload_n dX8_chance_52 5 rfl rfl ?_
      refine x_callV (k_mdraws (G := G) (hmw.pv hpv) hnb htk hs1 (s := s + nI q) (k := k) hk) dX8_chance_53 crc_X8_draws vc_8_306 z0 rfl rfl rfl rfl (Nat.le_of_ble_eq_true rfl) (roomy_k (by omega) (by decide)) (Nat.le_refl _) (Nat.le_refl _) ?_
      rintro _ _ ⟨rfl, J2, rfl, htk, hs2⟩
      have w2 := htk.mw (hmw.pv hpv)
      refine x_aload_n dX8_chance_56 2 rfl rfl ?_
      refine x_callV (k_mbay (G := G) w2 hs2) dX8_chance_57 crc_X8_bay vc_8_252 z0 rfl rfl rfl rfl (Nat.le_of_ble_eq_true rfl) (roomy_k (by omega) (by decide)) (Nat.le_refl _) (Nat.le_refl _) ?_
      rintro _ _ ⟨r9, rfl, hr9, rfl⟩
      refine x_if_ne (tgt := 66) dX8_chance_60 (by decide) (fun c_60 => ?_) (fun c_60 => ?_)
      · refine x_aload_n dX8_chance_66 2 rfl rfl ?_
        refine x_callV (k_again (G := G) hsh hrf (J := J2) htk) dX8_chance_67 crc_X8_again vc_8_274 z0 rfl rfl rfl rfl (Nat.le_of_ble_eq_true rfl) (roomy_k (by omega) (by decide)) (Nat.le_refl _) (Nat.le_refl _) ?_
        rintro _ _ ⟨rfl, J9, rfl, hp9⟩
        refine x_iinc (v := nI (q + 1)) (lv' := [(6, .int (nI (q + 1))), (5, .int (nI won)), (0, .ref m), (1, .int s), (2, .int (nI n0)), (3, .int (nI k)), (4, .int pt)]) dX8_chance_70 0 rfl (nI_1 q) (by decide) rfl ?_
        refine x_goto (tgt := 37) dX8_chance_73 (by decide) ?_
        refine x_sub [0, 1, 2, 3, 4, 5, 6] rfl ?_
        have hwq : won = wonG σ s k (q + 1) := by
          show _ = (if bayF (gN σ) (drG σ (s + nI q) k).2 = 0 then wonG σ s k q + 1 else wonG σ s k q)
          rw [drX_drG] at hr9
          rw [← hr9, if_neg c_60, hwon]
        exact ih (q + 1) (won) J9 (by omega) (by omega) hwq (by omega) (hpv.tr hp9)
      · refine x_iinc (v := nI (won + 1)) (lv' := [(5, .int (nI (won + 1))), (6, .int (nI q)), (0, .ref m), (1, .int s), (2, .int (nI n0)), (3, .int (nI k)), (4, .int pt)]) dX8_chance_63 1 rfl (nI_1 won) (by decide) rfl ?_
        refine x_aload_n dX8_chance_66 2 rfl rfl ?_
        refine x_callV (k_again (G := G) hsh hrf (J := J2) htk) dX8_chance_67 crc_X8_again vc_8_274 z0 rfl rfl rfl rfl (Nat.le_of_ble_eq_true rfl) (roomy_k (by omega) (by decide)) (Nat.le_refl _) (Nat.le_refl _) ?_
        rintro _ _ ⟨rfl, J9, rfl, hp9⟩
        refine x_iinc (v := nI (q + 1)) (lv' := [(6, .int (nI (q + 1))), (5, .int (nI (won + 1))), (0, .ref m), (1, .int s), (2, .int (nI n0)), (3, .int (nI k)), (4, .int pt)]) dX8_chance_70 1 rfl (nI_1 q) (by decide) rfl ?_
        refine x_goto (tgt := 37) dX8_chance_73 (by decide) ?_
        refine x_sub [0, 1, 2, 3, 4, 5, 6] rfl ?_
        have hwq : won + 1 = wonG σ s k (q + 1) := by
          show _ = (if bayF (gN σ) (drG σ (s + nI q) k).2 = 0 then wonG σ s k q + 1 else wonG σ s k q)
          rw [drX_drG] at hr9
          rw [← hr9, if_pos c_60, hwon]
        exact ih (q + 1) (won + 1) J9 (by omega) (by omega) hwq (by omega) (hpv.tr hp9)

set_option maxHeartbeats 4000000 in
set_option maxRecDepth 100000 in
theorem k_mchance {G : GG} {Sh : HS} {I : HI} {R : HR} {m : Nat} {σ : SG} (hm0 : MI m Sh I R σ) (hw0 : WI σ) {s n wv pt : Int32} : AM G 6 0 0 yX8_chance cX8_chance 9 (some .long) [.ref m, .int s, .int n, .int wv, .int pt] (Sh, I, R) (ql (qryML m Sh I R (chanceF σ s n wv pt))) := by
  obtain ⟨hsh, hrf, ⟨hn, hn8⟩, hs, ⟨hru, hrt⟩, ⟨htc, htc6⟩, hmt, hmp, him, hse⟩ := id hm0
  have hmw := hm0.mw
  have hnb := hw0.nb
  obtain ⟨z0, z1, z6, z7, z8, z9, z10, z11, z12, z13, z14, z15, z16, z17⟩ := id hsh
  obtain ⟨y1, y6, y7, y8, y9, y10, y11, y12, y13, y14, y15, y16, y17⟩ := id hrf
  refine am_intro (by decide) (Nat.le_of_ble_eq_true rfl) ?_
  refine x_iload_n dX8_chance_0 2 rfl rfl ?_
  refine x_iconst (v := 1) dX8_chance_1 (by decide) ?_
  refine x_bipush (v := 20) dX8_chance_2 (by decide) ?_
  refine x_callS (rest := []) (k_mwithin (G := G) (Sh := Sh) (I := I) (R := R) (v := n) (lo := 1) (hi := 20)) dX8_chance_4 crc_X8_within sc_8_82 rfl rfl (Nat.le_of_ble_eq_true rfl) (roomy_k (by omega) (by decide)) (Nat.le_refl _) (Nat.le_refl _) ?_
  rintro _ _ ⟨rw, rfl, hrw, rfl⟩
  subst hrw
  refine x_if_eqB (tgt := 27) dX8_chance_7 (by decide) (fun c_7 => ?_) (fun c_7 => ?_)
  · refine x_ldc2 (v := (-4611686018427387904)) dX8_chance_27 (tw_at 1265 (by decide +kernel) rfl) ?_
    refine x_lret dX8_chance_30 rfl (Nat.le_refl _) (Nat.le_refl _) ?_
    refine ⟨?_, I, rfl, pvM.rf⟩
    unfold chanceF
    rw [if_neg (fun z => c_7 ⟨z.1, z.2.1⟩)]
  · refine x_iload_n dX8_chance_10 3 rfl rfl ?_
    refine x_callS (rest := []) (k_misWaves (G := G) (Sh := Sh) (I := I) (R := R) (n := wv)) dX8_chance_11 crc_X8_isWaves sc_8_258 rfl rfl (Nat.le_of_ble_eq_true rfl) (roomy_k (by omega) (by decide)) (Nat.le_refl _) (Nat.le_refl _) ?_
    rintro _ _ ⟨rv, rfl, hrv, rfl⟩
    subst hrv
    refine x_if_eqB (tgt := 27) dX8_chance_14 (by decide) (fun c_14 => ?_) (fun c_14 => ?_)
    · refine x_ldc2 (v := (-4611686018427387904)) dX8_chance_27 (tw_at 1265 (by decide +kernel) rfl) ?_
      refine x_lret dX8_chance_30 rfl (Nat.le_refl _) (Nat.le_refl _) ?_
      refine ⟨?_, I, rfl, pvM.rf⟩
      unfold chanceF
      rw [if_neg (fun z => c_14 z.2.2.1)]
    · refine x_iload dX8_chance_17 4 rfl ?_
      refine x_iconst (v := 0) dX8_chance_19 (by decide) ?_
      refine x_iconst (v := 1) dX8_chance_20 (by decide) ?_
      refine x_callS (rest := []) (k_mwithin (G := G) (Sh := Sh) (I := I) (R := R) (v := pt) (lo := 0) (hi := 1)) dX8_chance_21 crc_X8_within sc_8_82 rfl rfl (Nat.le_of_ble_eq_true rfl) (roomy_k (by omega) (by decide)) (Nat.le_refl _) (Nat.le_refl _) ?_
      rintro _ _ ⟨rw, rfl, hrw, rfl⟩
      subst hrw
      refine x_if_neB (tgt := 31) dX8_chance_24 (by decide) (fun c_24 => ?_) (fun c_24 => ?_)
      · obtain ⟨k, hk, rfl⟩ := ahead_nat c_14
        obtain ⟨n0, hn20, rfl⟩ := nI_of2 (M := 20) (n := 20) (by decide) (fun z => absurd (Int32.le_trans c_7.1 (Int32.le_of_lt z)) (by decide)) c_7.2
        have hn1 : 1 ≤ n0 := (nI_leI (a := 1) (b := n0) (by omega) (by omega)).mp c_7.1
        refine x_iconst (v := nI 0) dX8_chance_31 (by decide) ?_
        refine x_istore (lv' := [(5, .int (nI 0)), (0, .ref m), (1, .int s), (2, .int (nI n0)), (3, .int (nI k)), (4, .int pt)]) dX8_chance_32 (by decide) rfl ?_
        refine x_iconst (v := nI 0) dX8_chance_34 (by decide) ?_
        refine x_istore (lv' := [(6, .int (nI 0)), (5, .int (nI 0)), (0, .ref m), (1, .int s), (2, .int (nI n0)), (3, .int (nI k)), (4, .int pt)]) dX8_chance_35 (by decide) rfl ?_
        refine x_sub [0, 1, 2, 3, 4, 5, 6] rfl ?_
        have hfin : chanceF σ s (nI n0) (nI k) pt = (if pt = 0 then (nI (wonG σ s k n0) / nI (cdG (wonG σ s k n0) n0 n0)).toInt64 else (nI n0 / nI (cdG (wonG σ s k n0) n0 n0)).toInt64) := by
          unfold chanceF
          rw [if_pos ⟨c_7.1, c_7.2, c_14, ans_of c_24⟩, nI_clamp (by omega), nI_clamp (by omega)]
        rw [hfin]
        exact k_mchance_l hm0 hw0 hn1 hn20 hk (n0 + 1) 0 0 I (by omega) (by omega) rfl (by omega) pvM.rf
      · refine x_ldc2 (v := (-4611686018427387904)) dX8_chance_27 (tw_at 1265 (by decide +kernel) rfl) ?_
        refine x_lret dX8_chance_30 rfl (Nat.le_refl _) (Nat.le_refl _) ?_
        refine ⟨?_, I, rfl, pvM.rf⟩
        unfold chanceF
        rw [if_neg (fun z => c_24 (ans_in z.2.2.2))]

