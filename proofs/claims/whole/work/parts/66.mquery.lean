set_option maxHeartbeats 4000000 in
set_option maxRecDepth 100000 in
theorem k_mrun {G : GG} {Sh : HS} {I : HI} {R : HR} {m : Nat} {σ : SG} (hm0 : MI m Sh I R σ) (hw0 : WI σ) {n w : Int32} : AM G 6 0 0 yX8_run cX8_run 4 (some .int) [.ref m, .int n, .int w] (Sh, I, R) (qi (qryM m Sh I R (runF σ n w))) := by
  obtain ⟨hsh, hrf, ⟨hn, hn8⟩, hs, ⟨hru, hrt⟩, ⟨htc, htc6⟩, hmt, hmp, him, hse⟩ := id hm0
  have hmw := hm0.mw
  have hnb := hw0.nb
  obtain ⟨z0, z1, z6, z7, z8, z9, z10, z11, z12, z13, z14, z15, z16, z17⟩ := id hsh
  obtain ⟨y1, y6, y7, y8, y9, y10, y11, y12, y13, y14, y15, y16, y17⟩ := id hrf
  refine am_intro (by decide) (Nat.le_of_ble_eq_true rfl) ?_
  refine x_iload_n dX8_run_0 1 rfl rfl ?_
  refine x_callS (rest := []) (k_misWaves (G := G) (Sh := Sh) (I := I) (R := R) (n := n)) dX8_run_1 crc_X8_isWaves sc_8_258 rfl rfl (Nat.le_of_ble_eq_true rfl) (roomy_k (by omega) (by decide)) (Nat.le_refl _) (Nat.le_refl _) ?_
  rintro _ _ ⟨rv, rfl, hrv, rfl⟩
  subst hrv
  refine x_if_eqB (tgt := 15) dX8_run_4 (by decide) (fun c_4 => ?_) (fun c_4 => ?_)
  · refine x_ldcw (v := (-100000)) dX8_run_15 (tw_at 1164 (by decide +kernel) rfl) ?_
    refine x_iret dX8_run_18 rfl (Nat.le_refl _) (Nat.le_refl _) ?_
    refine ⟨?_, I, rfl, pvM.rf⟩
    unfold runF
    rw [if_neg (fun z => c_4 z.1)]
  · refine x_aload_n dX8_run_7 0 rfl rfl ?_
    refine x_iload_n dX8_run_8 2 rfl rfl ?_
    refine x_callV (k_misAsked (G := G) (Sh := Sh) (I := I) (R := R) hsh hn hn8 (w := w)) dX8_run_9 crc_X8_isAsked vc_8_261 z0 rfl rfl rfl rfl (Nat.le_of_ble_eq_true rfl) (roomy_k (by omega) (by decide)) (Nat.le_refl _) (Nat.le_refl _) ?_
    rintro _ _ ⟨ra, rfl, hra, rfl⟩
    subst hra
    refine x_if_neB (tgt := 19) dX8_run_12 (by decide) (fun c_12 => ?_) (fun c_12 => ?_)
    · obtain ⟨k, hk, rfl⟩ := ahead_nat c_4
      refine x_aload_n dX8_run_19 0 rfl rfl ?_
      refine x_callV (k_keep (G := G) (I := I) hsh hrf) dX8_run_20 crc_X8_keep vc_8_265 z0 rfl rfl rfl rfl (Nat.le_of_ble_eq_true rfl) (roomy_k (by omega) (by decide)) (Nat.le_refl _) (Nat.le_refl _) ?_
      rintro _ _ ⟨rfl, J1, rfl, htk, hp1⟩
      have hs1 := hs.pv hp1
      have w1 := hmw.pv hp1
      refine x_aload_n dX8_run_23 0 rfl rfl ?_
      refine x_iload_n dX8_run_24 1 rfl rfl ?_
      refine x_callV (k_mwaves (G := G) w1 hs1 hnb (k := k) (by omega)) dX8_run_25 crc_X8_waves vc_8_268 z0 rfl rfl rfl rfl (Nat.le_of_ble_eq_true rfl) (roomy_k (by omega) (by decide)) (Nat.le_refl _) (Nat.le_refl _) ?_
      rintro _ _ ⟨rfl, J2, rfl, hs2, hf2⟩
      have htk := htk.fr hf2
      have w2 := w1.fr hf2
      refine x_aload_n dX8_run_28 0 rfl rfl ?_
      refine x_iload_n dX8_run_29 2 rfl rfl ?_
      refine x_callV (k_masked (G := G) w2 hs2 c_12) dX8_run_30 crc_X8_asked vc_8_271 z0 rfl rfl rfl rfl (Nat.le_of_ble_eq_true rfl) (roomy_k (by omega) (by decide)) (Nat.le_refl _) (Nat.le_refl _) ?_
      rintro _ _ ⟨ra, rfl, hra, J3, rfl, hof3⟩
      have htk := htk.fr hof3.fr
      refine x_istore_n (lv' := [(3, .int ra), (0, .ref m), (1, .int (nI k)), (2, .int w)]) dX8_run_33 rfl (by decide) rfl ?_
      refine x_aload_n dX8_run_34 1 rfl rfl ?_
      refine x_callV (k_again (G := G) hsh hrf (J := J3) htk) dX8_run_35 crc_X8_again vc_8_274 z0 rfl rfl rfl rfl (Nat.le_of_ble_eq_true rfl) (roomy_k (by omega) (by decide)) (Nat.le_refl _) (Nat.le_refl _) ?_
      rintro _ _ ⟨rfl, J9, rfl, hp9⟩
      refine x_iload_n dX8_run_38 0 rfl rfl ?_
      refine x_iret dX8_run_39 rfl (Nat.le_refl _) (Nat.le_refl _) ?_
      refine ⟨?_, J9, rfl, hp9⟩
      unfold runF
      rw [if_pos ⟨c_4, c_12⟩, nI_clamp (by omega)]
      exact hra
    · refine x_ldcw (v := (-100000)) dX8_run_15 (tw_at 1164 (by decide +kernel) rfl) ?_
      refine x_iret dX8_run_18 rfl (Nat.le_refl _) (Nat.le_refl _) ?_
      refine ⟨?_, I, rfl, pvM.rf⟩
      unfold runF
      rw [if_neg (fun z => c_12 z.2)]

set_option maxHeartbeats 4000000 in
set_option maxRecDepth 100000 in
theorem k_mdrawn {G : GG} {Sh : HS} {I : HI} {R : HR} {m : Nat} {σ : SG} (hm0 : MI m Sh I R σ) (hw0 : WI σ) {s n : Int32} : AM G 6 0 0 yX8_drawn cX8_drawn 4 (some .int) [.ref m, .int s, .int n] (Sh, I, R) (qi (qryM m Sh I R (drawnF σ s n))) := by
  obtain ⟨hsh, hrf, ⟨hn, hn8⟩, hs, ⟨hru, hrt⟩, ⟨htc, htc6⟩, hmt, hmp, him, hse⟩ := id hm0
  have hmw := hm0.mw
  have hnb := hw0.nb
  obtain ⟨z0, z1, z6, z7, z8, z9, z10, z11, z12, z13, z14, z15, z16, z17⟩ := id hsh
  obtain ⟨y1, y6, y7, y8, y9, y10, y11, y12, y13, y14, y15, y16, y17⟩ := id hrf
  refine am_intro (by decide) (Nat.le_of_ble_eq_true rfl) ?_
  refine x_iload_n dX8_drawn_0 2 rfl rfl ?_
  refine x_callS (rest := []) (k_misWaves (G := G) (Sh := Sh) (I := I) (R := R) (n := n)) dX8_drawn_1 crc_X8_isWaves sc_8_258 rfl rfl (Nat.le_of_ble_eq_true rfl) (roomy_k (by omega) (by decide)) (Nat.le_refl _) (Nat.le_refl _) ?_
  rintro _ _ ⟨rv, rfl, hrv, rfl⟩
  subst hrv
  refine x_if_neB (tgt := 10) dX8_drawn_4 (by decide) (fun c_4 => ?_) (fun c_4 => ?_)
  · obtain ⟨k, hk, rfl⟩ := ahead_nat c_4
    refine x_aload_n dX8_drawn_10 0 rfl rfl ?_
    refine x_callV (k_keep (G := G) (I := I) hsh hrf) dX8_drawn_11 crc_X8_keep vc_8_265 z0 rfl rfl rfl rfl (Nat.le_of_ble_eq_true rfl) (roomy_k (by omega) (by decide)) (Nat.le_refl _) (Nat.le_refl _) ?_
    rintro _ _ ⟨rfl, J1, rfl, htk, hp1⟩
    have hs1 := hs.pv hp1
    have w1 := hmw.pv hp1
    refine x_aload_n dX8_drawn_14 0 rfl rfl ?_
    refine x_iload_n dX8_drawn_15 1 rfl rfl ?_
    refine x_iload_n dX8_drawn_16 2 rfl rfl ?_
    refine x_callV (k_mdraws (G := G) hmw hnb htk hs1 (s := s) (k := k) hk) dX8_drawn_17 crc_X8_draws vc_8_306 z0 rfl rfl rfl rfl (Nat.le_of_ble_eq_true rfl) (roomy_k (by omega) (by decide)) (Nat.le_refl _) (Nat.le_refl _) ?_
    rintro _ _ ⟨rfl, J2, rfl, htk, hs2⟩
    have w2 := htk.mw hmw
    refine x_aload_n dX8_drawn_20 0 rfl rfl ?_
    refine x_callV (k_mstanding (G := G) w2 hs2) dX8_drawn_21 crc_X8_standing vc_8_239 z0 rfl rfl rfl rfl (Nat.le_of_ble_eq_true rfl) (roomy_k (by omega) (by decide)) (Nat.le_refl _) (Nat.le_refl _) ?_
    rintro _ _ ⟨ra, rfl, hra, rfl⟩
    refine x_istore_n (lv' := [(3, .int ra), (0, .ref m), (1, .int s), (2, .int (nI k))]) dX8_drawn_24 rfl (by decide) rfl ?_
    refine x_aload_n dX8_drawn_25 1 rfl rfl ?_
    refine x_callV (k_again (G := G) hsh hrf (J := J2) htk) dX8_drawn_26 crc_X8_again vc_8_274 z0 rfl rfl rfl rfl (Nat.le_of_ble_eq_true rfl) (roomy_k (by omega) (by decide)) (Nat.le_refl _) (Nat.le_refl _) ?_
    rintro _ _ ⟨rfl, J9, rfl, hp9⟩
    refine x_iload_n dX8_drawn_29 0 rfl rfl ?_
    refine x_iret dX8_drawn_30 rfl (Nat.le_refl _) (Nat.le_refl _) ?_
    refine ⟨?_, J9, rfl, hp9⟩
    unfold drawnF
    rw [if_pos c_4, nI_clamp (by omega)]
    exact hra
  · refine x_bipush (v := (-2)) dX8_drawn_7 (by decide) ?_
    refine x_iret dX8_drawn_9 rfl (Nat.le_refl _) (Nat.le_refl _) ?_
    refine ⟨?_, I, rfl, pvM.rf⟩
    unfold drawnF
    rw [if_neg c_4]

theorem pvM_put {m k : Nat} {I J : HI} {f : Nat} {x : Int32} (e : J = u2 I (m + 1 + k) f x) : pvH m (m + 1 + k) f I J := by
  rw [e]
  exact pvM.rf.h.set
theorem wf4 {n i : Nat} {v : SV} (h : WF n v) (hi : i < n) : ∃ a, a < 100 ∧ v.1 i 4 = nI a := (h i hi).2.2.2.2

set_option maxHeartbeats 4000000 in
set_option maxRecDepth 100000 in
theorem k_mkeeps_l {G : GG} {Sh : HS} {I : HI} {R : HR} {m : Nat} {σ : SG} (hm0 : MI m Sh I R σ) (hw0 : WI σ) {i k h : Nat} (hi : i < gN σ) (hk : k ≤ 40) (hh : h < 100) (hhe : (gW σ).1 i 4 = nI h) (hak : aheadP (nI k)) : ∀ (m9 : Nat) (q9 : Nat) (mo fo : Int32) (J : HI), (q9 ≤ 100 - h) → (q9 < m9) → (mo = nI q9 - 1) → (fo = fsF (fun j => 0 < (passF (gP σ) (gN σ) (upV (gW σ) i 4 ((gW σ).1 i 4 + nI j)) k).1 i 4) (100 - h - q9) q9) → (pvH m (m + 1 + 4) i I J) → X G (kM G 7 0 0 (qi (qryM m Sh I R (keepsF σ (nI i) (nI k))))) yX8_keeps cX8_keeps 6 (some .int) 0 0 34 [(5, .int mo), (4, .int fo), (0, .ref m), (1, .int (nI i)), (2, .int (nI k)), (3, .int (nI h))] [] (Sh, J, R) := by
  intro m9
  induction m9 with
  | zero =>
    intro q9 mo fo J hq hm hmo hfo hph
    exact absurd hm (by omega)
  | succ m9 ih =>
    intro q9 mo fo J hq hm hmo hfo hph
    obtain ⟨hsh, hrf, ⟨hn, hn8⟩, hs, ⟨hru, hrt⟩, ⟨htc, htc6⟩, hmt, hmp, him, hse⟩ := id hm0
    have hmw := hm0.mw
    have hnb := hw0.nb
    obtain ⟨z0, z1, z6, z7, z8, z9, z10, z11, z12, z13, z14, z15, z16, z17⟩ := id hsh
    obtain ⟨y1, y6, y7, y8, y9, y10, y11, y12, y13, y14, y15, y16, y17⟩ := id hrf
    refine x_iload dX8_keeps_34 0 rfl ?_
    refine x_if_lt (tgt := 68) dX8_keeps_36 (by decide) (fun c_36 => ?_) (fun c_36 => ?_)
    · refine x_aload_n dX8_keeps_68 2 rfl rfl ?_
      refine x_gR (b := m + 1 + 4) dX8_keeps_69 fl_8_22 rfl z0 (y1 4 (by omega)) ?_
      refine x_iload_n dX8_keeps_72 3 rfl rfl ?_
      refine x_iload_n dX8_keeps_73 5 rfl rfl ?_
      refine x_is (j := i) dX8_keeps_74 (z1 4 (by omega)) rfl (by omega) (by omega) (fun Iq1 e_Iq1 => ?_)
      refine x_iload dX8_keeps_75 1 rfl ?_
      refine x_iret dX8_keeps_77 rfl (Nat.le_refl _) (Nat.le_refl _) ?_
      have hq0 : q9 = 0 := by
        cases q9 with
        | zero => rfl
        | succ q =>
          exfalso
          have z := hmo.trans (nI_pred q)
          rw [z] at c_36
          exact nI_pos (by omega) c_36
      subst hq0
      refine ⟨?_, Iq1, rfl, ?_⟩
      · unfold keepsF
        rw [idF_in hi hn8]
        dsimp only
        rw [if_pos hak, hfo, hhe, nI_clamp (by omega), nI_clamp (by omega)]
        rfl
      · rw [e_Iq1]
        exact (hph.set).fin (by rw [u2_same, hs.1 i hi 4 (by omega), hhe])
    · obtain ⟨q, rfl⟩ : ∃ q, q9 = q + 1 := by
        cases q9 with
        | zero => exact absurd (show mo < 0 by rw [hmo]; decide) c_36
        | succ q => exact ⟨q, rfl⟩
      have hmq : mo = nI q := hmo.trans (nI_pred q)
      subst hmq
      refine x_aload_n dX8_keeps_39 2 rfl rfl ?_
      refine x_gR (b := m + 1 + 4) dX8_keeps_40 fl_8_22 rfl z0 (y1 4 (by omega)) ?_
      refine x_iload_n dX8_keeps_43 3 rfl rfl ?_
      refine x_iload_n dX8_keeps_44 5 rfl rfl ?_
      refine x_iload dX8_keeps_45 0 rfl ?_
      refine x_iadd dX8_keeps_47 ?_
      refine x_vali (nI_add h q) ?_
      refine x_is (j := i) dX8_keeps_48 (z1 4 (by omega)) rfl (by omega) (by omega) (fun Iq2 e_Iq2 => ?_)
      refine x_aload_n dX8_keeps_49 2 rfl rfl ?_
      refine x_iload_n dX8_keeps_50 3 rfl rfl ?_
      refine x_iload_n dX8_keeps_51 4 rfl rfl ?_
      have hph2 : pvH m (m + 1 + 4) i I Iq2 := by
        rw [e_Iq2]
        exact hph.set
      refine x_callV (k_heightBehind (G := G) (hmw.h hph2 (by omega)) (hs.h hph2 (by omega) (x := nI (h + q)) (by rw [e_Iq2, u2_same])) (hnb.up (by decide)) (f := i) (k := k) hi hk) dX8_keeps_52 crc_X8_heightBehind vc_8_280 z0 rfl rfl rfl rfl (Nat.le_of_ble_eq_true rfl) (roomy_k (by omega) (by decide)) (Nat.le_refl _) (Nat.le_refl _) ?_
      rintro _ _ ⟨r9, rfl, hr9, J8, rfl, hp8⟩
      have hph := hph2
      refine x_if_le (tgt := 62) dX8_keeps_55 (by decide) (fun c_55 => ?_) (fun c_55 => ?_)
      · obtain ⟨xq3, e_xq3⟩ : ∃ z : Int32, z = nI q + (-1) := ⟨_, rfl⟩
        refine x_iinc (v := xq3) (lv' := [(5, .int xq3), (4, .int fo), (0, .ref m), (1, .int (nI i)), (2, .int (nI k)), (3, .int (nI h))]) dX8_keeps_62 0 rfl e_xq3.symm (by decide) rfl ?_
        refine x_goto (tgt := 34) dX8_keeps_65 (by decide) ?_
        refine x_sub [0, 1, 2, 3, 4, 5] rfl ?_
        exact ih q xq3 fo J8 (by omega) (by omega) (by rw [e_xq3]; exact (Int32.sub_eq_add_neg _ _).symm) (by
          rw [show 100 - h - q = (100 - h - (q + 1)) + 1 by omega]
          rw [hfo]
          exact (fs_f (p := (fun j => 0 < (passF (gP σ) (gN σ) (upV (gW σ) i 4 ((gW σ).1 i 4 + nI j)) k).1 i 4)) (s := q) (by show ¬ 0 < _; rw [hhe, nI_add, ← hr9]; exact Int32.not_lt.mpr c_55)).symm) (hph.tr hp8)
      · refine x_iload dX8_keeps_58 0 rfl ?_
        refine x_istore (lv' := [(4, .int (nI q)), (5, .int (nI q)), (0, .ref m), (1, .int (nI i)), (2, .int (nI k)), (3, .int (nI h))]) dX8_keeps_60 (by decide) rfl ?_
        obtain ⟨xq4, e_xq4⟩ : ∃ z : Int32, z = nI q + (-1) := ⟨_, rfl⟩
        refine x_iinc (v := xq4) (lv' := [(5, .int xq4), (4, .int (nI q)), (0, .ref m), (1, .int (nI i)), (2, .int (nI k)), (3, .int (nI h))]) dX8_keeps_62 1 rfl e_xq4.symm (by decide) rfl ?_
        refine x_goto (tgt := 34) dX8_keeps_65 (by decide) ?_
        refine x_sub [0, 1, 2, 3, 4, 5] rfl ?_
        exact ih q xq4 (nI q) J8 (by omega) (by omega) (by rw [e_xq4]; exact (Int32.sub_eq_add_neg _ _).symm) (by
          rw [show 100 - h - q = (100 - h - (q + 1)) + 1 by omega]
          exact (fs_t (p := (fun j => 0 < (passF (gP σ) (gN σ) (upV (gW σ) i 4 ((gW σ).1 i 4 + nI j)) k).1 i 4)) (s := q) (by show 0 < _; rw [hhe, nI_add, ← hr9]; exact Int32.not_le.mp c_55)).symm) (hph.tr hp8)

set_option maxHeartbeats 4000000 in
set_option maxRecDepth 100000 in
theorem k_mkeeps {G : GG} {Sh : HS} {I : HI} {R : HR} {m : Nat} {σ : SG} (hm0 : MI m Sh I R σ) (hw0 : WI σ) {f n : Int32} : AM G 7 0 0 yX8_keeps cX8_keeps 6 (some .int) [.ref m, .int f, .int n] (Sh, I, R) (qi (qryM m Sh I R (keepsF σ f n))) := by
  obtain ⟨hsh, hrf, ⟨hn, hn8⟩, hs, ⟨hru, hrt⟩, ⟨htc, htc6⟩, hmt, hmp, him, hse⟩ := id hm0
  have hmw := hm0.mw
  have hnb := hw0.nb
  obtain ⟨z0, z1, z6, z7, z8, z9, z10, z11, z12, z13, z14, z15, z16, z17⟩ := id hsh
  obtain ⟨y1, y6, y7, y8, y9, y10, y11, y12, y13, y14, y15, y16, y17⟩ := id hrf
  refine am_intro (by decide) (Nat.le_of_ble_eq_true rfl) ?_
  refine x_aload_n dX8_keeps_0 0 rfl rfl ?_
  refine x_iload_n dX8_keeps_1 1 rfl rfl ?_
  refine x_callV (k_misFort (G := G) (Sh := Sh) (I := I) (R := R) hsh hn hn8 (f := f)) dX8_keeps_2 crc_X8_isFort vc_8_102 z0 rfl rfl rfl rfl (Nat.le_of_ble_eq_true rfl) (roomy_k (by omega) (by decide)) (Nat.le_refl _) (Nat.le_refl _) ?_
  rintro _ _ ⟨ri, rfl, hri, rfl⟩
  subst hri
  refine x_if_eqB (tgt := 15) dX8_keeps_5 (by decide) (fun c_5 => ?_) (fun c_5 => ?_)
  · refine x_bipush (v := (-2)) dX8_keeps_15 (by decide) ?_
    refine x_iret dX8_keeps_17 rfl (Nat.le_refl _) (Nat.le_refl _) ?_
    refine ⟨?_, I, rfl, pvM.rf⟩
    unfold keepsF
    rw [Option.not_isSome_iff_eq_none.mp c_5]
  · refine x_iload_n dX8_keeps_8 2 rfl rfl ?_
    refine x_callS (rest := []) (k_misWaves (G := G) (Sh := Sh) (I := I) (R := R) (n := n)) dX8_keeps_9 crc_X8_isWaves sc_8_258 rfl rfl (Nat.le_of_ble_eq_true rfl) (roomy_k (by omega) (by decide)) (Nat.le_refl _) (Nat.le_refl _) ?_
    rintro _ _ ⟨rv, rfl, hrv, rfl⟩
    subst hrv
    refine x_if_neB (tgt := 18) dX8_keeps_12 (by decide) (fun c_12 => ?_) (fun c_12 => ?_)
    · obtain ⟨i, hid_i⟩ := Option.isSome_iff_exists.mp c_5
      obtain ⟨hi_i, hie_i⟩ := idF_some hn8 hid_i
      subst hie_i
      have hi := hi_i
      obtain ⟨k, hk, rfl⟩ := ahead_nat c_12
      obtain ⟨h, hh, hhe⟩ := wf4 hw0.1.1 hi
      refine x_aload_n dX8_keeps_18 0 rfl rfl ?_
      refine x_gR (b := m + 1 + 4) dX8_keeps_19 fl_8_22 rfl z0 (y1 4 (by omega)) ?_
      refine x_iload_n dX8_keeps_22 1 rfl rfl ?_
      refine x_ia (j := i) (v := nI h) dX8_keeps_23 (z1 4 (by omega)) rfl (by omega) (by omega) ((hs.1 i hi 4 (by omega)).trans hhe) ?_
      refine x_istore_n (lv' := [(3, .int (nI h)), (0, .ref m), (1, .int (nI i)), (2, .int (nI k))]) dX8_keeps_24 rfl (by decide) rfl ?_
      refine x_iconst (v := (-1)) dX8_keeps_25 (by decide) ?_
      refine x_istore (lv' := [(4, .int (-1)), (3, .int (nI h)), (0, .ref m), (1, .int (nI i)), (2, .int (nI k))]) dX8_keeps_26 (by decide) rfl ?_
      refine x_bipush (v := 99) dX8_keeps_28 (by decide) ?_
      refine x_iload_n dX8_keeps_30 1 rfl rfl ?_
      refine x_isub dX8_keeps_31 ?_
      refine x_topi (fun xq1 e_xq1 => ?_)
      refine x_istore (lv' := [(5, .int xq1), (4, .int (-1)), (3, .int (nI h)), (0, .ref m), (1, .int (nI i)), (2, .int (nI k))]) dX8_keeps_32 (by decide) rfl ?_
      refine x_sub [0, 1, 3, 4, 5, 2] rfl ?_
      exact k_mkeeps_l hm0 hw0 hi hk hh hhe c_12 (100 - h + 1) (100 - h) xq1 (-1) I (by omega) (by omega) (by rw [e_xq1, show (99 : Int32) = nI 99 from rfl, pk_sub (by omega), show 100 - h = (99 - h) + 1 by omega, nI_pred]) (by rw [Nat.sub_self]; rfl) pvM.rf.h
    · refine x_bipush (v := (-2)) dX8_keeps_15 (by decide) ?_
      refine x_iret dX8_keeps_17 rfl (Nat.le_refl _) (Nat.le_refl _) ?_
      refine ⟨?_, I, rfl, pvM.rf⟩
      unfold keepsF
      obtain ⟨i, hid⟩ := Option.isSome_iff_exists.mp c_5
      rw [hid]
      dsimp only
      rw [if_neg c_12]

set_option maxHeartbeats 4000000 in
set_option maxRecDepth 100000 in
theorem k_mbest_l {G : GG} {Sh : HS} {I : HI} {R : HR} {m : Nat} {σ : SG} (hm0 : MI m Sh I R σ) (hw0 : WI σ) {i k : Nat} (hi : i < gN σ) (hk : k ≤ 40) {wh hd : Int32} (hhd : hd = I (m + 1 + 2) i) : ∀ (m9 : Nat) (p : Nat) (mo fo : Int32) (J : HI), (p ≤ 16) → (16 < p + m9) → ((fo, mo) = bestG σ i k p) → (pvH m (m + 1 + 2) i I J) → X G (kM G 7 0 0 (qi (qryM m Sh I R (if wh = 0 then (bestG σ i k 16).1 else (bestG σ i k 16).2)))) yX8_best cX8_best 9 (some .int) 0 0 44 [(7, .int (nI p)), (6, .int mo), (5, .int fo), (4, .int hd), (0, .ref m), (1, .int (nI i)), (2, .int (nI k)), (3, .int wh)] [] (Sh, J, R) := by
  intro m9
  induction m9 with
  | zero =>
    intro p mo fo J hp hm hbg hph
    exact absurd hm (by omega)
  | succ m9 ih =>
    intro p mo fo J hp hm hbg hph
    obtain ⟨hsh, hrf, ⟨hn, hn8⟩, hs, ⟨hru, hrt⟩, ⟨htc, htc6⟩, hmt, hmp, him, hse⟩ := id hm0
    have hmw := hm0.mw
    have hnb := hw0.nb
    obtain ⟨z0, z1, z6, z7, z8, z9, z10, z11, z12, z13, z14, z15, z16, z17⟩ := id hsh
    obtain ⟨y1, y6, y7, y8, y9, y10, y11, y12, y13, y14, y15, y16, y17⟩ := id hrf
    refine x_iload dX8_best_44 0 rfl ?_
    refine x_bipush (v := nI 16) dX8_best_46 (by decide) ?_
    refine x_icmp_ge (tgt := 91) dX8_best_48 (by decide) (fun c_48 => ?_) (fun c_48 => ?_)
    · have c_48 : 16 ≤ p := (nI_leI (a := 16) (b := p) (by omega) (by omega)).mp c_48
      refine x_aload_n dX8_best_91 4 rfl rfl ?_
      refine x_gR (b := m + 1 + 2) dX8_best_92 fl_8_16 rfl z0 (y1 2 (by omega)) ?_
      refine x_iload_n dX8_best_95 5 rfl rfl ?_
      refine x_iload dX8_best_96 3 rfl ?_
      refine x_is (j := i) dX8_best_98 (z1 2 (by omega)) rfl (by omega) (by omega) (fun Iq1 e_Iq1 => ?_)
      refine x_iload_n dX8_best_99 7 rfl rfl ?_
      refine x_if_ne (tgt := 108) dX8_best_100 (by decide) (fun c_100 => ?_) (fun c_100 => ?_)
      · refine x_iload dX8_best_108 1 rfl ?_
        refine x_iret dX8_best_110 rfl (Nat.le_refl _) (Nat.le_refl _) ?_
        have hp16 : p = 16 := by omega
        subst hp16
        refine ⟨?_, Iq1, rfl, ?_⟩
        · rw [if_neg c_100, ← hbg]
        · rw [e_Iq1]
          exact (hph.set).fin (by rw [u2_same, hhd])
      · refine x_iload dX8_best_103 2 rfl ?_
        refine x_goto (tgt := 110) dX8_best_105 (by decide) ?_
        refine x_iret dX8_best_110 rfl (Nat.le_refl _) (Nat.le_refl _) ?_
        have hp16 : p = 16 := by omega
        subst hp16
        refine ⟨?_, Iq1, rfl, ?_⟩
        · rw [if_pos c_100, ← hbg]
        · rw [e_Iq1]
          exact (hph.set).fin (by rw [u2_same, hhd])
    · have c_48 : ¬ 16 ≤ p := fun zz9 => c_48 ((nI_leI (a := 16) (b := p) (by omega) (by omega)).mpr zz9)
      refine x_aload_n dX8_best_51 4 rfl rfl ?_
      refine x_gR (b := m + 1 + 2) dX8_best_52 fl_8_16 rfl z0 (y1 2 (by omega)) ?_
      refine x_iload_n dX8_best_55 5 rfl rfl ?_
      refine x_iload dX8_best_56 0 rfl ?_
      refine x_is (j := i) dX8_best_58 (z1 2 (by omega)) rfl (by omega) (by omega) (fun Iq2 e_Iq2 => ?_)
      refine x_aload_n dX8_best_59 4 rfl rfl ?_
      refine x_iload_n dX8_best_60 5 rfl rfl ?_
      refine x_iload_n dX8_best_61 6 rfl rfl ?_
      have hph2 : pvH m (m + 1 + 2) i I Iq2 := by
        rw [e_Iq2]
        exact hph.set
      refine x_callV (k_heightBehind (G := G) (hmw.h hph2 (by omega)) (hs.h hph2 (by omega) (x := nI p) (by rw [e_Iq2, u2_same])) (hnb.up (by decide)) (f := i) (k := k) hi hk) dX8_best_62 crc_X8_heightBehind vc_8_280 z0 rfl rfl rfl rfl (Nat.le_of_ble_eq_true rfl) (roomy_k (by omega) (by decide)) (Nat.le_refl _) (Nat.le_refl _) ?_
      rintro _ _ ⟨r9, rfl, hr9, J8, rfl, hp8⟩
      have hph := hph2
      refine x_istore (lv' := [(8, .int r9), (7, .int (nI p)), (6, .int mo), (5, .int fo), (4, .int hd), (0, .ref m), (1, .int (nI i)), (2, .int (nI k)), (3, .int wh)]) dX8_best_65 (by decide) rfl ?_
      refine x_iload dX8_best_67 0 rfl ?_
      refine x_iload dX8_best_69 2 rfl ?_
      refine x_icmp_gt (tgt := 77) dX8_best_71 (by decide) (fun c_71 => ?_) (fun c_71 => ?_)
      · refine x_iload dX8_best_77 0 rfl ?_
        refine x_istore (lv' := [(6, .int r9), (8, .int r9), (7, .int (nI p)), (5, .int fo), (4, .int hd), (0, .ref m), (1, .int (nI i)), (2, .int (nI k)), (3, .int wh)]) dX8_best_79 (by decide) rfl ?_
        refine x_iload dX8_best_81 2 rfl ?_
        refine x_istore (lv' := [(5, .int (nI p)), (6, .int r9), (8, .int r9), (7, .int (nI p)), (4, .int hd), (0, .ref m), (1, .int (nI i)), (2, .int (nI k)), (3, .int wh)]) dX8_best_83 (by decide) rfl ?_
        refine x_iinc (v := nI (p + 1)) (lv' := [(7, .int (nI (p + 1))), (5, .int (nI p)), (6, .int r9), (8, .int r9), (4, .int hd), (0, .ref m), (1, .int (nI i)), (2, .int (nI k)), (3, .int wh)]) dX8_best_85 3 rfl (nI_1 p) (by decide) rfl ?_
        refine x_goto (tgt := 44) dX8_best_88 (by decide) ?_
        refine x_sub [0, 2, 1, 4, 5, 6, 7, 8] rfl ?_
        exact ih (p + 1) r9 (nI p) J8 (by omega) (by omega) (by
          unfold bestG at *
          rw [fd_s, ← hbg]
          rw [if_pos (by show _ < _; rw [← hr9]; exact c_71), ← hr9]) (hph.tr hp8)
      · refine x_goto (tgt := 85) dX8_best_74 (by decide) ?_
        refine x_iinc (v := nI (p + 1)) (lv' := [(7, .int (nI (p + 1))), (8, .int r9), (6, .int mo), (5, .int fo), (4, .int hd), (0, .ref m), (1, .int (nI i)), (2, .int (nI k)), (3, .int wh)]) dX8_best_85 1 rfl (nI_1 p) (by decide) rfl ?_
        refine x_goto (tgt := 44) dX8_best_88 (by decide) ?_
        refine x_sub [0, 2, 3, 4, 5, 6, 7, 8] rfl ?_
        exact ih (p + 1) mo fo J8 (by omega) (by omega) (by
          unfold bestG at *
          rw [fd_s, ← hbg]
          rw [if_neg (by show ¬ _ < _; rw [← hr9]; exact c_71)]) (hph.tr hp8)

theorem ans_in {w : Int32} (h : ansP w) : 0 ≤ w ∧ w ≤ 1 := by
  rcases h with rfl | rfl <;> decide
theorem ans_of {w : Int32} (h : 0 ≤ w ∧ w ≤ 1) : ansP w := by
  obtain ⟨a, ha, rfl⟩ := nI_of2 (M := 1) (n := 1) (by decide) (Int32.not_lt.mpr h.1) h.2
  have : a = 0 ∨ a = 1 := by omega
  rcases this with rfl | rfl
  · exact Or.inl rfl
  · exact Or.inr rfl

set_option maxHeartbeats 4000000 in
set_option maxRecDepth 100000 in
theorem k_mbest {G : GG} {Sh : HS} {I : HI} {R : HR} {m : Nat} {σ : SG} (hm0 : MI m Sh I R σ) (hw0 : WI σ) {f n w : Int32} : AM G 7 0 0 yX8_best cX8_best 9 (some .int) [.ref m, .int f, .int n, .int w] (Sh, I, R) (qi (qryM m Sh I R (bestF σ f n w))) := by
  obtain ⟨hsh, hrf, ⟨hn, hn8⟩, hs, ⟨hru, hrt⟩, ⟨htc, htc6⟩, hmt, hmp, him, hse⟩ := id hm0
  have hmw := hm0.mw
  have hnb := hw0.nb
  obtain ⟨z0, z1, z6, z7, z8, z9, z10, z11, z12, z13, z14, z15, z16, z17⟩ := id hsh
  obtain ⟨y1, y6, y7, y8, y9, y10, y11, y12, y13, y14, y15, y16, y17⟩ := id hrf
  refine am_intro (by decide) (Nat.le_of_ble_eq_true rfl) ?_
  refine x_aload_n dX8_best_0 0 rfl rfl ?_
  refine x_iload_n dX8_best_1 1 rfl rfl ?_
  refine x_callV (k_misFort (G := G) (Sh := Sh) (I := I) (R := R) hsh hn hn8 (f := f)) dX8_best_2 crc_X8_isFort vc_8_102 z0 rfl rfl rfl rfl (Nat.le_of_ble_eq_true rfl) (roomy_k (by omega) (by decide)) (Nat.le_refl _) (Nat.le_refl _) ?_
  rintro _ _ ⟨ri, rfl, hri, rfl⟩
  subst hri
  refine x_if_eqB (tgt := 24) dX8_best_5 (by decide) (fun c_5 => ?_) (fun c_5 => ?_)
  · refine x_bipush (v := (-2)) dX8_best_24 (by decide) ?_
    refine x_iret dX8_best_26 rfl (Nat.le_refl _) (Nat.le_refl _) ?_
    refine ⟨?_, I, rfl, pvM.rf⟩
    unfold bestF
    rw [Option.not_isSome_iff_eq_none.mp c_5]
  · refine x_iload_n dX8_best_8 2 rfl rfl ?_
    refine x_callS (rest := []) (k_misWaves (G := G) (Sh := Sh) (I := I) (R := R) (n := n)) dX8_best_9 crc_X8_isWaves sc_8_258 rfl rfl (Nat.le_of_ble_eq_true rfl) (roomy_k (by omega) (by decide)) (Nat.le_refl _) (Nat.le_refl _) ?_
    rintro _ _ ⟨rv, rfl, hrv, rfl⟩
    subst hrv
    refine x_if_eqB (tgt := 24) dX8_best_12 (by decide) (fun c_12 => ?_) (fun c_12 => ?_)
    · refine x_bipush (v := (-2)) dX8_best_24 (by decide) ?_
      refine x_iret dX8_best_26 rfl (Nat.le_refl _) (Nat.le_refl _) ?_
      refine ⟨?_, I, rfl, pvM.rf⟩
      unfold bestF
      obtain ⟨i, hid⟩ := Option.isSome_iff_exists.mp c_5
      rw [hid]
      dsimp only
      rw [if_neg (fun z => c_12 z.1)]
    · refine x_iload_n dX8_best_15 3 rfl rfl ?_
      refine x_iconst (v := 0) dX8_best_16 (by decide) ?_
      refine x_iconst (v := 1) dX8_best_17 (by decide) ?_
      refine x_callS (rest := []) (k_mwithin (G := G) (Sh := Sh) (I := I) (R := R) (v := w) (lo := 0) (hi := 1)) dX8_best_18 crc_X8_within sc_8_82 rfl rfl (Nat.le_of_ble_eq_true rfl) (roomy_k (by omega) (by decide)) (Nat.le_refl _) (Nat.le_refl _) ?_
      rintro _ _ ⟨rw, rfl, hrw, rfl⟩
      subst hrw
      refine x_if_neB (tgt := 27) dX8_best_21 (by decide) (fun c_21 => ?_) (fun c_21 => ?_)
      · obtain ⟨i, hid_i⟩ := Option.isSome_iff_exists.mp c_5
        obtain ⟨hi_i, hie_i⟩ := idF_some hn8 hid_i
        subst hie_i
        have hi := hi_i
        obtain ⟨k, hk, rfl⟩ := ahead_nat c_12
        refine x_aload_n dX8_best_27 0 rfl rfl ?_
        refine x_gR (b := m + 1 + 2) dX8_best_28 fl_8_16 rfl z0 (y1 2 (by omega)) ?_
        refine x_iload_n dX8_best_31 1 rfl rfl ?_
        refine x_ia (j := i) (v := I (m + 1 + 2) i) dX8_best_32 (z1 2 (by omega)) rfl (by omega) (by omega) rfl ?_
        refine x_topi (fun xq1 e_xq1 => ?_)
        refine x_istore (lv' := [(4, .int xq1), (0, .ref m), (1, .int (nI i)), (2, .int (nI k)), (3, .int w)]) dX8_best_33 (by decide) rfl ?_
        refine x_iconst (v := 0) dX8_best_35 (by decide) ?_
        refine x_istore (lv' := [(5, .int 0), (4, .int xq1), (0, .ref m), (1, .int (nI i)), (2, .int (nI k)), (3, .int w)]) dX8_best_36 (by decide) rfl ?_
        refine x_iconst (v := (-1)) dX8_best_38 (by decide) ?_
        refine x_istore (lv' := [(6, .int (-1)), (5, .int 0), (4, .int xq1), (0, .ref m), (1, .int (nI i)), (2, .int (nI k)), (3, .int w)]) dX8_best_39 (by decide) rfl ?_
        refine x_iconst (v := nI 0) dX8_best_41 (by decide) ?_
        refine x_istore (lv' := [(7, .int (nI 0)), (6, .int (-1)), (5, .int 0), (4, .int xq1), (0, .ref m), (1, .int (nI i)), (2, .int (nI k)), (3, .int w)]) dX8_best_42 (by decide) rfl ?_
        refine x_sub [0, 1, 2, 3, 4, 5, 6, 7] rfl ?_
        have hfin : bestF σ (nI i) (nI k) w = if w = 0 then (bestG σ i k 16).1 else (bestG σ i k 16).2 := by
          unfold bestF
          rw [idF_in hi hn8]
          dsimp only
          rw [if_pos ⟨c_12, ans_of c_21⟩, nI_clamp (by omega)]
        rw [hfin]
        exact k_mbest_l hm0 hw0 hi hk (wh := w) (hd := xq1) e_xq1 17 0 (-1) 0 I (by omega) (by omega) rfl pvM.rf.h
      · refine x_bipush (v := (-2)) dX8_best_24 (by decide) ?_
        refine x_iret dX8_best_26 rfl (Nat.le_refl _) (Nat.le_refl _) ?_
        refine ⟨?_, I, rfl, pvM.rf⟩
        unfold bestF
        obtain ⟨i, hid⟩ := Option.isSome_iff_exists.mp c_5
        rw [hid]
        dsimp only
        rw [if_neg (fun z => c_21 (ans_in z.2))]

set_option maxHeartbeats 4000000 in
set_option maxRecDepth 100000 in
theorem k_mmatters_l {G : GG} {Sh : HS} {I : HI} {R : HR} {m : Nat} {σ : SG} (hm0 : MI m Sh I R σ) (hw0 : WI σ) {i k : Nat} (hi : i < gN σ) (hk : k ≤ 40) {wh : Int32} : ∀ (m9 : Nat) (q : Nat) (le fo : Int32) (J : HI), (q ≤ gN σ) → (gN σ < q + m9) → ((fo, le) = mattG σ i k q) → (pvM m I J) → X G (kM G 7 0 0 (qi (qryM m Sh I R (if wh = 0 then (mattG σ i k (gN σ)).1 else (mattG σ i k (gN σ)).2)))) yX8_matters cX8_matters 9 (some .int) 0 0 41 [(6, .int (nI q)), (5, .int le), (4, .int fo), (0, .ref m), (1, .int (nI i)), (2, .int (nI k)), (3, .int wh)] [] (Sh, J, R) := by
  intro m9
  induction m9 with
  | zero =>
    intro q le fo J hq hm hmg hpv
    exact absurd hm (by omega)
  | succ m9 ih =>
    intro q le fo J hq hm hmg hpv
    obtain ⟨hsh, hrf, ⟨hn, hn8⟩, hs, ⟨hru, hrt⟩, ⟨htc, htc6⟩, hmt, hmp, him, hse⟩ := id hm0
    have hmw := hm0.mw
    have hnb := hw0.nb
    obtain ⟨z0, z1, z6, z7, z8, z9, z10, z11, z12, z13, z14, z15, z16, z17⟩ := id hsh
    obtain ⟨y1, y6, y7, y8, y9, y10, y11, y12, y13, y14, y15, y16, y17⟩ := id hrf
    refine x_iload dX8_matters_41 0 rfl ?_
    refine x_aload_n dX8_matters_43 3 rfl rfl ?_
    refine x_gI (v := nI (gN σ)) dX8_matters_44 fl_8_79 rfl z0 ((hpv _ _ (by unfold prM; omega)).trans hn) ?_
    refine x_icmp_ge (tgt := 133) dX8_matters_47 (by decide) (fun c_47 => ?_) (fun c_47 => ?_)
    · have c_47 : (gN σ) ≤ q := (nI_leI (a := (gN σ)) (b := q) (by omega) (by omega)).mp c_47
      refine x_iload_n dX8_matters_133 6 rfl rfl ?_
      refine x_if_ne (tgt := 142) dX8_matters_134 (by decide) (fun c_134 => ?_) (fun c_134 => ?_)
      · refine x_iload dX8_matters_142 1 rfl ?_
        refine x_iret dX8_matters_144 rfl (Nat.le_refl _) (Nat.le_refl _) ?_
        have hqn : q = gN σ := by omega
        subst hqn
        refine ⟨?_, J, rfl, hpv⟩
        rw [if_neg c_134, ← hmg]
      · refine x_iload dX8_matters_137 2 rfl ?_
        refine x_goto (tgt := 144) dX8_matters_139 (by decide) ?_
        refine x_iret dX8_matters_144 rfl (Nat.le_refl _) (Nat.le_refl _) ?_
        have hqn : q = gN σ := by omega
        subst hqn
        refine ⟨?_, J, rfl, hpv⟩
        rw [if_pos c_134, ← hmg]
    · have c_47 : ¬ (gN σ) ≤ q := fun zz9 => c_47 ((nI_leI (a := (gN σ)) (b := q) (by omega) (by omega)).mpr zz9)
      refine x_iload dX8_matters_50 0 rfl ?_
      refine x_iload_n dX8_matters_52 4 rfl rfl ?_
      refine x_icmp_eq (tgt := 127) dX8_matters_53 (by decide) (fun c_53 => ?_) (fun c_53 => ?_)
      · have c_53 : q = i := (nI_eq (a := q) (b := i) (by omega) (by omega)).mp c_53
        refine x_iinc (v := nI (q + 1)) (lv' := [(6, .int (nI (q + 1))), (5, .int le), (4, .int fo), (0, .ref m), (1, .int (nI i)), (2, .int (nI k)), (3, .int wh)]) dX8_matters_127 0 rfl (nI_1 q) (by decide) rfl ?_
        refine x_goto (tgt := 41) dX8_matters_130 (by decide) ?_
        refine x_sub [0, 1, 2, 3, 4, 5, 6] rfl ?_
        exact ih (q + 1) le fo J (by omega) (by omega) (by
          unfold mattG at *
          rw [fd_s, ← hmg]
          rw [if_pos (Or.inl c_53)]) hpv
      · have c_53 : ¬ q = i := fun zz9 => c_53 ((nI_eq (a := q) (b := i) (by omega) (by omega)).mpr zz9)
        refine x_aload_n dX8_matters_56 3 rfl rfl ?_
        refine x_gR (b := m + 1 + 3) dX8_matters_57 fl_8_19 rfl z0 (y1 3 (by omega)) ?_
        refine x_iload dX8_matters_60 0 rfl ?_
        refine x_ia (j := q) (v := (gW σ).1 q 3) dX8_matters_62 (z1 3 (by omega)) rfl (by omega) (by omega) ((hs.pv hpv).1 q (by omega) 3 (by omega)) ?_
        refine x_aload_n dX8_matters_63 3 rfl rfl ?_
        refine x_gR (b := m + 1 + 3) dX8_matters_64 fl_8_19 rfl z0 (y1 3 (by omega)) ?_
        refine x_iload_n dX8_matters_67 4 rfl rfl ?_
        refine x_ia (j := i) (v := (gW σ).1 i 3) dX8_matters_68 (z1 3 (by omega)) rfl (by omega) (by omega) ((hs.pv hpv).1 i hi 3 (by omega)) ?_
        refine x_icmp_eq (tgt := 75) dX8_matters_69 (by decide) (fun c_69 => ?_) (fun c_69 => ?_)
        · refine x_aload_n dX8_matters_75 3 rfl rfl ?_
          refine x_gR (b := m + 1 + 4) dX8_matters_76 fl_8_22 rfl z0 (y1 4 (by omega)) ?_
          refine x_iload dX8_matters_79 0 rfl ?_
          refine x_ia (j := q) (v := J (m + 1 + 4) q) dX8_matters_81 (z1 4 (by omega)) rfl (by omega) (by omega) rfl ?_
          refine x_topi (fun xq1 e_xq1 => ?_)
          refine x_istore (lv' := [(7, .int xq1), (6, .int (nI q)), (5, .int le), (4, .int fo), (0, .ref m), (1, .int (nI i)), (2, .int (nI k)), (3, .int wh)]) dX8_matters_82 (by decide) rfl ?_
          refine x_aload_n dX8_matters_84 4 rfl rfl ?_
          refine x_gR (b := m + 1 + 4) dX8_matters_85 fl_8_22 rfl z0 (y1 4 (by omega)) ?_
          refine x_iload dX8_matters_88 1 rfl ?_
          refine x_iconst (v := 0) dX8_matters_90 (by decide) ?_
          refine x_is (j := q) dX8_matters_91 (z1 4 (by omega)) rfl (by omega) (by omega) (fun Iq2 e_Iq2 => ?_)
          refine x_aload_n dX8_matters_92 4 rfl rfl ?_
          refine x_iload_n dX8_matters_93 5 rfl rfl ?_
          refine x_iload_n dX8_matters_94 6 rfl rfl ?_
          have hph : pvH m (m + 1 + 4) q I Iq2 := by
            rw [e_Iq2]
            exact hpv.h.set
          refine x_callV (k_heightBehind (G := G) (hmw.h hph (by omega)) (hs.h hph (by omega) (x := 0) (by rw [e_Iq2, u2_same])) (hnb.up (by decide)) (f := i) (k := k) hi hk) dX8_matters_95 crc_X8_heightBehind vc_8_280 z0 rfl rfl rfl rfl (Nat.le_of_ble_eq_true rfl) (roomy_k (by omega) (by decide)) (Nat.le_refl _) (Nat.le_refl _) ?_
          rintro _ _ ⟨r9, rfl, hr9, J8, rfl, hp8⟩
          refine x_istore (lv' := [(8, .int r9), (7, .int xq1), (6, .int (nI q)), (5, .int le), (4, .int fo), (0, .ref m), (1, .int (nI i)), (2, .int (nI k)), (3, .int wh)]) dX8_matters_98 (by decide) rfl ?_
          refine x_aload_n dX8_matters_100 5 rfl rfl ?_
          refine x_gR (b := m + 1 + 4) dX8_matters_101 fl_8_22 rfl z0 (y1 4 (by omega)) ?_
          refine x_iload dX8_matters_104 2 rfl ?_
          refine x_iload dX8_matters_106 1 rfl ?_
          refine x_is (j := q) dX8_matters_108 (z1 4 (by omega)) rfl (by omega) (by omega) (fun Iq3 e_Iq3 => ?_)
          refine x_iload dX8_matters_109 0 rfl ?_
          refine x_iload dX8_matters_111 3 rfl ?_
          refine x_icmp_lt (tgt := 119) dX8_matters_113 (by decide) (fun c_113 => ?_) (fun c_113 => ?_)
          · refine x_iload dX8_matters_119 0 rfl ?_
            refine x_istore (lv' := [(5, .int r9), (8, .int r9), (7, .int xq1), (6, .int (nI q)), (4, .int fo), (0, .ref m), (1, .int (nI i)), (2, .int (nI k)), (3, .int wh)]) dX8_matters_121 (by decide) rfl ?_
            refine x_iload dX8_matters_123 3 rfl ?_
            refine x_istore (lv' := [(4, .int (nI q)), (5, .int r9), (8, .int r9), (7, .int xq1), (6, .int (nI q)), (0, .ref m), (1, .int (nI i)), (2, .int (nI k)), (3, .int wh)]) dX8_matters_125 (by decide) rfl ?_
            refine x_iinc (v := nI (q + 1)) (lv' := [(6, .int (nI (q + 1))), (4, .int (nI q)), (5, .int r9), (8, .int r9), (7, .int xq1), (0, .ref m), (1, .int (nI i)), (2, .int (nI k)), (3, .int wh)]) dX8_matters_127 4 rfl (nI_1 q) (by decide) rfl ?_
            refine x_goto (tgt := 41) dX8_matters_130 (by decide) ?_
            refine x_sub [0, 2, 1, 5, 6, 7, 8] rfl ?_
            have hpv9 : pvM m I Iq3 := by
              rw [e_Iq3]
              exact ((hph.tr hp8).set).fin (by rw [u2_same]; exact (e_xq1 ▸ hpv _ _ (by unfold prM; omega)))
            exact ih (q + 1) r9 (nI q) Iq3 (by omega) (by omega) (by
              unfold mattG at *
              rw [fd_s, ← hmg]
              rw [if_neg (fun z => z.elim c_53 (fun z => z c_69))]
              rw [if_pos (by show _ < _; rw [← hr9]; exact c_113), ← hr9]) hpv9
          · refine x_goto (tgt := 127) dX8_matters_116 (by decide) ?_
            refine x_iinc (v := nI (q + 1)) (lv' := [(6, .int (nI (q + 1))), (8, .int r9), (7, .int xq1), (5, .int le), (4, .int fo), (0, .ref m), (1, .int (nI i)), (2, .int (nI k)), (3, .int wh)]) dX8_matters_127 2 rfl (nI_1 q) (by decide) rfl ?_
            refine x_goto (tgt := 41) dX8_matters_130 (by decide) ?_
            refine x_sub [0, 3, 4, 5, 6, 7, 8] rfl ?_
            have hpv9 : pvM m I Iq3 := by
              rw [e_Iq3]
              exact ((hph.tr hp8).set).fin (by rw [u2_same]; exact (e_xq1 ▸ hpv _ _ (by unfold prM; omega)))
            exact ih (q + 1) le fo Iq3 (by omega) (by omega) (by
              unfold mattG at *
              rw [fd_s, ← hmg]
              rw [if_neg (fun z => z.elim c_53 (fun z => z c_69))]
              rw [if_neg (by show ¬ _ < _; rw [← hr9]; exact c_113)]) hpv9
        · refine x_goto (tgt := 127) dX8_matters_72 (by decide) ?_
          refine x_iinc (v := nI (q + 1)) (lv' := [(6, .int (nI (q + 1))), (5, .int le), (4, .int fo), (0, .ref m), (1, .int (nI i)), (2, .int (nI k)), (3, .int wh)]) dX8_matters_127 0 rfl (nI_1 q) (by decide) rfl ?_
          refine x_goto (tgt := 41) dX8_matters_130 (by decide) ?_
          refine x_sub [0, 1, 2, 3, 4, 5, 6] rfl ?_
          exact ih (q + 1) le fo J (by omega) (by omega) (by
            unfold mattG at *
            rw [fd_s, ← hmg]
            rw [if_pos (Or.inr c_69)]) hpv

set_option maxHeartbeats 4000000 in
set_option maxRecDepth 100000 in
theorem k_mmatters {G : GG} {Sh : HS} {I : HI} {R : HR} {m : Nat} {σ : SG} (hm0 : MI m Sh I R σ) (hw0 : WI σ) {f n w : Int32} : AM G 7 0 0 yX8_matters cX8_matters 9 (some .int) [.ref m, .int f, .int n, .int w] (Sh, I, R) (qi (qryM m Sh I R (mattersF σ f n w))) := by
  obtain ⟨hsh, hrf, ⟨hn, hn8⟩, hs, ⟨hru, hrt⟩, ⟨htc, htc6⟩, hmt, hmp, him, hse⟩ := id hm0
  have hmw := hm0.mw
  have hnb := hw0.nb
  obtain ⟨z0, z1, z6, z7, z8, z9, z10, z11, z12, z13, z14, z15, z16, z17⟩ := id hsh
  obtain ⟨y1, y6, y7, y8, y9, y10, y11, y12, y13, y14, y15, y16, y17⟩ := id hrf
  refine am_intro (by decide) (Nat.le_of_ble_eq_true rfl) ?_
  refine x_aload_n dX8_matters_0 0 rfl rfl ?_
  refine x_iload_n dX8_matters_1 1 rfl rfl ?_
  refine x_callV (k_misFort (G := G) (Sh := Sh) (I := I) (R := R) hsh hn hn8 (f := f)) dX8_matters_2 crc_X8_isFort vc_8_102 z0 rfl rfl rfl rfl (Nat.le_of_ble_eq_true rfl) (roomy_k (by omega) (by decide)) (Nat.le_refl _) (Nat.le_refl _) ?_
  rintro _ _ ⟨ri, rfl, hri, rfl⟩
  subst hri
  refine x_if_eqB (tgt := 24) dX8_matters_5 (by decide) (fun c_5 => ?_) (fun c_5 => ?_)
  · refine x_bipush (v := (-2)) dX8_matters_24 (by decide) ?_
    refine x_iret dX8_matters_26 rfl (Nat.le_refl _) (Nat.le_refl _) ?_
    refine ⟨?_, I, rfl, pvM.rf⟩
    unfold mattersF
    rw [Option.not_isSome_iff_eq_none.mp c_5]
  · refine x_iload_n dX8_matters_8 2 rfl rfl ?_
    refine x_callS (rest := []) (k_misWaves (G := G) (Sh := Sh) (I := I) (R := R) (n := n)) dX8_matters_9 crc_X8_isWaves sc_8_258 rfl rfl (Nat.le_of_ble_eq_true rfl) (roomy_k (by omega) (by decide)) (Nat.le_refl _) (Nat.le_refl _) ?_
    rintro _ _ ⟨rv, rfl, hrv, rfl⟩
    subst hrv
    refine x_if_eqB (tgt := 24) dX8_matters_12 (by decide) (fun c_12 => ?_) (fun c_12 => ?_)
    · refine x_bipush (v := (-2)) dX8_matters_24 (by decide) ?_
      refine x_iret dX8_matters_26 rfl (Nat.le_refl _) (Nat.le_refl _) ?_
      refine ⟨?_, I, rfl, pvM.rf⟩
      unfold mattersF
      obtain ⟨i, hid⟩ := Option.isSome_iff_exists.mp c_5
      rw [hid]
      dsimp only
      rw [if_neg (fun z => c_12 z.1)]
    · refine x_iload_n dX8_matters_15 3 rfl rfl ?_
      refine x_iconst (v := 0) dX8_matters_16 (by decide) ?_
      refine x_iconst (v := 1) dX8_matters_17 (by decide) ?_
      refine x_callS (rest := []) (k_mwithin (G := G) (Sh := Sh) (I := I) (R := R) (v := w) (lo := 0) (hi := 1)) dX8_matters_18 crc_X8_within sc_8_82 rfl rfl (Nat.le_of_ble_eq_true rfl) (roomy_k (by omega) (by decide)) (Nat.le_refl _) (Nat.le_refl _) ?_
      rintro _ _ ⟨rw, rfl, hrw, rfl⟩
      subst hrw
      refine x_if_neB (tgt := 27) dX8_matters_21 (by decide) (fun c_21 => ?_) (fun c_21 => ?_)
      · obtain ⟨i, hid_i⟩ := Option.isSome_iff_exists.mp c_5
        obtain ⟨hi_i, hie_i⟩ := idF_some hn8 hid_i
        subst hie_i
        have hi := hi_i
        obtain ⟨k, hk, rfl⟩ := ahead_nat c_12
        refine x_iconst (v := (-1)) dX8_matters_27 (by decide) ?_
        refine x_istore (lv' := [(4, .int (-1)), (0, .ref m), (1, .int (nI i)), (2, .int (nI k)), (3, .int w)]) dX8_matters_28 (by decide) rfl ?_
        refine x_aload_n dX8_matters_30 1 rfl rfl ?_
        refine x_iload_n dX8_matters_31 2 rfl rfl ?_
        refine x_iload_n dX8_matters_32 3 rfl rfl ?_
        refine x_callV (k_heightBehind (G := G) hmw hs hnb (f := i) (k := k) hi hk) dX8_matters_33 crc_X8_heightBehind vc_8_280 z0 rfl rfl rfl rfl (Nat.le_of_ble_eq_true rfl) (roomy_k (by omega) (by decide)) (Nat.le_refl _) (Nat.le_refl _) ?_
        rintro _ _ ⟨r9, rfl, hr9, J8, rfl, hp8⟩
        refine x_istore (lv' := [(5, .int r9), (4, .int (-1)), (0, .ref m), (1, .int (nI i)), (2, .int (nI k)), (3, .int w)]) dX8_matters_36 (by decide) rfl ?_
        refine x_iconst (v := nI 0) dX8_matters_38 (by decide) ?_
        refine x_istore (lv' := [(6, .int (nI 0)), (5, .int r9), (4, .int (-1)), (0, .ref m), (1, .int (nI i)), (2, .int (nI k)), (3, .int w)]) dX8_matters_39 (by decide) rfl ?_
        refine x_sub [0, 1, 2, 3, 4, 5, 6] rfl ?_
        have hfin : mattersF σ (nI i) (nI k) w = if w = 0 then (mattG σ i k (gN σ)).1 else (mattG σ i k (gN σ)).2 := by
          unfold mattersF
          rw [idF_in hi hn8]
          dsimp only
          rw [if_pos ⟨c_12, ans_of c_21⟩, nI_clamp (by omega)]
        rw [hfin]
        exact k_mmatters_l hm0 hw0 hi hk (gN σ + 1) 0 r9 (-1) J8 (by omega) (by omega) (by rw [hr9]; rfl) hp8
      · refine x_bipush (v := (-2)) dX8_matters_24 (by decide) ?_
        refine x_iret dX8_matters_26 rfl (Nat.le_refl _) (Nat.le_refl _) ?_
        refine ⟨?_, I, rfl, pvM.rf⟩
        unfold mattersF
        obtain ⟨i, hid⟩ := Option.isSome_iff_exists.mp c_5
        rw [hid]
        dsimp only
        rw [if_neg (fun z => c_21 (ans_in z.2))]

set_option maxHeartbeats 4000000 in
set_option maxRecDepth 100000 in
theorem k_mwish_l {G : GG} {Sh : HS} {I : HI} {R : HR} {m : Nat} {σ : SG} (hm0 : MI m Sh I R σ) (hw0 : WI σ) {k : Nat} (hk : k ≤ 40) {r wh : Int32} : ∀ (m9 : Nat) (q : Nat) (mo fo : Int32) (J : HI), (q ≤ gN σ) → (gN σ < q + m9) → ((fo, mo) = wishG σ r k q) → (pvM m I J) → X G (kM G 7 0 0 (qi (qryM m Sh I R (if wh = 0 then (wishG σ r k (gN σ)).1 else (wishG σ r k (gN σ)).2)))) yX8_wish cX8_wish 9 (some .int) 0 0 43 [(6, .int (nI q)), (5, .int mo), (4, .int fo), (0, .ref m), (1, .int r), (2, .int (nI k)), (3, .int wh)] [] (Sh, J, R) := by
  intro m9
  induction m9 with
  | zero =>
    intro q mo fo J hq hm hmg hpv
    exact absurd hm (by omega)
  | succ m9 ih =>
    intro q mo fo J hq hm hmg hpv
    obtain ⟨hsh, hrf, ⟨hn, hn8⟩, hs, ⟨hru, hrt⟩, ⟨htc, htc6⟩, hmt, hmp, him, hse⟩ := id hm0
    have hmw := hm0.mw
    have hnb := hw0.nb
    obtain ⟨z0, z1, z6, z7, z8, z9, z10, z11, z12, z13, z14, z15, z16, z17⟩ := id hsh
    obtain ⟨y1, y6, y7, y8, y9, y10, y11, y12, y13, y14, y15, y16, y17⟩ := id hrf
    refine x_iload dX8_wish_43 0 rfl ?_
    refine x_aload_n dX8_wish_45 3 rfl rfl ?_
    refine x_gI (v := nI (gN σ)) dX8_wish_46 fl_8_79 rfl z0 ((hpv _ _ (by unfold prM; omega)).trans hn) ?_
    refine x_icmp_ge (tgt := 124) dX8_wish_49 (by decide) (fun c_49 => ?_) (fun c_49 => ?_)
    · have c_49 : (gN σ) ≤ q := (nI_leI (a := (gN σ)) (b := q) (by omega) (by omega)).mp c_49
      refine x_iload_n dX8_wish_124 6 rfl rfl ?_
      refine x_if_ne (tgt := 133) dX8_wish_125 (by decide) (fun c_125 => ?_) (fun c_125 => ?_)
      · refine x_iload dX8_wish_133 1 rfl ?_
        refine x_iret dX8_wish_135 rfl (Nat.le_refl _) (Nat.le_refl _) ?_
        have hqn : q = gN σ := by omega
        subst hqn
        refine ⟨?_, J, rfl, hpv⟩
        rw [if_neg c_125, ← hmg]
      · refine x_iload dX8_wish_128 2 rfl ?_
        refine x_goto (tgt := 135) dX8_wish_130 (by decide) ?_
        refine x_iret dX8_wish_135 rfl (Nat.le_refl _) (Nat.le_refl _) ?_
        have hqn : q = gN σ := by omega
        subst hqn
        refine ⟨?_, J, rfl, hpv⟩
        rw [if_pos c_125, ← hmg]
    · have c_49 : ¬ (gN σ) ≤ q := fun zz9 => c_49 ((nI_leI (a := (gN σ)) (b := q) (by omega) (by omega)).mpr zz9)
      refine x_aload_n dX8_wish_52 3 rfl rfl ?_
      refine x_gR (b := m + 1 + 3) dX8_wish_53 fl_8_19 rfl z0 (y1 3 (by omega)) ?_
      refine x_iload dX8_wish_56 0 rfl ?_
      refine x_ia (j := q) (v := (gW σ).1 q 3) dX8_wish_58 (z1 3 (by omega)) rfl (by omega) (by omega) ((hs.pv hpv).1 q (by omega) 3 (by omega)) ?_
      refine x_iload_n dX8_wish_59 4 rfl rfl ?_
      refine x_icmp_ne (tgt := 66) dX8_wish_60 (by decide) (fun c_60 => ?_) (fun c_60 => ?_)
      · refine x_aload_n dX8_wish_66 3 rfl rfl ?_
        refine x_gR (b := m + 1 + 4) dX8_wish_67 fl_8_22 rfl z0 (y1 4 (by omega)) ?_
        refine x_iload dX8_wish_70 0 rfl ?_
        refine x_ia (j := q) (v := J (m + 1 + 4) q) dX8_wish_72 (z1 4 (by omega)) rfl (by omega) (by omega) rfl ?_
        refine x_topi (fun xq1 e_xq1 => ?_)
        refine x_istore (lv' := [(7, .int xq1), (6, .int (nI q)), (5, .int mo), (4, .int fo), (0, .ref m), (1, .int r), (2, .int (nI k)), (3, .int wh)]) dX8_wish_73 (by decide) rfl ?_
        refine x_aload_n dX8_wish_75 4 rfl rfl ?_
        refine x_gR (b := m + 1 + 4) dX8_wish_76 fl_8_22 rfl z0 (y1 4 (by omega)) ?_
        refine x_iload dX8_wish_79 1 rfl ?_
        refine x_iconst (v := 0) dX8_wish_81 (by decide) ?_
        refine x_is (j := q) dX8_wish_82 (z1 4 (by omega)) rfl (by omega) (by omega) (fun Iq2 e_Iq2 => ?_)
        refine x_aload_n dX8_wish_83 4 rfl rfl ?_
        refine x_iload_n dX8_wish_84 5 rfl rfl ?_
        refine x_iload_n dX8_wish_85 6 rfl rfl ?_
        have hph : pvH m (m + 1 + 4) q I Iq2 := by
          rw [e_Iq2]
          exact hpv.h.set
        refine x_callV (k_valueBehind (G := G) (hmw.h hph (by omega)) (hs.h hph (by omega) (x := 0) (by rw [e_Iq2, u2_same])) (hnb.up (by decide)) (r := r) (k := k) hk) dX8_wish_86 crc_X8_valueBehind vc_8_283 z0 rfl rfl rfl rfl (Nat.le_of_ble_eq_true rfl) (roomy_k (by omega) (by decide)) (Nat.le_refl _) (Nat.le_refl _) ?_
        rintro _ _ ⟨r9, rfl, hr9, J8, rfl, hp8⟩
        refine x_istore (lv' := [(8, .int r9), (7, .int xq1), (6, .int (nI q)), (5, .int mo), (4, .int fo), (0, .ref m), (1, .int r), (2, .int (nI k)), (3, .int wh)]) dX8_wish_89 (by decide) rfl ?_
        refine x_aload_n dX8_wish_91 5 rfl rfl ?_
        refine x_gR (b := m + 1 + 4) dX8_wish_92 fl_8_22 rfl z0 (y1 4 (by omega)) ?_
        refine x_iload dX8_wish_95 2 rfl ?_
        refine x_iload dX8_wish_97 1 rfl ?_
        refine x_is (j := q) dX8_wish_99 (z1 4 (by omega)) rfl (by omega) (by omega) (fun Iq3 e_Iq3 => ?_)
        refine x_iload dX8_wish_100 0 rfl ?_
        refine x_iload dX8_wish_102 3 rfl ?_
        refine x_icmp_gt (tgt := 110) dX8_wish_104 (by decide) (fun c_104 => ?_) (fun c_104 => ?_)
        · refine x_iload dX8_wish_110 0 rfl ?_
          refine x_istore (lv' := [(5, .int r9), (8, .int r9), (7, .int xq1), (6, .int (nI q)), (4, .int fo), (0, .ref m), (1, .int r), (2, .int (nI k)), (3, .int wh)]) dX8_wish_112 (by decide) rfl ?_
          refine x_iload dX8_wish_114 3 rfl ?_
          refine x_istore (lv' := [(4, .int (nI q)), (5, .int r9), (8, .int r9), (7, .int xq1), (6, .int (nI q)), (0, .ref m), (1, .int r), (2, .int (nI k)), (3, .int wh)]) dX8_wish_116 (by decide) rfl ?_
          refine x_iinc (v := nI (q + 1)) (lv' := [(6, .int (nI (q + 1))), (4, .int (nI q)), (5, .int r9), (8, .int r9), (7, .int xq1), (0, .ref m), (1, .int r), (2, .int (nI k)), (3, .int wh)]) dX8_wish_118 4 rfl (nI_1 q) (by decide) rfl ?_
          refine x_goto (tgt := 43) dX8_wish_121 (by decide) ?_
          refine x_sub [0, 2, 1, 5, 6, 7, 8] rfl ?_
          have hpv9 : pvM m I Iq3 := by
            rw [e_Iq3]
            exact ((hph.tr hp8).set).fin (by rw [u2_same]; exact (e_xq1 ▸ hpv _ _ (by unfold prM; omega)))
          exact ih (q + 1) r9 (nI q) Iq3 (by omega) (by omega) (by
            unfold wishG at *
            rw [fd_s, ← hmg]
            rw [if_neg c_60]
            rw [if_pos (by show _ < _; rw [← hr9]; exact c_104), ← hr9]) hpv9
        · refine x_goto (tgt := 118) dX8_wish_107 (by decide) ?_
          refine x_iinc (v := nI (q + 1)) (lv' := [(6, .int (nI (q + 1))), (8, .int r9), (7, .int xq1), (5, .int mo), (4, .int fo), (0, .ref m), (1, .int r), (2, .int (nI k)), (3, .int wh)]) dX8_wish_118 2 rfl (nI_1 q) (by decide) rfl ?_
          refine x_goto (tgt := 43) dX8_wish_121 (by decide) ?_
          refine x_sub [0, 3, 4, 5, 6, 7, 8] rfl ?_
          have hpv9 : pvM m I Iq3 := by
            rw [e_Iq3]
            exact ((hph.tr hp8).set).fin (by rw [u2_same]; exact (e_xq1 ▸ hpv _ _ (by unfold prM; omega)))
          exact ih (q + 1) mo fo Iq3 (by omega) (by omega) (by
            unfold wishG at *
            rw [fd_s, ← hmg]
            rw [if_neg c_60]
            rw [if_neg (by show ¬ _ < _; rw [← hr9]; exact c_104)]) hpv9
      · refine x_goto (tgt := 118) dX8_wish_63 (by decide) ?_
        refine x_iinc (v := nI (q + 1)) (lv' := [(6, .int (nI (q + 1))), (5, .int mo), (4, .int fo), (0, .ref m), (1, .int r), (2, .int (nI k)), (3, .int wh)]) dX8_wish_118 0 rfl (nI_1 q) (by decide) rfl ?_
        refine x_goto (tgt := 43) dX8_wish_121 (by decide) ?_
        refine x_sub [0, 1, 2, 3, 4, 5, 6] rfl ?_
        exact ih (q + 1) mo fo J (by omega) (by omega) (by
          unfold wishG at *
          rw [fd_s, ← hmg]
          rw [if_pos c_60]) hpv

theorem lt2_of {x : Int32} (h : x ≤ 1) : x < 2 := by
  rw [Int32.le_iff_toInt_le] at h
  rw [Int32.lt_iff_toInt_lt]
  have e1 : (1 : Int32).toInt = 1 := by decide
  have e2 : (2 : Int32).toInt = 2 := by decide
  omega
theorem le1_of {x : Int32} (h : x < 2) : x ≤ 1 := by
  rw [Int32.lt_iff_toInt_lt] at h
  rw [Int32.le_iff_toInt_le]
  have e1 : (1 : Int32).toInt = 1 := by decide
  have e2 : (2 : Int32).toInt = 2 := by decide
  omega

set_option maxHeartbeats 4000000 in
set_option maxRecDepth 100000 in
theorem k_mwish {G : GG} {Sh : HS} {I : HI} {R : HR} {m : Nat} {σ : SG} (hm0 : MI m Sh I R σ) (hw0 : WI σ) {r n w : Int32} : AM G 7 0 0 yX8_wish cX8_wish 9 (some .int) [.ref m, .int r, .int n, .int w] (Sh, I, R) (qi (qryM m Sh I R (wishF σ r n w))) := by
  obtain ⟨hsh, hrf, ⟨hn, hn8⟩, hs, ⟨hru, hrt⟩, ⟨htc, htc6⟩, hmt, hmp, him, hse⟩ := id hm0
  have hmw := hm0.mw
  have hnb := hw0.nb
  obtain ⟨z0, z1, z6, z7, z8, z9, z10, z11, z12, z13, z14, z15, z16, z17⟩ := id hsh
  obtain ⟨y1, y6, y7, y8, y9, y10, y11, y12, y13, y14, y15, y16, y17⟩ := id hrf
  refine am_intro (by decide) (Nat.le_of_ble_eq_true rfl) ?_
  refine x_iload_n dX8_wish_0 1 rfl rfl ?_
  refine x_iconst (v := 0) dX8_wish_1 (by decide) ?_
  refine x_iconst (v := 1) dX8_wish_2 (by decide) ?_
  refine x_callS (rest := []) (k_mwithin (G := G) (Sh := Sh) (I := I) (R := R) (v := r) (lo := 0) (hi := 1)) dX8_wish_3 crc_X8_within sc_8_82 rfl rfl (Nat.le_of_ble_eq_true rfl) (roomy_k (by omega) (by decide)) (Nat.le_refl _) (Nat.le_refl _) ?_
  rintro _ _ ⟨rw, rfl, hrw, rfl⟩
  subst hrw
  refine x_if_eqB (tgt := 25) dX8_wish_6 (by decide) (fun c_6 => ?_) (fun c_6 => ?_)
  · refine x_ldcw (v := (-100000)) dX8_wish_25 (tw_at 1164 (by decide +kernel) rfl) ?_
    refine x_iret dX8_wish_28 rfl (Nat.le_refl _) (Nat.le_refl _) ?_
    refine ⟨?_, I, rfl, pvM.rf⟩
    unfold wishF
    rw [if_neg (fun z => c_6 ⟨z.1, le1_of z.2.1⟩)]
  · refine x_iload_n dX8_wish_9 2 rfl rfl ?_
    refine x_callS (rest := []) (k_misWaves (G := G) (Sh := Sh) (I := I) (R := R) (n := n)) dX8_wish_10 crc_X8_isWaves sc_8_258 rfl rfl (Nat.le_of_ble_eq_true rfl) (roomy_k (by omega) (by decide)) (Nat.le_refl _) (Nat.le_refl _) ?_
    rintro _ _ ⟨rv, rfl, hrv, rfl⟩
    subst hrv
    refine x_if_eqB (tgt := 25) dX8_wish_13 (by decide) (fun c_13 => ?_) (fun c_13 => ?_)
    · refine x_ldcw (v := (-100000)) dX8_wish_25 (tw_at 1164 (by decide +kernel) rfl) ?_
      refine x_iret dX8_wish_28 rfl (Nat.le_refl _) (Nat.le_refl _) ?_
      refine ⟨?_, I, rfl, pvM.rf⟩
      unfold wishF
      rw [if_neg (fun z => c_13 z.2.2.1)]
    · refine x_iload_n dX8_wish_16 3 rfl rfl ?_
      refine x_iconst (v := 0) dX8_wish_17 (by decide) ?_
      refine x_iconst (v := 1) dX8_wish_18 (by decide) ?_
      refine x_callS (rest := []) (k_mwithin (G := G) (Sh := Sh) (I := I) (R := R) (v := w) (lo := 0) (hi := 1)) dX8_wish_19 crc_X8_within sc_8_82 rfl rfl (Nat.le_of_ble_eq_true rfl) (roomy_k (by omega) (by decide)) (Nat.le_refl _) (Nat.le_refl _) ?_
      rintro _ _ ⟨rw, rfl, hrw, rfl⟩
      subst hrw
      refine x_if_neB (tgt := 29) dX8_wish_22 (by decide) (fun c_22 => ?_) (fun c_22 => ?_)
      · obtain ⟨k, hk, rfl⟩ := ahead_nat c_13
        refine x_iconst (v := (-1)) dX8_wish_29 (by decide) ?_
        refine x_istore (lv' := [(4, .int (-1)), (0, .ref m), (1, .int r), (2, .int (nI k)), (3, .int w)]) dX8_wish_30 (by decide) rfl ?_
        refine x_aload_n dX8_wish_32 1 rfl rfl ?_
        refine x_iload_n dX8_wish_33 2 rfl rfl ?_
        refine x_iload_n dX8_wish_34 3 rfl rfl ?_
        refine x_callV (k_valueBehind (G := G) hmw hs hnb (r := r) (k := k) hk) dX8_wish_35 crc_X8_valueBehind vc_8_283 z0 rfl rfl rfl rfl (Nat.le_of_ble_eq_true rfl) (roomy_k (by omega) (by decide)) (Nat.le_refl _) (Nat.le_refl _) ?_
        rintro _ _ ⟨r9, rfl, hr9, J8, rfl, hp8⟩
        refine x_istore (lv' := [(5, .int r9), (4, .int (-1)), (0, .ref m), (1, .int r), (2, .int (nI k)), (3, .int w)]) dX8_wish_38 (by decide) rfl ?_
        refine x_iconst (v := nI 0) dX8_wish_40 (by decide) ?_
        refine x_istore (lv' := [(6, .int (nI 0)), (5, .int r9), (4, .int (-1)), (0, .ref m), (1, .int r), (2, .int (nI k)), (3, .int w)]) dX8_wish_41 (by decide) rfl ?_
        refine x_sub [0, 1, 2, 3, 4, 5, 6] rfl ?_
        have hfin : wishF σ r (nI k) w = if w = 0 then (wishG σ r k (gN σ)).1 else (wishG σ r k (gN σ)).2 := by
          unfold wishF
          rw [if_pos ⟨c_6.1, lt2_of c_6.2, c_13, ans_of c_22⟩, nI_clamp (by omega)]
        rw [hfin]
        exact k_mwish_l hm0 hw0 hk (gN σ + 1) 0 r9 (-1) J8 (by omega) (by omega) (by rw [hr9]; rfl) hp8
      · refine x_ldcw (v := (-100000)) dX8_wish_25 (tw_at 1164 (by decide +kernel) rfl) ?_
        refine x_iret dX8_wish_28 rfl (Nat.le_refl _) (Nat.le_refl _) ?_
        refine ⟨?_, I, rfl, pvM.rf⟩
        unfold wishF
        rw [if_neg (fun z => c_22 (ans_in z.2.2.2))]

