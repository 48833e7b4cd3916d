set_option maxHeartbeats 4000000 in
set_option maxRecDepth 100000 in
theorem k_strikeOn {G : GG} {Sh : HS} {I : HI} {R : HR} {S T n : Nat} {P : Nat → List Int32} (w : SW Sh I R S T n P) {f : Nat} (hf : Sh.2 f = (0, 6)) (hSf : S ≤ f) : AM G 4 0 0 yX6_strikeOn cX6_strikeOn 3 (some .int) [.ref T, .ref S, .ref f] (Sh, I, R) (qi fun r g => r = mnI 99 (mxI 0 (topF (cxI I S f n) (P 0))) ∧ ∃ I2 : HI, offT T I I2 ∧ g = (Sh, I2, R)) := by
  obtain ⟨hS, hR, hn, hn8, hrl, hT, hRT, hTX, hTS⟩ := id w
  refine am_intro (by decide) (Nat.le_of_ble_eq_true rfl) ?_
  refine x_bipush (v := 99) dX6_strikeOn_0 (by decide) ?_
  refine x_aload_n dX6_strikeOn_2 0 rfl rfl ?_
  refine x_iconst (v := nI 0) dX6_strikeOn_3 (by decide) ?_
  refine x_aload_n dX6_strikeOn_4 0 rfl rfl ?_
  refine x_gI (v := nI (P 0).length) dX6_strikeOn_5 fl_6_25 rfl hT.1 hTX.1 ?_
  refine x_aload_n dX6_strikeOn_8 1 rfl rfl ?_
  refine x_aload_n dX6_strikeOn_9 2 rfl rfl ?_
  refine x_callV (k_tell (G := G) (P := P 0) (fr := 0) (to := (P 0).length) hT hRT hS hR hn hn8 hf hTS hSf hTX.2.2.2.2.1 (by omega) (by have := hTX.2.2.2.1; omega) hTX.2.2.2.2.2.2.2.1) dX6_strikeOn_10 crc_X6_tell vc_6_31 hT.1 rfl rfl rfl rfl (Nat.le_of_ble_eq_true rfl) (roomy_k (by omega) (by decide)) (Nat.le_refl _) (Nat.le_refl _) ?_
  rintro _ _ ⟨r, rfl, hr, I2, hoff, rfl⟩
  refine x_mmin dX6_strikeOn_13 sc_6_35 (Nat.le_of_ble_eq_true rfl) (roomy_k (by omega) (by decide)) (Nat.le_refl _) (Nat.le_refl _) ?_
  refine x_iret dX6_strikeOn_16 rfl (Nat.le_refl _) (Nat.le_refl _) ?_
  exact ⟨by rw [hr], I2, hoff, rfl⟩

set_option maxHeartbeats 4000000 in
set_option maxRecDepth 100000 in
theorem k_raiseOf {G : GG} {Sh : HS} {I : HI} {R : HR} {S T n : Nat} {P : Nat → List Int32} (w : SW Sh I R S T n P) {f : Nat} (hf : Sh.2 f = (0, 6)) (hSf : S ≤ f) : AM G 4 0 0 yX6_raiseOf cX6_raiseOf 3 (some .int) [.ref T, .ref S, .ref f] (Sh, I, R) (qi fun r g => r = mnI 20 (mxI 0 (topF (cxI I S f n) (P 1))) ∧ ∃ I2 : HI, offT T I I2 ∧ g = (Sh, I2, R)) := by
  obtain ⟨hS, hR, hn, hn8, hrl, hT, hRT, hTX, hTS⟩ := id w
  refine am_intro (by decide) (Nat.le_of_ble_eq_true rfl) ?_
  refine x_bipush (v := 20) dX6_raiseOf_0 (by decide) ?_
  refine x_aload_n dX6_raiseOf_2 0 rfl rfl ?_
  refine x_aload_n dX6_raiseOf_3 0 rfl rfl ?_
  refine x_gI (v := nI (P 0).length) dX6_raiseOf_4 fl_6_25 rfl hT.1 hTX.1 ?_
  refine x_aload_n dX6_raiseOf_7 0 rfl rfl ?_
  refine x_gI (v := nI ((P 0).length + (P 1).length)) dX6_raiseOf_8 fl_6_28 rfl hT.1 hTX.2.1 ?_
  refine x_aload_n dX6_raiseOf_11 1 rfl rfl ?_
  refine x_aload_n dX6_raiseOf_12 2 rfl rfl ?_
  refine x_callV (k_tell (G := G) (P := P 1) (fr := (P 0).length) (to := ((P 0).length + (P 1).length)) hT hRT hS hR hn hn8 hf hTS hSf hTX.2.2.2.2.2.1 (by omega) (by have := hTX.2.2.2.1; omega) hTX.2.2.2.2.2.2.2.2.1) dX6_raiseOf_13 crc_X6_tell vc_6_31 hT.1 rfl rfl rfl rfl (Nat.le_of_ble_eq_true rfl) (roomy_k (by omega) (by decide)) (Nat.le_refl _) (Nat.le_refl _) ?_
  rintro _ _ ⟨r, rfl, hr, I2, hoff, rfl⟩
  refine x_mmin dX6_raiseOf_16 sc_6_35 (Nat.le_of_ble_eq_true rfl) (roomy_k (by omega) (by decide)) (Nat.le_refl _) (Nat.le_refl _) ?_
  refine x_iret dX6_raiseOf_19 rfl (Nat.le_refl _) (Nat.le_refl _) ?_
  exact ⟨by rw [hr], I2, hoff, rfl⟩

set_option maxHeartbeats 4000000 in
set_option maxRecDepth 100000 in
theorem k_worthOf {G : GG} {Sh : HS} {I : HI} {R : HR} {S T n : Nat} {P : Nat → List Int32} (w : SW Sh I R S T n P) {f : Nat} (hf : Sh.2 f = (0, 6)) (hSf : S ≤ f) : AM G 4 0 0 yX6_worthOf cX6_worthOf 3 (some .int) [.ref T, .ref S, .ref f] (Sh, I, R) (qi fun r g => r = mnI 99 (mxI 0 (topF (cxI I S f n) (P 2))) ∧ ∃ I2 : HI, offT T I I2 ∧ g = (Sh, I2, R)) := by
  obtain ⟨hS, hR, hn, hn8, hrl, hT, hRT, hTX, hTS⟩ := id w
  refine am_intro (by decide) (Nat.le_of_ble_eq_true rfl) ?_
  refine x_bipush (v := 99) dX6_worthOf_0 (by decide) ?_
  refine x_aload_n dX6_worthOf_2 0 rfl rfl ?_
  refine x_aload_n dX6_worthOf_3 0 rfl rfl ?_
  refine x_gI (v := nI ((P 0).length + (P 1).length)) dX6_worthOf_4 fl_6_28 rfl hT.1 hTX.2.1 ?_
  refine x_aload_n dX6_worthOf_7 0 rfl rfl ?_
  refine x_gI (v := nI ((P 0).length + (P 1).length + (P 2).length)) dX6_worthOf_8 fl_6_22 rfl hT.1 hTX.2.2.1 ?_
  refine x_aload_n dX6_worthOf_11 1 rfl rfl ?_
  refine x_aload_n dX6_worthOf_12 2 rfl rfl ?_
  refine x_callV (k_tell (G := G) (P := P 2) (fr := ((P 0).length + (P 1).length)) (to := ((P 0).length + (P 1).length + (P 2).length)) hT hRT hS hR hn hn8 hf hTS hSf hTX.2.2.2.2.2.2.1 (by omega) (by have := hTX.2.2.2.1; omega) hTX.2.2.2.2.2.2.2.2.2) dX6_worthOf_13 crc_X6_tell vc_6_31 hT.1 rfl rfl rfl rfl (Nat.le_of_ble_eq_true rfl) (roomy_k (by omega) (by decide)) (Nat.le_refl _) (Nat.le_refl _) ?_
  rintro _ _ ⟨r, rfl, hr, I2, hoff, rfl⟩
  refine x_mmin dX6_worthOf_16 sc_6_35 (Nat.le_of_ble_eq_true rfl) (roomy_k (by omega) (by decide)) (Nat.le_refl _) (Nat.le_refl _) ?_
  refine x_iret dX6_worthOf_19 rfl (Nat.le_refl _) (Nat.le_refl _) ?_
  exact ⟨by rw [hr], I2, hoff, rfl⟩

set_option maxHeartbeats 4000000 in
set_option maxRecDepth 100000 in
theorem k_losesOf {G : GG} {Sh : HS} {I : HI} {R : HR} {S T n : Nat} {P : Nat → List Int32} (w : SW Sh I R S T n P) {f : Nat} (hf : Sh.2 f = (0, 6)) (hSf : S ≤ f) : AM G 5 0 0 yX4_losesOf cX4_losesOf 2 (some .int) [.ref S, .ref f] (Sh, I, R) (qi fun r g => r = lossF (I f 0) (I f 1) (mnI 99 (mxI 0 (topF (cxI I S f n) (P 0)))) (I S 3) ∧ ∃ I2 : HI, offT T I I2 ∧ g = (Sh, I2, R)) := by
  obtain ⟨hS, hR, hn, hn8, hrl, hT, hRT, hTX, hTS⟩ := id w
  refine am_intro (by decide) (Nat.le_of_ble_eq_true rfl) ?_
  refine x_aload_n dX4_losesOf_0 1 rfl rfl ?_
  refine x_aload_n dX4_losesOf_1 0 rfl rfl ?_
  refine x_gR (b := T) dX4_losesOf_2 fl_4_17 rfl hS.1 hrl ?_
  refine x_aload_n dX4_losesOf_5 0 rfl rfl ?_
  refine x_aload_n dX4_losesOf_6 1 rfl rfl ?_
  refine x_callV (k_strikeOn (G := G) (I := I) w (f := f) hf hSf) dX4_losesOf_7 crc_X6_strikeOn vc_4_40 hT.1 rfl rfl rfl rfl (Nat.le_of_ble_eq_true rfl) (roomy_k (by omega) (by decide)) (Nat.le_refl _) (Nat.le_refl _) ?_
  rintro _ _ ⟨r, rfl, hr, I2, hoff, rfl⟩
  refine x_aload_n dX4_losesOf_10 0 rfl rfl ?_
  refine x_gI (v := I S 3) dX4_losesOf_11 fl_4_37 rfl hS.1 (hoff.out (by omega)) ?_
  refine x_callV (k_lossBy (G := G) (Sh := Sh) (I := I2) (R := R) (f := f) (v := r) (w := I S 3) hf) dX4_losesOf_14 crc_X0_lossBy vc_4_46 hf rfl rfl rfl rfl (Nat.le_of_ble_eq_true rfl) (roomy_k (by omega) (by decide)) (Nat.le_refl _) (Nat.le_refl _) ?_
  rintro _ _ ⟨r2, rfl, hr2, rfl⟩
  refine x_iret dX4_losesOf_17 rfl (Nat.le_refl _) (Nat.le_refl _) ?_
  refine ⟨?_, I2, hoff, rfl⟩
  rw [hr2, hr, hoff.out (a := f) (by omega), hoff.out (a := f) (by omega)]

set_option maxHeartbeats 4000000 in
set_option maxRecDepth 100000 in
theorem k_risesOf {G : GG} {Sh : HS} {I : HI} {R : HR} {S T n : Nat} {P : Nat → List Int32} (w : SW Sh I R S T n P) {f : Nat} (hf : Sh.2 f = (0, 6)) (hSf : S ≤ f) : AM G 5 0 0 yX4_risesOf cX4_risesOf 2 (some .int) [.ref S, .ref f] (Sh, I, R) (qi fun r g => r = riseF (I f 0) (mnI 20 (mxI 0 (topF (cxI I S f n) (P 1)))) ∧ ∃ I2 : HI, offT T I I2 ∧ g = (Sh, I2, R)) := by
  obtain ⟨hS, hR, hn, hn8, hrl, hT, hRT, hTX, hTS⟩ := id w
  refine am_intro (by decide) (Nat.le_of_ble_eq_true rfl) ?_
  refine x_aload_n dX4_risesOf_0 1 rfl rfl ?_
  refine x_aload_n dX4_risesOf_1 0 rfl rfl ?_
  refine x_gR (b := T) dX4_risesOf_2 fl_4_17 rfl hS.1 hrl ?_
  refine x_aload_n dX4_risesOf_5 0 rfl rfl ?_
  refine x_aload_n dX4_risesOf_6 1 rfl rfl ?_
  refine x_callV (k_raiseOf (G := G) (I := I) w (f := f) hf hSf) dX4_risesOf_7 crc_X6_raiseOf vc_4_50 hT.1 rfl rfl rfl rfl (Nat.le_of_ble_eq_true rfl) (roomy_k (by omega) (by decide)) (Nat.le_refl _) (Nat.le_refl _) ?_
  rintro _ _ ⟨r, rfl, hr, I2, hoff, rfl⟩
  refine x_callV (k_riseBy (G := G) (Sh := Sh) (I := I2) (R := R) (f := f) (v := r) hf) dX4_risesOf_10 crc_X0_riseBy vc_4_53 hf rfl rfl rfl rfl (Nat.le_of_ble_eq_true rfl) (roomy_k (by omega) (by decide)) (Nat.le_refl _) (Nat.le_refl _) ?_
  rintro _ _ ⟨r2, rfl, hr2, rfl⟩
  refine x_iret dX4_risesOf_13 rfl (Nat.le_refl _) (Nat.le_refl _) ?_
  refine ⟨?_, I2, hoff, rfl⟩
  rw [hr2, hr, hoff.out (a := f) (by omega)]

