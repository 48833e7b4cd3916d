noncomputable def forceV (σ : SG) (t : Int32) : Int32 := match idF (gTc σ) t with
  | some _ => nI (gRu σ)
  | none => -2
noncomputable def forceS (σ : SG) (t : Int32) : SG := match idF (gTc σ) t with
  | some j => withX σ (gN σ, gW σ, j)
  | none => σ
noncomputable def waveV (σ : SG) : Int32 := if (gW σ).2.2 < 999 then standF (gN σ) (beatF (gP σ) (gN σ) (gW σ)) else -3
noncomputable def waveS (σ : SG) : SG := if (gW σ).2.2 < 999 then withV σ (beatF (gP σ) (gN σ) (gW σ)) else σ
noncomputable def spadeV (σ : SG) (f : Int32) : Int32 := match idF (gN σ) f with
  | some j => (spadeF (gP σ) (gN σ) j (gW σ)).1 j 4
  | none => -2
noncomputable def spadeS (σ : SG) (f : Int32) : SG := match idF (gN σ) f with
  | some j => withV σ (spadeF (gP σ) (gN σ) j (gW σ))
  | none => σ
/-- the strand's own frame, for the true strand -/
theorem frS.tr34 {b t : Nat} {I J : HI} (h : frS (b + 8 + 3 * t) (b + 34) I J) (ht : t < 6) : (∀ a k, ¬ prv b a k → ¬ (b + 34 ≤ a ∧ a < b + 44) → J a k = I a k) ∧ FrC b I J := by
  refine ⟨fun a k q1 q2 => h a k ?_ (by omega) (by omega), fun a k q => h a k ?_ (by omega) (by omega)⟩
  · unfold scr
    unfold prv at q1
    omega
  · unfold scr
    omega
theorem CI.own {b : Nat} {Sh : HS} {I J : HI} {R : HR} {σ : SG} {v : SV} (hc : CI b Sh I R σ) (h : frS (b + 8 + 3 * gRu σ) (b + 34) I J) (hs : SR J (b + 34) (gN σ) v) : CI b Sh J R (withV σ v) := by
  obtain ⟨h1, h2⟩ := h.tr34 hc.ru
  have hk := hc.2.2.2.1
  exact hc.strand h1 (fun _ _ _ => rfl) ⟨(h _ _ (scr_no (T := b + 8 + 3 * gRu σ) (S := b + 34) (by have := hc.ru; omega) (Nat.le_refl _)) (by omega) (by omega)).trans hk.1, hk.2.1, hs, hk.2.2.2.1, hk.2.2.2.2⟩

set_option maxHeartbeats 4000000 in
set_option maxRecDepth 100000 in
theorem k_fort {G : GG} {Sh : HS} {I : HI} {R : HR} {b : Nat} {σ : SG} (hc : CI b Sh I R σ) {k nu p : Int32} : AM G 3 0 0 yX7_fort cX7_fort 4 (some .int) [.ref b, .int k, .int nu, .int p] (Sh, I, R) (qi (updI b Sh I R (fortV σ k nu p) (fortS σ k nu p))) := by
  obtain ⟨⟨s0, s1, s2, s3, s4, s5, s6, s7, sT, sS, sA, sB, sC, sG⟩, ⟨r0, r1, r2, r4, r5, r6, r8, r9, rt0, rt2, rt3, rr0, rT, rS, rTT, rSS, rA, rB, rC, rG⟩, hCT, hCK, hCTp, hCIm, hCSe⟩ := id hc
  have hn8 : gN σ ≤ 8 := hCK.2.1
  have hru := hc.ru
  have hs := hc.sr
  have hw := hc.sw
  refine am_intro (by decide) (Nat.le_of_ble_eq_true rfl) ?_
  refine x_iload_n dX7_fort_0 1 rfl rfl ?_
  refine x_iload_n dX7_fort_1 2 rfl rfl ?_
  refine x_iload_n dX7_fort_2 3 rfl rfl ?_
  refine x_callS (rest := []) (k_isFort (G := G) (Sh := Sh) (I := I) (R := R) (k := k) (nu := nu) (p := p)) dX7_fort_3 crc_X4_isFort sc_7_114 rfl rfl (Nat.le_of_ble_eq_true rfl) (roomy_k (by omega) (by decide)) (Nat.le_refl _) (Nat.le_refl _) ?_
  rintro _ _ ⟨_, rfl, rfl, rfl⟩
  refine x_if_neB (tgt := 12) dX7_fort_6 (by decide) (fun c_6 => ?_) (fun c_6 => ?_)
  · refine x_aload_n dX7_fort_12 0 rfl rfl ?_
    refine x_gR (b := b + 34) dX7_fort_13 fl_7_73 rfl s0 r4 ?_
    refine x_iload_n dX7_fort_16 1 rfl rfl ?_
    refine x_iload_n dX7_fort_17 2 rfl rfl ?_
    refine x_iload_n dX7_fort_18 3 rfl rfl ?_
    refine x_callV (k_add (G := G) (Sh := Sh) (I := I) (R := R) (S := b + 34) (n := gN σ) sA rA hCK.1 hn8 (k := k) (nu := nu) (p := p)) dX7_fort_19 crc_X4_add vc_7_118 sA.1 rfl rfl rfl rfl (Nat.le_of_ble_eq_true rfl) (roomy_k (by omega) (by decide)) (Nat.le_refl _) (Nat.le_refl _) ?_
    rintro _ _ ⟨r, rfl, (⟨hlt, hr, rfl⟩ | ⟨heq, hr, rfl⟩)⟩
    · obtain ⟨J, eJ⟩ : ∃ z : HI, z = u2 (u2 (u2 (u2 (u2 (u2 I (b + 34 + 2 + gN σ) 0 k) (b + 34 + 2 + gN σ) 1 nu) (b + 34 + 2 + gN σ) 2 p) (b + 34 + 2 + gN σ) 3 0) (b + 34 + 2 + gN σ) 4 20) (b + 34) 1 (nI (gN σ + 1)) := ⟨_, rfl⟩
      rw [← eJ]
      refine x_iret dX7_fort_22 rfl (Nat.le_refl _) (Nat.le_refl _) ?_
      have hok9 : fortP k nu p := c_6
      unfold fortV fortS
      rw [if_pos hok9, if_neg (by omega), if_pos ⟨hok9, by omega⟩]
      have hfr : ∀ a k, ¬ (a = b + 34 + 2 + gN σ) → ¬ (a = b + 34 ∧ k = 1) → J a k = I a k := fun a k q1 q2 => by
        rw [eJ, u2_ne (by omega), u2_ne (by omega), u2_ne (by omega), u2_ne (by omega), u2_ne (by omega), u2_ne (by omega)]
      refine ⟨hr, J, R, rfl, CI.strand hc (fun a k q1 q2 => hfr a k (by omega) (by omega)) (fun _ _ _ => rfl) ⟨by rw [eJ, u2_same], by show gN σ + 1 ≤ 8; omega, ⟨fun i hi k2 hk => ?_, (hfr _ _ (by omega) (by omega)).trans hs.2.1, (hfr _ _ (by omega) (by omega)).trans hs.2.2⟩, hCK.2.2.2⟩, fun a k q => hfr a k (by omega) (by omega), FrC.rf⟩
      have hi : i < gN σ + 1 := hi
      show J (b + 34 + 2 + i) k2 = (addV (gW σ) (gN σ) k nu p).1 i k2
      unfold addV
      by_cases e : i = gN σ
      · subst e
        simp only [if_true]
        have h5 : k2 = 0 ∨ k2 = 1 ∨ k2 = 2 ∨ k2 = 3 ∨ k2 = 4 := by omega
        rw [eJ]
        rcases h5 with rfl | rfl | rfl | rfl | rfl <;> simp [u2] <;> omega
      · rw [hfr _ _ (by omega) (by omega)]
        simp only [e, if_false]
        exact hs.1 i (by omega) k2 hk
    · refine x_iret dX7_fort_22 rfl (Nat.le_refl _) (Nat.le_refl _) ?_
      have hok9 : fortP k nu p := c_6
      unfold fortV fortS
      rw [if_pos hok9, if_pos heq, if_neg (fun q => q.2 heq)]
      exact ⟨hr, I, R, rfl, hc, FrC.rf, FrC.rf⟩
  · refine x_bipush (v := (-2)) dX7_fort_9 (by decide) ?_
    refine x_iret dX7_fort_11 rfl (Nat.le_refl _) (Nat.le_refl _) ?_
    have hno9 : ¬ fortP k nu p := c_6
    unfold fortV fortS
    rw [if_neg hno9, if_neg (fun q => hno9 q.1)]
    exact ⟨rfl, I, R, rfl, hc, FrC.rf, FrC.rf⟩

set_option maxHeartbeats 4000000 in
set_option maxRecDepth 100000 in
theorem k_force {G : GG} {Sh : HS} {I : HI} {R : HR} {b : Nat} {σ : SG} (hc : CI b Sh I R σ) {t : Int32} : AM G 1 0 0 yX7_force cX7_force 3 (some .int) [.ref b, .int t] (Sh, I, R) (qi (updI b Sh I R (forceV σ t) (forceS σ t))) := by
  obtain ⟨⟨s0, s1, s2, s3, s4, s5, s6, s7, sT, sS, sA, sB, sC, sG⟩, ⟨r0, r1, r2, r4, r5, r6, r8, r9, rt0, rt2, rt3, rr0, rT, rS, rTT, rSS, rA, rB, rC, rG⟩, hCT, hCK, hCTp, hCIm, hCSe⟩ := id hc
  have hn8 : gN σ ≤ 8 := hCK.2.1
  have hru := hc.ru
  have hs := hc.sr
  have hw := hc.sw
  refine am_intro (by decide) (Nat.le_of_ble_eq_true rfl) ?_
  refine x_iload_n dX7_force_0 1 rfl rfl ?_
  refine x_if_lt (tgt := 18) dX7_force_1 (by decide) (fun c_1 => ?_) (fun c_1 => ?_)
  · have htc6 := hCT.2.2.1
    refine x_bipush (v := (-2)) dX7_force_18 (by decide) ?_
    refine x_iret dX7_force_20 rfl (Nat.le_refl _) (Nat.le_refl _) ?_
    have hno : idF (gTc σ) t = none := idF_out (by omega) (fun j hj => idx_no (Or.inl c_1) hj (by omega))
    unfold forceV forceS
    rw [hno]
    exact ⟨rfl, I, R, rfl, hc, FrC.rf, FrC.rf⟩
  · refine x_iload_n dX7_force_4 1 rfl rfl ?_
    refine x_aload_n dX7_force_5 0 rfl rfl ?_
    refine x_gI (v := nI (gTc σ)) dX7_force_6 fl_7_64 rfl s0 hCT.1 ?_
    refine x_icmp_ge (tgt := 18) dX7_force_9 (by decide) (fun c_9 => ?_) (fun c_9 => ?_)
    · have htc6 := hCT.2.2.1
      refine x_bipush (v := (-2)) dX7_force_18 (by decide) ?_
      refine x_iret dX7_force_20 rfl (Nat.le_refl _) (Nat.le_refl _) ?_
      have hno : idF (gTc σ) t = none := idF_out (by omega) (fun j hj => idx_no (Or.inr c_9) hj (by omega))
      unfold forceV forceS
      rw [hno]
      exact ⟨rfl, I, R, rfl, hc, FrC.rf, FrC.rf⟩
    · refine x_iload_n dX7_force_12 1 rfl rfl ?_
      refine x_bipush (v := 6) dX7_force_13 (by decide) ?_
      refine x_icmp_lt (tgt := 21) dX7_force_15 (by decide) (fun c_15 => ?_) (fun c_15 => ?_)
      · have htc6 := hCT.2.2.1
        obtain ⟨j, hj, hij⟩ := idx_of c_1 c_9 (by omega)
        refine x_aload_n dX7_force_21 0 rfl rfl ?_
        refine x_gR (b := b + 34) dX7_force_22 fl_7_73 rfl s0 r4 ?_
        refine x_gR (b := b + 8 + 3 * gRu σ) dX7_force_25 fl_7_151 rfl sA.1 hCK.2.2.2.1 ?_
        refine x_gI (v := nI (gRu σ)) dX7_force_28 fl_7_155 rfl (sT (gRu σ) (by omega)).1 (hCT.2.2.2.2 _ hru) ?_
        refine x_istore_n (lv' := [(2, .int (nI (gRu σ))), (0, .ref b), (1, .int t)]) dX7_force_31 rfl (by decide) rfl ?_
        refine x_aload_n dX7_force_32 1 rfl rfl ?_
        refine x_gR (b := b + 34) dX7_force_33 fl_7_73 rfl s0 r4 ?_
        refine x_aload_n dX7_force_36 1 rfl rfl ?_
        refine x_gR (b := b + 6) dX7_force_37 fl_7_27 rfl s0 r2 ?_
        refine x_iload_n dX7_force_40 2 rfl rfl ?_
        refine x_aa (j := j) (b := b + 8 + 3 * j) dX7_force_41 s6 (by decide) (by decide) hij (by omega) (by omega) (rT j (by omega)) ?_
        refine x_pR dX7_force_42 fl_7_151 rfl rfl rfl rfl sA.1 (fun Rq1 e_Rq1 => ?_)
        refine x_iload_n dX7_force_45 0 rfl rfl ?_
        refine x_iret dX7_force_46 rfl (Nat.le_refl _) (Nat.le_refl _) ?_
        unfold forceV forceS
        rw [hij, idF_in hj (by omega)]
        refine ⟨rfl, I, Rq1, rfl, CI.strand hc (fun _ _ _ _ => rfl) (fun a k q => by rw [e_Rq1, u2_ne (by omega)]) ⟨hCK.1, hn8, hs, by rw [e_Rq1, u2_same], hj⟩, FrC.rf, fun a k q => by rw [e_Rq1, u2_ne (by omega)]⟩
      · have htc6 := hCT.2.2.1
        refine x_bipush (v := (-2)) dX7_force_18 (by decide) ?_
        refine x_iret dX7_force_20 rfl (Nat.le_refl _) (Nat.le_refl _) ?_
        have hno : idF (gTc σ) t = none := idF_out (by omega) (fun j hj => idx_no (Or.inr (Int32.le_trans (nI_le (b := 6) hCT.2.2.1 (by omega)) (Int32.not_lt.mp c_15))) hj (by omega))
        unfold forceV forceS
        rw [hno]
        exact ⟨rfl, I, R, rfl, hc, FrC.rf, FrC.rf⟩

set_option maxHeartbeats 4000000 in
set_option maxRecDepth 100000 in
theorem k_wave {G : GG} {Sh : HS} {I : HI} {R : HR} {b : Nat} {σ : SG} (hc : CI b Sh I R σ) : AM G 6 0 0 yX7_wave cX7_wave 1 (some .int) [.ref b] (Sh, I, R) (qi (updI b Sh I R (waveV σ) (waveS σ))) := by
  obtain ⟨⟨s0, s1, s2, s3, s4, s5, s6, s7, sT, sS, sA, sB, sC, sG⟩, ⟨r0, r1, r2, r4, r5, r6, r8, r9, rt0, rt2, rt3, rr0, rT, rS, rTT, rSS, rA, rB, rC, rG⟩, hCT, hCK, hCTp, hCIm, hCSe⟩ := id hc
  have hn8 : gN σ ≤ 8 := hCK.2.1
  have hru := hc.ru
  have hs := hc.sr
  have hw := hc.sw
  refine am_intro (by decide) (Nat.le_of_ble_eq_true rfl) ?_
  refine x_aload_n dX7_wave_0 0 rfl rfl ?_
  refine x_gR (b := b + 34) dX7_wave_1 fl_7_73 rfl s0 r4 ?_
  refine x_gI (v := (gW σ).2.2) dX7_wave_4 fl_7_103 rfl sA.1 hs.2.2 ?_
  refine x_sipush (v := 999) dX7_wave_7 (by decide) ?_
  refine x_icmp_lt (tgt := 16) dX7_wave_10 (by decide) (fun c_10 => ?_) (fun c_10 => ?_)
  · refine x_aload_n dX7_wave_16 0 rfl rfl ?_
    refine x_gR (b := b + 34) dX7_wave_17 fl_7_73 rfl s0 r4 ?_
    refine x_callV (k_beat (G := G) hw hs) dX7_wave_20 crc_X4_beat vc_7_158 sA.1 rfl rfl rfl rfl (Nat.le_of_ble_eq_true rfl) (roomy_k (by omega) (by decide)) (Nat.le_refl _) (Nat.le_refl _) ?_
    rintro _ _ ⟨rfl, J, rfl, hs2, hf2⟩
    refine x_aload_n dX7_wave_23 0 rfl rfl ?_
    refine x_gR (b := b + 34) dX7_wave_24 fl_7_73 rfl s0 r4 ?_
    refine x_callV (k_standing (G := G) (hw.fr hf2) hs2) dX7_wave_27 crc_X4_standing vc_7_161 sA.1 rfl rfl rfl rfl (Nat.le_of_ble_eq_true rfl) (roomy_k (by omega) (by decide)) (Nat.le_refl _) (Nat.le_refl _) ?_
    rintro _ _ ⟨r, rfl, hr, rfl⟩
    refine x_iret dX7_wave_30 rfl (Nat.le_refl _) (Nat.le_refl _) ?_
    unfold waveV waveS
    rw [if_pos c_10, if_pos c_10]
    exact ⟨hr, J, R, rfl, hc.own hf2 hs2, (hf2.tr34 hru).2, FrC.rf⟩
  · refine x_bipush (v := (-3)) dX7_wave_13 (by decide) ?_
    refine x_iret dX7_wave_15 rfl (Nat.le_refl _) (Nat.le_refl _) ?_
    unfold waveV waveS
    rw [if_neg c_10, if_neg c_10]
    exact ⟨rfl, I, R, rfl, hc, FrC.rf, FrC.rf⟩

set_option maxHeartbeats 4000000 in
set_option maxRecDepth 100000 in
theorem k_spade {G : GG} {Sh : HS} {I : HI} {R : HR} {b : Nat} {σ : SG} (hc : CI b Sh I R σ) {f : Int32} : AM G 7 0 0 yX7_spade cX7_spade 3 (some .int) [.ref b, .int f] (Sh, I, R) (qi (updI b Sh I R (spadeV σ f) (spadeS σ f))) := by
  obtain ⟨⟨s0, s1, s2, s3, s4, s5, s6, s7, sT, sS, sA, sB, sC, sG⟩, ⟨r0, r1, r2, r4, r5, r6, r8, r9, rt0, rt2, rt3, rr0, rT, rS, rTT, rSS, rA, rB, rC, rG⟩, hCT, hCK, hCTp, hCIm, hCSe⟩ := id hc
  have hn8 : gN σ ≤ 8 := hCK.2.1
  have hru := hc.ru
  have hs := hc.sr
  have hw := hc.sw
  refine am_intro (by decide) (Nat.le_of_ble_eq_true rfl) ?_
  refine x_aload_n dX7_spade_0 0 rfl rfl ?_
  refine x_gR (b := b + 34) dX7_spade_1 fl_7_73 rfl s0 r4 ?_
  refine x_iload_n dX7_spade_4 1 rfl rfl ?_
  refine x_callV (k_at (G := G) (Sh := Sh) (I := I) (R := R) (S := b + 34) (n := gN σ) (i := f) sA rA hCK.1 hn8) dX7_spade_5 crc_X4_at vc_7_106 sA.1 rfl rfl rfl rfl (Nat.le_of_ble_eq_true rfl) (roomy_k (by omega) (by decide)) (Nat.le_refl _) (Nat.le_refl _) ?_
  rintro _ _ ⟨_, rfl, rfl, (⟨j, hj, hij, rfl⟩ | ⟨hno, rfl⟩)⟩
  · refine x_astore_n (lv' := [(2, .ref (b + 34 + 2 + j)), (0, .ref b), (1, .int f)]) dX7_spade_8 rfl (by decide) rfl ?_
    refine x_aload_n dX7_spade_9 0 rfl rfl ?_
    refine x_ifnonnull (tgt := 16) dX7_spade_10 (by decide) ?_
    refine x_aload_n dX7_spade_16 1 rfl rfl ?_
    refine x_gR (b := b + 34) dX7_spade_17 fl_7_73 rfl s0 r4 ?_
    refine x_aload_n dX7_spade_20 0 rfl rfl ?_
    refine x_callV (k_raise (G := G) hw hs (i := j) hj) dX7_spade_21 crc_X4_raise vc_7_164 sA.1 rfl rfl rfl rfl (Nat.le_of_ble_eq_true rfl) (roomy_k (by omega) (by decide)) (Nat.le_refl _) (Nat.le_refl _) ?_
    rintro _ _ ⟨rfl, J, rfl, hs2, hf2⟩
    refine x_aload_n dX7_spade_24 0 rfl rfl ?_
    refine x_gI (v := (spadeF (gP σ) (gN σ) j (gW σ)).1 j 4) dX7_spade_25 fl_7_132 rfl (sA.2.2 j (by omega)) (hs2.1 j hj 4 (by omega)) ?_
    refine x_iret dX7_spade_28 rfl (Nat.le_refl _) (Nat.le_refl _) ?_
    unfold spadeV spadeS
    rw [hij, idF_in hj hn8]
    exact ⟨rfl, J, R, rfl, hc.own hf2 hs2, (hf2.tr34 hru).2, FrC.rf⟩
  · refine x_astore_nN (lv' := [(2, .null), (0, .ref b), (1, .int f)]) dX7_spade_8 rfl (by decide) rfl ?_
    refine x_aload_nN dX7_spade_9 0 rfl rfl ?_
    refine x_ifnonnullN dX7_spade_10 ?_
    refine x_bipush (v := (-2)) dX7_spade_13 (by decide) ?_
    refine x_iret dX7_spade_15 rfl (Nat.le_refl _) (Nat.le_refl _) ?_
    unfold spadeV spadeS
    rw [idF_out hn8 hno]
    exact ⟨rfl, I, R, rfl, hc, FrC.rf, FrC.rf⟩

def backV (σ : SG) : Int32 := match gIm σ with
  | some x => nI x.1
  | none => -3
def backS (σ : SG) : SG := match gIm σ with
  | some x => withX σ x
  | none => σ
set_option maxHeartbeats 4000000 in
set_option maxRecDepth 100000 in
theorem k_image {G : GG} {Sh : HS} {I : HI} {R : HR} {b : Nat} {σ : SG} (hc : CI b Sh I R σ) : AM G 3 0 0 yX7_image cX7_image 1 (some .int) [.ref b] (Sh, I, R) (qi (updI b Sh I R (nI (gN σ)) (withIm σ (some σ.1)))) := by
  obtain ⟨⟨s0, s1, s2, s3, s4, s5, s6, s7, sT, sS, sA, sB, sC, sG⟩, ⟨r0, r1, r2, r4, r5, r6, r8, r9, rt0, rt2, rt3, rr0, rT, rS, rTT, rSS, rA, rB, rC, rG⟩, hCT, hCK, hCTp, hCIm, hCSe⟩ := id hc
  have hn8 : gN σ ≤ 8 := hCK.2.1
  have hru := hc.ru
  have hs := hc.sr
  have hw := hc.sw
  refine am_intro (by decide) (Nat.le_of_ble_eq_true rfl) ?_
  refine x_aload_n dX7_image_0 0 rfl rfl ?_
  refine x_gR (b := b + 54) dX7_image_1 fl_7_80 rfl s0 r6 ?_
  refine x_aload_n dX7_image_4 0 rfl rfl ?_
  refine x_gR (b := b + 34) dX7_image_5 fl_7_73 rfl s0 r4 ?_
  refine x_callV (k_stake (G := G) (Sh := Sh) (I := I) (R := R) (S := b + 54) (U := b + 34) (T := b + 8 + 3 * gRu σ) sC rC sA rA hCK.2.2.2.1 (by omega) (sT _ hru).1) dX7_image_8 crc_X4_take vc_7_207 sC.1 rfl rfl rfl rfl (Nat.le_of_ble_eq_true rfl) (roomy_k (by omega) (by decide)) (Nat.le_refl _) (Nat.le_refl _) ?_
  rintro _ _ ⟨rfl, J, rfl, h1, h2, h3, h4, h5⟩
  generalize hR2 : u2 R (b + 54) 4 (some (b + 8 + 3 * gRu σ)) = R2
  have hrv : ∀ a k, ¬ (a = b + 54 ∧ k = 4) → R2 a k = R a k := fun a k q => by rw [← hR2]; exact u2_ne q
  refine x_aload_n dX7_image_11 0 rfl rfl ?_
  refine x_iconst (v := 1) dX7_image_12 (by decide) ?_
  refine x_pZ dX7_image_13 fl_7_250 rfl rfl rfl s0 (fun Iq1 e_Iq1 => ?_)
  refine x_aload_n dX7_image_16 0 rfl rfl ?_
  refine x_gR (b := b + 34) dX7_image_17 fl_7_73 rfl s0 ((hrv _ _ (by omega)).trans r4) ?_
  refine x_gI (v := nI (gN σ)) dX7_image_20 fl_7_216 rfl sA.1 (by rw [e_Iq1, u2_ne (by omega), h5 _ _ (by omega)]; exact hCK.1) ?_
  refine x_iret dX7_image_23 rfl (Nat.le_refl _) (Nat.le_refl _) ?_
  have hfr : ∀ a k, ¬ (b + 54 ≤ a ∧ a < b + 64) → ¬ (a = b ∧ k = 7) → Iq1 a k = I a k := fun a k q1 q2 => by
    rw [e_Iq1, u2_ne (by omega)]
    exact h5 a k (by omega)
  refine ⟨rfl, Iq1, R2, rfl, ⟨hc.1, hc.2.1.same (fun a k q => hrv a k (fun z => q (by unfold ruB; omega))), ?_, ?_, ?_, ?_, ?_⟩, fun a k q => hfr a k (by omega) (by omega), fun a k q => hrv a k (by omega)⟩
  · obtain ⟨a1, a2, a3, a4, a5⟩ := hCT
    exact ⟨(hfr _ _ (by omega) (by omega)).trans a1, a2, a3, fun t ht => (have ht : t < gTc σ := ht; (a4 t ht).same (fun k hk => hfr _ _ (by omega) (by omega)) (fun k => hfr _ _ (by omega) (by omega))), fun t ht => (hfr _ _ (by omega) (by omega)).trans (a5 t ht)⟩
  · exact ⟨(hfr _ _ (by omega) (by omega)).trans hCK.1, hn8, ⟨fun i hi k hk => (have hi : i < gN σ := hi; (hfr _ _ (by omega) (by omega)).trans (hs.1 i hi k hk)), (hfr _ _ (by omega) (by omega)).trans hs.2.1, (hfr _ _ (by omega) (by omega)).trans hs.2.2⟩, (hrv _ _ (by omega)).trans hCK.2.2.2.1, hCK.2.2.2.2⟩
  · exact ⟨(hfr _ _ (by omega) (by omega)).trans hCTp.1, hCTp.2.1, fun j hj => (hfr _ _ (by omega) (by omega)).trans (hCTp.2.2 j hj)⟩
  · have hz : gIm (withIm σ (some σ.1)) = some σ.1 := rfl
    unfold CIm
    rw [hz]
    have hg : ∀ a k, ¬ (a = b ∧ k = 7) → Iq1 a k = J a k := fun a k q => by rw [e_Iq1, u2_ne q]
    refine ⟨by rw [e_Iq1, u2_same], ((hg _ _ (by omega)).trans h2).trans hCK.1, hn8, ⟨fun i hi k hk => ?_, ((hg _ _ (by omega)).trans h3).trans hs.2.1, ((hg _ _ (by omega)).trans h4).trans hs.2.2⟩, by rw [← hR2]; exact u2_same, hCK.2.2.2.2⟩
    have hi : i < gN σ := hi
    exact ((hg _ _ (by omega)).trans (h1 i (by omega) k hk)).trans (hs.1 i hi k hk)
  · intro s hs4
    obtain ⟨a1, a2, a3, a4⟩ := hCSe s hs4
    exact ⟨(hfr _ _ (by omega) (by omega)).trans a1, (hfr _ _ (by omega) (by omega)).trans a2, a3, fun j hj => (hfr _ _ (by omega) (by omega)).trans (a4 j hj)⟩

set_option maxHeartbeats 4000000 in
set_option maxRecDepth 100000 in
theorem k_back {G : GG} {Sh : HS} {I : HI} {R : HR} {b : Nat} {σ : SG} (hc : CI b Sh I R σ) : AM G 3 0 0 yX7_back cX7_back 1 (some .int) [.ref b] (Sh, I, R) (qi (updI b Sh I R (backV σ) (backS σ))) := by
  obtain ⟨⟨s0, s1, s2, s3, s4, s5, s6, s7, sT, sS, sA, sB, sC, sG⟩, ⟨r0, r1, r2, r4, r5, r6, r8, r9, rt0, rt2, rt3, rr0, rT, rS, rTT, rSS, rA, rB, rC, rG⟩, hCT, hCK, hCTp, hCIm, hCSe⟩ := id hc
  have hn8 : gN σ ≤ 8 := hCK.2.1
  have hru := hc.ru
  have hs := hc.sr
  have hw := hc.sw
  refine am_intro (by decide) (Nat.le_of_ble_eq_true rfl) ?_
  refine x_aload_n dX7_back_0 0 rfl rfl ?_
  refine x_gI (v := I b 7) dX7_back_1 fl_7_250 rfl s0 rfl ?_
  refine x_if_ne (tgt := 10) dX7_back_4 (by decide) (fun c_4 => ?_) (fun c_4 => ?_)
  · obtain ⟨x, hi, hx⟩ : ∃ x, gIm σ = some x ∧ (I b 7 = 1 ∧ CK b (b + 54) I R (gTc σ) x) := by
      unfold CIm at hCIm
      cases hi : gIm σ with
      | none =>
        rw [hi] at hCIm
        exact absurd hCIm c_4
      | some x =>
        rw [hi] at hCIm
        exact ⟨x, rfl, hCIm⟩
    refine x_aload_n dX7_back_10 0 rfl rfl ?_
    refine x_gR (b := b + 34) dX7_back_11 fl_7_73 rfl s0 r4 ?_
    refine x_aload_n dX7_back_14 0 rfl rfl ?_
    refine x_gR (b := b + 54) dX7_back_15 fl_7_80 rfl s0 r6 ?_
    refine x_callV (k_stake (G := G) (Sh := Sh) (I := I) (R := R) (S := b + 34) (U := b + 54) (T := b + 8 + 3 * x.2.2) sA rA sC rC hx.2.2.2.2.1 (by omega) (sT _ (by have := hx.2.2.2.2.2; have := hCT.2.2.1; omega)).1) dX7_back_18 crc_X4_take vc_7_207 sA.1 rfl rfl rfl rfl (Nat.le_of_ble_eq_true rfl) (roomy_k (by omega) (by decide)) (Nat.le_refl _) (Nat.le_refl _) ?_
    rintro _ _ ⟨rfl, J, rfl, h1, h2, h3, h4, h5⟩
    generalize hR2 : u2 R (b + 34) 4 (some (b + 8 + 3 * x.2.2)) = R2
    have hrv : ∀ a k, ¬ (a = b + 34 ∧ k = 4) → R2 a k = R a k := fun a k q => by rw [← hR2]; exact u2_ne q
    refine x_aload_n dX7_back_21 0 rfl rfl ?_
    refine x_gR (b := b + 34) dX7_back_22 fl_7_73 rfl s0 ((hrv _ _ (by omega)).trans r4) ?_
    refine x_gI (v := nI x.1) dX7_back_25 fl_7_216 rfl sA.1 (h2.trans hx.2.1) ?_
    refine x_iret dX7_back_28 rfl (Nat.le_refl _) (Nat.le_refl _) ?_
    have hx1 := hx.2.2.1
    unfold backV backS
    rw [hi]
    refine ⟨rfl, J, R2, rfl, CI.strand hc (fun a k q1 q2 => h5 a k (by omega)) (fun a k q => hrv a k (by omega)) ⟨h2.trans hx.2.1, hx1, ⟨fun i hi k hk => (h1 i (by omega) k hk).trans (hx.2.2.2.1.1 i hi k hk), h3.trans hx.2.2.2.1.2.1, h4.trans hx.2.2.2.1.2.2⟩, by rw [← hR2]; exact u2_same, hx.2.2.2.2.2⟩, fun a k q => h5 a k (by omega), fun a k q => hrv a k (by omega)⟩
  · refine x_bipush (v := (-3)) dX7_back_7 (by decide) ?_
    refine x_iret dX7_back_9 rfl (Nat.le_refl _) (Nat.le_refl _) ?_
    have hno : gIm σ = none := by
      unfold CIm at hCIm
      cases hi : gIm σ with
      | none => rfl
      | some x =>
        rw [hi] at hCIm
        rw [hCIm.1] at c_4
        exact absurd c_4 (by decide)
    unfold backV backS
    rw [hno]
    exact ⟨rfl, I, R, rfl, hc, FrC.rf, FrC.rf⟩

