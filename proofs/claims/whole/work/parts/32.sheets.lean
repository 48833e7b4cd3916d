theorem dJ6_bitCount_0f7a4_0 : decode cJ6_bitCount_0f7a4 0 = .ok (.iload_n 0, 1) := by decide +kernel
theorem dJ6_bitCount_0f7a4_1 : decode cJ6_bitCount_0f7a4 1 = .ok (.iload_n 0, 1) := by decide +kernel
theorem dJ6_bitCount_0f7a4_2 : decode cJ6_bitCount_0f7a4 2 = .ok (.iconst 1, 1) := by decide +kernel
theorem dJ6_bitCount_0f7a4_3 : decode cJ6_bitCount_0f7a4 3 = .ok (.iushr, 1) := by decide +kernel
theorem dJ6_bitCount_0f7a4_4 : decode cJ6_bitCount_0f7a4 4 = .ok (.ldc_w 265, 3) := by decide +kernel
theorem dJ6_bitCount_0f7a4_7 : decode cJ6_bitCount_0f7a4 7 = .ok (.iand, 1) := by decide +kernel
theorem dJ6_bitCount_0f7a4_8 : decode cJ6_bitCount_0f7a4 8 = .ok (.isub, 1) := by decide +kernel
theorem dJ6_bitCount_0f7a4_9 : decode cJ6_bitCount_0f7a4 9 = .ok (.istore_n 0, 1) := by decide +kernel
theorem dJ6_bitCount_0f7a4_10 : decode cJ6_bitCount_0f7a4 10 = .ok (.iload_n 0, 1) := by decide +kernel
theorem dJ6_bitCount_0f7a4_11 : decode cJ6_bitCount_0f7a4 11 = .ok (.ldc_w 266, 3) := by decide +kernel
theorem dJ6_bitCount_0f7a4_14 : decode cJ6_bitCount_0f7a4 14 = .ok (.iand, 1) := by decide +kernel
theorem dJ6_bitCount_0f7a4_15 : decode cJ6_bitCount_0f7a4 15 = .ok (.iload_n 0, 1) := by decide +kernel
theorem dJ6_bitCount_0f7a4_16 : decode cJ6_bitCount_0f7a4 16 = .ok (.iconst 2, 1) := by decide +kernel
theorem dJ6_bitCount_0f7a4_17 : decode cJ6_bitCount_0f7a4 17 = .ok (.iushr, 1) := by decide +kernel
theorem dJ6_bitCount_0f7a4_18 : decode cJ6_bitCount_0f7a4 18 = .ok (.ldc_w 266, 3) := by decide +kernel
theorem dJ6_bitCount_0f7a4_21 : decode cJ6_bitCount_0f7a4 21 = .ok (.iand, 1) := by decide +kernel
theorem dJ6_bitCount_0f7a4_22 : decode cJ6_bitCount_0f7a4 22 = .ok (.iadd, 1) := by decide +kernel
theorem dJ6_bitCount_0f7a4_23 : decode cJ6_bitCount_0f7a4 23 = .ok (.istore_n 0, 1) := by decide +kernel
theorem dJ6_bitCount_0f7a4_24 : decode cJ6_bitCount_0f7a4 24 = .ok (.iload_n 0, 1) := by decide +kernel
theorem dJ6_bitCount_0f7a4_25 : decode cJ6_bitCount_0f7a4 25 = .ok (.iload_n 0, 1) := by decide +kernel
theorem dJ6_bitCount_0f7a4_26 : decode cJ6_bitCount_0f7a4 26 = .ok (.iconst 4, 1) := by decide +kernel
theorem dJ6_bitCount_0f7a4_27 : decode cJ6_bitCount_0f7a4 27 = .ok (.iushr, 1) := by decide +kernel
theorem dJ6_bitCount_0f7a4_28 : decode cJ6_bitCount_0f7a4 28 = .ok (.iadd, 1) := by decide +kernel
theorem dJ6_bitCount_0f7a4_29 : decode cJ6_bitCount_0f7a4 29 = .ok (.ldc_w 267, 3) := by decide +kernel
theorem dJ6_bitCount_0f7a4_32 : decode cJ6_bitCount_0f7a4 32 = .ok (.iand, 1) := by decide +kernel
theorem dJ6_bitCount_0f7a4_33 : decode cJ6_bitCount_0f7a4 33 = .ok (.istore_n 0, 1) := by decide +kernel
theorem dJ6_bitCount_0f7a4_34 : decode cJ6_bitCount_0f7a4 34 = .ok (.iload_n 0, 1) := by decide +kernel
theorem dJ6_bitCount_0f7a4_35 : decode cJ6_bitCount_0f7a4 35 = .ok (.iload_n 0, 1) := by decide +kernel
theorem dJ6_bitCount_0f7a4_36 : decode cJ6_bitCount_0f7a4 36 = .ok (.bipush 8, 2) := by decide +kernel
theorem dJ6_bitCount_0f7a4_38 : decode cJ6_bitCount_0f7a4 38 = .ok (.iushr, 1) := by decide +kernel
theorem dJ6_bitCount_0f7a4_39 : decode cJ6_bitCount_0f7a4 39 = .ok (.iadd, 1) := by decide +kernel
theorem dJ6_bitCount_0f7a4_40 : decode cJ6_bitCount_0f7a4 40 = .ok (.istore_n 0, 1) := by decide +kernel
theorem dJ6_bitCount_0f7a4_41 : decode cJ6_bitCount_0f7a4 41 = .ok (.iload_n 0, 1) := by decide +kernel
theorem dJ6_bitCount_0f7a4_42 : decode cJ6_bitCount_0f7a4 42 = .ok (.iload_n 0, 1) := by decide +kernel
theorem dJ6_bitCount_0f7a4_43 : decode cJ6_bitCount_0f7a4 43 = .ok (.bipush 16, 2) := by decide +kernel
theorem dJ6_bitCount_0f7a4_45 : decode cJ6_bitCount_0f7a4 45 = .ok (.iushr, 1) := by decide +kernel
theorem dJ6_bitCount_0f7a4_46 : decode cJ6_bitCount_0f7a4 46 = .ok (.iadd, 1) := by decide +kernel
theorem dJ6_bitCount_0f7a4_47 : decode cJ6_bitCount_0f7a4 47 = .ok (.istore_n 0, 1) := by decide +kernel
theorem dJ6_bitCount_0f7a4_48 : decode cJ6_bitCount_0f7a4 48 = .ok (.iload_n 0, 1) := by decide +kernel
theorem dJ6_bitCount_0f7a4_49 : decode cJ6_bitCount_0f7a4 49 = .ok (.bipush 63, 2) := by decide +kernel
theorem dJ6_bitCount_0f7a4_51 : decode cJ6_bitCount_0f7a4 51 = .ok (.iand, 1) := by decide +kernel
theorem dJ6_bitCount_0f7a4_52 : decode cJ6_bitCount_0f7a4 52 = .ok (.ireturn, 1) := by decide +kernel
def usI (x k : Int32) : Int32 := (x.toUInt32 >>> (k.toUInt32 &&& Int32.toUInt32 31)).toInt32
/-- Integer.bitCount -/
def bcF (x : Int32) : Int32 :=
  let a := x - (usI x 1 &&& 1431655765)
  let b := (a &&& 858993459) + (usI a 2 &&& 858993459)
  let c := (b + usI b 4) &&& 252645135
  let d := c + usI c 8
  let e := d + usI d 16
  e &&& 63
theorem CI.tape {b ts : Nat} {tb : Nat → Int32} {Sh : HS} {I J : HI} {R : HR} {σ : SG} (h : CI b Sh I R σ) (e : ∀ a k, ¬ (a = b + 1 ∧ k = 1) → ¬ a = b + 2 → ¬ prv b a k → J a k = I a k) (k1 : J (b + 1) 1 = nI ts) (k2 : ts ≤ 160) (k3 : ∀ j, j < ts → J (b + 2) j = tb j) : CI b Sh J R (withTp σ (ts, tb)) := by
  obtain ⟨h1, h2, h3, h4, h5, h6, h7⟩ := h
  have hn8 := h4.2.1
  refine ⟨h1, h2, ?_, ?_, ⟨k1, k2, k3⟩, ?_, ?_⟩
  · obtain ⟨a1, a2, a3, a4, a5⟩ := h3
    exact ⟨(e _ _ (by omega) (by omega) (by unfold prv; omega)).trans a1, a2, a3, fun t ht => (have ht : t < gTc σ := ht; (a4 t ht).same (fun k hk => e _ _ (by omega) (by omega) (by unfold prv; omega)) (fun k => e _ _ (by omega) (by omega) (by unfold prv; omega))), fun t ht => (e _ _ (by omega) (by omega) (by unfold prv; omega)).trans (a5 t ht)⟩
  · obtain ⟨c2, c3, c4, c5, c6⟩ := h4
    exact ⟨(e _ _ (by omega) (by omega) (by unfold prv; omega)).trans c2, c3, ⟨fun i hi k hk => (have hi : i < σ.1.1 := hi; (e _ _ (by omega) (by omega) (by unfold prv; omega)).trans (c4.1 i hi k hk)), (e _ _ (by omega) (by omega) (by unfold prv; omega)).trans c4.2.1, (e _ _ (by omega) (by omega) (by unfold prv; omega)).trans c4.2.2⟩, c5, c6⟩
  · have hz : gIm (withTp σ (ts, tb)) = gIm σ := rfl
    have hz2 : gTc (withTp σ (ts, tb)) = gTc σ := rfl
    unfold CIm at *
    rw [hz, hz2]
    cases hi : gIm σ with
    | none =>
      rw [hi] at h6
      exact (e _ _ (by omega) (by omega) (by unfold prv; omega)).trans h6
    | some y =>
      rw [hi] at h6
      obtain ⟨c1, c2, c3, c4, c5, c6⟩ := h6
      exact ⟨(e _ _ (by omega) (by omega) (by unfold prv; omega)).trans c1, (e _ _ (by omega) (by omega) (by unfold prv; omega)).trans c2, c3, ⟨fun i hi k hk => (e _ _ (by omega) (by omega) (by unfold prv; omega)).trans (c4.1 i hi k hk), (e _ _ (by omega) (by omega) (by unfold prv; omega)).trans c4.2.1, (e _ _ (by omega) (by omega) (by unfold prv; omega)).trans c4.2.2⟩, c5, c6⟩
  · intro t ht
    obtain ⟨a1, a2, a3, a4⟩ := h7 t ht
    exact ⟨(e _ _ (by omega) (by omega) (by unfold prv; omega)).trans a1, (e _ _ (by omega) (by omega) (by unfold prv; omega)).trans a2, a3, fun j hj => (e _ _ (by omega) (by omega) (by unfold prv; omega)).trans (a4 j hj)⟩
noncomputable def countF (σ : SG) (w : Int32) : Int32 := if w = 0 then nI (gN σ) else if w = 1 then bcF (standF (gN σ) (gW σ)) else if w = 2 then (gW σ).2.2 else if w = 3 then nI (gTc σ) else if w = 4 then nI (gTs σ) else if w = 5 then nI (gRu σ) else -2
def feedP (v : Int32) : Prop := 0 ≤ v ∧ v ≤ 255
noncomputable def feedV (σ : SG) (v : Int32) : Int32 := by
  classical
  exact if feedP v then (if gTs σ < 160 then nI (gTs σ + 1) else -4) else -2
noncomputable def feedS (σ : SG) (v : Int32) : SG := by
  classical
  exact if feedP v ∧ gTs σ < 160 then withTp σ (gTs σ + 1, fun j => if j = gTs σ then v else gTb σ j) else σ
noncomputable def sheetV (s so n : Int32) : Int32 := match idF 4 s with
  | none => -2
  | some _ => if so < -1 ∨ 3 ≤ so then -2 else if so = -1 then 1 else if 40 < n then -2 else if n < 0 then -14 else 1
noncomputable def sheetS (σ : SG) (s so n : Int32) : SG := match idF 4 s with
  | none => σ
  | some j => if so < -1 ∨ 3 ≤ so then σ else if so = -1 then withSh σ j (-1, 0, fun _ => 0) else if 40 < n then σ else if n < 0 then σ else withSh σ j (so, n.toNatClampNeg, fun _ => 0)
noncomputable def cellV (σ : SG) (s i : Int32) : Int32 := match idF 4 s with
  | none => -2
  | some t => if gSo σ t = -1 then -11 else if ¬ i < 0 ∧ i < nI (gSz σ t) then 1 else -12
noncomputable def cellS (σ : SG) (s i v : Int32) : SG := match idF 4 s with
  | none => σ
  | some t => if gSo σ t = -1 then σ else if ¬ i < 0 ∧ i < nI (gSz σ t) then withSh σ t (gSo σ t, gSz σ t, fun q => if q = i.toNatClampNeg then cutF (gSo σ t) v else gRo σ t q) else σ

set_option maxHeartbeats 4000000 in
set_option maxRecDepth 100000 in
theorem k_bitCount {G : GG} {Sh : HS} {I : HI} {R : HR} {x : Int32} : AM G 1 0 0 yJ6_bitCount_0f7a4 cJ6_bitCount_0f7a4 1 (some .int) [.int x] (Sh, I, R) (qi fun r g => r = bcF x ∧ g = (Sh, I, R)) := by
  refine am_intro (by decide) (Nat.le_of_ble_eq_true rfl) ?_
  refine x_iload_n dJ6_bitCount_0f7a4_0 0 rfl rfl ?_
  refine x_iload_n dJ6_bitCount_0f7a4_1 0 rfl rfl ?_
  refine x_iconst (v := 1) dJ6_bitCount_0f7a4_2 (by decide) ?_
  refine x_iushr (v := ((x : Int32).toUInt32 >>> ((1 : Int32).toUInt32 &&& Int32.toUInt32 31)).toInt32) dJ6_bitCount_0f7a4_3 rfl ?_
  refine x_ldcw (v := 1431655765) dJ6_bitCount_0f7a4_4 (tw_at 786 (by decide +kernel) rfl) ?_
  refine x_iand dJ6_bitCount_0f7a4_7 ?_
  refine x_isub dJ6_bitCount_0f7a4_8 ?_
  refine x_topi (fun xq1 e_xq1 => ?_)
  refine x_istore_n (lv' := [(0, .int xq1)]) dJ6_bitCount_0f7a4_9 rfl (by decide) rfl ?_
  refine x_iload_n dJ6_bitCount_0f7a4_10 0 rfl rfl ?_
  refine x_ldcw (v := 858993459) dJ6_bitCount_0f7a4_11 (tw_at 787 (by decide +kernel) rfl) ?_
  refine x_iand dJ6_bitCount_0f7a4_14 ?_
  refine x_iload_n dJ6_bitCount_0f7a4_15 0 rfl rfl ?_
  refine x_iconst (v := 2) dJ6_bitCount_0f7a4_16 (by decide) ?_
  refine x_iushr (v := ((xq1 : Int32).toUInt32 >>> ((2 : Int32).toUInt32 &&& Int32.toUInt32 31)).toInt32) dJ6_bitCount_0f7a4_17 rfl ?_
  refine x_ldcw (v := 858993459) dJ6_bitCount_0f7a4_18 (tw_at 787 (by decide +kernel) rfl) ?_
  refine x_iand dJ6_bitCount_0f7a4_21 ?_
  refine x_iadd dJ6_bitCount_0f7a4_22 ?_
  refine x_topi (fun xq2 e_xq2 => ?_)
  refine x_istore_n (lv' := [(0, .int xq2)]) dJ6_bitCount_0f7a4_23 rfl (by decide) rfl ?_
  refine x_iload_n dJ6_bitCount_0f7a4_24 0 rfl rfl ?_
  refine x_iload_n dJ6_bitCount_0f7a4_25 0 rfl rfl ?_
  refine x_iconst (v := 4) dJ6_bitCount_0f7a4_26 (by decide) ?_
  refine x_iushr (v := ((xq2 : Int32).toUInt32 >>> ((4 : Int32).toUInt32 &&& Int32.toUInt32 31)).toInt32) dJ6_bitCount_0f7a4_27 rfl ?_
  refine x_iadd dJ6_bitCount_0f7a4_28 ?_
  refine x_ldcw (v := 252645135) dJ6_bitCount_0f7a4_29 (tw_at 788 (by decide +kernel) rfl) ?_
  refine x_iand dJ6_bitCount_0f7a4_32 ?_
  refine x_topi (fun xq3 e_xq3 => ?_)
  refine x_istore_n (lv' := [(0, .int xq3)]) dJ6_bitCount_0f7a4_33 rfl (by decide) rfl ?_
  refine x_iload_n dJ6_bitCount_0f7a4_34 0 rfl rfl ?_
  refine x_iload_n dJ6_bitCount_0f7a4_35 0 rfl rfl ?_
  refine x_bipush (v := 8) dJ6_bitCount_0f7a4_36 (by decide) ?_
  refine x_iushr (v := ((xq3 : Int32).toUInt32 >>> ((8 : Int32).toUInt32 &&& Int32.toUInt32 31)).toInt32) dJ6_bitCount_0f7a4_38 rfl ?_
  refine x_iadd dJ6_bitCount_0f7a4_39 ?_
  refine x_topi (fun xq4 e_xq4 => ?_)
  refine x_istore_n (lv' := [(0, .int xq4)]) dJ6_bitCount_0f7a4_40 rfl (by decide) rfl ?_
  refine x_iload_n dJ6_bitCount_0f7a4_41 0 rfl rfl ?_
  refine x_iload_n dJ6_bitCount_0f7a4_42 0 rfl rfl ?_
  refine x_bipush (v := 16) dJ6_bitCount_0f7a4_43 (by decide) ?_
  refine x_iushr (v := ((xq4 : Int32).toUInt32 >>> ((16 : Int32).toUInt32 &&& Int32.toUInt32 31)).toInt32) dJ6_bitCount_0f7a4_45 rfl ?_
  refine x_iadd dJ6_bitCount_0f7a4_46 ?_
  refine x_topi (fun xq5 e_xq5 => ?_)
  refine x_istore_n (lv' := [(0, .int xq5)]) dJ6_bitCount_0f7a4_47 rfl (by decide) rfl ?_
  refine x_iload_n dJ6_bitCount_0f7a4_48 0 rfl rfl ?_
  refine x_bipush (v := 63) dJ6_bitCount_0f7a4_49 (by decide) ?_
  refine x_iand dJ6_bitCount_0f7a4_51 ?_
  refine x_iret dJ6_bitCount_0f7a4_52 rfl (Nat.le_refl _) (Nat.le_refl _) ?_
  subst_vars
  exact ⟨rfl, rfl⟩

set_option maxHeartbeats 4000000 in
set_option maxRecDepth 100000 in
theorem k_count {G : GG} {Sh : HS} {I : HI} {R : HR} {b : Nat} {σ : SG} (hc : CI b Sh I R σ) {w : Int32} : AM G 3 0 0 yX7_count cX7_count 2 (some .int) [.ref b, .int w] (Sh, I, R) (qi (qryI b Sh I R (countF σ w))) := by
  obtain ⟨⟨s0, s1, s2, s3, s4, s5, s6, s7, sT, sS, sA, sB, sC, sG⟩, ⟨r0, r1, r2, r4, r5, r6, r8, r9, rt0, rt2, rt3, rr0, rT, rS, rTT, rSS, rA, rB, rC, rG⟩, hCT, hCK, hCTp, hCIm, hCSe⟩ := id hc
  have hn8 : gN σ ≤ 8 := hCK.2.1
  have hru := hc.ru
  have hs := hc.sr
  have hw := hc.sw
  refine am_intro (by decide) (Nat.le_of_ble_eq_true rfl) ?_
  refine x_iload_n dX7_count_0 1 rfl rfl ?_
  refine x_tsw [(0, 40), (1, 48), (2, 59), (3, 67), (4, 72), (5, 80)] 91 dX7_count_1 (by decide) (by decide +kernel) (fun c_1 => ?_) ?_
  · have d_1 : ¬ w = 0 ∧ ¬ w = 1 ∧ ¬ w = 2 ∧ ¬ w = 3 ∧ ¬ w = 4 ∧ ¬ w = 5 := ⟨fun q => c_1 (0, 40) (by simp) (q.trans (by decide)), fun q => c_1 (1, 48) (by simp) (q.trans (by decide)), fun q => c_1 (2, 59) (by simp) (q.trans (by decide)), fun q => c_1 (3, 67) (by simp) (q.trans (by decide)), fun q => c_1 (4, 72) (by simp) (q.trans (by decide)), fun q => c_1 (5, 80) (by simp) (q.trans (by decide))⟩
    refine x_bipush (v := (-2)) dX7_count_91 (by decide) ?_
    refine x_iret dX7_count_93 rfl (Nat.le_refl _) (Nat.le_refl _) ?_
    refine ⟨?_, I, R, rfl, pvE.rf, rvE.rf⟩
    unfold countF
    obtain ⟨z0, z1, z2, z3, z4, z5⟩ := d_1
    rw [if_neg z0, if_neg z1, if_neg z2, if_neg z3, if_neg z4, if_neg z5]
  · refine List.forall_mem_cons.mpr ⟨fun c_1 => ?_, List.forall_mem_cons.mpr ⟨fun c_1 => ?_, List.forall_mem_cons.mpr ⟨fun c_1 => ?_, List.forall_mem_cons.mpr ⟨fun c_1 => ?_, List.forall_mem_cons.mpr ⟨fun c_1 => ?_, List.forall_mem_cons.mpr ⟨fun c_1 => ?_, fun _ h9 => absurd h9 List.not_mem_nil⟩⟩⟩⟩⟩⟩
    · have c_1 : w = 0 := c_1.trans (by decide)
      refine x_aload_n dX7_count_40 0 rfl rfl ?_
      refine x_gR (b := b + 34) dX7_count_41 fl_7_73 rfl s0 r4 ?_
      refine x_gI (v := nI (gN σ)) dX7_count_44 fl_7_216 rfl sA.1 hCK.1 ?_
      refine x_iret dX7_count_47 rfl (Nat.le_refl _) (Nat.le_refl _) ?_
      refine ⟨?_, I, R, rfl, pvE.rf, rvE.rf⟩
      unfold countF
      subst c_1
      rfl
    · have c_1 : w = 1 := c_1.trans (by decide)
      refine x_aload_n dX7_count_48 0 rfl rfl ?_
      refine x_gR (b := b + 34) dX7_count_49 fl_7_73 rfl s0 r4 ?_
      refine x_callV (k_standing (G := G) hw hs) dX7_count_52 crc_X4_standing vc_7_161 sA.1 rfl rfl rfl rfl (Nat.le_of_ble_eq_true rfl) (roomy_k (by omega) (by decide)) (Nat.le_refl _) (Nat.le_refl _) ?_
      rintro _ _ ⟨r, rfl, hr, rfl⟩
      refine x_callS (rest := []) (k_bitCount (G := G) (Sh := Sh) (I := I) (R := R) (x := r)) dX7_count_55 crc_J6_bitCount_0f7a4 sc_7_254 rfl rfl (Nat.le_of_ble_eq_true rfl) (roomy_k (by omega) (by decide)) (Nat.le_refl _) (Nat.le_refl _) ?_
      rintro _ _ ⟨r2, rfl, hr2, rfl⟩
      refine x_iret dX7_count_58 rfl (Nat.le_refl _) (Nat.le_refl _) ?_
      refine ⟨?_, I, R, rfl, pvE.rf, rvE.rf⟩
      unfold countF
      subst c_1
      show r2 = bcF (standF (gN σ) (gW σ))
      rw [hr2, hr]
    · have c_1 : w = 2 := c_1.trans (by decide)
      refine x_aload_n dX7_count_59 0 rfl rfl ?_
      refine x_gR (b := b + 34) dX7_count_60 fl_7_73 rfl s0 r4 ?_
      refine x_gI (v := (gW σ).2.2) dX7_count_63 fl_7_103 rfl sA.1 hs.2.2 ?_
      refine x_iret dX7_count_66 rfl (Nat.le_refl _) (Nat.le_refl _) ?_
      refine ⟨?_, I, R, rfl, pvE.rf, rvE.rf⟩
      unfold countF
      subst c_1
      rfl
    · have c_1 : w = 3 := c_1.trans (by decide)
      refine x_aload_n dX7_count_67 0 rfl rfl ?_
      refine x_gI (v := nI (gTc σ)) dX7_count_68 fl_7_64 rfl s0 hCT.1 ?_
      refine x_iret dX7_count_71 rfl (Nat.le_refl _) (Nat.le_refl _) ?_
      refine ⟨?_, I, R, rfl, pvE.rf, rvE.rf⟩
      unfold countF
      subst c_1
      rfl
    · have c_1 : w = 4 := c_1.trans (by decide)
      refine x_aload_n dX7_count_72 0 rfl rfl ?_
      refine x_gR (b := b + 1) dX7_count_73 fl_7_10 rfl s0 r0 ?_
      refine x_gI (v := nI (gTs σ)) dX7_count_76 fl_7_148 rfl s1 hCTp.1 ?_
      refine x_iret dX7_count_79 rfl (Nat.le_refl _) (Nat.le_refl _) ?_
      refine ⟨?_, I, R, rfl, pvE.rf, rvE.rf⟩
      unfold countF
      subst c_1
      rfl
    · have c_1 : w = 5 := c_1.trans (by decide)
      refine x_aload_n dX7_count_80 0 rfl rfl ?_
      refine x_gR (b := b + 34) dX7_count_81 fl_7_73 rfl s0 r4 ?_
      refine x_gR (b := b + 8 + 3 * gRu σ) dX7_count_84 fl_7_151 rfl sA.1 hCK.2.2.2.1 ?_
      refine x_gI (v := nI (gRu σ)) dX7_count_87 fl_7_155 rfl (sT (gRu σ) (by omega)).1 (hCT.2.2.2.2 _ hru) ?_
      refine x_iret dX7_count_90 rfl (Nat.le_refl _) (Nat.le_refl _) ?_
      refine ⟨?_, I, R, rfl, pvE.rf, rvE.rf⟩
      unfold countF
      subst c_1
      rfl

set_option maxHeartbeats 4000000 in
set_option maxRecDepth 100000 in
theorem k_tadd {G : GG} {Sh : HS} {I : HI} {R : HR} {Tp ts : Nat} (hT : Sh.2 Tp = (5, 4)) (hT2 : Sh.2 (Tp + 1) = (9, 160)) (hRT : R Tp 0 = some (Tp + 1)) (hts : I Tp 1 = nI ts) (hts2 : ts ≤ 160) {v : Int32} : AM G 1 0 0 yX5_add cX5_add 2 (some .boolean) [.ref Tp, .int v] (Sh, I, R) (qi fun r g => (ts < 160 ∧ r = 1 ∧ g = (Sh, u2 (u2 I (Tp + 1) ts v) Tp 1 (nI (ts + 1)), R)) ∨ (ts = 160 ∧ r = 0 ∧ g = (Sh, I, R))) := by
  refine am_intro (by decide) (Nat.le_of_ble_eq_true rfl) ?_
  refine x_aload_n dX5_add_0 0 rfl rfl ?_
  refine x_gI (v := nI ts) dX5_add_1 fl_5_21 rfl hT hts ?_
  refine x_if_lt (tgt := 17) dX5_add_4 (by decide) (fun c_4 => False.elim (nI_pos (by omega) c_4)) (fun c_4 => ?_)
  refine x_aload_n dX5_add_7 0 rfl rfl ?_
  refine x_gI (v := nI ts) dX5_add_8 fl_5_21 rfl hT hts ?_
  refine x_sipush (v := 160) dX5_add_11 (by decide) ?_
  refine x_icmp_lt (tgt := 19) dX5_add_14 (by decide) (fun c_14 => ?_) (fun c_14 => ?_)
  · have c_14 : ts < 160 := (nI_ltI (a := ts) (b := 160) (by omega) (by omega)).mp c_14
    refine x_aload_n dX5_add_19 0 rfl rfl ?_
    refine x_gR (b := Tp + 1) dX5_add_20 fl_5_9 rfl hT hRT ?_
    refine x_aload_n dX5_add_23 0 rfl rfl ?_
    refine x_gI (v := nI ts) dX5_add_24 fl_5_21 rfl hT hts ?_
    refine x_iload_n dX5_add_27 1 rfl rfl ?_
    refine x_is (j := ts) dX5_add_28 hT2 rfl (by omega) (by omega) (fun Iq1 e_Iq1 => ?_)
    refine x_aload_n dX5_add_29 0 rfl rfl ?_
    refine x_dup dX5_add_30 rfl ?_
    refine x_gI (v := nI ts) dX5_add_31 fl_5_21 rfl hT (by rw [e_Iq1, u2_ne (by omega)]; exact hts) ?_
    refine x_iconst (v := 1) dX5_add_34 (by decide) ?_
    refine x_iadd dX5_add_35 ?_
    refine x_pI dX5_add_36 fl_5_21 rfl rfl rfl hT (fun Iq2 e_Iq2 => ?_)
    refine x_iconst (v := 1) dX5_add_39 (by decide) ?_
    refine x_zret dX5_add_40 rfl rfl (Nat.le_refl _) (Nat.le_refl _) ?_
    refine Or.inl ⟨by omega, rfl, ?_⟩
    rw [e_Iq2, e_Iq1, show nI ts + 1 = nI (ts + 1) from nI_1 ts]
  · have c_14 : ¬ ts < 160 := fun zz9 => c_14 ((nI_ltI (a := ts) (b := 160) (by omega) (by omega)).mpr zz9)
    refine x_iconst (v := 0) dX5_add_17 (by decide) ?_
    refine x_zret dX5_add_18 rfl rfl (Nat.le_refl _) (Nat.le_refl _) ?_
    exact Or.inr ⟨by omega, rfl, rfl⟩

set_option maxHeartbeats 4000000 in
set_option maxRecDepth 100000 in
theorem k_tclear {G : GG} {Sh : HS} {I : HI} {R : HR} {Tp : Nat} (hT : Sh.2 Tp = (5, 4)) : AM G 1 0 0 yX5_clear cX5_clear 1 none [.ref Tp] (Sh, I, R) (qv fun g => g = (Sh, u2 I Tp 1 0, R)) := by
  refine am_intro (by decide) (Nat.le_of_ble_eq_true rfl) ?_
  refine x_aload_n dX5_clear_0 0 rfl rfl ?_
  refine x_iconst (v := 0) dX5_clear_1 (by decide) ?_
  refine x_pI dX5_clear_2 fl_5_21 rfl rfl rfl hT (fun Iq1 e_Iq1 => ?_)
  refine x_vret dX5_clear_5 rfl (Nat.le_refl _) (Nat.le_refl _) ?_
  subst_vars
  rfl

set_option maxHeartbeats 4000000 in
set_option maxRecDepth 100000 in
theorem k_feed {G : GG} {Sh : HS} {I : HI} {R : HR} {b : Nat} {σ : SG} (hc : CI b Sh I R σ) {v : Int32} : AM G 2 0 0 yX7_feed cX7_feed 2 (some .int) [.ref b, .int v] (Sh, I, R) (qi (updI b Sh I R (feedV σ v) (feedS σ v))) := by
  obtain ⟨⟨s0, s1, s2, s3, s4, s5, s6, s7, sT, sS, sA, sB, sC, sG⟩, ⟨r0, r1, r2, r4, r5, r6, r8, r9, rt0, rt2, rt3, rr0, rT, rS, rTT, rSS, rA, rB, rC, rG⟩, hCT, hCK, hCTp, hCIm, hCSe⟩ := id hc
  have hn8 : gN σ ≤ 8 := hCK.2.1
  have hru := hc.ru
  have hs := hc.sr
  have hw := hc.sw
  refine am_intro (by decide) (Nat.le_of_ble_eq_true rfl) ?_
  refine x_iload_n dX7_feed_0 1 rfl rfl ?_
  refine x_if_lt (tgt := 11) dX7_feed_1 (by decide) (fun c_1 => ?_) (fun c_1 => ?_)
  · refine x_bipush (v := (-2)) dX7_feed_11 (by decide) ?_
    refine x_iret dX7_feed_13 rfl (Nat.le_refl _) (Nat.le_refl _) ?_
    have hno9 : ¬ feedP v := fun q => absurd c_1 (Int32.not_lt.mpr q.1)
    unfold feedV feedS
    rw [if_neg hno9, if_neg (fun q => hno9 q.1)]
    exact ⟨rfl, I, R, rfl, hc, FrC.rf, FrC.rf⟩
  · refine x_iload_n dX7_feed_4 1 rfl rfl ?_
    refine x_sipush (v := 255) dX7_feed_5 (by decide) ?_
    refine x_icmp_le (tgt := 14) dX7_feed_8 (by decide) (fun c_8 => ?_) (fun c_8 => ?_)
    · refine x_aload_n dX7_feed_14 0 rfl rfl ?_
      refine x_gR (b := b + 1) dX7_feed_15 fl_7_10 rfl s0 r0 ?_
      refine x_iload_n dX7_feed_18 1 rfl rfl ?_
      refine x_callV (k_tadd (G := G) (Tp := b + 1) (v := v) s1 s2 rt0 hCTp.1 hCTp.2.1) dX7_feed_19 crc_X5_add vc_7_53 s1 rfl rfl rfl rfl (Nat.le_of_ble_eq_true rfl) (roomy_k (by omega) (by decide)) (Nat.le_refl _) (Nat.le_refl _) ?_
      rintro _ _ ⟨r, rfl, (⟨hlt, rfl, rfl⟩ | ⟨heq, rfl, rfl⟩)⟩
      · obtain ⟨J, eJ⟩ : ∃ z : HI, z = u2 (u2 I (b + 1 + 1) (gTs σ) v) (b + 1) 1 (nI (gTs σ + 1)) := ⟨_, rfl⟩
        rw [← eJ]
        refine x_if_eq (tgt := 35) dX7_feed_22 (by decide) (fun c_22 => False.elim (absurd c_22 (by decide))) (fun c_22 => ?_)
        refine x_aload_n dX7_feed_25 0 rfl rfl ?_
        refine x_gR (b := b + 1) dX7_feed_26 fl_7_10 rfl s0 r0 ?_
        refine x_gI (v := nI (gTs σ + 1)) dX7_feed_29 fl_7_148 rfl s1 (by rw [eJ]; exact u2_same) ?_
        refine x_goto (tgt := 37) dX7_feed_32 (by decide) ?_
        refine x_iret dX7_feed_37 rfl (Nat.le_refl _) (Nat.le_refl _) ?_
        have hok9 : feedP v := ⟨Int32.not_lt.mp c_1, c_8⟩
        unfold feedV feedS
        rw [if_pos hok9, if_pos hlt, if_pos ⟨hok9, hlt⟩]
        refine ⟨rfl, J, R, rfl, hc.tape (fun a k q1 q2 _ => by rw [eJ, u2_ne q1, u2_ne (by omega)]) (by rw [eJ, u2_same]) (by omega) (fun j hj => ?_), fun a k q => by rw [eJ, u2_ne (by omega), u2_ne (by omega)], FrC.rf⟩
        rw [eJ, u2_ne (by omega)]
        by_cases e : j = gTs σ
        · subst e
          rw [if_pos rfl]
          exact u2_same
        · rw [if_neg e, u2_ne (by omega)]
          exact hCTp.2.2 j (by omega)
      · refine x_if_eq (tgt := 35) dX7_feed_22 (by decide) (fun c_22 => ?_) (fun c_22 => False.elim (c_22 rfl))
        refine x_bipush (v := (-4)) dX7_feed_35 (by decide) ?_
        refine x_iret dX7_feed_37 rfl (Nat.le_refl _) (Nat.le_refl _) ?_
        have hok9 : feedP v := ⟨Int32.not_lt.mp c_1, c_8⟩
        unfold feedV feedS
        rw [if_pos hok9, if_neg (by omega), if_neg (by omega)]
        exact ⟨rfl, I, R, rfl, hc, FrC.rf, FrC.rf⟩
    · refine x_bipush (v := (-2)) dX7_feed_11 (by decide) ?_
      refine x_iret dX7_feed_13 rfl (Nat.le_refl _) (Nat.le_refl _) ?_
      have hno9 : ¬ feedP v := fun q => c_8 q.2
      unfold feedV feedS
      rw [if_neg hno9, if_neg (fun q => hno9 q.1)]
      exact ⟨rfl, I, R, rfl, hc, FrC.rf, FrC.rf⟩

set_option maxHeartbeats 4000000 in
set_option maxRecDepth 100000 in
theorem k_sheet {G : GG} {Sh : HS} {I : HI} {R : HR} {b : Nat} {σ : SG} (hc : CI b Sh I R σ) {s so n : Int32} : AM G 3 0 0 yX7_sheet cX7_sheet 5 (some .int) [.ref b, .int s, .int so, .int n] (Sh, I, R) (qi (updI b Sh I R (sheetV s so n) (sheetS σ s so n))) := by
  obtain ⟨⟨s0, s1, s2, s3, s4, s5, s6, s7, sT, sS, sA, sB, sC, sG⟩, ⟨r0, r1, r2, r4, r5, r6, r8, r9, rt0, rt2, rt3, rr0, rT, rS, rTT, rSS, rA, rB, rC, rG⟩, hCT, hCK, hCTp, hCIm, hCSe⟩ := id hc
  have hn8 : gN σ ≤ 8 := hCK.2.1
  have hru := hc.ru
  have hs := hc.sr
  have hw := hc.sw
  refine am_intro (by decide) (Nat.le_of_ble_eq_true rfl) ?_
  refine x_aload_n dX7_sheet_0 0 rfl rfl ?_
  refine x_iload_n dX7_sheet_1 1 rfl rfl ?_
  refine x_callV (k_sheetAt (G := G) hc (i := s)) dX7_sheet_2 crc_X7_sheetAt vc_7_185 s0 rfl rfl rfl rfl (Nat.le_of_ble_eq_true rfl) (roomy_k (by omega) (by decide)) (Nat.le_refl _) (Nat.le_refl _) ?_
  rintro _ _ ⟨_, rfl, rfl, (⟨t, ht, hit, rfl⟩ | ⟨hno, rfl⟩)⟩
  · refine x_astore (lv' := [(4, .ref (b + 26 + 2 * t)), (0, .ref b), (1, .int s), (2, .int so), (3, .int n)]) dX7_sheet_5 (by decide) rfl ?_
    refine x_aload dX7_sheet_7 0 rfl ?_
    refine x_ifnull dX7_sheet_9 ?_
    refine x_iload_n dX7_sheet_12 3 rfl rfl ?_
    refine x_iconst (v := (-1)) dX7_sheet_13 (by decide) ?_
    refine x_icmp_lt (tgt := 22) dX7_sheet_14 (by decide) (fun c_14 => ?_) (fun c_14 => ?_)
    · refine x_bipush (v := (-2)) dX7_sheet_22 (by decide) ?_
      refine x_iret dX7_sheet_24 rfl (Nat.le_refl _) (Nat.le_refl _) ?_
      unfold sheetV sheetS
      rw [hit, idF_in (n := 4) ht (by omega)]
      have h9 : so < -1 ∨ 3 ≤ so := Or.inl c_14
      simp only [h9, if_true]
      exact ⟨rfl, I, R, rfl, hc, FrC.rf, FrC.rf⟩
    · refine x_iload_n dX7_sheet_17 3 rfl rfl ?_
      refine x_iconst (v := 3) dX7_sheet_18 (by decide) ?_
      refine x_icmp_lt (tgt := 25) dX7_sheet_19 (by decide) (fun c_19 => ?_) (fun c_19 => ?_)
      · refine x_iload_n dX7_sheet_25 3 rfl rfl ?_
        refine x_iconst (v := (-1)) dX7_sheet_26 (by decide) ?_
        refine x_icmp_ne (tgt := 39) dX7_sheet_27 (by decide) (fun c_27 => ?_) (fun c_27 => ?_)
        · refine x_iload_n dX7_sheet_39 4 rfl rfl ?_
          refine x_bipush (v := 40) dX7_sheet_40 (by decide) ?_
          refine x_icmp_le (tgt := 48) dX7_sheet_42 (by decide) (fun c_42 => ?_) (fun c_42 => ?_)
          · refine x_iload_n dX7_sheet_48 4 rfl rfl ?_
            refine x_if_ge (tgt := 55) dX7_sheet_49 (by decide) (fun c_49 => ?_) (fun c_49 => ?_)
            · refine x_aload dX7_sheet_55 0 rfl ?_
              refine x_iload_n dX7_sheet_57 3 rfl rfl ?_
              refine x_iload_n dX7_sheet_58 4 rfl rfl ?_
              refine x_callV (k_become (G := G) (A := b + 26 + 2 * t) (so := so) (nn := n) (sS t ht) (rSS t ht)) dX7_sheet_59 crc_X3_become vc_7_233 (sS t (by omega)).1 rfl rfl rfl rfl (Nat.le_of_ble_eq_true rfl) (roomy_k (by omega) (by decide)) (Nat.le_refl _) (Nat.le_refl _) ?_
              rintro _ _ ⟨rfl, J, rfl, h1, h2, h3, h4⟩
              refine x_iconst (v := 1) dX7_sheet_62 (by decide) ?_
              refine x_iret dX7_sheet_63 rfl (Nat.le_refl _) (Nat.le_refl _) ?_
              unfold sheetV sheetS
              rw [hit, idF_in (n := 4) ht (by omega)]
              have h9 : ¬ (so < -1 ∨ 3 ≤ so) := fun q => q.elim c_14 (fun q => absurd c_19 (Int32.not_lt.mpr q))
              simp only [h9, if_false]
              simp only [c_27, if_false]
              have h8 : ¬ 40 < n := Int32.not_lt.mpr c_42
              simp only [h8, if_false]
              have h7 : ¬ n < 0 := Int32.not_lt.mpr c_49
              simp only [h7, if_false]
              obtain ⟨k, hk, rfl⟩ := nI_of2 (M := 40) (n := 40) (by decide) h7 c_42
              rw [nI_clamp (by omega)]
              exact ⟨rfl, J, R, rfl, hc.sheetU ht h4 h1 (h2.trans (by
                unfold mxI mnI
                by_cases e : k = 40
                · subst e
                  decide
                · have hz : nI k < (40 : Int32) := (nI_ltI (b := 40) (by omega) (by omega)).mpr (by omega)
                  simp only [hz, if_true]
                  by_cases e0 : k = 0
                  · subst e0
                    decide
                  · have hz0 : (0 : Int32) < nI k := (nI_ltI (a := 0) (by omega) (by omega)).mpr (by omega)
                    simp only [hz0, if_true])) hk h3, fun a k q => h4 a k (by omega) (by omega), FrC.rf⟩
            · refine x_bipush (v := (-14)) dX7_sheet_52 (by decide) ?_
              refine x_iret dX7_sheet_54 rfl (Nat.le_refl _) (Nat.le_refl _) ?_
              unfold sheetV sheetS
              rw [hit, idF_in (n := 4) ht (by omega)]
              have h9 : ¬ (so < -1 ∨ 3 ≤ so) := fun q => q.elim c_14 (fun q => absurd c_19 (Int32.not_lt.mpr q))
              simp only [h9, if_false]
              simp only [c_27, if_false]
              have h8 : ¬ 40 < n := Int32.not_lt.mpr c_42
              simp only [h8, if_false]
              have h7 : n < 0 := Int32.not_le.mp c_49
              simp only [h7, if_true]
              exact ⟨rfl, I, R, rfl, hc, FrC.rf, FrC.rf⟩
          · refine x_bipush (v := (-2)) dX7_sheet_45 (by decide) ?_
            refine x_iret dX7_sheet_47 rfl (Nat.le_refl _) (Nat.le_refl _) ?_
            unfold sheetV sheetS
            rw [hit, idF_in (n := 4) ht (by omega)]
            have h9 : ¬ (so < -1 ∨ 3 ≤ so) := fun q => q.elim c_14 (fun q => absurd c_19 (Int32.not_lt.mpr q))
            simp only [h9, if_false]
            simp only [c_27, if_false]
            have h8 : 40 < n := Int32.not_le.mp c_42
            simp only [h8, if_true]
            exact ⟨rfl, I, R, rfl, hc, FrC.rf, FrC.rf⟩
        · refine x_aload dX7_sheet_30 0 rfl ?_
          refine x_iconst (v := (-1)) dX7_sheet_32 (by decide) ?_
          refine x_iconst (v := 0) dX7_sheet_33 (by decide) ?_
          refine x_callV (k_become (G := G) (A := b + 26 + 2 * t) (so := (-1)) (nn := 0) (sS t ht) (rSS t ht)) dX7_sheet_34 crc_X3_become vc_7_233 (sS t (by omega)).1 rfl rfl rfl rfl (Nat.le_of_ble_eq_true rfl) (roomy_k (by omega) (by decide)) (Nat.le_refl _) (Nat.le_refl _) ?_
          rintro _ _ ⟨rfl, J, rfl, h1, h2, h3, h4⟩
          refine x_iconst (v := 1) dX7_sheet_37 (by decide) ?_
          refine x_iret dX7_sheet_38 rfl (Nat.le_refl _) (Nat.le_refl _) ?_
          unfold sheetV sheetS
          rw [hit, idF_in (n := 4) ht (by omega)]
          have h9 : ¬ (so < -1 ∨ 3 ≤ so) := fun q => q.elim c_14 (fun q => absurd c_19 (Int32.not_lt.mpr q))
          simp only [h9, if_false]
          subst c_27
          simp only [if_true]
          exact ⟨rfl, J, R, rfl, hc.sheetU ht h4 h1 (h2.trans (by decide)) (by omega) h3, fun a k q => h4 a k (by omega) (by omega), FrC.rf⟩
      · refine x_bipush (v := (-2)) dX7_sheet_22 (by decide) ?_
        refine x_iret dX7_sheet_24 rfl (Nat.le_refl _) (Nat.le_refl _) ?_
        unfold sheetV sheetS
        rw [hit, idF_in (n := 4) ht (by omega)]
        have h9 : so < -1 ∨ 3 ≤ so := Or.inr (Int32.not_lt.mp c_19)
        simp only [h9, if_true]
        exact ⟨rfl, I, R, rfl, hc, FrC.rf, FrC.rf⟩
  · refine x_astoreN (lv' := [(4, .null), (0, .ref b), (1, .int s), (2, .int so), (3, .int n)]) dX7_sheet_5 (by decide) rfl ?_
    refine x_aloadN dX7_sheet_7 0 rfl ?_
    refine x_ifnullN (tgt := 22) dX7_sheet_9 (by decide) ?_
    refine x_bipush (v := (-2)) dX7_sheet_22 (by decide) ?_
    refine x_iret dX7_sheet_24 rfl (Nat.le_refl _) (Nat.le_refl _) ?_
    unfold sheetV sheetS
    rw [idF_out (n := 4) (by omega) hno]
    exact ⟨rfl, I, R, rfl, hc, FrC.rf, FrC.rf⟩

set_option maxHeartbeats 4000000 in
set_option maxRecDepth 100000 in
theorem k_cell {G : GG} {Sh : HS} {I : HI} {R : HR} {b : Nat} {σ : SG} (hc : CI b Sh I R σ) {s i v : Int32} : AM G 3 0 0 yX7_cell cX7_cell 5 (some .int) [.ref b, .int s, .int i, .int v] (Sh, I, R) (qi (updI b Sh I R (cellV σ s i) (cellS σ s i v))) := by
  obtain ⟨⟨s0, s1, s2, s3, s4, s5, s6, s7, sT, sS, sA, sB, sC, sG⟩, ⟨r0, r1, r2, r4, r5, r6, r8, r9, rt0, rt2, rt3, rr0, rT, rS, rTT, rSS, rA, rB, rC, rG⟩, hCT, hCK, hCTp, hCIm, hCSe⟩ := id hc
  have hn8 : gN σ ≤ 8 := hCK.2.1
  have hru := hc.ru
  have hs := hc.sr
  have hw := hc.sw
  refine am_intro (by decide) (Nat.le_of_ble_eq_true rfl) ?_
  refine x_aload_n dX7_cell_0 0 rfl rfl ?_
  refine x_iload_n dX7_cell_1 1 rfl rfl ?_
  refine x_callV (k_sheetAt (G := G) hc (i := s)) dX7_cell_2 crc_X7_sheetAt vc_7_185 s0 rfl rfl rfl rfl (Nat.le_of_ble_eq_true rfl) (roomy_k (by omega) (by decide)) (Nat.le_refl _) (Nat.le_refl _) ?_
  rintro _ _ ⟨_, rfl, rfl, (⟨t, ht, hit, rfl⟩ | ⟨hno, rfl⟩)⟩
  · refine x_astore (lv' := [(4, .ref (b + 26 + 2 * t)), (0, .ref b), (1, .int s), (2, .int i), (3, .int v)]) dX7_cell_5 (by decide) rfl ?_
    refine x_aload dX7_cell_7 0 rfl ?_
    refine x_ifnonnull (tgt := 15) dX7_cell_9 (by decide) ?_
    refine x_aload dX7_cell_15 0 rfl ?_
    refine x_callV (k_isMissing (G := G) (I := I) (A := b + 26 + 2 * t) (sS t ht) (rSS t ht)) dX7_cell_17 crc_X3_isMissing vc_7_189 (sS t (by omega)).1 rfl rfl rfl rfl (Nat.le_of_ble_eq_true rfl) (roomy_k (by omega) (by decide)) (Nat.le_refl _) (Nat.le_refl _) ?_
    rintro _ _ ⟨_, rfl, rfl, rfl⟩
    refine x_if_eqB (tgt := 26) dX7_cell_20 (by decide) (fun c_20 => ?_) (fun c_20 => ?_)
    · refine x_aload dX7_cell_26 0 rfl ?_
      refine x_iload_n dX7_cell_28 3 rfl rfl ?_
      refine x_iload_n dX7_cell_29 4 rfl rfl ?_
      refine x_callV (k_put (G := G) (A := b + 26 + 2 * t) (i := i) (v := v) (sS t ht) (rSS t ht) (hCSe t ht).2.1 (hCSe t ht).2.2.1) dX7_cell_30 crc_X3_put vc_7_237 (sS t (by omega)).1 rfl rfl rfl rfl (Nat.le_of_ble_eq_true rfl) (roomy_k (by omega) (by decide)) (Nat.le_refl _) (Nat.le_refl _) ?_
      rintro _ _ ⟨r, rfl, (⟨j, hj, hij, rfl, rfl⟩ | ⟨hor, rfl, rfl⟩)⟩
      · obtain ⟨J, eJ⟩ : ∃ z : HI, z = u2 I (b + 26 + 2 * t + 1) j (cutF (I (b + 26 + 2 * t) 1) v) := ⟨_, rfl⟩
        rw [← eJ]
        refine x_if_eq (tgt := 40) dX7_cell_33 (by decide) (fun c_33 => False.elim (absurd c_33 (by decide))) (fun c_33 => ?_)
        refine x_iconst (v := 1) dX7_cell_36 (by decide) ?_
        refine x_goto (tgt := 42) dX7_cell_37 (by decide) ?_
        refine x_iret dX7_cell_42 rfl (Nat.le_refl _) (Nat.le_refl _) ?_
        obtain ⟨e1, e2, e3, e4⟩ := hCSe t ht
        unfold cellV cellS
        rw [hit, idF_in (n := 4) ht (by omega)]
        have h9 : ¬ gSo σ t = -1 := fun q => c_20 (e1.trans q)
        simp only [h9, if_false]
        have h8 : ¬ i < 0 ∧ i < nI (gSz σ t) := by rw [hij]; exact ⟨nI_pos (by omega), (nI_ltI (by omega) (by omega)).mpr hj⟩
        simp only [h8, not_false_eq_true, and_self, if_true]
        refine ⟨rfl, J, R, rfl, hc.sheetU ht (fun a k q1 q2 => by rw [eJ, u2_ne (by omega)]) (by rw [eJ, u2_ne (by omega)]; exact e1) (by rw [eJ, u2_ne (by omega)]; exact e2) e3 (fun q hq => ?_), fun a k q => by rw [eJ, u2_ne (by omega)], FrC.rf⟩
        rw [hij, nI_clamp (by omega), eJ]
        by_cases e : q = j
        · subst e
          rw [u2_same, if_pos rfl, e1]
        · rw [u2_ne (by omega), if_neg e]
          exact e4 q hq
      · refine x_if_eq (tgt := 40) dX7_cell_33 (by decide) (fun c_33 => ?_) (fun c_33 => False.elim (c_33 rfl))
        refine x_bipush (v := (-12)) dX7_cell_40 (by decide) ?_
        refine x_iret dX7_cell_42 rfl (Nat.le_refl _) (Nat.le_refl _) ?_
        obtain ⟨e1, e2, e3, e4⟩ := hCSe t ht
        unfold cellV cellS
        rw [hit, idF_in (n := 4) ht (by omega)]
        have h9 : ¬ gSo σ t = -1 := fun q => c_20 (e1.trans q)
        simp only [h9, if_false]
        have h8 : ¬ (¬ i < 0 ∧ i < nI (gSz σ t)) := fun q => hor.elim q.1 (fun z => absurd q.2 (Int32.not_lt.mpr z))
        simp only [h8, if_false]
        exact ⟨rfl, I, R, rfl, hc, FrC.rf, FrC.rf⟩
    · refine x_bipush (v := (-11)) dX7_cell_23 (by decide) ?_
      refine x_iret dX7_cell_25 rfl (Nat.le_refl _) (Nat.le_refl _) ?_
      obtain ⟨e1, e2, e3, e4⟩ := hCSe t ht
      unfold cellV cellS
      rw [hit, idF_in (n := 4) ht (by omega)]
      have h9 : gSo σ t = -1 := e1.symm.trans c_20
      simp only [h9, if_true]
      exact ⟨rfl, I, R, rfl, hc, FrC.rf, FrC.rf⟩
  · refine x_astoreN (lv' := [(4, .null), (0, .ref b), (1, .int s), (2, .int i), (3, .int v)]) dX7_cell_5 (by decide) rfl ?_
    refine x_aloadN dX7_cell_7 0 rfl ?_
    refine x_ifnonnullN dX7_cell_9 ?_
    refine x_bipush (v := (-2)) dX7_cell_12 (by decide) ?_
    refine x_iret dX7_cell_14 rfl (Nat.le_refl _) (Nat.le_refl _) ?_
    unfold cellV cellS
    rw [idF_out (n := 4) (by omega) hno]
    exact ⟨rfl, I, R, rfl, hc, FrC.rf, FrC.rf⟩

