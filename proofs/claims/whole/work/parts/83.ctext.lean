/-! TEXT of the class -/
theorem tx_le {tb : Nat → Int32} {ts : Nat} {res : Bool × Nat × (Nat → List Int32)} (h : txR tb ts res) : res.2.1 ≤ ts := by
  obtain ⟨r0, r1, r2, h0, h1, h2, hres⟩ := h
  have m0 := (prt_mp h0 (Nat.zero_le _)).1
  have m1 := (prt_mp h1 m0).1
  have m2 := (prt_mp h2 m1).1
  rcases hres with ⟨_, e⟩ | ⟨_, _, e⟩ | ⟨_, _, _, e⟩ | ⟨_, _, _, _, e⟩ | ⟨_, _, _, _, e⟩ <;> rw [e]
  · exact m0
  · exact m1
  · exact m2
  · exact m2
  · exact m2
theorem CI.txt {b : Nat} {Sh : HS} {I J : HI} {R : HR} {σ : SG} (h : CI b Sh I R σ) (h5 : gTc σ < 6) (e : ∀ a k, ¬ (b + 3 ≤ a ∧ a ≤ b + 5) → ¬ (a = b + 8 + 3 * gTc σ ∧ 2 ≤ k ∧ k ≤ 4) → ¬ a = b + 8 + 3 * gTc σ + 1 → ¬ (a = b + 1 ∧ k = 1) → ¬ (a = b ∧ k = 3) → J a k = I a k) (k1 : J (b + 1) 1 = 0) (q : Nat) (hq : q ≤ 1) (P : Nat → List Int32) (k3 : J b 3 = nI (gTc σ + q)) (hx : q = 1 → TX J (b + 8 + 3 * gTc σ) P) : CI b Sh J R (σ.1, (gTc σ + q, fun t => if t = gTc σ then P else gPP σ t), (0, gTb σ), σ.2.2.2) := by
  obtain ⟨h1, h2, h3, h4, h5', h6, h7⟩ := h
  have hn8 := h4.2.1
  refine ⟨h1, h2, ?_, ?_, ⟨k1, Nat.zero_le _, fun j hj => absurd hj (Nat.not_lt_zero j)⟩, ?_, ?_⟩
  · obtain ⟨a1, a2, a3, a4, a5⟩ := h3
    refine ⟨k3, Nat.le_trans a2 (Nat.le_add_right _ _), ?_, fun t ht => ?_, fun t ht => (e _ _ (by omega) (by omega) (by omega) (by omega) (by omega)).trans (a5 t ht)⟩
    · show gTc σ + q ≤ 6
      omega
    · have ht : t < gTc σ + q := ht
      show TX J _ (if t = gTc σ then P else gPP σ t)
      by_cases et : t = gTc σ
      · rw [if_pos et, et]
        exact hx (by omega)
      · rw [if_neg et]
        exact (a4 t (by omega)).same (fun k hk => e _ _ (by omega) (by omega) (by omega) (by omega) (by omega)) (fun k => e _ _ (by omega) (by omega) (by omega) (by omega) (by omega))
  · obtain ⟨c2, c3, c4, c5, c6⟩ := h4
    exact ⟨(e _ _ (by omega) (by omega) (by omega) (by omega) (by omega)).trans c2, c3, ⟨fun i hi k hk => (have hi : i < σ.1.1 := hi; (e _ _ (by omega) (by omega) (by omega) (by omega) (by omega)).trans (c4.1 i hi k hk)), (e _ _ (by omega) (by omega) (by omega) (by omega) (by omega)).trans c4.2.1, (e _ _ (by omega) (by omega) (by omega) (by omega) (by omega)).trans c4.2.2⟩, c5, Nat.lt_of_lt_of_le c6 (Nat.le_add_right _ _)⟩
  · have hz : ∀ y, gIm (σ.1, y, (0, gTb σ), σ.2.2.2) = gIm σ := fun _ => rfl
    have hz2 : ∀ y : Nat × (Nat → Nat → List Int32), gTc (σ.1, y, (0, gTb σ), σ.2.2.2) = y.1 := fun _ => rfl
    unfold CIm at *
    rw [hz, hz2]
    cases hi : gIm σ with
    | none =>
      rw [hi] at h6
      exact (e _ _ (by omega) (by omega) (by omega) (by omega) (by omega)).trans h6
    | some y =>
      rw [hi] at h6
      obtain ⟨c1, c2, c3, c4, c5, c6⟩ := h6
      exact ⟨(e _ _ (by omega) (by omega) (by omega) (by omega) (by omega)).trans c1, (e _ _ (by omega) (by omega) (by omega) (by omega) (by omega)).trans c2, c3, ⟨fun i hi k hk => (e _ _ (by omega) (by omega) (by omega) (by omega) (by omega)).trans (c4.1 i hi k hk), (e _ _ (by omega) (by omega) (by omega) (by omega) (by omega)).trans c4.2.1, (e _ _ (by omega) (by omega) (by omega) (by omega) (by omega)).trans c4.2.2⟩, c5, Nat.lt_of_lt_of_le c6 (Nat.le_add_right _ _)⟩
  · intro t ht
    obtain ⟨a1, a2, a3, a4⟩ := h7 t ht
    exact ⟨(e _ _ (by omega) (by omega) (by omega) (by omega) (by omega)).trans a1, (e _ _ (by omega) (by omega) (by omega) (by omega) (by omega)).trans a2, a3, fun j hj => (e _ _ (by omega) (by omega) (by omega) (by omega) (by omega)).trans (a4 j hj)⟩
theorem CI.tno {b : Nat} {Sh : HS} {I J : HI} {R : HR} {σ : SG} (h : CI b Sh I R σ) (h5 : gTc σ < 6) (e : ∀ a k, ¬ (b + 3 ≤ a ∧ a ≤ b + 5) → ¬ (a = b + 8 + 3 * gTc σ ∧ 2 ≤ k ∧ k ≤ 4) → ¬ a = b + 8 + 3 * gTc σ + 1 → ¬ (a = b + 1 ∧ k = 1) → ¬ (a = b ∧ k = 3) → J a k = I a k) (k1 : J (b + 1) 1 = 0) (k3 : J b 3 = nI (gTc σ)) : CI b Sh J R (withTp σ (0, gTb σ)) := by
  have := h.txt h5 e k1 0 (by omega) (gPP σ (gTc σ)) k3 (fun q => by omega)
  have hf : (fun t => if t = gTc σ then gPP σ (gTc σ) else gPP σ t) = gPP σ := by
    funext t
    split
    · rename_i q
      rw [q]
    · rfl
  rw [hf] at this
  exact this

set_option maxHeartbeats 4000000 in
set_option maxRecDepth 100000 in
theorem k_text {G : GG} {Sh : HS} {I : HI} {R : HR} {b : Nat} {σ : SG} (hc : CI b Sh I R σ) {res : Bool × Nat × (Nat → List Int32)} (htx : txR (gTb σ) (gTs σ) res) : AM G 41 0 0 yX7_text cX7_text 2 (some .int) [.ref b] (Sh, I, R) (qi (updI b Sh I R (textV σ res) (textS σ res))) := by
  obtain ⟨⟨s0, s1, s2, s3, s4, s5, s6, s7, sT, sS, sA, sB, sC, sG⟩, ⟨r0, r1, r2, r4, r5, r6, r8, r9, rt0, rt2, rt3, rr0, rT, rS, rTT, rSS, rA, rB, rC, rG⟩, hCT, hCK, hCTp, hCIm, hCSe⟩ := id hc
  have hn8 : gN σ ≤ 8 := hCK.2.1
  have hru := hc.ru
  have h5l := hCT.2.2.1
  refine am_intro (by decide) (Nat.le_of_ble_eq_true rfl) ?_
  refine x_aload_n dX7_text_0 0 rfl rfl ?_
  refine x_gI (v := nI (gTc σ)) dX7_text_1 fl_7_64 rfl s0 hCT.1 ?_
  refine x_if_lt (tgt := 16) dX7_text_4 (by decide) (fun c_4 => False.elim (Int32.lt_irrefl (Int32.lt_of_lt_of_le c_4 (nI_pos' (n := gTc σ) (by omega))))) (fun c_4 => ?_)
  refine x_aload_n dX7_text_7 0 rfl rfl ?_
  refine x_gI (v := nI (gTc σ)) dX7_text_8 fl_7_64 rfl s0 hCT.1 ?_
  refine x_bipush (v := nI 6) dX7_text_11 (by decide) ?_
  refine x_icmp_lt (tgt := 19) dX7_text_13 (by decide) (fun c_13 => ?_) (fun c_13 => ?_)
  · have c_13 : (gTc σ) < 6 := (nI_ltI (a := (gTc σ)) (b := 6) (by omega) (by omega)).mp c_13
    have h5 : gTc σ < 6 := by have := hCT.2.2.1; omega
    have htp9 : TPp Sh I R (b + 1) (gTb σ) (gTs σ) := ⟨s1, s2, s3, s4, rt0, rt2, rt3, hCTp.1, hCTp.2.1, fun j hj => hCTp.2.2 j hj⟩
    refine x_aload_n dX7_text_19 0 rfl rfl ?_
    refine x_gR (b := b + 5) dX7_text_20 fl_7_21 rfl s0 r1 ?_
    refine x_aload_n dX7_text_23 0 rfl rfl ?_
    refine x_gR (b := b + 6) dX7_text_24 fl_7_27 rfl s0 r2 ?_
    refine x_aload_n dX7_text_27 0 rfl rfl ?_
    refine x_gI (v := nI (gTc σ)) dX7_text_28 fl_7_64 rfl s0 hCT.1 ?_
    refine x_aa (j := gTc σ) (b := b + 8 + 3 * gTc σ) dX7_text_31 s6 (by decide) (by decide) rfl h5 (by omega) (rT _ h5) ?_
    refine x_callV (k_readInto (G := G) (t := gTc σ) (RC.of hc.1 hc.2.1 h5) htp9 htx) dX7_text_32 crc_X2_readInto vc_7_57 s5 rfl rfl rfl rfl (Nat.le_of_ble_eq_true rfl) (roomy_k (by omega) (by decide)) (Nat.le_refl _) (Nat.le_refl _) ?_
    rintro _ _ ⟨x9, rfl, J, rfl, hru9, hres9⟩
    refine x_istore_n (lv' := [(1, .int x9), (0, .ref b)]) dX7_text_35 rfl (by decide) rfl ?_
    refine x_aload_n dX7_text_36 1 rfl rfl ?_
    refine x_gR (b := b + 1) dX7_text_37 fl_7_10 rfl s0 r0 ?_
    obtain ⟨Jc, e_Jc⟩ : ∃ z : HI, z = u2 J (b + 1) 1 0 := ⟨_, rfl⟩
    refine x_callV (k_tclear (G := G) (Sh := Sh) (I := J) (R := R) s1) dX7_text_40 crc_X5_clear vc_7_61 s1 rfl rfl rfl rfl (Nat.le_of_ble_eq_true rfl) (roomy_k (by omega) (by decide)) (Nat.le_refl _) (Nat.le_refl _) ?_
    rintro _ _ ⟨rfl, e9⟩
    rw [← e_Jc] at e9
    subst e9
    have h13 : Jc b 3 = nI (gTc σ) := by rw [e_Jc, u2_ne (by omega), hru9 _ _ (by omega) (by omega) (by omega) (by omega)]; exact hCT.1
    refine x_iload_n dX7_text_43 0 rfl rfl ?_
    refine x_iconst (v := (-1)) dX7_text_44 (by decide) ?_
    refine x_icmp_eq (tgt := 53) dX7_text_45 (by decide) (fun c_45 => ?_) (fun c_45 => ?_)
    · refine x_aload_n dX7_text_53 1 rfl rfl ?_
      refine x_dup dX7_text_54 rfl ?_
      refine x_gI (v := nI (gTc σ)) dX7_text_55 fl_7_64 rfl s0 h13 ?_
      refine x_iconst (v := nI 1) dX7_text_58 (by decide) ?_
      refine x_iadd dX7_text_59 ?_
      refine x_vali (nI_add (gTc σ) 1) ?_
      refine x_pI dX7_text_60 fl_7_64 rfl rfl rfl s0 (fun Iq1 e_Iq1 => ?_)
      refine x_aload_n dX7_text_63 1 rfl rfl ?_
      refine x_gI (v := nI (gTc σ + 1)) dX7_text_64 fl_7_64 rfl s0 (by rw [e_Iq1, u2_same]) ?_
      refine x_iconst (v := nI 1) dX7_text_67 (by decide) ?_
      refine x_isub dX7_text_68 ?_
      refine x_vali (nI_pred (gTc σ)) ?_
      refine x_iret dX7_text_69 rfl (Nat.le_refl _) (Nat.le_refl _) ?_
      rcases hres9 with ⟨q1, _, q2⟩ | ⟨_, q2⟩
      · unfold textV textS
        have h6 : ¬ gTc σ = 6 := by omega
        rw [if_neg h6, if_neg h6, if_pos q1, if_pos q1]
        refine ⟨rfl, Iq1, R, rfl, hc.txt h5 (fun a k q1 q2 q3 q4 q5 => by
          rw [e_Iq1, u2_ne (by omega), e_Jc, u2_ne (by omega)]
          exact hru9 a k (by omega) (by omega) (by omega) (by omega)) (by rw [e_Iq1, u2_ne (by omega), e_Jc, u2_same]) 1 (by omega) res.2.2 (by rw [e_Iq1, u2_same]) (fun _ => q2.same (fun k hk => by rw [e_Iq1, u2_ne (by omega), e_Jc, u2_ne (by omega)]) (fun k => by rw [e_Iq1, u2_ne (by omega), e_Jc, u2_ne (by omega)])), fun a k q => ?_, FrC.rf⟩
        rw [e_Iq1, u2_ne (by omega), e_Jc, u2_ne (by omega)]
        exact hru9 a k (by omega) (by omega) (by omega) (by omega)
      · have hl := tx_le htx
        have hf : fmF (gTb σ) (gTs σ) res.2.1 ≤ gTs σ := (beh_le (tb := gTb σ) (s := 0) hl).2
        have h160 := hCTp.2.1
        rw [c_45] at q2
        have hp := nI_pos' (n := fmF (gTb σ) (gTs σ) res.2.1) (by omega)
        rw [← q2] at hp
        exact absurd hp (by decide)
    · refine x_bipush (v := (-100)) dX7_text_48 (by decide) ?_
      refine x_iload_n dX7_text_50 0 rfl rfl ?_
      refine x_isub dX7_text_51 ?_
      refine x_iret dX7_text_52 rfl (Nat.le_refl _) (Nat.le_refl _) ?_
      rcases hres9 with ⟨_, q, _⟩ | ⟨q1, q2⟩
      · exact absurd q c_45
      · unfold textV textS
        have h6 : ¬ gTc σ = 6 := by omega
        have h7 : ¬ res.1 = true := by rw [q1]; decide
        rw [if_neg h6, if_neg h6, if_neg h7, if_neg h7, q2]
        refine ⟨rfl, Jc, R, rfl, hc.tno h5 (fun a k q1 q2 q3 q4 q5 => by
          rw [e_Jc, u2_ne (by omega)]
          exact hru9 a k (by omega) (by omega) (by omega) (by omega)) (by rw [e_Jc, u2_same]) h13, fun a k q => ?_, FrC.rf⟩
        rw [e_Jc, u2_ne (by omega)]
        exact hru9 a k (by omega) (by omega) (by omega) (by omega)
  · have c_13 : ¬ (gTc σ) < 6 := fun zz9 => c_13 ((nI_ltI (a := (gTc σ)) (b := 6) (by omega) (by omega)).mpr zz9)
    refine x_bipush (v := (-4)) dX7_text_16 (by decide) ?_
    refine x_iret dX7_text_18 rfl (Nat.le_refl _) (Nat.le_refl _) ?_
    unfold textV textS
    rw [if_pos (by have := hCT.2.2.1; omega), if_pos (by have := hCT.2.2.1; omega)]
    exact ⟨rfl, I, R, rfl, hc, FrC.rf, FrC.rf⟩

