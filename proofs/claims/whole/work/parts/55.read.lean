def txD (tb : Nat → Int32) (ts : Nat) (r0 r1 r2 : RES) (res : Bool × Nat × (Nat → List Int32)) : Prop := (r0.1 = false ∧ res = (false, r0.2.1, fun _ => [])) ∨ (r0.1 = true ∧ r1.1 = false ∧ res = (false, r1.2.1, fun _ => [])) ∨ (r0.1 = true ∧ r1.1 = true ∧ r2.1 = false ∧ res = (false, r2.2.1, fun _ => [])) ∨ (r0.1 = true ∧ r1.1 = true ∧ r2.1 = true ∧ ¬ tkF tb ts r2.2.1 = 1 ∧ res = (false, r2.2.1, fun _ => [])) ∨ (r0.1 = true ∧ r1.1 = true ∧ r2.1 = true ∧ tkF tb ts r2.2.1 = 1 ∧ res = (true, r2.2.1, fun i => if i = 0 then r0.2.2 else if i = 1 then r1.2.2 else r2.2.2))
section
variable {tb : Nat → Int32} {ts : Nat} {r0 r1 r2 : RES} {res : Bool × Nat × (Nat → List Int32)}
theorem tx_1 (h : txD tb ts r0 r1 r2 res) (a : r0.1 = false) : res = (false, r0.2.1, fun _ => []) := by
  rcases h with ⟨z, e⟩ | ⟨z, -⟩ | ⟨z, -⟩ | ⟨z, -⟩ | ⟨z, -⟩
  · exact e
  all_goals (rw [a] at z; cases z)
theorem tx_2 (h : txD tb ts r0 r1 r2 res) (a : r0.1 = true) (c : r1.1 = false) : res = (false, r1.2.1, fun _ => []) := by
  rcases h with ⟨z, e⟩ | ⟨-, z, e⟩ | ⟨-, z, -⟩ | ⟨-, z, -⟩ | ⟨-, z, -⟩
  · rw [a] at z; cases z
  · exact e
  all_goals (rw [c] at z; cases z)
theorem tx_3 (h : txD tb ts r0 r1 r2 res) (a : r0.1 = true) (c : r1.1 = true) (d : r2.1 = false) : res = (false, r2.2.1, fun _ => []) := by
  rcases h with ⟨z, e⟩ | ⟨-, z, e⟩ | ⟨-, -, z, e⟩ | ⟨-, -, z, -⟩ | ⟨-, -, z, -⟩
  · rw [a] at z; cases z
  · rw [c] at z; cases z
  · exact e
  all_goals (rw [d] at z; cases z)
theorem tx_4 (h : txD tb ts r0 r1 r2 res) (a : r0.1 = true) (c : r1.1 = true) (d : r2.1 = true) (e9 : ¬ tkF tb ts r2.2.1 = 1) : res = (false, r2.2.1, fun _ => []) := by
  rcases h with ⟨z, e⟩ | ⟨-, z, e⟩ | ⟨-, -, z, e⟩ | ⟨-, -, -, -, e⟩ | ⟨-, -, -, z, -⟩
  · rw [a] at z; cases z
  · rw [c] at z; cases z
  · rw [d] at z; cases z
  · exact e
  · exact absurd z e9
theorem tx_5 (h : txD tb ts r0 r1 r2 res) (a : r0.1 = true) (c : r1.1 = true) (d : r2.1 = true) (e9 : tkF tb ts r2.2.1 = 1) : res = (true, r2.2.1, fun i => if i = 0 then r0.2.2 else if i = 1 then r1.2.2 else r2.2.2) := by
  rcases h with ⟨z, e⟩ | ⟨-, z, e⟩ | ⟨-, -, z, e⟩ | ⟨-, -, -, z, -⟩ | ⟨-, -, -, -, e⟩
  · rw [a] at z; cases z
  · rw [c] at z; cases z
  · rw [d] at z; cases z
  · exact absurd e9 z
  · exact e
end
def ruE (b t : Nat) (I J : HI) : Prop := ∀ a k, ¬ (a = b + 3 ∨ a = b + 4) → ¬ (a = b + 5 ∧ 1 ≤ k) → ¬ (a = b + 8 + 3 * t ∧ 2 ≤ k ∧ k ≤ 4) → ¬ a = b + 8 + 3 * t + 1 → J a k = I a k
theorem rdE.ru {b t : Nat} {I J : HI} (h : rdE b t I J) : ruE b t I J := fun a k q1 q2 q3 q4 => h a k q2 (by omega) q4
theorem ruE.tr {b t : Nat} {I J J2 : HI} (h : ruE b t I J) (h2 : ruE b t J J2) : ruE b t I J2 := fun a k q1 q2 q3 q4 => (h2 a k q1 q2 q3 q4).trans (h a k q1 q2 q3 q4)
theorem GS.keep {tb : Nat → Int32} {ts b t K k p o : Nat} {C : List Int32} {J J' : HI} (h : GS tb ts b t K k p o C J) (e : ∀ a q, ¬ (a = b + 8 + 3 * t ∧ 3 ≤ q) → J' a q = J a q) : GS tb ts b t K k p o C J' := by
  obtain ⟨h1, h2, h3, h4, h5, h6, h7, h8, h9, hA, hB⟩ := h
  exact ⟨(e _ _ (by omega)).trans h1, (e _ _ (by omega)).trans h2, (e _ _ (by omega)).trans h3, (e _ _ (by omega)).trans h4, h5, h6, ⟨h7.1, fun j hj => ⟨(e _ _ (by omega)).trans (h7.2.1 j hj).1, (e _ _ (by omega)).trans (h7.2.1 j hj).2⟩, h7.2.2⟩, (e _ _ (by omega)).trans h8, h9, fun j x q => (e _ _ (by omega)).trans (hA j x q), hB⟩
theorem FS.keep {tb : Nat → Int32} {ts b t f : Nat} {J J' : HI} (h : FS tb ts b t f J) (e : ∀ a q, ¬ (a = b + 8 + 3 * t ∧ 3 ≤ q) → J' a q = J a q) : FS tb ts b t f J' := h.up (fun k _ => e _ _ (by omega))

set_option maxHeartbeats 4000000 in
set_option maxRecDepth 100000 in
theorem k_xclear {G : GG} {Sh : HS} {R : HR} {b t : Nat} (rc : RC b t Sh R) {J : HI} : AM G 1 0 0 yX6_clear cX6_clear 1 none [.ref (b + 8 + 3 * t)] (Sh, J, R) (qv fun g => ∃ J2 : HI, g = (Sh, J2, R) ∧ J2 = u2 J (b + 8 + 3 * t) 2 0) := by
  obtain ⟨_, z1, z2, z3, z4, z5, _, _, zz, _⟩ := rc.1
  have zT := zz t rc.2.2
  obtain ⟨_, _, _, _, _, _, _, _, w1, w2, w3, w0, _, _, wW, _⟩ := rc.2.1
  have wT := wW t rc.2.2
  have t6 := rc.2.2
  refine am_intro (by decide) (Nat.le_of_ble_eq_true rfl) ?_
  refine x_aload_n dX6_clear_0 0 rfl rfl ?_
  refine x_iconst (v := 0) dX6_clear_1 (by decide) ?_
  refine x_pI dX6_clear_2 fl_6_22 rfl rfl rfl zT.1 (fun Iq1 e_Iq1 => ?_)
  refine x_vret dX6_clear_5 rfl (Nat.le_refl _) (Nat.le_refl _) ?_
  exact ⟨Iq1, rfl, e_Iq1⟩

set_option maxHeartbeats 4000000 in
set_option maxRecDepth 100000 in
theorem k_xraises {G : GG} {Sh : HS} {R : HR} {b t : Nat} (rc : RC b t Sh R) {J : HI} : AM G 1 0 0 yX6_startRaises cX6_startRaises 1 none [.ref (b + 8 + 3 * t)] (Sh, J, R) (qv fun g => ∃ J2 : HI, g = (Sh, J2, R) ∧ J2 = u2 J (b + 8 + 3 * t) 3 (J (b + 8 + 3 * t) 2)) := by
  obtain ⟨_, z1, z2, z3, z4, z5, _, _, zz, _⟩ := rc.1
  have zT := zz t rc.2.2
  obtain ⟨_, _, _, _, _, _, _, _, w1, w2, w3, w0, _, _, wW, _⟩ := rc.2.1
  have wT := wW t rc.2.2
  have t6 := rc.2.2
  refine am_intro (by decide) (Nat.le_of_ble_eq_true rfl) ?_
  refine x_aload_n dX6_startRaises_0 0 rfl rfl ?_
  refine x_aload_n dX6_startRaises_1 0 rfl rfl ?_
  refine x_gI (v := J (b + 8 + 3 * t) 2) dX6_startRaises_2 fl_6_22 rfl zT.1 rfl ?_
  refine x_pI dX6_startRaises_5 fl_6_25 rfl rfl rfl zT.1 (fun Iq1 e_Iq1 => ?_)
  refine x_vret dX6_startRaises_8 rfl (Nat.le_refl _) (Nat.le_refl _) ?_
  exact ⟨Iq1, rfl, e_Iq1⟩

set_option maxHeartbeats 4000000 in
set_option maxRecDepth 100000 in
theorem k_xworth {G : GG} {Sh : HS} {R : HR} {b t : Nat} (rc : RC b t Sh R) {J : HI} : AM G 1 0 0 yX6_startWorth cX6_startWorth 1 none [.ref (b + 8 + 3 * t)] (Sh, J, R) (qv fun g => ∃ J2 : HI, g = (Sh, J2, R) ∧ J2 = u2 J (b + 8 + 3 * t) 4 (J (b + 8 + 3 * t) 2)) := by
  obtain ⟨_, z1, z2, z3, z4, z5, _, _, zz, _⟩ := rc.1
  have zT := zz t rc.2.2
  obtain ⟨_, _, _, _, _, _, _, _, w1, w2, w3, w0, _, _, wW, _⟩ := rc.2.1
  have wT := wW t rc.2.2
  have t6 := rc.2.2
  refine am_intro (by decide) (Nat.le_of_ble_eq_true rfl) ?_
  refine x_aload_n dX6_startWorth_0 0 rfl rfl ?_
  refine x_aload_n dX6_startWorth_1 0 rfl rfl ?_
  refine x_gI (v := J (b + 8 + 3 * t) 2) dX6_startWorth_2 fl_6_22 rfl zT.1 rfl ?_
  refine x_pI dX6_startWorth_5 fl_6_28 rfl rfl rfl zT.1 (fun Iq1 e_Iq1 => ?_)
  refine x_vret dX6_startWorth_8 rfl (Nat.le_refl _) (Nat.le_refl _) ?_
  exact ⟨Iq1, rfl, e_Iq1⟩

set_option maxHeartbeats 4000000 in
set_option maxRecDepth 100000 in
theorem k_readInto {G : GG} {Sh : HS} {R : HR} {b t : Nat} (rc : RC b t Sh R) {J : HI} {tb : Nat → Int32} {ts : Nat} (ht : TPp Sh J R (b + 1) tb ts) {res : Bool × Nat × (Nat → List Int32)} (htx : txR tb ts res) : AM G 40 0 0 yX2_readInto cX2_readInto 2 (some .int) [.ref (b + 5), .ref (b + 8 + 3 * t)] (Sh, J, R) (qi fun r g => ∃ J2 : HI, g = (Sh, J2, R) ∧ ruE b t J J2 ∧ ((res.1 = true ∧ r = -1 ∧ TX J2 (b + 8 + 3 * t) res.2.2) ∨ (res.1 = false ∧ r = nI (fmF tb ts res.2.1)))) := by
  obtain ⟨_, z1, z2, z3, z4, z5, _, _, zz, _⟩ := rc.1
  have zT := zz t rc.2.2
  obtain ⟨_, _, _, _, _, _, _, _, w1, w2, w3, w0, _, _, wW, _⟩ := rc.2.1
  have wT := wW t rc.2.2
  have t6 := rc.2.2
  obtain ⟨r0, r1, r2, h0, h1, h2, hres⟩ := htx
  have hts9 := ht.2.2.2.2.2.2.2.2.1
  refine am_intro (by decide) (Nat.le_of_ble_eq_true rfl) ?_
  refine x_aload_n dX2_readInto_0 0 rfl rfl ?_
  refine x_gR (b := b + 1) dX2_readInto_1 fl_2_9 rfl z5 w0 ?_
  refine x_callV (k_cut (G := G) ht) dX2_readInto_4 crc_X5_cut vc_2_15 z1 rfl rfl rfl rfl (Nat.le_of_ble_eq_true rfl) (roomy_k (by omega) (by decide)) (Nat.le_refl _) (Nat.le_refl _) ?_
  rintro _ _ ⟨rfl, J1, K, rfl, hcut, hoff⟩
  have hru : ruE b t J J1 := fun a k q1 q2 q3 q4 => hoff a k (fun z => q1 (Or.inl z)) (fun z => q1 (Or.inr z))
  refine x_aload_n dX2_readInto_7 1 rfl rfl ?_
  refine x_callV (k_xclear (G := G) rc (J := J1)) dX2_readInto_8 crc_X6_clear vc_2_20 zT.1 rfl rfl rfl rfl (Nat.le_of_ble_eq_true rfl) (roomy_k (by omega) (by decide)) (Nat.le_refl _) (Nat.le_refl _) ?_
  rintro _ _ ⟨rfl, J2x, rfl, e_J2x⟩
  have hru : ruE b t J J2x := hru.tr (fun a k q1 q2 q3 q4 => by rw [e_J2x, u2_ne (by omega)])
  refine x_aload_n dX2_readInto_11 0 rfl rfl ?_
  refine x_iconst (v := 0) dX2_readInto_12 (by decide) ?_
  refine x_pI dX2_readInto_13 fl_2_25 rfl rfl rfl z5 (fun Iq1 e_Iq1 => ?_)
  refine x_aload_n dX2_readInto_16 0 rfl rfl ?_
  refine x_iconst (v := (-1)) dX2_readInto_17 (by decide) ?_
  refine x_pI dX2_readInto_18 fl_2_29 rfl rfl rfl z5 (fun Iq2 e_Iq2 => ?_)
  refine x_aload_n dX2_readInto_21 0 rfl rfl ?_
  refine x_iconst (v := nI 0) dX2_readInto_22 (by decide) ?_
  refine x_callV (k_goTo (G := G) (tb := tb) (ts := ts) (K := K) rc (J := Iq2) (n := 0) (by omega)) dX2_readInto_23 crc_X2_goTo vc_2_32 z5 rfl rfl rfl rfl (Nat.le_of_ble_eq_true rfl) (roomy_k (by omega) (by decide)) (Nat.le_refl _) (Nat.le_refl _) ?_
  rintro _ _ ⟨rfl, eg9⟩
  obtain ⟨J5, e_J5⟩ : ∃ z : HI, z = u2 (u2 Iq2 (b + 5) 1 (nI 0)) (b + 5) 2 (Iq2 (b + 3) 0) := ⟨_, rfl⟩
  rw [← e_J5] at eg9
  subst eg9
  have hc1 : cutP tb ts (b + 1) J5 K := ⟨hcut.1, fun j hj => ⟨by rw [e_J5, u2_ne (by omega), u2_ne (by omega), e_Iq2, u2_ne (by omega), e_Iq1, u2_ne (by omega), e_J2x, u2_ne (by omega)]; exact (hcut.2.1 j hj).1, by rw [e_J5, u2_ne (by omega), u2_ne (by omega), e_Iq2, u2_ne (by omega), e_Iq1, u2_ne (by omega), e_J2x, u2_ne (by omega)]; exact (hcut.2.1 j hj).2⟩, hcut.2.2⟩
  have hg : GS tb ts b t K 0 0 0 [] J5 := by
    refine ⟨by rw [e_J5, u2_ne (by omega), u2_same], ?_, by rw [e_J5, u2_ne (by omega), u2_ne (by omega), e_Iq2, u2_ne (by omega), e_Iq1, u2_same]; rfl, by rw [e_J5, u2_ne (by omega), u2_ne (by omega), e_Iq2, u2_same], rfl, Nat.zero_le _, hc1, by rw [e_J5, u2_ne (by omega), u2_ne (by omega), e_Iq2, u2_ne (by omega), e_Iq1, u2_ne (by omega), e_J2x, u2_same]; rfl, Nat.zero_le _, fun j x q => by simp at q, ht.2.2.2.2.2.2.2.2.1⟩
    have := (hcut.2.1 0 (by omega)).1
    rw [e_J5, u2_same, e_Iq2, u2_ne (by omega), e_Iq1, u2_ne (by omega), e_J2x, u2_ne (by omega)]
    exact this
  have hru : ruE b t J J5 := hru.tr (fun a k q1 q2 q3 q4 => by rw [e_J5, u2_ne (by omega), u2_ne (by omega), e_Iq2, u2_ne (by omega), e_Iq1, u2_ne (by omega)])
  refine x_aload_n dX2_readInto_26 0 rfl rfl ?_
  refine x_iconst (v := 3) dX2_readInto_27 (by decide) ?_
  refine x_aload_n dX2_readInto_28 1 rfl rfl ?_
  refine x_callV (k_part (G := G) rc hg (Nat.zero_le _) (w := 3) (by unfold endT; decide) h0) dX2_readInto_29 crc_X2_readPart vc_2_36 z5 rfl rfl rfl rfl (Nat.le_of_ble_eq_true rfl) (roomy_k (by omega) (by decide)) (Nat.le_refl _) (Nat.le_refl _) ?_
  rintro _ _ ⟨rfl, J1, rfl, e_J1, (⟨o0, k_J1, hg2⟩ | ⟨o0, hf3⟩)⟩
  · have hru := hru.tr e_J1.ru
    have m0 := prt_mp h0 (Nat.zero_le _)
    have n0 := m0.2 o0
    refine x_aload_n dX2_readInto_32 1 rfl rfl ?_
    refine x_callV (k_xraises (G := G) rc (J := J1)) dX2_readInto_33 crc_X6_startRaises vc_2_40 zT.1 rfl rfl rfl rfl (Nat.le_of_ble_eq_true rfl) (roomy_k (by omega) (by decide)) (Nat.le_refl _) (Nat.le_refl _) ?_
    rintro _ _ ⟨rfl, J4, rfl, e_J4⟩
    have hru : ruE b t J J4 := hru.tr (fun a k q1 q2 q3 q4 => by rw [e_J4, u2_ne (by omega)])
    have hg5 := GS.keep hg2 (J' := J4) (fun a q z => by rw [e_J4, u2_ne (by omega)])
    have t3 : J4 (b + 8 + 3 * t) 3 = nI (([]) ++ r0.2.2).length := by rw [e_J4, u2_same]; exact hg2.2.2.2.2.2.2.2.1
    refine x_aload_n dX2_readInto_36 0 rfl rfl ?_
    refine x_iconst (v := 4) dX2_readInto_37 (by decide) ?_
    refine x_aload_n dX2_readInto_38 1 rfl rfl ?_
    refine x_callV (k_part (G := G) rc hg5 (by simp; omega) (w := 4) (by unfold endT; decide) h1) dX2_readInto_39 crc_X2_readPart vc_2_36 z5 rfl rfl rfl rfl (Nat.le_of_ble_eq_true rfl) (roomy_k (by omega) (by decide)) (Nat.le_refl _) (Nat.le_refl _) ?_
    rintro _ _ ⟨rfl, J6, rfl, e_J6, (⟨o1, k_J6, hg7⟩ | ⟨o1, hf8⟩)⟩
    · have hru := hru.tr e_J6.ru
      have t3 := (e_J6 (b + 8 + 3 * t) 3 (by omega) (by omega) (by omega)).trans t3
      have m1 := prt_mp h1 (m0.1)
      have n1 := m1.2 o1
      refine x_aload_n dX2_readInto_42 1 rfl rfl ?_
      refine x_callV (k_xworth (G := G) rc (J := J6)) dX2_readInto_43 crc_X6_startWorth vc_2_43 zT.1 rfl rfl rfl rfl (Nat.le_of_ble_eq_true rfl) (roomy_k (by omega) (by decide)) (Nat.le_refl _) (Nat.le_refl _) ?_
      rintro _ _ ⟨rfl, J9, rfl, e_J9⟩
      have hru : ruE b t J J9 := hru.tr (fun a k q1 q2 q3 q4 => by rw [e_J9, u2_ne (by omega)])
      have hg10 := GS.keep hg7 (J' := J9) (fun a q z => by rw [e_J9, u2_ne (by omega)])
      have t4 : J9 (b + 8 + 3 * t) 4 = nI ((([]) ++ r0.2.2) ++ r1.2.2).length := by rw [e_J9, u2_same]; exact hg7.2.2.2.2.2.2.2.1
      have t3 := (show J9 (b + 8 + 3 * t) 3 = J6 (b + 8 + 3 * t) 3 from by rw [e_J9, u2_ne (by omega)]).trans t3
      refine x_aload_n dX2_readInto_46 0 rfl rfl ?_
      refine x_iconst (v := 5) dX2_readInto_47 (by decide) ?_
      refine x_aload_n dX2_readInto_48 1 rfl rfl ?_
      refine x_callV (k_part (G := G) rc hg10 (by simp; omega) (w := 5) (by unfold endT; decide) h2) dX2_readInto_49 crc_X2_readPart vc_2_36 z5 rfl rfl rfl rfl (Nat.le_of_ble_eq_true rfl) (roomy_k (by omega) (by decide)) (Nat.le_refl _) (Nat.le_refl _) ?_
      rintro _ _ ⟨rfl, J11, rfl, e_J11, (⟨o2, k_J11, hg12⟩ | ⟨o2, hf13⟩)⟩
      · have hru := hru.tr e_J11.ru
        have t3 := (e_J11 (b + 8 + 3 * t) 3 (by omega) (by omega) (by omega)).trans t3
        have t4 := (e_J11 (b + 8 + 3 * t) 4 (by omega) (by omega) (by omega)).trans t4
        have m2 := prt_mp h2 (m1.1)
        have n2 := m2.2 o2
        refine x_aload_n dX2_readInto_52 0 rfl rfl ?_
        refine x_gI (v := tkF tb ts r2.2.1) dX2_readInto_53 fl_2_46 rfl z5 hg12.2.1 ?_
        refine x_iconst (v := 1) dX2_readInto_56 (by decide) ?_
        refine x_icmp_eq (tgt := 64) dX2_readInto_57 (by decide) (fun c_57 => ?_) (fun c_57 => ?_)
        · refine x_aload_n dX2_readInto_64 0 rfl rfl ?_
          refine x_gI (v := (-1)) dX2_readInto_65 fl_2_29 rfl z5 hg12.2.2.2.1 ?_
          refine x_iret dX2_readInto_68 rfl (Nat.le_refl _) (Nat.le_refl _) ?_
          refine ⟨J11, rfl, hru, Or.inl ?_⟩
          rw [tx_5 hres o0 o1 o2 c_57]
          have b1 := n0.2.1
          have b2 := n1.2.1
          have b3 := n2.2.1
          have hg9 := hg12
          simp only [List.nil_append, List.length_append] at hg9 t3 t4
          refine ⟨rfl, rfl, ⟨t3, t4, ?_, by show r0.2.2.length + r1.2.2.length + r2.2.2.length ≤ 160; omega, ?_, ?_, ?_, okX_ok n0.2.2, okX_ok n1.2.2, okX_ok n2.2.2⟩⟩
          · have := hg9.2.2.2.2.2.2.2.1
            simp only [List.length_append] at this
            exact this
          · intro j x q
            have q : r0.2.2[j]? = some x := q
            have hl : j < r0.2.2.length := (List.getElem?_eq_some_iff.mp q).1
            rw [Nat.zero_add]
            exact hg9.2.2.2.2.2.2.2.2.2.1 j x (by rw [List.getElem?_append_left (by simp; omega), List.getElem?_append_left hl]; exact q)
          · intro j x q
            have q : r1.2.2[j]? = some x := q
            have hl : j < r1.2.2.length := (List.getElem?_eq_some_iff.mp q).1
            exact hg9.2.2.2.2.2.2.2.2.2.1 (r0.2.2.length + j) x (by rw [List.getElem?_append_left (by simp; omega), List.getElem?_append_right (by omega)]; rw [Nat.add_sub_cancel_left]; exact q)
          · intro j x q
            have q : r2.2.2[j]? = some x := q
            exact hg9.2.2.2.2.2.2.2.2.2.1 (r0.2.2.length + r1.2.2.length + j) x (by rw [List.getElem?_append_right (by simp only [List.length_append]; omega)]; simp only [List.length_append]; rw [Nat.add_sub_cancel_left]; exact q)
        · refine x_aload_n dX2_readInto_60 0 rfl rfl ?_
          refine x_callV (k_fail (G := G) rc hg12) dX2_readInto_61 crc_X2_fail vc_2_49 z5 rfl rfl rfl rfl (Nat.le_of_ble_eq_true rfl) (roomy_k (by omega) (by decide)) (Nat.le_refl _) (Nat.le_refl _) ?_
          rintro _ _ ⟨rfl, J14, rfl, hf15, e_J14⟩
          have hru := hru.tr e_J14.ru
          refine x_aload_n dX2_readInto_64 0 rfl rfl ?_
          refine x_gI (v := nI (fmF tb ts r2.2.1)) dX2_readInto_65 fl_2_29 rfl z5 hf15.2.1 ?_
          refine x_iret dX2_readInto_68 rfl (Nat.le_refl _) (Nat.le_refl _) ?_
          refine ⟨J14, rfl, hru, Or.inr ?_⟩
          rw [tx_4 hres o0 o1 o2 c_57]
          exact ⟨rfl, rfl⟩
      · obtain ⟨J11b, e_J11b⟩ : ∃ z : HI, z = J11 := ⟨_, rfl⟩
        rw [← e_J11b] at hf13 ⊢
        have hru := hru.tr e_J11.ru
        rw [← e_J11b] at hru
        refine x_aload_n dX2_readInto_52 0 rfl rfl ?_
        refine x_gI (v := 2) dX2_readInto_53 fl_2_46 rfl z5 hf13.1 ?_
        refine x_iconst (v := 1) dX2_readInto_56 (by decide) ?_
        refine x_icmp_eq (tgt := 64) dX2_readInto_57 (by decide) (fun c_57 => False.elim (absurd c_57 (by decide))) (fun c_57 => ?_)
        refine x_aload_n dX2_readInto_60 0 rfl rfl ?_
        refine x_callV (k_failF (G := G) (K := K) rc hf13) dX2_readInto_61 crc_X2_fail vc_2_49 z5 rfl rfl rfl rfl (Nat.le_of_ble_eq_true rfl) (roomy_k (by omega) (by decide)) (Nat.le_refl _) (Nat.le_refl _) ?_
        rintro _ _ ⟨rfl, J16, rfl, hf17, e_J16⟩
        have hru := hru.tr e_J16.ru
        refine x_aload_n dX2_readInto_64 0 rfl rfl ?_
        refine x_gI (v := nI (fmF tb ts r2.2.1)) dX2_readInto_65 fl_2_29 rfl z5 hf17.2.1 ?_
        refine x_iret dX2_readInto_68 rfl (Nat.le_refl _) (Nat.le_refl _) ?_
        refine ⟨J16, rfl, hru, Or.inr ?_⟩
        rw [tx_3 hres o0 o1 o2]
        exact ⟨rfl, rfl⟩
    · obtain ⟨J6b, e_J6b⟩ : ∃ z : HI, z = J6 := ⟨_, rfl⟩
      rw [← e_J6b] at hf8 ⊢
      have hru := hru.tr e_J6.ru
      rw [← e_J6b] at hru
      refine x_aload_n dX2_readInto_42 1 rfl rfl ?_
      refine x_callV (k_xworth (G := G) rc (J := J6b)) dX2_readInto_43 crc_X6_startWorth vc_2_43 zT.1 rfl rfl rfl rfl (Nat.le_of_ble_eq_true rfl) (roomy_k (by omega) (by decide)) (Nat.le_refl _) (Nat.le_refl _) ?_
      rintro _ _ ⟨rfl, J18, rfl, e_J18⟩
      have hru : ruE b t J J18 := hru.tr (fun a k q1 q2 q3 q4 => by rw [e_J18, u2_ne (by omega)])
      have hg19 := FS.keep hf8 (J' := J18) (fun a q z => by rw [e_J18, u2_ne (by omega)])
      refine x_aload_n dX2_readInto_46 0 rfl rfl ?_
      refine x_iconst (v := 5) dX2_readInto_47 (by decide) ?_
      refine x_aload_n dX2_readInto_48 1 rfl rfl ?_
      refine x_callV (k_partF (G := G) (K := K) rc hg19 (w := 5) (by unfold endT; decide)) dX2_readInto_49 crc_X2_readPart vc_2_36 z5 rfl rfl rfl rfl (Nat.le_of_ble_eq_true rfl) (roomy_k (by omega) (by decide)) (Nat.le_refl _) (Nat.le_refl _) ?_
      rintro _ _ ⟨rfl, J20, rfl, hf21, e_J20⟩
      have hru := hru.tr e_J20.ru
      refine x_aload_n dX2_readInto_52 0 rfl rfl ?_
      refine x_gI (v := 2) dX2_readInto_53 fl_2_46 rfl z5 hf21.1 ?_
      refine x_iconst (v := 1) dX2_readInto_56 (by decide) ?_
      refine x_icmp_eq (tgt := 64) dX2_readInto_57 (by decide) (fun c_57 => False.elim (absurd c_57 (by decide))) (fun c_57 => ?_)
      refine x_aload_n dX2_readInto_60 0 rfl rfl ?_
      refine x_callV (k_failF (G := G) (K := K) rc hf21) dX2_readInto_61 crc_X2_fail vc_2_49 z5 rfl rfl rfl rfl (Nat.le_of_ble_eq_true rfl) (roomy_k (by omega) (by decide)) (Nat.le_refl _) (Nat.le_refl _) ?_
      rintro _ _ ⟨rfl, J22, rfl, hf23, e_J22⟩
      have hru := hru.tr e_J22.ru
      refine x_aload_n dX2_readInto_64 0 rfl rfl ?_
      refine x_gI (v := nI (fmF tb ts r1.2.1)) dX2_readInto_65 fl_2_29 rfl z5 hf23.2.1 ?_
      refine x_iret dX2_readInto_68 rfl (Nat.le_refl _) (Nat.le_refl _) ?_
      refine ⟨J22, rfl, hru, Or.inr ?_⟩
      rw [tx_2 hres o0 o1]
      exact ⟨rfl, rfl⟩
  · obtain ⟨J1b, e_J1b⟩ : ∃ z : HI, z = J1 := ⟨_, rfl⟩
    rw [← e_J1b] at hf3 ⊢
    have hru := hru.tr e_J1.ru
    rw [← e_J1b] at hru
    refine x_aload_n dX2_readInto_32 1 rfl rfl ?_
    refine x_callV (k_xraises (G := G) rc (J := J1b)) dX2_readInto_33 crc_X6_startRaises vc_2_40 zT.1 rfl rfl rfl rfl (Nat.le_of_ble_eq_true rfl) (roomy_k (by omega) (by decide)) (Nat.le_refl _) (Nat.le_refl _) ?_
    rintro _ _ ⟨rfl, J24, rfl, e_J24⟩
    have hru : ruE b t J J24 := hru.tr (fun a k q1 q2 q3 q4 => by rw [e_J24, u2_ne (by omega)])
    have hg25 := FS.keep hf3 (J' := J24) (fun a q z => by rw [e_J24, u2_ne (by omega)])
    refine x_aload_n dX2_readInto_36 0 rfl rfl ?_
    refine x_iconst (v := 4) dX2_readInto_37 (by decide) ?_
    refine x_aload_n dX2_readInto_38 1 rfl rfl ?_
    refine x_callV (k_partF (G := G) (K := K) rc hg25 (w := 4) (by unfold endT; decide)) dX2_readInto_39 crc_X2_readPart vc_2_36 z5 rfl rfl rfl rfl (Nat.le_of_ble_eq_true rfl) (roomy_k (by omega) (by decide)) (Nat.le_refl _) (Nat.le_refl _) ?_
    rintro _ _ ⟨rfl, J26, rfl, hf27, e_J26⟩
    have hru := hru.tr e_J26.ru
    refine x_aload_n dX2_readInto_42 1 rfl rfl ?_
    refine x_callV (k_xworth (G := G) rc (J := J26)) dX2_readInto_43 crc_X6_startWorth vc_2_43 zT.1 rfl rfl rfl rfl (Nat.le_of_ble_eq_true rfl) (roomy_k (by omega) (by decide)) (Nat.le_refl _) (Nat.le_refl _) ?_
    rintro _ _ ⟨rfl, J28, rfl, e_J28⟩
    have hru : ruE b t J J28 := hru.tr (fun a k q1 q2 q3 q4 => by rw [e_J28, u2_ne (by omega)])
    have hg29 := FS.keep hf27 (J' := J28) (fun a q z => by rw [e_J28, u2_ne (by omega)])
    refine x_aload_n dX2_readInto_46 0 rfl rfl ?_
    refine x_iconst (v := 5) dX2_readInto_47 (by decide) ?_
    refine x_aload_n dX2_readInto_48 1 rfl rfl ?_
    refine x_callV (k_partF (G := G) (K := K) rc hg29 (w := 5) (by unfold endT; decide)) dX2_readInto_49 crc_X2_readPart vc_2_36 z5 rfl rfl rfl rfl (Nat.le_of_ble_eq_true rfl) (roomy_k (by omega) (by decide)) (Nat.le_refl _) (Nat.le_refl _) ?_
    rintro _ _ ⟨rfl, J30, rfl, hf31, e_J30⟩
    have hru := hru.tr e_J30.ru
    refine x_aload_n dX2_readInto_52 0 rfl rfl ?_
    refine x_gI (v := 2) dX2_readInto_53 fl_2_46 rfl z5 hf31.1 ?_
    refine x_iconst (v := 1) dX2_readInto_56 (by decide) ?_
    refine x_icmp_eq (tgt := 64) dX2_readInto_57 (by decide) (fun c_57 => False.elim (absurd c_57 (by decide))) (fun c_57 => ?_)
    refine x_aload_n dX2_readInto_60 0 rfl rfl ?_
    refine x_callV (k_failF (G := G) (K := K) rc hf31) dX2_readInto_61 crc_X2_fail vc_2_49 z5 rfl rfl rfl rfl (Nat.le_of_ble_eq_true rfl) (roomy_k (by omega) (by decide)) (Nat.le_refl _) (Nat.le_refl _) ?_
    rintro _ _ ⟨rfl, J32, rfl, hf33, e_J32⟩
    have hru := hru.tr e_J32.ru
    refine x_aload_n dX2_readInto_64 0 rfl rfl ?_
    refine x_gI (v := nI (fmF tb ts r0.2.1)) dX2_readInto_65 fl_2_29 rfl z5 hf33.2.1 ?_
    refine x_iret dX2_readInto_68 rfl (Nat.le_refl _) (Nat.le_refl _) ?_
    refine ⟨J32, rfl, hru, Or.inr ?_⟩
    rw [tx_1 hres o0]
    exact ⟨rfl, rfl⟩

