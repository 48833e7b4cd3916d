def textV (σ : SG) (res : Bool × Nat × (Nat → List Int32)) : Int32 := if gTc σ = 6 then -4 else if res.1 = true then nI (gTc σ) else -100 - nI (fmF (gTb σ) (gTs σ) res.2.1)
def newT (σ : SG) (P : Nat → List Int32) : SG := (σ.1, (gTc σ + 1, fun t => if t = gTc σ then P else gPP σ t), (0, gTb σ), σ.2.2.2)
def textS (σ : SG) (res : Bool × Nat × (Nat → List Int32)) : SG := if gTc σ = 6 then σ else if res.1 = true then newT σ res.2.2 else withTp σ (0, gTb σ)
theorem WI.text {σ : SG} {res : Bool × Nat × (Nat → List Int32)} (h : WI σ) : WI (textS σ res) := by
  unfold textS
  split
  · exact h
  · split
    · exact ⟨h.1, fun j hj => absurd hj (Nat.not_lt_zero j), h.2.2.1, h.2.2.2⟩
    · exact ⟨h.1, fun j hj => absurd hj (Nat.not_lt_zero j), h.2.2.1, h.2.2.2⟩
def frU (m c0 tc : Nat) (I J : HI) : Prop := ∀ a k, ¬ (a = m ∧ ((15 ≤ k ∧ k ≤ 21) ∨ k = 9 ∨ k = 11)) → ¬ (a = m + 9 ∧ c0 ≤ k) → ¬ ((a = m + 7 ∨ a = m + 8) ∧ 3 * tc ≤ k ∧ k < 3 * tc + 3) → J a k = I a k
theorem frU.tr {m c0 tc : Nat} {I J J2 : HI} (h : frU m c0 tc I J) (h2 : frU m c0 tc J J2) : frU m c0 tc I J2 := fun a k q1 q2 q3 => (h2 a k q1 q2 q3).trans (h a k q1 q2 q3)
theorem frT.u {m c0 ix tc : Nat} {I J : HI} (h : frT m c0 ix I J) (h1 : 3 * tc ≤ ix) (h2 : ix < 3 * tc + 3) : frU m c0 tc I J := fun a k q1 q2 q3 => h a k (by omega) q2 (by omega)
theorem frU.fm {m c0 tc : Nat} {I J : HI} (h : frU m c0 tc I J) : FrM m I J := fun a k q => h a k (by omega) (by omega) (by omega)
theorem frU.old {m c0 tc t : Nat} {I J : HI} {P : Nat → List Int32} (h : frU m c0 tc I J) (ht : t < tc) (hx : MTx m I t P c0) : MTx m J t P c0 := by
  intro q hq
  obtain ⟨B, h1, h2, h3, h4, h5⟩ := hx q hq
  refine ⟨B, (h _ _ (by omega) (by omega) (by omega)).trans h1, (h _ _ (by omega) (by omega) (by omega)).trans h2, h3, fun j x hx => ?_, h5⟩
  have hj : j < (P q).length := (List.getElem?_eq_some_iff.mp hx).1
  exact ⟨(h _ _ (by omega) (by omega) (by omega)).trans (h4 j x hx).1, (h4 j x hx).2⟩
theorem MTx.le {m t c c' : Nat} {I : HI} {P : Nat → List Int32} (h : MTx m I t P c) (hc : c ≤ c') : MTx m I t P c' := by
  intro q hq
  obtain ⟨B, h1, h2, h3, h4, h5⟩ := h q hq
  exact ⟨B, h1, h2, by omega, h4, h5⟩
/-- the reference's state, also ahead of its first text -/
def MJ (m : Nat) (Sh : HS) (I : HI) (R : HR) (σ : SG) : Prop := MSh Sh m ∧ MRf R m ∧ (I m 2 = nI (gN σ) ∧ gN σ ≤ 8) ∧ MS I m (gN σ) (gW σ) ∧ (I m 8 = nI (gRu σ) ∧ gRu σ ≤ gTc σ ∧ gRu σ < 6) ∧ (I m 11 = nI (gTc σ) ∧ gTc σ ≤ 6) ∧ MTs m I σ ∧ MTp m I σ ∧ MIm m I σ ∧ MSe m I σ
theorem MJ.mi {m : Nat} {Sh : HS} {I : HI} {R : HR} {σ : SG} (h : MJ m Sh I R σ) (hlt : gRu σ < gTc σ) : MI m Sh I R σ := by
  obtain ⟨a1, a2, a3, a4, a5, a6⟩ := h
  exact ⟨a1, a2, a3, a4, ⟨a5.1, hlt⟩, a6⟩
theorem MI.mj {m : Nat} {Sh : HS} {I : HI} {R : HR} {σ : SG} (h : MI m Sh I R σ) : MJ m Sh I R σ := by
  obtain ⟨a1, a2, a3, a4, a5, a6, a7⟩ := h
  have h6 := a6.2
  have h5 := a5.2
  exact ⟨a1, a2, a3, a4, ⟨a5.1, by omega, by omega⟩, a6, a7⟩
theorem mt_no {m c0 : Nat} {Sh : HS} {I J : HI} {R : HR} {σ : SG} (hm0 : MJ m Sh I R σ) (hlt : gRu σ < gTc σ) (hc0 : c0 ≤ 160 * gTc σ) (hx : ∀ t, t < gTc σ → MTx m I t (gPP σ t) c0) (e : frU m c0 (gTc σ) I J) (k15 : J m 15 = nI c0) (k9 : J m 9 = 0) (k11 : J m 11 = I m 11) : MI m Sh J R (withTp σ (0, gTb σ)) := by
  obtain ⟨a1, a2, a3, a4, a5, a6, -, aA, aB, aC⟩ := hm0
  have q : ∀ a k, ¬ (a = m ∧ ((15 ≤ k ∧ k ≤ 21) ∨ k = 9 ∨ k = 11)) → ¬ (m + 7 ≤ a ∧ a ≤ m + 9) → J a k = I a k := fun a k q1 q2 => e a k q1 (by omega) (by omega)
  exact ⟨a1, a2, ⟨(q _ _ (by omega) (by omega)).trans a3.1, a3.2⟩, ⟨fun i hi k hk => (q _ _ (by omega) (by omega)).trans (a4.1 i hi k hk), (q _ _ (by omega) (by omega)).trans a4.2.1, (q _ _ (by omega) (by omega)).trans a4.2.2⟩, ⟨(q _ _ (by omega) (by omega)).trans a5.1, hlt⟩, ⟨k11.trans a6.1, a6.2⟩, ⟨c0, k15, hc0, fun t ht => e.old ht (hx t ht)⟩, ⟨k9, Nat.zero_le _, fun j hj => absurd hj (Nat.not_lt_zero j)⟩, aB.eq (q _ _ (by omega) (by omega)) (q _ _ (by omega) (by omega)) (fun k => q _ _ (by omega) (by omega)), aC.eq (fun a k z1 z2 => q a k (by omega) (by omega))⟩
theorem mt_ok {m c0 : Nat} {Sh : HS} {I J : HI} {R : HR} {σ : SG} {P : Nat → List Int32} (hm0 : MJ m Sh I R σ) (hc0 : c0 ≤ 160 * gTc σ) (hx : ∀ t, t < gTc σ → MTx m I t (gPP σ t) c0) (h5 : gTc σ < 6) (e : frU m c0 (gTc σ) I J) (k15 : J m 15 = nI (c0 + ((P 0 ++ P 1) ++ P 2).length)) (hl : ((P 0 ++ P 1) ++ P 2).length ≤ 160) (hcd : ∀ j (x : Int32), ((P 0 ++ P 1) ++ P 2)[j]? = some x → J (m + 9) (c0 + j) = mcF x) (b0 : J (m + 7) (3 * gTc σ) = nI c0) (b1 : J (m + 7) (3 * gTc σ + 1) = nI (c0 + (P 0).length)) (b2 : J (m + 7) (3 * gTc σ + 2) = nI (c0 + (P 0 ++ P 1).length)) (l0 : J (m + 8) (3 * gTc σ) = nI (P 0).length) (l1 : J (m + 8) (3 * gTc σ + 1) = nI (P 1).length) (l2 : J (m + 8) (3 * gTc σ + 2) = nI (P 2).length) (hP : ∀ q, q < 3 → ∀ x ∈ P q, cdP x) (ho : ∀ q, q < 3 → okF (P q) 0) (k9 : J m 9 = 0) (k11 : J m 11 = nI (gTc σ + 1)) : MI m Sh J R (newT σ P) := by
  obtain ⟨a1, a2, a3, a4, a5, a6, -, aA, aB, aC⟩ := hm0
  have q : ∀ a k, ¬ (a = m ∧ ((15 ≤ k ∧ k ≤ 21) ∨ k = 9 ∨ k = 11)) → ¬ (m + 7 ≤ a ∧ a ≤ m + 9) → J a k = I a k := fun a k q1 q2 => e a k q1 (by omega) (by omega)
  have hll : ((P 0 ++ P 1) ++ P 2).length = (P 0).length + (P 1).length + (P 2).length := by simp only [List.length_append]
  have hl01 : (P 0 ++ P 1).length = (P 0).length + (P 1).length := by simp only [List.length_append]
  refine ⟨a1, a2, ⟨(q _ _ (by omega) (by omega)).trans a3.1, a3.2⟩, ⟨fun i hi k hk => (q _ _ (by omega) (by omega)).trans (a4.1 i hi k hk), (q _ _ (by omega) (by omega)).trans a4.2.1, (q _ _ (by omega) (by omega)).trans a4.2.2⟩, ⟨(q _ _ (by omega) (by omega)).trans a5.1, Nat.lt_succ_of_le a5.2.1⟩, ⟨k11, h5⟩, ⟨c0 + ((P 0 ++ P 1) ++ P 2).length, k15, ?_, fun t ht => ?_⟩, ⟨k9, Nat.zero_le _, fun j hj => absurd hj (Nat.not_lt_zero j)⟩, ?_, aC.eq (fun a k z1 z2 => q a k (by omega) (by omega))⟩
  · show _ ≤ 160 * (gTc σ + 1)
    omega
  · have ht : t < gTc σ + 1 := ht
    show MTx m J t (if t = gTc σ then P else gPP σ t) _
    by_cases et : t = gTc σ
    · rw [if_pos et, et]
      intro i hi
      have hc : i = 0 ∨ i = 1 ∨ i = 2 := by omega
      rcases hc with rfl | rfl | rfl
      · refine ⟨c0, b0, l0, by omega, fun j x hj => ⟨hcd j x ?_, hP 0 (by omega) x (List.mem_of_getElem? hj)⟩, ho 0 (by omega)⟩
        have hlt : j < (P 0).length := (List.getElem?_eq_some_iff.mp hj).1
        rw [List.getElem?_append_left (by omega), List.getElem?_append_left hlt]
        exact hj
      · refine ⟨c0 + (P 0).length, b1, l1, by omega, fun j x hj => ⟨?_, hP 1 (by omega) x (List.mem_of_getElem? hj)⟩, ho 1 (by omega)⟩
        have hlt : j < (P 1).length := (List.getElem?_eq_some_iff.mp hj).1
        have := hcd ((P 0).length + j) x (by
          rw [List.getElem?_append_left (by omega), List.getElem?_append_right (by omega), Nat.add_sub_cancel_left]
          exact hj)
        rw [← Nat.add_assoc] at this
        exact this
      · refine ⟨c0 + (P 0 ++ P 1).length, b2, l2, by omega, fun j x hj => ⟨?_, hP 2 (by omega) x (List.mem_of_getElem? hj)⟩, ho 2 (by omega)⟩
        have := hcd ((P 0 ++ P 1).length + j) x (by
          rw [List.getElem?_append_right (by omega), Nat.add_sub_cancel_left]
          exact hj)
        rw [← Nat.add_assoc] at this
        exact this
    · rw [if_neg et]
      exact (e.old (by omega) (hx t (by omega))).le (Nat.le_add_right _ _)
  · have hz : gIm (newT σ P) = gIm σ := rfl
    have hz2 : gTc (newT σ P) = gTc σ + 1 := rfl
    unfold MIm at *
    rw [hz, hz2]
    cases hi : gIm σ with
    | none =>
      rw [hi] at aB
      exact (q _ _ (by omega) (by omega)).trans aB
    | some x =>
      rw [hi] at aB
      obtain ⟨c1, c2, c3, c4, c5, c6, c7, c8⟩ := aB
      exact ⟨(q _ _ (by omega) (by omega)).trans c1, (q _ _ (by omega) (by omega)).trans c2, c3, fun i hi => ⟨(q _ _ (by omega) (by omega)).trans (c4 i hi).1, (q _ _ (by omega) (by omega)).trans (c4 i hi).2.1, (q _ _ (by omega) (by omega)).trans (c4 i hi).2.2.1, (q _ _ (by omega) (by omega)).trans (c4 i hi).2.2.2⟩, (q _ _ (by omega) (by omega)).trans c5, (q _ _ (by omega) (by omega)).trans c6, (q _ _ (by omega) (by omega)).trans c7, Nat.lt_succ_of_lt c8⟩

set_option maxHeartbeats 4000000 in
set_option maxRecDepth 100000 in
theorem k_mtext_g {G : GG} {Sh : HS} {I : HI} {R : HR} {m : Nat} {σ : SG} (hm0 : MJ m Sh I R σ) (hw0 : WI σ) {res : Bool × Nat × (Nat → List Int32)} (hor : gRu σ < gTc σ ∨ res.1 = true) (htx : txR (gTb σ) (gTs σ) res) : AM G 45 0 0 yX8_text cX8_text 3 (some .int) [.ref m] (Sh, I, R) (qi (updM m Sh I R (textV σ res) (textS σ res))) := by
  obtain ⟨hsh, hrf, ⟨hn, hn8⟩, hs, ⟨hru, hrt⟩, ⟨htc, htc6⟩, hmt, hmp, him, hse⟩ := id hm0
  obtain ⟨z0, z1, z6, z7, z8, z9, z10, z11, z12, z13, z14, z15, z16, z17⟩ := id hsh
  obtain ⟨y1, y6, y7, y8, y9, y10, y11, y12, y13, y14, y15, y16, y17⟩ := id hrf
  obtain ⟨c0, h15, hc0, hmt9⟩ := id hmt
  obtain ⟨r0, r1, r2, h0, h1, h2, hres⟩ := htx
  refine am_intro (by decide) (Nat.le_of_ble_eq_true rfl) ?_
  refine x_aload_n dX8_text_0 0 rfl rfl ?_
  refine x_gI (v := nI (gTc σ)) dX8_text_1 fl_8_211 rfl z0 htc ?_
  refine x_bipush (v := nI 6) dX8_text_4 (by decide) ?_
  refine x_icmp_ne (tgt := 12) dX8_text_6 (by decide) (fun c_6 => ?_) (fun c_6 => ?_)
  · have c_6 : ¬ (gTc σ) = 6 := fun zz9 => c_6 ((nI_eq (a := (gTc σ)) (b := 6) (by omega) (by omega)).mpr zz9)
    refine x_aload_n dX8_text_12 0 rfl rfl ?_
    refine x_gI (v := nI c0) dX8_text_13 fl_8_179 rfl z0 h15 ?_
    refine x_istore_n (lv' := [(1, .int (nI c0)), (0, .ref m)]) dX8_text_16 rfl (by decide) rfl ?_
    refine x_aload_n dX8_text_17 1 rfl rfl ?_
    refine x_iconst (v := nI 0) dX8_text_18 (by decide) ?_
    refine x_pI dX8_text_19 fl_8_120 rfl rfl rfl z0 (fun Iq1 e_Iq1 => ?_)
    have htp1 : TPm m (gTs σ) (gTb σ) Iq1 := ⟨by rw [e_Iq1, u2_ne (by omega)]; exact hmp.1, hmp.2.1, fun j hj => by rw [e_Iq1, u2_ne (by omega)]; exact hmp.2.2 j hj, hw0.2.1⟩
    refine x_aload_n dX8_text_22 1 rfl rfl ?_
    refine x_callV (k_next (G := G) (I := Iq1) hsh hrf htp1 (p := 0) (Nat.zero_le _) (by rw [e_Iq1, u2_same])) dX8_text_23 crc_X8_next vc_8_176 z0 rfl rfl rfl rfl (Nat.le_of_ble_eq_true rfl) (roomy_k (by omega) (by decide)) (Nat.le_refl _) (Nat.le_refl _) ?_
    rintro _ _ ⟨rfl, J1, rfl, hfx, htok⟩
    obtain ⟨o, ho9⟩ := nI_all (J1 m 21)
    have hg : GM (gTb σ) (gTs σ) m c0 0 o [] J1 := ⟨htp1.fx hfx, htok, ho9, ⟨by rw [hfx _ _ (by omega), e_Iq1, u2_ne (by omega)]; exact h15, by omega, Nat.zero_le _, fun j x q => by simp at q⟩, Nat.zero_le _⟩
    have hu : frU m c0 (gTc σ) I J1 := fun a k q1 q2 q3 => by rw [hfx _ _ (by omega), e_Iq1, u2_ne (by omega)]
    have htJ1 : J1 m 11 = nI (gTc σ) := by rw [hfx _ _ (by omega), e_Iq1, u2_ne (by omega)]; exact htc
    refine x_aload_n dX8_text_26 1 rfl rfl ?_
    refine x_iconst (v := nI 3) dX8_text_27 (by decide) ?_
    refine x_aload_n dX8_text_28 1 rfl rfl ?_
    refine x_gI (v := nI (gTc σ)) dX8_text_29 fl_8_211 rfl z0 (by rw [hfx _ _ (by omega), e_Iq1, u2_ne (by omega)]; exact htc) ?_
    refine x_imul dX8_text_32 ?_
    refine x_vali (pk_mul 3 (gTc σ)) ?_
    refine x_ldcS (i := 1) (tx := "strikes") dX8_text_33 (by decide +kernel) ?_
    refine x_callV (k_mpart (G := G) hsh hrf hg (Nat.zero_le _) (ix := 3 * gTc σ) (by omega) (kx := 1) (by decide) (by decide) h0) dX8_text_35 crc_X8_part vc_8_214 z0 rfl rfl rfl rfl (Nat.le_of_ble_eq_true rfl) (roomy_k (by omega) (by decide)) (Nat.le_refl _) (Nat.le_refl _) ?_
    rintro _ _ ⟨b_P0, rfl, hb_P0, P0, rfl, e_P0, (⟨o0, hg0, hb0, hl0⟩ | ⟨o0, hf0⟩)⟩
    · have be_P0 : b_P0 = 1 := by rw [hb_P0, if_pos o0]
      subst be_P0
      have hu := hu.tr (e_P0.u (tc := gTc σ) (by omega) (by omega))
      have m0 := prt_mp h0 (Nat.zero_le _)
      have n0 := m0.2 o0
      refine x_if_eq (tgt := 79) dX8_text_38 (by decide) (fun c_38 => False.elim (absurd c_38 (by decide))) (fun c_38 => ?_)
      have htP0 : P0 m 11 = nI (gTc σ) := (e_P0 _ _ (by omega) (by omega) (by omega)).trans htJ1
      refine x_aload_n dX8_text_41 1 rfl rfl ?_
      refine x_iconst (v := nI 3) dX8_text_42 (by decide) ?_
      refine x_aload_n dX8_text_43 1 rfl rfl ?_
      refine x_gI (v := nI (gTc σ)) dX8_text_44 fl_8_211 rfl z0 ((e_P0 _ _ (by omega) (by omega) (by omega)).trans htJ1) ?_
      refine x_imul dX8_text_47 ?_
      refine x_vali (pk_mul 3 (gTc σ)) ?_
      refine x_iconst (v := nI 1) dX8_text_48 (by decide) ?_
      refine x_iadd dX8_text_49 ?_
      refine x_vali (nI_add (3 * (gTc σ)) 1) ?_
      refine x_ldcS (i := 2) (tx := "raises") dX8_text_50 (by decide +kernel) ?_
      refine x_callV (k_mpart (G := G) hsh hrf hg0 (by have := n0.2.1; simp only [List.nil_append]; omega) (ix := 3 * gTc σ + 1) (by omega) (kx := 2) (by decide) (by decide) h1) dX8_text_52 crc_X8_part vc_8_214 z0 rfl rfl rfl rfl (Nat.le_of_ble_eq_true rfl) (roomy_k (by omega) (by decide)) (Nat.le_refl _) (Nat.le_refl _) ?_
      rintro _ _ ⟨b_P1, rfl, hb_P1, P1, rfl, e_P1, (⟨o1, hg1, hb1, hl1⟩ | ⟨o1, hf1⟩)⟩
      · have be_P1 : b_P1 = 1 := by rw [hb_P1, if_pos o1]
        subst be_P1
        have hu := hu.tr (e_P1.u (tc := gTc σ) (by omega) (by omega))
        have hb0 := (e_P1 _ _ (by omega) (by omega) (by omega)).trans hb0
        have hl0 := (e_P1 _ _ (by omega) (by omega) (by omega)).trans hl0
        have m1 := prt_mp h1 m0.1
        have n1 := m1.2 o1
        refine x_if_eq (tgt := 79) dX8_text_55 (by decide) (fun c_55 => False.elim (absurd c_55 (by decide))) (fun c_55 => ?_)
        have htP1 : P1 m 11 = nI (gTc σ) := (e_P1 _ _ (by omega) (by omega) (by omega)).trans htP0
        refine x_aload_n dX8_text_58 1 rfl rfl ?_
        refine x_iconst (v := nI 3) dX8_text_59 (by decide) ?_
        refine x_aload_n dX8_text_60 1 rfl rfl ?_
        refine x_gI (v := nI (gTc σ)) dX8_text_61 fl_8_211 rfl z0 ((e_P1 _ _ (by omega) (by omega) (by omega)).trans htP0) ?_
        refine x_imul dX8_text_64 ?_
        refine x_vali (pk_mul 3 (gTc σ)) ?_
        refine x_iconst (v := nI 2) dX8_text_65 (by decide) ?_
        refine x_iadd dX8_text_66 ?_
        refine x_vali (nI_add (3 * (gTc σ)) 2) ?_
        refine x_ldcS (i := 3) (tx := "worth") dX8_text_67 (by decide +kernel) ?_
        refine x_callV (k_mpart (G := G) hsh hrf hg1 (by have := n0.2.1; have := n1.2.1; have := n1.1; simp only [List.nil_append, List.length_append]; omega) (ix := 3 * gTc σ + 2) (by omega) (kx := 3) (by decide) (by decide) h2) dX8_text_69 crc_X8_part vc_8_214 z0 rfl rfl rfl rfl (Nat.le_of_ble_eq_true rfl) (roomy_k (by omega) (by decide)) (Nat.le_refl _) (Nat.le_refl _) ?_
        rintro _ _ ⟨b_P2, rfl, hb_P2, P2, rfl, e_P2, (⟨o2, hg2, hb2, hl2⟩ | ⟨o2, hf2⟩)⟩
        · have be_P2 : b_P2 = 1 := by rw [hb_P2, if_pos o2]
          subst be_P2
          have hu := hu.tr (e_P2.u (tc := gTc σ) (by omega) (by omega))
          have hb0 := (e_P2 _ _ (by omega) (by omega) (by omega)).trans hb0
          have hl0 := (e_P2 _ _ (by omega) (by omega) (by omega)).trans hl0
          have hb1 := (e_P2 _ _ (by omega) (by omega) (by omega)).trans hb1
          have hl1 := (e_P2 _ _ (by omega) (by omega) (by omega)).trans hl1
          have m2 := prt_mp h2 m1.1
          have n2 := m2.2 o2
          refine x_if_eq (tgt := 79) dX8_text_72 (by decide) (fun c_72 => False.elim (absurd c_72 (by decide))) (fun c_72 => ?_)
          refine x_iconst (v := 1) dX8_text_75 (by decide) ?_
          refine x_goto (tgt := 80) dX8_text_76 (by decide) ?_
          refine x_istore_n (lv' := [(2, .int 1), (1, .int (nI c0)), (0, .ref m)]) dX8_text_80 rfl (by decide) rfl ?_
          refine x_iload_n dX8_text_81 0 rfl rfl ?_
          refine x_if_eq (tgt := 99) dX8_text_82 (by decide) (fun c_82 => False.elim (absurd c_82 (by decide))) (fun c_82 => ?_)
          refine x_aload_n dX8_text_85 2 rfl rfl ?_
          refine x_gI (v := mtF (tkF (gTb σ) (gTs σ) r2.2.1)) dX8_text_86 fl_8_117 rfl z0 hg2.2.1.2.1 ?_
          refine x_bipush (v := 101) dX8_text_89 (by decide) ?_
          refine x_icmp_eq (tgt := 99) dX8_text_91 (by decide) (fun c_91 => ?_) (fun c_91 => ?_)
          · have htA : P2 m 11 = nI (gTc σ) := by exact (e_P2 _ _ (by omega) (by omega) (by omega)).trans htP1
            refine x_aload_n dX8_text_99 2 rfl rfl ?_
            refine x_iconst (v := 0) dX8_text_100 (by decide) ?_
            refine x_pI dX8_text_101 fl_8_72 rfl rfl rfl z0 (fun Iq2 e_Iq2 => ?_)
            have htl : Iq2 m 11 = nI (gTc σ) := by rw [e_Iq2, u2_ne (by omega)]; exact htA
            have hu := hu.tr (J2 := Iq2) (fun a k q1 q2 q3 => by rw [e_Iq2, u2_ne (by omega)])
            refine x_iload_n dX8_text_104 0 rfl rfl ?_
            refine x_if_eq (tgt := 120) dX8_text_105 (by decide) (fun c_105 => False.elim (absurd c_105 (by decide))) (fun c_105 => ?_)
            refine x_aload_n dX8_text_108 2 rfl rfl ?_
            refine x_dup dX8_text_109 rfl ?_
            refine x_gI (v := nI (gTc σ)) dX8_text_110 fl_8_211 rfl z0 htl ?_
            refine x_dup_x1 dX8_text_113 rfl rfl ?_
            refine x_iconst (v := nI 1) dX8_text_114 (by decide) ?_
            refine x_iadd dX8_text_115 ?_
            refine x_vali (nI_add (gTc σ) 1) ?_
            refine x_pI dX8_text_116 fl_8_211 rfl rfl rfl z0 (fun Iq3 e_Iq3 => ?_)
            refine x_iret dX8_text_119 rfl (Nat.le_refl _) (Nat.le_refl _) ?_
            have hres9 := tx_5 hres o0 o1 o2 (mt_101.mp c_91)
            refine ⟨?_, Iq3, rfl, ?_, (hu.tr (J2 := Iq3) (fun a k q1 q2 q3 => by rw [e_Iq3, u2_ne (by omega)])).fm⟩
            · unfold textV
              rw [if_neg c_6, hres9, if_pos rfl]
            · unfold textS
              rw [if_neg c_6, hres9, if_pos rfl]
              have hgc := hg2.2.2.2.1
              simp only [List.nil_append] at hgc hb1 hb2 hb0
              have q : ∀ a k, ¬ (a = m ∧ (k = 9 ∨ k = 11)) → Iq3 a k = P2 a k := fun a k z => by rw [e_Iq3, u2_ne (by omega), e_Iq2, u2_ne (by omega)]
              have k2 := n2.2.2
              refine mt_ok (P := fun i => if i = 0 then r0.2.2 else if i = 1 then r1.2.2 else r2.2.2) hm0 hc0 hmt9 (by omega) (hu.tr (J2 := Iq3) (fun a k q1 q2 q3 => by rw [e_Iq3, u2_ne (by omega)])) ((q _ _ (by omega)).trans hgc.1) hgc.2.2.1 (fun j x z => (q _ _ (by omega)).trans (hgc.2.2.2 j x z)) ((q _ _ (by omega)).trans hb0) ((q _ _ (by omega)).trans hb1) ((q _ _ (by omega)).trans hb2) ((q _ _ (by omega)).trans hl0) ((q _ _ (by omega)).trans hl1) ((q _ _ (by omega)).trans hl2) (fun i hi => ?_) (fun i hi => ?_) (by rw [e_Iq3, u2_ne (by omega), e_Iq2, u2_same]) (by rw [e_Iq3, u2_same])
              · have hc : i = 0 ∨ i = 1 ∨ i = 2 := by omega
                rcases hc with rfl | rfl | rfl
                · exact prt_cd h0
                · exact prt_cd h1
                · exact prt_cd h2
              · have hc : i = 0 ∨ i = 1 ∨ i = 2 := by omega
                rcases hc with rfl | rfl | rfl
                · exact okX_ok n0.2.2
                · exact okX_ok n1.2.2
                · exact okX_ok n2.2.2
          · refine x_aload_n dX8_text_94 2 rfl rfl ?_
            refine x_callV (k_mfails (G := G) (J := P2) hsh hrf) dX8_text_95 crc_X8_fails vc_8_172 z0 rfl rfl rfl rfl (Nat.le_of_ble_eq_true rfl) (roomy_k (by omega) (by decide)) (Nat.le_refl _) (Nat.le_refl _) ?_
            rintro _ _ ⟨_, rfl, rfl, F9, rfl, e_F9⟩
            have hf3 : F9 m 20 = nI (fmF (gTb σ) (gTs σ) r2.2.1) := by rw [e_F9, u2_same]; exact hg2.2.1.1
            have hu := hu.tr (J2 := F9) (fun a k q1 q2 q3 => by rw [e_F9, u2_ne (by omega)])
            refine x_istore_n (lv' := [(2, .int 0), (1, .int (nI c0)), (0, .ref m)]) dX8_text_98 rfl (by decide) rfl ?_
            have htA : F9 m 11 = nI (gTc σ) := by rw [e_F9, u2_ne (by omega)]; exact (e_P2 _ _ (by omega) (by omega) (by omega)).trans htP1
            refine x_aload_n dX8_text_99 2 rfl rfl ?_
            refine x_iconst (v := 0) dX8_text_100 (by decide) ?_
            refine x_pI dX8_text_101 fl_8_72 rfl rfl rfl z0 (fun Iq4 e_Iq4 => ?_)
            have htl : Iq4 m 11 = nI (gTc σ) := by rw [e_Iq4, u2_ne (by omega)]; exact htA
            have hu := hu.tr (J2 := Iq4) (fun a k q1 q2 q3 => by rw [e_Iq4, u2_ne (by omega)])
            refine x_iload_n dX8_text_104 0 rfl rfl ?_
            refine x_if_eq (tgt := 120) dX8_text_105 (by decide) (fun c_105 => ?_) (fun c_105 => False.elim (c_105 rfl))
            refine x_aload_n dX8_text_120 2 rfl rfl ?_
            refine x_iload_n dX8_text_121 1 rfl rfl ?_
            refine x_pI dX8_text_122 fl_8_179 rfl rfl rfl z0 (fun Iq5 e_Iq5 => ?_)
            refine x_bipush (v := (-100)) dX8_text_125 (by decide) ?_
            refine x_aload_n dX8_text_127 2 rfl rfl ?_
            refine x_gI (v := Iq5 m 20) dX8_text_128 fl_8_169 rfl z0 rfl ?_
            refine x_isub dX8_text_131 ?_
            refine x_iret dX8_text_132 rfl (Nat.le_refl _) (Nat.le_refl _) ?_
            have hres9 := tx_4 hres o0 o1 o2 (fun z => c_91 (mt_101.mpr z))
            refine ⟨?_, Iq5, rfl, ?_, (hu.tr (J2 := Iq5) (fun a k q1 q2 q3 => by rw [e_Iq5, u2_ne (by omega)])).fm⟩
            · unfold textV
              rw [if_neg c_6, hres9, if_neg (fun z => by cases z)]
              rw [e_Iq5, u2_ne (by omega), e_Iq4, u2_ne (by omega), hf3]
            · unfold textS
              rw [if_neg c_6, hres9, if_neg (fun z => by cases z)]
              exact mt_no hm0 (hor.resolve_right (fun z => by rw [hres9] at z; cases z)) hc0 hmt9 (hu.tr (J2 := Iq5) (fun a k q1 q2 q3 => by rw [e_Iq5, u2_ne (by omega)])) (by rw [e_Iq5, u2_same]) (by rw [e_Iq5, u2_ne (by omega), e_Iq4, u2_same]) (by rw [e_Iq5, u2_ne (by omega)]; exact htl.trans htc.symm)
        · obtain ⟨Q2, e_Q2⟩ : ∃ z : HI, z = P2 := ⟨_, rfl⟩
          rw [← e_Q2] at hf2 ⊢
          have be_P2 : b_P2 = 0 := by rw [hb_P2, if_neg (by rw [o2]; decide)]
          subst be_P2
          have hu := hu.tr (e_P2.u (tc := gTc σ) (by omega) (by omega))
          rw [← e_Q2] at hu
          refine x_if_eq (tgt := 79) dX8_text_72 (by decide) (fun c_72 => ?_) (fun c_72 => False.elim (c_72 rfl))
          refine x_iconst (v := 0) dX8_text_79 (by decide) ?_
          refine x_istore_n (lv' := [(2, .int 0), (1, .int (nI c0)), (0, .ref m)]) dX8_text_80 rfl (by decide) rfl ?_
          refine x_iload_n dX8_text_81 0 rfl rfl ?_
          refine x_if_eq (tgt := 99) dX8_text_82 (by decide) (fun c_82 => ?_) (fun c_82 => False.elim (c_82 rfl))
          have htA : Q2 m 11 = nI (gTc σ) := by rw [e_Q2]; exact (e_P2 _ _ (by omega) (by omega) (by omega)).trans htP1
          refine x_aload_n dX8_text_99 2 rfl rfl ?_
          refine x_iconst (v := 0) dX8_text_100 (by decide) ?_
          refine x_pI dX8_text_101 fl_8_72 rfl rfl rfl z0 (fun Iq6 e_Iq6 => ?_)
          have htl : Iq6 m 11 = nI (gTc σ) := by rw [e_Iq6, u2_ne (by omega)]; exact htA
          have hu := hu.tr (J2 := Iq6) (fun a k q1 q2 q3 => by rw [e_Iq6, u2_ne (by omega)])
          refine x_iload_n dX8_text_104 0 rfl rfl ?_
          refine x_if_eq (tgt := 120) dX8_text_105 (by decide) (fun c_105 => ?_) (fun c_105 => False.elim (c_105 rfl))
          refine x_aload_n dX8_text_120 2 rfl rfl ?_
          refine x_iload_n dX8_text_121 1 rfl rfl ?_
          refine x_pI dX8_text_122 fl_8_179 rfl rfl rfl z0 (fun Iq7 e_Iq7 => ?_)
          refine x_bipush (v := (-100)) dX8_text_125 (by decide) ?_
          refine x_aload_n dX8_text_127 2 rfl rfl ?_
          refine x_gI (v := Iq7 m 20) dX8_text_128 fl_8_169 rfl z0 rfl ?_
          refine x_isub dX8_text_131 ?_
          refine x_iret dX8_text_132 rfl (Nat.le_refl _) (Nat.le_refl _) ?_
          have hres9 := tx_3 hres o0 o1 o2
          refine ⟨?_, Iq7, rfl, ?_, (hu.tr (J2 := Iq7) (fun a k q1 q2 q3 => by rw [e_Iq7, u2_ne (by omega)])).fm⟩
          · unfold textV
            rw [if_neg c_6, hres9, if_neg (fun z => by cases z)]
            rw [e_Iq7, u2_ne (by omega), e_Iq6, u2_ne (by omega), hf2]
          · unfold textS
            rw [if_neg c_6, hres9, if_neg (fun z => by cases z)]
            exact mt_no hm0 (hor.resolve_right (fun z => by rw [hres9] at z; cases z)) hc0 hmt9 (hu.tr (J2 := Iq7) (fun a k q1 q2 q3 => by rw [e_Iq7, u2_ne (by omega)])) (by rw [e_Iq7, u2_same]) (by rw [e_Iq7, u2_ne (by omega), e_Iq6, u2_same]) (by rw [e_Iq7, u2_ne (by omega)]; exact htl.trans htc.symm)
      · obtain ⟨Q1, e_Q1⟩ : ∃ z : HI, z = P1 := ⟨_, rfl⟩
        rw [← e_Q1] at hf1 ⊢
        have be_P1 : b_P1 = 0 := by rw [hb_P1, if_neg (by rw [o1]; decide)]
        subst be_P1
        have hu := hu.tr (e_P1.u (tc := gTc σ) (by omega) (by omega))
        rw [← e_Q1] at hu
        refine x_if_eq (tgt := 79) dX8_text_55 (by decide) (fun c_55 => ?_) (fun c_55 => False.elim (c_55 rfl))
        refine x_iconst (v := 0) dX8_text_79 (by decide) ?_
        refine x_istore_n (lv' := [(2, .int 0), (1, .int (nI c0)), (0, .ref m)]) dX8_text_80 rfl (by decide) rfl ?_
        refine x_iload_n dX8_text_81 0 rfl rfl ?_
        refine x_if_eq (tgt := 99) dX8_text_82 (by decide) (fun c_82 => ?_) (fun c_82 => False.elim (c_82 rfl))
        have htA : Q1 m 11 = nI (gTc σ) := by rw [e_Q1]; exact (e_P1 _ _ (by omega) (by omega) (by omega)).trans htP0
        refine x_aload_n dX8_text_99 2 rfl rfl ?_
        refine x_iconst (v := 0) dX8_text_100 (by decide) ?_
        refine x_pI dX8_text_101 fl_8_72 rfl rfl rfl z0 (fun Iq8 e_Iq8 => ?_)
        have htl : Iq8 m 11 = nI (gTc σ) := by rw [e_Iq8, u2_ne (by omega)]; exact htA
        have hu := hu.tr (J2 := Iq8) (fun a k q1 q2 q3 => by rw [e_Iq8, u2_ne (by omega)])
        refine x_iload_n dX8_text_104 0 rfl rfl ?_
        refine x_if_eq (tgt := 120) dX8_text_105 (by decide) (fun c_105 => ?_) (fun c_105 => False.elim (c_105 rfl))
        refine x_aload_n dX8_text_120 2 rfl rfl ?_
        refine x_iload_n dX8_text_121 1 rfl rfl ?_
        refine x_pI dX8_text_122 fl_8_179 rfl rfl rfl z0 (fun Iq9 e_Iq9 => ?_)
        refine x_bipush (v := (-100)) dX8_text_125 (by decide) ?_
        refine x_aload_n dX8_text_127 2 rfl rfl ?_
        refine x_gI (v := Iq9 m 20) dX8_text_128 fl_8_169 rfl z0 rfl ?_
        refine x_isub dX8_text_131 ?_
        refine x_iret dX8_text_132 rfl (Nat.le_refl _) (Nat.le_refl _) ?_
        have hres9 := tx_2 hres o0 o1
        refine ⟨?_, Iq9, rfl, ?_, (hu.tr (J2 := Iq9) (fun a k q1 q2 q3 => by rw [e_Iq9, u2_ne (by omega)])).fm⟩
        · unfold textV
          rw [if_neg c_6, hres9, if_neg (fun z => by cases z)]
          rw [e_Iq9, u2_ne (by omega), e_Iq8, u2_ne (by omega), hf1]
        · unfold textS
          rw [if_neg c_6, hres9, if_neg (fun z => by cases z)]
          exact mt_no hm0 (hor.resolve_right (fun z => by rw [hres9] at z; cases z)) hc0 hmt9 (hu.tr (J2 := Iq9) (fun a k q1 q2 q3 => by rw [e_Iq9, u2_ne (by omega)])) (by rw [e_Iq9, u2_same]) (by rw [e_Iq9, u2_ne (by omega), e_Iq8, u2_same]) (by rw [e_Iq9, u2_ne (by omega)]; exact htl.trans htc.symm)
    · obtain ⟨Q0, e_Q0⟩ : ∃ z : HI, z = P0 := ⟨_, rfl⟩
      rw [← e_Q0] at hf0 ⊢
      have be_P0 : b_P0 = 0 := by rw [hb_P0, if_neg (by rw [o0]; decide)]
      subst be_P0
      have hu := hu.tr (e_P0.u (tc := gTc σ) (by omega) (by omega))
      rw [← e_Q0] at hu
      refine x_if_eq (tgt := 79) dX8_text_38 (by decide) (fun c_38 => ?_) (fun c_38 => False.elim (c_38 rfl))
      refine x_iconst (v := 0) dX8_text_79 (by decide) ?_
      refine x_istore_n (lv' := [(2, .int 0), (1, .int (nI c0)), (0, .ref m)]) dX8_text_80 rfl (by decide) rfl ?_
      refine x_iload_n dX8_text_81 0 rfl rfl ?_
      refine x_if_eq (tgt := 99) dX8_text_82 (by decide) (fun c_82 => ?_) (fun c_82 => False.elim (c_82 rfl))
      have htA : Q0 m 11 = nI (gTc σ) := by rw [e_Q0]; exact (e_P0 _ _ (by omega) (by omega) (by omega)).trans htJ1
      refine x_aload_n dX8_text_99 2 rfl rfl ?_
      refine x_iconst (v := 0) dX8_text_100 (by decide) ?_
      refine x_pI dX8_text_101 fl_8_72 rfl rfl rfl z0 (fun Iq10 e_Iq10 => ?_)
      have htl : Iq10 m 11 = nI (gTc σ) := by rw [e_Iq10, u2_ne (by omega)]; exact htA
      have hu := hu.tr (J2 := Iq10) (fun a k q1 q2 q3 => by rw [e_Iq10, u2_ne (by omega)])
      refine x_iload_n dX8_text_104 0 rfl rfl ?_
      refine x_if_eq (tgt := 120) dX8_text_105 (by decide) (fun c_105 => ?_) (fun c_105 => False.elim (c_105 rfl))
      refine x_aload_n dX8_text_120 2 rfl rfl ?_
      refine x_iload_n dX8_text_121 1 rfl rfl ?_
      refine x_pI dX8_text_122 fl_8_179 rfl rfl rfl z0 (fun Iq11 e_Iq11 => ?_)
      refine x_bipush (v := (-100)) dX8_text_125 (by decide) ?_
      refine x_aload_n dX8_text_127 2 rfl rfl ?_
      refine x_gI (v := Iq11 m 20) dX8_text_128 fl_8_169 rfl z0 rfl ?_
      refine x_isub dX8_text_131 ?_
      refine x_iret dX8_text_132 rfl (Nat.le_refl _) (Nat.le_refl _) ?_
      have hres9 := tx_1 hres o0
      refine ⟨?_, Iq11, rfl, ?_, (hu.tr (J2 := Iq11) (fun a k q1 q2 q3 => by rw [e_Iq11, u2_ne (by omega)])).fm⟩
      · unfold textV
        rw [if_neg c_6, hres9, if_neg (fun z => by cases z)]
        rw [e_Iq11, u2_ne (by omega), e_Iq10, u2_ne (by omega), hf0]
      · unfold textS
        rw [if_neg c_6, hres9, if_neg (fun z => by cases z)]
        exact mt_no hm0 (hor.resolve_right (fun z => by rw [hres9] at z; cases z)) hc0 hmt9 (hu.tr (J2 := Iq11) (fun a k q1 q2 q3 => by rw [e_Iq11, u2_ne (by omega)])) (by rw [e_Iq11, u2_same]) (by rw [e_Iq11, u2_ne (by omega), e_Iq10, u2_same]) (by rw [e_Iq11, u2_ne (by omega)]; exact htl.trans htc.symm)
  · have c_6 : (gTc σ) = 6 := (nI_eq (a := (gTc σ)) (b := 6) (by omega) (by omega)).mp c_6
    refine x_bipush (v := (-4)) dX8_text_9 (by decide) ?_
    refine x_iret dX8_text_11 rfl (Nat.le_refl _) (Nat.le_refl _) ?_
    refine ⟨?_, I, rfl, ?_, FrM.rf⟩
    · unfold textV
      rw [if_pos c_6]
    · unfold textS
      rw [if_pos c_6]
      exact hm0.mi (by have := hrt.2; omega)

theorem k_mtext {G : GG} {Sh : HS} {I : HI} {R : HR} {m : Nat} {σ : SG} (hm0 : MI m Sh I R σ) (hw0 : WI σ) {res : Bool × Nat × (Nat → List Int32)} (htx : txR (gTb σ) (gTs σ) res) : AM G 45 0 0 yX8_text cX8_text 3 (some .int) [.ref m] (Sh, I, R) (qi (updM m Sh I R (textV σ res) (textS σ res))) := k_mtext_g hm0.mj hw0 (Or.inl hm0.2.2.2.2.1.2) htx
