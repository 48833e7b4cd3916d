section
variable {G : GG} {K : XK} {y : MethodName} {cc : ByteArray} {L : Nat} {ret : Option FieldType} {cs sl pc : Nat} {lv : List (Nat × Value)} {st : List Value} {h : AH}
theorem x_lcmp {x z : Int64} (hd : decode cc pc = .ok (.lcmp, 1)) (k : X G K y cc L ret cs sl (pc + 1) lv (.int (lg_cmp x z) :: st) h) : X G K y cc L ret cs sl pc lv (.long z :: .long x :: st) h := fun p l e s m args below meth c locs H ls C R S V => W.lcmp C.1 C.2.1 hd (k p l e s m args below meth c locs H ls C R S V)
end
/-- only the image has changed -/
theorem MI.img {m : Nat} {Sh : HS} {I J : HI} {R : HR} {σ : SG} {x : Option (Nat × SV × Nat)} (h : MI m Sh I R σ) (e : ∀ a k, ¬ prM m a k → ¬ a = m + 14 → ¬ (a = m ∧ (k = 29 ∨ k = 30)) → J a k = I a k) (hx : MIm m J (withIm σ x)) : MI m Sh J R (withIm σ x) := by
  obtain ⟨a1, a2, a3, a4, a5, a6, a7, aA, aB, aC⟩ := h
  have q : ∀ a k, ¬ (a = m + 10 ∨ a = m + 11 ∨ a = m + 12 ∨ a = m + 13 ∨ (a = m ∧ ((16 ≤ k ∧ k ≤ 21) ∨ k = 24 ∨ k = 25 ∨ k = 27))) → ¬ a = m + 14 → ¬ (a = m ∧ (k = 29 ∨ k = 30)) → J a k = I a k := e
  exact ⟨a1, a2, ⟨(q _ _ (by omega) (by omega) (by omega)).trans a3.1, a3.2⟩, ⟨fun i hi k hk => (q _ _ (by omega) (by omega) (by omega)).trans (a4.1 i hi k hk), (q _ _ (by omega) (by omega) (by omega)).trans a4.2.1, (q _ _ (by omega) (by omega) (by omega)).trans a4.2.2⟩, ⟨(q _ _ (by omega) (by omega) (by omega)).trans a5.1, a5.2⟩, ⟨(q _ _ (by omega) (by omega) (by omega)).trans a6.1, a6.2⟩, a7.eq (q _ _ (by omega) (by omega) (by omega)) (fun a k z1 z2 => q a k (by omega) (by omega) (by omega)), aA.eq (q _ _ (by omega) (by omega) (by omega)) (fun k => q _ _ (by omega) (by omega) (by omega)), hx, aC.eq (fun a k z1 z2 => q a k (by omega) (by omega) (by omega))⟩
/-- only a sheet has changed -/
theorem MI.sheet {m s9 : Nat} {Sh : HS} {I J : HI} {R : HR} {σ : SG} {so : Int32} {sz : Nat} {ro : Nat → Int32} (h : MI m Sh I R σ) (hs4 : s9 < 4) (e : ∀ a k, ¬ prM m a k → ¬ ((a = m + 15 ∨ a = m + 16) ∧ k = s9) → ¬ (a = m + 17 ∧ 40 * s9 ≤ k ∧ k < 40 * s9 + 40) → J a k = I a k) (k1 : J (m + 15) s9 = so) (k2 : J (m + 16) s9 = nI sz) (k3 : sz ≤ 40) (k4 : ∀ j, j < 40 → J (m + 17) (40 * s9 + j) = ro j) : MI m Sh J R (withSh σ s9 (so, sz, ro)) := by
  obtain ⟨a1, a2, a3, a4, a5, a6, a7, aA, aB, aC⟩ := h
  have q : ∀ a k, ¬ (a = m + 10 ∨ a = m + 11 ∨ a = m + 12 ∨ a = m + 13 ∨ (a = m ∧ ((16 ≤ k ∧ k ≤ 21) ∨ k = 24 ∨ k = 25 ∨ k = 27))) → ¬ ((a = m + 15 ∨ a = m + 16) ∧ k = s9) → ¬ (a = m + 17 ∧ 40 * s9 ≤ k ∧ k < 40 * s9 + 40) → J a k = I a k := e
  refine ⟨a1, a2, ⟨(q _ _ (by omega) (by omega) (by omega)).trans a3.1, a3.2⟩, ⟨fun i hi k hk => (q _ _ (by omega) (by omega) (by omega)).trans (a4.1 i hi k hk), (q _ _ (by omega) (by omega) (by omega)).trans a4.2.1, (q _ _ (by omega) (by omega) (by omega)).trans a4.2.2⟩, ⟨(q _ _ (by omega) (by omega) (by omega)).trans a5.1, a5.2⟩, ⟨(q _ _ (by omega) (by omega) (by omega)).trans a6.1, a6.2⟩, a7.eq (q _ _ (by omega) (by omega) (by omega)) (fun a k z1 z2 => q a k (by omega) (by omega) (by omega)), aA.eq (q _ _ (by omega) (by omega) (by omega)) (fun k => q _ _ (by omega) (by omega) (by omega)), aB.eq (q _ _ (by omega) (by omega) (by omega)) (q _ _ (by omega) (by omega) (by omega)) (fun k => q _ _ (by omega) (by omega) (by omega)), fun t ht => ?_⟩
  obtain ⟨b1, b2, b3, b4⟩ := aC t ht
  by_cases hts : t = s9
  · subst hts
    unfold gSo gSz gRo withSh
    simp only [if_true]
    exact ⟨k1, k2, k3, k4⟩
  · unfold gSo gSz gRo withSh at *
    simp only [hts, if_false]
    exact ⟨(q _ _ (by omega) (by omega) (by omega)).trans b1, (q _ _ (by omega) (by omega) (by omega)).trans b2, b3, fun j hj => (q _ _ (by omega) (by omega) (by omega)).trans (b4 j hj)⟩

set_option maxHeartbeats 4000000 in
set_option maxRecDepth 100000 in
theorem k_image_l {G : GG} {Sh : HS} {I : HI} {R : HR} {m : Nat} {σ : SG} (hm0 : MI m Sh I R σ) (hw0 : WI σ) : ∀ (m9 : Nat) (i : Nat) (J : HI), (i ≤ 8) → (8 < i + m9) → ((∀ k, k < i → J (m + 14) k = I (m + 1 + 1) k ∧ J (m + 14) (8 + k) = I (m + 1 + 2) k ∧ J (m + 14) (16 + k) = I (m + 1 + 3) k ∧ J (m + 14) (24 + k) = I (m + 1 + 4) k)) → (∀ a k, ¬ a = m + 14 → ¬ (a = m ∧ (k = 29 ∨ k = 30)) → J a k = I a k) → (J m 29 = 1) → (J m 30 = nI (gN σ)) → X G (kM G 1 0 0 (qi (updM m Sh I R (nI (gN σ)) (withIm σ (some σ.1))))) yX8_image cX8_image 2 (some .int) 0 0 15 [(1, .int (nI i)), (0, .ref m)] [] (Sh, J, R) := by
  intro m9
  induction m9 with
  | zero =>
    intro i J hi hm hcp hex h29 h30
    exact absurd hm (by omega)
  | succ m9 ih =>
    intro i J hi hm hcp hex h29 h30
    obtain ⟨hsh, hrf, ⟨hn, hn8⟩, hs, ⟨hru, hrt⟩, ⟨htc, htc6⟩, hmt, hmp, him, hse⟩ := id hm0
    have hmw := hm0.mw
    have hnb := hw0.nb
    obtain ⟨z0, z1, z6, z7, z8, z9, z10, z11, z12, z13, z14, z15, z16, z17⟩ := id hsh
    obtain ⟨y1, y6, y7, y8, y9, y10, y11, y12, y13, y14, y15, y16, y17⟩ := id hrf
    refine x_iload_n dX8_image_15 0 rfl rfl ?_
    refine x_bipush (v := nI 8) dX8_image_16 (by decide) ?_
    refine x_icmp_ge (tgt := 84) dX8_image_18 (by decide) (fun c_18 => ?_) (fun c_18 => ?_)
    · have c_18 : 8 ≤ i := (nI_leI (a := 8) (b := i) (by omega) (by omega)).mp c_18
      refine x_aload_n dX8_image_84 1 rfl rfl ?_
      refine x_gR (b := m + 14) dX8_image_85 fl_8_49 rfl z0 y14 ?_
      refine x_bipush (v := nI 32) dX8_image_88 (by decide) ?_
      refine x_aload_n dX8_image_90 1 rfl rfl ?_
      refine x_gI (v := (gW σ).2.1) dX8_image_91 fl_8_86 rfl z0 (by rw [ hex _ _ (by omega) (by omega)]; exact hs.2.1) ?_
      refine x_is (j := 32) dX8_image_94 z14 rfl (by omega) (by omega) (fun Iq1 e_Iq1 => ?_)
      refine x_aload_n dX8_image_95 1 rfl rfl ?_
      refine x_gR (b := m + 14) dX8_image_96 fl_8_49 rfl z0 y14 ?_
      refine x_bipush (v := nI 33) dX8_image_99 (by decide) ?_
      refine x_aload_n dX8_image_101 1 rfl rfl ?_
      refine x_gI (v := (gW σ).2.2) dX8_image_102 fl_8_89 rfl z0 (by rw [e_Iq1, u2_ne (by omega), hex _ _ (by omega) (by omega)]; exact hs.2.2) ?_
      refine x_is (j := 33) dX8_image_105 z14 rfl (by omega) (by omega) (fun Iq2 e_Iq2 => ?_)
      refine x_aload_n dX8_image_106 1 rfl rfl ?_
      refine x_gR (b := m + 14) dX8_image_107 fl_8_49 rfl z0 y14 ?_
      refine x_bipush (v := nI 34) dX8_image_110 (by decide) ?_
      refine x_aload_n dX8_image_112 1 rfl rfl ?_
      refine x_gI (v := nI (gRu σ)) dX8_image_113 fl_8_218 rfl z0 (by rw [e_Iq2, u2_ne (by omega), e_Iq1, u2_ne (by omega), hex _ _ (by omega) (by omega)]; exact hru) ?_
      refine x_is (j := 34) dX8_image_116 z14 rfl (by omega) (by omega) (fun Iq3 e_Iq3 => ?_)
      refine x_aload_n dX8_image_117 1 rfl rfl ?_
      refine x_gI (v := nI (gN σ)) dX8_image_118 fl_8_79 rfl z0 (by rw [e_Iq3, u2_ne (by omega), e_Iq2, u2_ne (by omega), e_Iq1, u2_ne (by omega), hex _ _ (by omega) (by omega)]; exact hn) ?_
      refine x_iret dX8_image_121 rfl (Nat.le_refl _) (Nat.le_refl _) ?_
      have hi8 : i = 8 := by omega
      subst hi8
      have nn := hn8
      refine ⟨rfl, _, rfl, ?_, fun a k q => ?_⟩
      · refine hm0.img (fun a k q1 q2 q3 => ?_) ?_
        · rw [e_Iq3, u2_ne (by omega), e_Iq2, u2_ne (by omega), e_Iq1, u2_ne (by omega)]
          exact hex a k q2 q3
        · refine ⟨?_, ?_, hn8, fun i hi => ?_, ?_, ?_, ?_, hrt⟩
          · rw [e_Iq3, u2_ne (by omega), e_Iq2, u2_ne (by omega), e_Iq1, u2_ne (by omega)]
            exact h29
          · rw [e_Iq3, u2_ne (by omega), e_Iq2, u2_ne (by omega), e_Iq1, u2_ne (by omega)]
            exact h30
          · have hi : i < gN σ := hi
            obtain ⟨q1, q2, q3, q4⟩ := hcp i (by omega)
            have e9 : ∀ k, k < 32 → Iq3 (m + 14) k = J (m + 14) k := fun k hk => by rw [e_Iq3, u2_ne (by omega), e_Iq2, u2_ne (by omega), e_Iq1, u2_ne (by omega)]
            exact ⟨(e9 _ (by omega)).trans (q1.trans (hs.1 i hi 1 (by omega))), (e9 _ (by omega)).trans (q2.trans (hs.1 i hi 2 (by omega))), (e9 _ (by omega)).trans (q3.trans (hs.1 i hi 3 (by omega))), (e9 _ (by omega)).trans (q4.trans (hs.1 i hi 4 (by omega)))⟩
          · rw [e_Iq3, u2_ne (by omega), e_Iq2, u2_ne (by omega), e_Iq1, u2_same]
            rfl
          · rw [e_Iq3, u2_ne (by omega), e_Iq2, u2_same]
            rfl
          · rw [e_Iq3, u2_same]
            rfl
      · rw [e_Iq3, u2_ne (by omega), e_Iq2, u2_ne (by omega), e_Iq1, u2_ne (by omega)]
        exact hex a k (by omega) (by omega)
    · have c_18 : ¬ 8 ≤ i := fun zz9 => c_18 ((nI_leI (a := 8) (b := i) (by omega) (by omega)).mpr zz9)
      refine x_aload_n dX8_image_21 1 rfl rfl ?_
      refine x_gR (b := m + 14) dX8_image_22 fl_8_49 rfl z0 y14 ?_
      refine x_iload_n dX8_image_25 0 rfl rfl ?_
      refine x_aload_n dX8_image_26 1 rfl rfl ?_
      refine x_gR (b := m + 1 + 1) dX8_image_27 fl_8_13 rfl z0 (y1 1 (by omega)) ?_
      refine x_iload_n dX8_image_30 0 rfl rfl ?_
      refine x_ia (j := i) (v := I (m + 1 + 1) i) dX8_image_31 (z1 1 (by omega)) rfl (by omega) (by omega) (hex _ _ (by omega) (by omega)) ?_
      refine x_is (j := i) dX8_image_32 z14 rfl (by omega) (by omega) (fun Iq4 e_Iq4 => ?_)
      refine x_aload_n dX8_image_33 1 rfl rfl ?_
      refine x_gR (b := m + 14) dX8_image_34 fl_8_49 rfl z0 y14 ?_
      refine x_bipush (v := nI 8) dX8_image_37 (by decide) ?_
      refine x_iload_n dX8_image_39 0 rfl rfl ?_
      refine x_iadd dX8_image_40 ?_
      refine x_vali (nI_add 8 i) ?_
      refine x_aload_n dX8_image_41 1 rfl rfl ?_
      refine x_gR (b := m + 1 + 2) dX8_image_42 fl_8_16 rfl z0 (y1 2 (by omega)) ?_
      refine x_iload_n dX8_image_45 0 rfl rfl ?_
      refine x_ia (j := i) (v := I (m + 1 + 2) i) dX8_image_46 (z1 2 (by omega)) rfl (by omega) (by omega) (by rw [e_Iq4, u2_ne (by omega)]; exact hex _ _ (by omega) (by omega)) ?_
      refine x_is (j := (8 + i)) dX8_image_47 z14 rfl (by omega) (by omega) (fun Iq5 e_Iq5 => ?_)
      refine x_aload_n dX8_image_48 1 rfl rfl ?_
      refine x_gR (b := m + 14) dX8_image_49 fl_8_49 rfl z0 y14 ?_
      refine x_bipush (v := nI 16) dX8_image_52 (by decide) ?_
      refine x_iload_n dX8_image_54 0 rfl rfl ?_
      refine x_iadd dX8_image_55 ?_
      refine x_vali (nI_add 16 i) ?_
      refine x_aload_n dX8_image_56 1 rfl rfl ?_
      refine x_gR (b := m + 1 + 3) dX8_image_57 fl_8_19 rfl z0 (y1 3 (by omega)) ?_
      refine x_iload_n dX8_image_60 0 rfl rfl ?_
      refine x_ia (j := i) (v := I (m + 1 + 3) i) dX8_image_61 (z1 3 (by omega)) rfl (by omega) (by omega) (by rw [e_Iq5, u2_ne (by omega), e_Iq4, u2_ne (by omega)]; exact hex _ _ (by omega) (by omega)) ?_
      refine x_is (j := (16 + i)) dX8_image_62 z14 rfl (by omega) (by omega) (fun Iq6 e_Iq6 => ?_)
      refine x_aload_n dX8_image_63 1 rfl rfl ?_
      refine x_gR (b := m + 14) dX8_image_64 fl_8_49 rfl z0 y14 ?_
      refine x_bipush (v := nI 24) dX8_image_67 (by decide) ?_
      refine x_iload_n dX8_image_69 0 rfl rfl ?_
      refine x_iadd dX8_image_70 ?_
      refine x_vali (nI_add 24 i) ?_
      refine x_aload_n dX8_image_71 1 rfl rfl ?_
      refine x_gR (b := m + 1 + 4) dX8_image_72 fl_8_22 rfl z0 (y1 4 (by omega)) ?_
      refine x_iload_n dX8_image_75 0 rfl rfl ?_
      refine x_ia (j := i) (v := I (m + 1 + 4) i) dX8_image_76 (z1 4 (by omega)) rfl (by omega) (by omega) (by rw [e_Iq6, u2_ne (by omega), e_Iq5, u2_ne (by omega), e_Iq4, u2_ne (by omega)]; exact hex _ _ (by omega) (by omega)) ?_
      refine x_is (j := (24 + i)) dX8_image_77 z14 rfl (by omega) (by omega) (fun Iq7 e_Iq7 => ?_)
      refine x_iinc (v := nI (i + 1)) (lv' := [(1, .int (nI (i + 1))), (0, .ref m)]) dX8_image_78 0 rfl (nI_1 i) (by decide) rfl ?_
      refine x_goto (tgt := 15) dX8_image_81 (by decide) ?_
      refine x_sub [0, 1] rfl ?_
      exact ih (i + 1) Iq7 (by omega) (by omega) (fun k hk => by
        rw [e_Iq7, e_Iq6, e_Iq5, e_Iq4]
        by_cases z : k = i
        · subst z
          refine ⟨?_, ?_, ?_, ?_⟩
          · rw [u2_ne (by omega), u2_ne (by omega), u2_ne (by omega), u2_same]
          · rw [u2_ne (by omega), u2_ne (by omega), u2_same]
          · rw [u2_ne (by omega), u2_same]
          · rw [u2_same]
        · obtain ⟨q1, q2, q3, q4⟩ := hcp k (by omega)
          refine ⟨?_, ?_, ?_, ?_⟩
          · rw [u2_ne (by omega), u2_ne (by omega), u2_ne (by omega), u2_ne (by omega)]
            exact q1
          · rw [u2_ne (by omega), u2_ne (by omega), u2_ne (by omega), u2_ne (by omega)]
            exact q2
          · rw [u2_ne (by omega), u2_ne (by omega), u2_ne (by omega), u2_ne (by omega)]
            exact q3
          · rw [u2_ne (by omega), u2_ne (by omega), u2_ne (by omega), u2_ne (by omega)]
            exact q4) (fun a k q1 q2 => by
        rw [e_Iq7, u2_ne (by omega), e_Iq6, u2_ne (by omega), e_Iq5, u2_ne (by omega), e_Iq4, u2_ne (by omega)]
        exact hex a k q1 q2) (by
        rw [e_Iq7, u2_ne (by omega), e_Iq6, u2_ne (by omega), e_Iq5, u2_ne (by omega), e_Iq4, u2_ne (by omega)]
        exact h29) (by
        rw [e_Iq7, u2_ne (by omega), e_Iq6, u2_ne (by omega), e_Iq5, u2_ne (by omega), e_Iq4, u2_ne (by omega)]
        exact h30)

set_option maxHeartbeats 4000000 in
set_option maxRecDepth 100000 in
theorem k_mimage {G : GG} {Sh : HS} {I : HI} {R : HR} {m : Nat} {σ : SG} (hm0 : MI m Sh I R σ) (hw0 : WI σ) : AM G 1 0 0 yX8_image cX8_image 2 (some .int) [.ref m] (Sh, I, R) (qi (updM m Sh I R (nI (gN σ)) (withIm σ (some σ.1)))) := by
  obtain ⟨hsh, hrf, ⟨hn, hn8⟩, hs, ⟨hru, hrt⟩, ⟨htc, htc6⟩, hmt, hmp, him, hse⟩ := id hm0
  have hmw := hm0.mw
  have hnb := hw0.nb
  obtain ⟨z0, z1, z6, z7, z8, z9, z10, z11, z12, z13, z14, z15, z16, z17⟩ := id hsh
  obtain ⟨y1, y6, y7, y8, y9, y10, y11, y12, y13, y14, y15, y16, y17⟩ := id hrf
  refine am_intro (by decide) (Nat.le_of_ble_eq_true rfl) ?_
  refine x_aload_n dX8_image_0 0 rfl rfl ?_
  refine x_iconst (v := 1) dX8_image_1 (by decide) ?_
  refine x_pZ dX8_image_2 fl_8_312 rfl rfl rfl z0 (fun Iq1 e_Iq1 => ?_)
  refine x_aload_n dX8_image_5 0 rfl rfl ?_
  refine x_aload_n dX8_image_6 0 rfl rfl ?_
  refine x_gI (v := nI (gN σ)) dX8_image_7 fl_8_79 rfl z0 (by rw [e_Iq1, u2_ne (by omega)]; exact hn) ?_
  refine x_pI dX8_image_10 fl_8_316 rfl rfl rfl z0 (fun Iq2 e_Iq2 => ?_)
  refine x_iconst (v := nI 0) dX8_image_13 (by decide) ?_
  refine x_istore_n (lv' := [(1, .int (nI 0)), (0, .ref m)]) dX8_image_14 rfl (by decide) rfl ?_
  refine x_sub [0, 1] rfl ?_
  exact k_image_l hm0 hw0 9 0 Iq2 (by omega) (by omega) (fun k hk => absurd hk (by omega)) (fun a k q1 q2 => by rw [e_Iq2, u2_ne (by omega), e_Iq1, u2_ne (by omega)]) (by rw [e_Iq2, u2_ne (by omega), e_Iq1, u2_same]) (by rw [e_Iq2, u2_same])

theorem back_no {σ : SG} (h : gIm σ = none) : backV σ = -3 ∧ backS σ = σ := by
  unfold backV backS
  rw [h]
  exact ⟨rfl, rfl⟩
theorem back_ok {σ : SG} {x : Nat × SV × Nat} (h : gIm σ = some x) : backV σ = nI x.1 ∧ backS σ = withX σ x := by
  unfold backV backS
  rw [h]
  exact ⟨rfl, rfl⟩

set_option maxHeartbeats 4000000 in
set_option maxRecDepth 100000 in
theorem k_back_l {G : GG} {Sh : HS} {I : HI} {R : HR} {m : Nat} {σ : SG} (hm0 : MI m Sh I R σ) (hw0 : WI σ) {x : Nat × SV × Nat} (hx : gIm σ = some x) : ∀ (m9 : Nat) (i : Nat) (J : HI), (i ≤ 8) → (8 < i + m9) → ((∀ k, k < i → J (m + 1 + 1) k = I (m + 14) k ∧ J (m + 1 + 2) k = I (m + 14) (8 + k) ∧ J (m + 1 + 3) k = I (m + 14) (16 + k) ∧ J (m + 1 + 4) k = I (m + 14) (24 + k))) → (∀ a k, ¬ (m + 1 + 1 ≤ a ∧ a ≤ m + 1 + 4) → ¬ (a = m ∧ k = 2) → J a k = I a k) → (J m 2 = nI x.1) → X G (kM G 1 0 0 (qi (updM m Sh I R (backV σ) (backS σ)))) yX8_back cX8_back 2 (some .int) 0 0 20 [(1, .int (nI i)), (0, .ref m)] [] (Sh, J, R) := by
  intro m9
  induction m9 with
  | zero =>
    intro i J hi hm hcp hex hJ2
    exact absurd hm (by omega)
  | succ m9 ih =>
    intro i J hi hm hcp hex hJ2
    obtain ⟨hsh, hrf, ⟨hn, hn8⟩, hs, ⟨hru, hrt⟩, ⟨htc, htc6⟩, hmt, hmp, him, hse⟩ := id hm0
    have hmw := hm0.mw
    have hnb := hw0.nb
    obtain ⟨z0, z1, z6, z7, z8, z9, z10, z11, z12, z13, z14, z15, z16, z17⟩ := id hsh
    obtain ⟨y1, y6, y7, y8, y9, y10, y11, y12, y13, y14, y15, y16, y17⟩ := id hrf
    refine x_iload_n dX8_back_20 0 rfl rfl ?_
    refine x_bipush (v := nI 8) dX8_back_21 (by decide) ?_
    refine x_icmp_ge (tgt := 89) dX8_back_23 (by decide) (fun c_23 => ?_) (fun c_23 => ?_)
    · have c_23 : 8 ≤ i := (nI_leI (a := 8) (b := i) (by omega) (by omega)).mp c_23
      refine x_aload_n dX8_back_89 1 rfl rfl ?_
      refine x_aload_n dX8_back_90 1 rfl rfl ?_
      refine x_gR (b := m + 14) dX8_back_91 fl_8_49 rfl z0 y14 ?_
      refine x_bipush (v := nI 32) dX8_back_94 (by decide) ?_
      refine x_ia (j := 32) (v := I (m + 14) 32) dX8_back_96 z14 rfl (by omega) (by omega) (hex _ _ (by omega) (by omega)) ?_
      refine x_pI dX8_back_97 fl_8_86 rfl rfl rfl z0 (fun Iq1 e_Iq1 => ?_)
      refine x_aload_n dX8_back_100 1 rfl rfl ?_
      refine x_aload_n dX8_back_101 1 rfl rfl ?_
      refine x_gR (b := m + 14) dX8_back_102 fl_8_49 rfl z0 y14 ?_
      refine x_bipush (v := nI 33) dX8_back_105 (by decide) ?_
      refine x_ia (j := 33) (v := I (m + 14) 33) dX8_back_107 z14 rfl (by omega) (by omega) (by rw [e_Iq1, u2_ne (by omega)]; exact hex _ _ (by omega) (by omega)) ?_
      refine x_pI dX8_back_108 fl_8_89 rfl rfl rfl z0 (fun Iq2 e_Iq2 => ?_)
      refine x_aload_n dX8_back_111 1 rfl rfl ?_
      refine x_aload_n dX8_back_112 1 rfl rfl ?_
      refine x_gR (b := m + 14) dX8_back_113 fl_8_49 rfl z0 y14 ?_
      refine x_bipush (v := nI 34) dX8_back_116 (by decide) ?_
      refine x_ia (j := 34) (v := I (m + 14) 34) dX8_back_118 z14 rfl (by omega) (by omega) (by rw [e_Iq2, u2_ne (by omega), e_Iq1, u2_ne (by omega)]; exact hex _ _ (by omega) (by omega)) ?_
      refine x_pI dX8_back_119 fl_8_218 rfl rfl rfl z0 (fun Iq3 e_Iq3 => ?_)
      refine x_aload_n dX8_back_122 1 rfl rfl ?_
      refine x_gI (v := nI x.1) dX8_back_123 fl_8_79 rfl z0 (by rw [e_Iq3, u2_ne (by omega), e_Iq2, u2_ne (by omega), e_Iq1, u2_ne (by omega)]; exact hJ2) ?_
      refine x_iret dX8_back_126 rfl (Nat.le_refl _) (Nat.le_refl _) ?_
      have hi8 : i = 8 := by omega
      subst hi8
      unfold MIm at him
      rw [hx] at him
      obtain ⟨b1, b2, b3, b4, b5, b6, b7, b8⟩ := him
      obtain ⟨y1, y2⟩ := back_ok hx
      obtain ⟨i1, i2, i3⟩ := hw0.2.2.1 x hx
      have h2J : J m 2 = nI x.1 := hJ2
      refine ⟨?_, _, rfl, ?_, fun a k q => ?_⟩
      · rw [y1]
      · rw [y2]
        refine hm0.strand (x := x) (fun a k q1 q2 q3 => ?_) ?_ b3 ⟨fun i hi k hk => ?_, ?_, ?_⟩ ?_ b8
        · rw [e_Iq3, u2_ne (by omega), e_Iq2, u2_ne (by omega), e_Iq1, u2_ne (by omega)]
          exact hex a k (by omega) (by omega)
        · rw [e_Iq3, u2_ne (by omega), e_Iq2, u2_ne (by omega), e_Iq1, u2_ne (by omega)]
          exact h2J
        · obtain ⟨q1, q2, q3, q4⟩ := hcp i (by omega)
          obtain ⟨r1, r2, r3, r4⟩ := b4 i hi
          rw [e_Iq3, u2_ne (by omega), e_Iq2, u2_ne (by omega), e_Iq1, u2_ne (by omega)]
          have hc : k = 0 ∨ k = 1 ∨ k = 2 ∨ k = 3 ∨ k = 4 := by omega
          rcases hc with rfl | rfl | rfl | rfl | rfl
          · rw [hex _ _ (by omega) (by omega), hs.1 i (by omega) 0 (by omega), i3 i hi]
          · exact q1.trans r1
          · exact q2.trans r2
          · exact q3.trans r3
          · exact q4.trans r4
        · rw [e_Iq3, u2_ne (by omega), e_Iq2, u2_ne (by omega), e_Iq1, u2_same]
          exact b5
        · rw [e_Iq3, u2_ne (by omega), e_Iq2, u2_same]
          exact b6
        · rw [e_Iq3, u2_same]
          exact b7
      · rw [e_Iq3, u2_ne (by omega), e_Iq2, u2_ne (by omega), e_Iq1, u2_ne (by omega)]
        exact hex a k (by omega) (by omega)
    · have c_23 : ¬ 8 ≤ i := fun zz9 => c_23 ((nI_leI (a := 8) (b := i) (by omega) (by omega)).mpr zz9)
      refine x_aload_n dX8_back_26 1 rfl rfl ?_
      refine x_gR (b := m + 1 + 1) dX8_back_27 fl_8_13 rfl z0 (y1 1 (by omega)) ?_
      refine x_iload_n dX8_back_30 0 rfl rfl ?_
      refine x_aload_n dX8_back_31 1 rfl rfl ?_
      refine x_gR (b := m + 14) dX8_back_32 fl_8_49 rfl z0 y14 ?_
      refine x_iload_n dX8_back_35 0 rfl rfl ?_
      refine x_ia (j := i) (v := I (m + 14) i) dX8_back_36 z14 rfl (by omega) (by omega) (hex _ _ (by omega) (by omega)) ?_
      refine x_is (j := i) dX8_back_37 (z1 1 (by omega)) rfl (by omega) (by omega) (fun Iq4 e_Iq4 => ?_)
      refine x_aload_n dX8_back_38 1 rfl rfl ?_
      refine x_gR (b := m + 1 + 2) dX8_back_39 fl_8_16 rfl z0 (y1 2 (by omega)) ?_
      refine x_iload_n dX8_back_42 0 rfl rfl ?_
      refine x_aload_n dX8_back_43 1 rfl rfl ?_
      refine x_gR (b := m + 14) dX8_back_44 fl_8_49 rfl z0 y14 ?_
      refine x_bipush (v := nI 8) dX8_back_47 (by decide) ?_
      refine x_iload_n dX8_back_49 0 rfl rfl ?_
      refine x_iadd dX8_back_50 ?_
      refine x_vali (nI_add 8 i) ?_
      refine x_ia (j := (8 + i)) (v := I (m + 14) (8 + i)) dX8_back_51 z14 rfl (by omega) (by omega) (by rw [e_Iq4, u2_ne (by omega)]; exact hex _ _ (by omega) (by omega)) ?_
      refine x_is (j := i) dX8_back_52 (z1 2 (by omega)) rfl (by omega) (by omega) (fun Iq5 e_Iq5 => ?_)
      refine x_aload_n dX8_back_53 1 rfl rfl ?_
      refine x_gR (b := m + 1 + 3) dX8_back_54 fl_8_19 rfl z0 (y1 3 (by omega)) ?_
      refine x_iload_n dX8_back_57 0 rfl rfl ?_
      refine x_aload_n dX8_back_58 1 rfl rfl ?_
      refine x_gR (b := m + 14) dX8_back_59 fl_8_49 rfl z0 y14 ?_
      refine x_bipush (v := nI 16) dX8_back_62 (by decide) ?_
      refine x_iload_n dX8_back_64 0 rfl rfl ?_
      refine x_iadd dX8_back_65 ?_
      refine x_vali (nI_add 16 i) ?_
      refine x_ia (j := (16 + i)) (v := I (m + 14) (16 + i)) dX8_back_66 z14 rfl (by omega) (by omega) (by rw [e_Iq5, u2_ne (by omega), e_Iq4, u2_ne (by omega)]; exact hex _ _ (by omega) (by omega)) ?_
      refine x_is (j := i) dX8_back_67 (z1 3 (by omega)) rfl (by omega) (by omega) (fun Iq6 e_Iq6 => ?_)
      refine x_aload_n dX8_back_68 1 rfl rfl ?_
      refine x_gR (b := m + 1 + 4) dX8_back_69 fl_8_22 rfl z0 (y1 4 (by omega)) ?_
      refine x_iload_n dX8_back_72 0 rfl rfl ?_
      refine x_aload_n dX8_back_73 1 rfl rfl ?_
      refine x_gR (b := m + 14) dX8_back_74 fl_8_49 rfl z0 y14 ?_
      refine x_bipush (v := nI 24) dX8_back_77 (by decide) ?_
      refine x_iload_n dX8_back_79 0 rfl rfl ?_
      refine x_iadd dX8_back_80 ?_
      refine x_vali (nI_add 24 i) ?_
      refine x_ia (j := (24 + i)) (v := I (m + 14) (24 + i)) dX8_back_81 z14 rfl (by omega) (by omega) (by rw [e_Iq6, u2_ne (by omega), e_Iq5, u2_ne (by omega), e_Iq4, u2_ne (by omega)]; exact hex _ _ (by omega) (by omega)) ?_
      refine x_is (j := i) dX8_back_82 (z1 4 (by omega)) rfl (by omega) (by omega) (fun Iq7 e_Iq7 => ?_)
      refine x_iinc (v := nI (i + 1)) (lv' := [(1, .int (nI (i + 1))), (0, .ref m)]) dX8_back_83 0 rfl (nI_1 i) (by decide) rfl ?_
      refine x_goto (tgt := 20) dX8_back_86 (by decide) ?_
      refine x_sub [0, 1] rfl ?_
      exact ih (i + 1) Iq7 (by omega) (by omega) (fun k hk => by
        rw [e_Iq7, e_Iq6, e_Iq5, e_Iq4]
        by_cases z : k = i
        · subst z
          refine ⟨?_, ?_, ?_, ?_⟩
          · rw [u2_ne (by omega), u2_ne (by omega), u2_ne (by omega), u2_same]
          · rw [u2_ne (by omega), u2_ne (by omega), u2_same]
          · rw [u2_ne (by omega), u2_same]
          · rw [u2_same]
        · obtain ⟨q1, q2, q3, q4⟩ := hcp k (by omega)
          refine ⟨?_, ?_, ?_, ?_⟩
          · rw [u2_ne (by omega), u2_ne (by omega), u2_ne (by omega), u2_ne (by omega)]
            exact q1
          · rw [u2_ne (by omega), u2_ne (by omega), u2_ne (by omega), u2_ne (by omega)]
            exact q2
          · rw [u2_ne (by omega), u2_ne (by omega), u2_ne (by omega), u2_ne (by omega)]
            exact q3
          · rw [u2_ne (by omega), u2_ne (by omega), u2_ne (by omega), u2_ne (by omega)]
            exact q4) (fun a k q1 q2 => by
        rw [e_Iq7, u2_ne (by omega), e_Iq6, u2_ne (by omega), e_Iq5, u2_ne (by omega), e_Iq4, u2_ne (by omega)]
        exact hex a k q1 q2) (by
        rw [e_Iq7, u2_ne (by omega), e_Iq6, u2_ne (by omega), e_Iq5, u2_ne (by omega), e_Iq4, u2_ne (by omega)]
        exact hJ2)

set_option maxHeartbeats 4000000 in
set_option maxRecDepth 100000 in
theorem k_mback {G : GG} {Sh : HS} {I : HI} {R : HR} {m : Nat} {σ : SG} (hm0 : MI m Sh I R σ) (hw0 : WI σ) : AM G 1 0 0 yX8_back cX8_back 2 (some .int) [.ref m] (Sh, I, R) (qi (updM m Sh I R (backV σ) (backS σ))) := by
  obtain ⟨hsh, hrf, ⟨hn, hn8⟩, hs, ⟨hru, hrt⟩, ⟨htc, htc6⟩, hmt, hmp, him, hse⟩ := id hm0
  have hmw := hm0.mw
  have hnb := hw0.nb
  obtain ⟨z0, z1, z6, z7, z8, z9, z10, z11, z12, z13, z14, z15, z16, z17⟩ := id hsh
  obtain ⟨y1, y6, y7, y8, y9, y10, y11, y12, y13, y14, y15, y16, y17⟩ := id hrf
  refine am_intro (by decide) (Nat.le_of_ble_eq_true rfl) ?_
  refine x_aload_n dX8_back_0 0 rfl rfl ?_
  refine x_gI (v := I m 29) dX8_back_1 fl_8_312 rfl z0 rfl ?_
  refine x_if_ne (tgt := 10) dX8_back_4 (by decide) (fun c_4 => ?_) (fun c_4 => ?_)
  · obtain ⟨x, hx⟩ : ∃ x, gIm σ = some x := by
      cases hi : gIm σ with
      | some x => exact ⟨x, rfl⟩
      | none =>
        exfalso
        unfold MIm at him
        rw [hi] at him
        exact c_4 him
    have him2 := him
    unfold MIm at him2
    rw [hx] at him2
    have hb30 := him2.2.1
    refine x_aload_n dX8_back_10 0 rfl rfl ?_
    refine x_aload_n dX8_back_11 0 rfl rfl ?_
    refine x_gI (v := nI x.1) dX8_back_12 fl_8_316 rfl z0 hb30 ?_
    refine x_pI dX8_back_15 fl_8_79 rfl rfl rfl z0 (fun Iq1 e_Iq1 => ?_)
    refine x_iconst (v := nI 0) dX8_back_18 (by decide) ?_
    refine x_istore_n (lv' := [(1, .int (nI 0)), (0, .ref m)]) dX8_back_19 rfl (by decide) rfl ?_
    refine x_sub [0, 1] rfl ?_
    exact k_back_l hm0 hw0 hx 9 0 Iq1 (by omega) (by omega) (fun k hk => absurd hk (by omega)) (fun a k q1 q2 => by rw [e_Iq1, u2_ne (by omega)]) (by rw [e_Iq1, u2_same])
  · refine x_bipush (v := (-3)) dX8_back_7 (by decide) ?_
    refine x_iret dX8_back_9 rfl (Nat.le_refl _) (Nat.le_refl _) ?_
    have hno : gIm σ = none := by
      cases hi : gIm σ with
      | none => rfl
      | some x =>
        exfalso
        unfold MIm at him
        rw [hi] at him
        rw [him.1] at c_4
        exact absurd c_4 (by decide)
    obtain ⟨y1, y2⟩ := back_no hno
    refine ⟨y1.symm, I, rfl, ?_, FrM.rf⟩
    rw [y2]
    exact hm0

set_option maxHeartbeats 4000000 in
set_option maxRecDepth 100000 in
theorem k_msheet_l {G : GG} {Sh : HS} {I : HI} {R : HR} {m s9 : Nat} (hsh : MSh Sh m) (hrf : MRf R m) (hs4 : s9 < 4) {so n : Int32} {Q : AH → Prop} (hQ : ∀ J9 : HI, (∀ j, j < 40 → J9 (m + 17) (40 * s9 + j) = 0) → (∀ a k, ¬ (a = m + 17 ∧ 40 * s9 ≤ k ∧ k < 40 * s9 + 40) → J9 a k = I a k) → Q (Sh, J9, R)) : ∀ (m9 : Nat) (i : Nat) (J : HI), (i ≤ 40) → (40 < i + m9) → (∀ j, j < i → J (m + 17) (40 * s9 + j) = 0) → (∀ a k, ¬ (a = m + 17 ∧ 40 * s9 ≤ k ∧ k < 40 * s9 + 40) → J a k = I a k) → X G (kM G 3 0 0 (qi fun r g => r = 1 ∧ Q g)) yX8_sheet cX8_sheet 5 (some .int) 0 0 68 [(4, .int (nI i)), (0, .ref m), (1, .int (nI s9)), (2, .int so), (3, .int n)] [] (Sh, J, R) := by
  intro m9
  induction m9 with
  | zero =>
    intro i J hi hm hz hex
    exact absurd hm (by omega)
  | succ m9 ih =>
    intro i J hi hm hz hex
    obtain ⟨z0, z1, z6, z7, z8, z9, z10, z11, z12, z13, z14, z15, z16, z17⟩ := id hsh
    obtain ⟨y1, y6, y7, y8, y9, y10, y11, y12, y13, y14, y15, y16, y17⟩ := id hrf
    refine x_iload dX8_sheet_68 0 rfl ?_
    refine x_bipush (v := nI 40) dX8_sheet_70 (by decide) ?_
    refine x_icmp_ge (tgt := 94) dX8_sheet_72 (by decide) (fun c_72 => ?_) (fun c_72 => ?_)
    · have c_72 : 40 ≤ i := (nI_leI (a := 40) (b := i) (by omega) (by omega)).mp c_72
      refine x_iconst (v := 1) dX8_sheet_94 (by decide) ?_
      refine x_iret dX8_sheet_95 rfl (Nat.le_refl _) (Nat.le_refl _) ?_
      have hi40 : i = 40 := by omega
      subst hi40
      exact ⟨rfl, hQ J hz hex⟩
    · have c_72 : ¬ 40 ≤ i := fun zz9 => c_72 ((nI_leI (a := 40) (b := i) (by omega) (by omega)).mpr zz9)
      refine x_aload_n dX8_sheet_75 1 rfl rfl ?_
      refine x_gR (b := m + 17) dX8_sheet_76 fl_8_58 rfl z0 y17 ?_
      refine x_bipush (v := nI 40) dX8_sheet_79 (by decide) ?_
      refine x_iload_n dX8_sheet_81 2 rfl rfl ?_
      refine x_imul dX8_sheet_82 ?_
      refine x_vali (pk_mul 40 s9) ?_
      refine x_iload dX8_sheet_83 0 rfl ?_
      refine x_iadd dX8_sheet_85 ?_
      refine x_vali (nI_add (40 * s9) i) ?_
      refine x_iconst (v := 0) dX8_sheet_86 (by decide) ?_
      refine x_is (j := 40 * s9 + i) dX8_sheet_87 z17 rfl (by omega) (by omega) (fun Iq1 e_Iq1 => ?_)
      refine x_iinc (v := nI (i + 1)) (lv' := [(4, .int (nI (i + 1))), (0, .ref m), (1, .int (nI s9)), (2, .int so), (3, .int n)]) dX8_sheet_88 0 rfl (nI_1 i) (by decide) rfl ?_
      refine x_goto (tgt := 68) dX8_sheet_91 (by decide) ?_
      refine x_sub [0, 1, 2, 3, 4] rfl ?_
      exact ih (i + 1) Iq1 (by omega) (by omega) (fun j hj => by
        rw [e_Iq1]
        by_cases z : j = i
        · rw [z, u2_same]
        · rw [u2_ne (by omega)]
          exact hz j (by omega)) (fun a k q => by
        rw [e_Iq1, u2_ne (by omega)]
        exact hex a k q)

theorem so_iff {so : Int32} : (-1 ≤ so ∧ so ≤ 2) ↔ ¬ (so < -1 ∨ 3 ≤ so) := by
  have e1 : (-1 : Int32).toInt = -1 := by decide
  have e2 : (2 : Int32).toInt = 2 := by decide
  have e3 : (3 : Int32).toInt = 3 := by decide
  simp only [Int32.lt_iff_toInt_lt, Int32.le_iff_toInt_le]
  omega
theorem so_m1 {so : Int32} (h : -1 ≤ so ∧ so ≤ 2) : so < 0 ↔ so = -1 := by
  have e1 : (-1 : Int32).toInt = -1 := by decide
  have e0 : (0 : Int32).toInt = 0 := by decide
  constructor
  · intro h2
    apply Int32.toInt_inj.mp
    have h1 := h.1
    simp only [Int32.lt_iff_toInt_lt, Int32.le_iff_toInt_le] at *
    omega
  · rintro rfl
    decide

set_option maxHeartbeats 4000000 in
set_option maxRecDepth 100000 in
theorem k_msheet {G : GG} {Sh : HS} {I : HI} {R : HR} {m : Nat} {σ : SG} (hm0 : MI m Sh I R σ) (hw0 : WI σ) {s so n : Int32} : AM G 3 0 0 yX8_sheet cX8_sheet 5 (some .int) [.ref m, .int s, .int so, .int n] (Sh, I, R) (qi (updM m Sh I R (sheetV s so n) (sheetS σ s so n))) := by
  obtain ⟨hsh, hrf, ⟨hn, hn8⟩, hs, ⟨hru, hrt⟩, ⟨htc, htc6⟩, hmt, hmp, him, hse⟩ := id hm0
  have hmw := hm0.mw
  have hnb := hw0.nb
  obtain ⟨z0, z1, z6, z7, z8, z9, z10, z11, z12, z13, z14, z15, z16, z17⟩ := id hsh
  obtain ⟨y1, y6, y7, y8, y9, y10, y11, y12, y13, y14, y15, y16, y17⟩ := id hrf
  refine am_intro (by decide) (Nat.le_of_ble_eq_true rfl) ?_
  refine x_iload_n dX8_sheet_0 1 rfl rfl ?_
  refine x_callS (rest := []) (k_misSheet (G := G) (Sh := Sh) (I := I) (R := R) (s := s)) dX8_sheet_1 crc_X8_isSheet sc_8_277 rfl rfl (Nat.le_of_ble_eq_true rfl) (roomy_k (by omega) (by decide)) (Nat.le_refl _) (Nat.le_refl _) ?_
  rintro _ _ ⟨rs, rfl, hrs, rfl⟩
  subst hrs
  refine x_if_eqB (tgt := 16) dX8_sheet_4 (by decide) (fun c_4 => ?_) (fun c_4 => ?_)
  · refine x_bipush (v := (-2)) dX8_sheet_16 (by decide) ?_
    refine x_iret dX8_sheet_18 rfl (Nat.le_refl _) (Nat.le_refl _) ?_
    have hv : sheetV s so n = -2 ∧ sheetS σ s so n = σ := by
      unfold sheetV sheetS
      rw [Option.not_isSome_iff_eq_none.mp c_4]
      exact ⟨rfl, rfl⟩
    refine ⟨hv.1.symm, I, rfl, ?_, FrM.rf⟩
    rw [hv.2]
    exact hm0
  · refine x_iload_n dX8_sheet_7 2 rfl rfl ?_
    refine x_iconst (v := (-1)) dX8_sheet_8 (by decide) ?_
    refine x_iconst (v := 2) dX8_sheet_9 (by decide) ?_
    refine x_callS (rest := []) (k_mwithin (G := G) (Sh := Sh) (I := I) (R := R) (v := so) (lo := (-1)) (hi := 2)) dX8_sheet_10 crc_X8_within sc_8_82 rfl rfl (Nat.le_of_ble_eq_true rfl) (roomy_k (by omega) (by decide)) (Nat.le_refl _) (Nat.le_refl _) ?_
    rintro _ _ ⟨rw, rfl, hrw, rfl⟩
    subst hrw
    refine x_if_neB (tgt := 19) dX8_sheet_13 (by decide) (fun c_13 => ?_) (fun c_13 => ?_)
    · refine x_iload_n dX8_sheet_19 2 rfl rfl ?_
      refine x_if_lt (tgt := 30) dX8_sheet_20 (by decide) (fun c_20 => ?_) (fun c_20 => ?_)
      · refine x_iload_n dX8_sheet_30 2 rfl rfl ?_
        refine x_if_lt (tgt := 43) dX8_sheet_31 (by decide) (fun c_31 => ?_) (fun c_31 => False.elim (c_31 c_20))
        obtain ⟨s9, hid_s9⟩ := Option.isSome_iff_exists.mp c_4
        obtain ⟨hi_s9, hie_s9⟩ := idF_some (by omega) hid_s9
        subst hie_s9
        refine x_aload_n dX8_sheet_43 0 rfl rfl ?_
        refine x_gR (b := m + 15) dX8_sheet_44 fl_8_52 rfl z0 y15 ?_
        refine x_iload_n dX8_sheet_47 1 rfl rfl ?_
        refine x_iload_n dX8_sheet_48 2 rfl rfl ?_
        refine x_is (j := s9) dX8_sheet_49 z15 rfl (by omega) (by omega) (fun Iq1 e_Iq1 => ?_)
        refine x_aload_n dX8_sheet_50 0 rfl rfl ?_
        refine x_gR (b := m + 16) dX8_sheet_51 fl_8_55 rfl z0 y16 ?_
        refine x_iload_n dX8_sheet_54 1 rfl rfl ?_
        refine x_iload_n dX8_sheet_55 2 rfl rfl ?_
        refine x_if_ge (tgt := 63) dX8_sheet_56 (by decide) (fun c_56 => False.elim (absurd c_20 (Int32.not_lt.mpr c_56))) (fun c_56 => ?_)
        refine x_iconst (v := 0) dX8_sheet_59 (by decide) ?_
        refine x_goto (tgt := 64) dX8_sheet_60 (by decide) ?_
        refine x_is (j := s9) dX8_sheet_64 z16 rfl (by omega) (by omega) (fun Iq2 e_Iq2 => ?_)
        refine x_iconst (v := nI 0) dX8_sheet_65 (by decide) ?_
        refine x_istore (lv' := [(4, .int (nI 0)), (0, .ref m), (1, .int (nI s9)), (2, .int so), (3, .int n)]) dX8_sheet_66 (by decide) rfl ?_
        refine x_sub [0, 1, 2, 3, 4] rfl ?_
        have hv : sheetV (nI s9) so n = 1 ∧ sheetS σ (nI s9) so n = withSh σ s9 (-1, 0, fun _ => 0) := by
          unfold sheetV sheetS
          rw [idF_in hi_s9 (by omega)]
          have q1 := so_iff.mp c_13
          have q2 : so = -1 := (so_m1 c_13).mp c_20
          exact ⟨by dsimp only; rw [if_neg q1, if_pos q2], by dsimp only; rw [if_neg q1, if_pos q2]⟩
        have hsm : so = -1 := (so_m1 c_13).mp c_20
        have hfin : ∀ J9 : HI, (∀ j, j < 40 → J9 (m + 17) (40 * s9 + j) = 0) → (∀ a k, ¬ (a = m + 17 ∧ 40 * s9 ≤ k ∧ k < 40 * s9 + 40) → J9 a k = Iq2 a k) → ∃ J8 : HI, (Sh, J9, R) = (Sh, J8, R) ∧ MI m Sh J8 R (sheetS σ (nI s9) so (n)) ∧ FrM m I J8 := by
          intro J9 z1 z2
          refine ⟨J9, rfl, ?_, fun a k q => by rw [z2 _ _ (by omega), e_Iq2, u2_ne (by omega), e_Iq1, u2_ne (by omega)]⟩
          rw [hv.2]
          refine hm0.sheet hi_s9 (fun a k q1 q2 q3 => by rw [z2 a k q3, e_Iq2, u2_ne (by omega), e_Iq1, u2_ne (by omega)]) (by rw [z2 _ _ (by omega), e_Iq2, u2_ne (by omega), e_Iq1, u2_same]; exact hsm) (by rw [z2 _ _ (by omega), e_Iq2, u2_same]; rfl) (by omega) z1
        rw [hv.1]
        exact k_msheet_l hsh hrf hi_s9 (n := n) (Q := fun g => ∃ J8 : HI, g = (Sh, J8, R) ∧ MI m Sh J8 R (sheetS σ (nI s9) so (n)) ∧ FrM m I J8) hfin 41 0 Iq2 (by omega) (by omega) (fun j hj => absurd hj (by omega)) (fun _ _ _ => rfl)
      · refine x_iload_n dX8_sheet_23 3 rfl rfl ?_
        refine x_if_ge (tgt := 30) dX8_sheet_24 (by decide) (fun c_24 => ?_) (fun c_24 => ?_)
        · refine x_iload_n dX8_sheet_30 2 rfl rfl ?_
          refine x_if_lt (tgt := 43) dX8_sheet_31 (by decide) (fun c_31 => False.elim (c_20 c_31)) (fun c_31 => ?_)
          refine x_iload_n dX8_sheet_34 3 rfl rfl ?_
          refine x_bipush (v := 40) dX8_sheet_35 (by decide) ?_
          refine x_icmp_le (tgt := 43) dX8_sheet_37 (by decide) (fun c_37 => ?_) (fun c_37 => ?_)
          · obtain ⟨s9, hid_s9⟩ := Option.isSome_iff_exists.mp c_4
            obtain ⟨hi_s9, hie_s9⟩ := idF_some (by omega) hid_s9
            subst hie_s9
            refine x_aload_n dX8_sheet_43 0 rfl rfl ?_
            refine x_gR (b := m + 15) dX8_sheet_44 fl_8_52 rfl z0 y15 ?_
            refine x_iload_n dX8_sheet_47 1 rfl rfl ?_
            refine x_iload_n dX8_sheet_48 2 rfl rfl ?_
            refine x_is (j := s9) dX8_sheet_49 z15 rfl (by omega) (by omega) (fun Iq3 e_Iq3 => ?_)
            refine x_aload_n dX8_sheet_50 0 rfl rfl ?_
            refine x_gR (b := m + 16) dX8_sheet_51 fl_8_55 rfl z0 y16 ?_
            refine x_iload_n dX8_sheet_54 1 rfl rfl ?_
            refine x_iload_n dX8_sheet_55 2 rfl rfl ?_
            refine x_if_ge (tgt := 63) dX8_sheet_56 (by decide) (fun c_56 => ?_) (fun c_56 => False.elim (c_56 (Int32.not_lt.mp c_20)))
            refine x_iload_n dX8_sheet_63 3 rfl rfl ?_
            refine x_is (j := s9) dX8_sheet_64 z16 rfl (by omega) (by omega) (fun Iq4 e_Iq4 => ?_)
            refine x_iconst (v := nI 0) dX8_sheet_65 (by decide) ?_
            refine x_istore (lv' := [(4, .int (nI 0)), (0, .ref m), (1, .int (nI s9)), (2, .int so), (3, .int n)]) dX8_sheet_66 (by decide) rfl ?_
            refine x_sub [0, 1, 2, 3, 4] rfl ?_
            obtain ⟨k, hk, rfl⟩ := ahead_nat ⟨c_24, c_37⟩
            have hv : sheetV (nI s9) so (nI k) = 1 ∧ sheetS σ (nI s9) so (nI k) = withSh σ s9 (so, k, fun _ => 0) := by
              unfold sheetV sheetS
              rw [idF_in hi_s9 (by omega)]
              have q1 := so_iff.mp c_13
              have q2 : ¬ so = -1 := fun z => c_20 ((so_m1 c_13).mpr z)
              have q3 : ¬ 40 < nI k := Int32.not_lt.mpr c_37
              have q4 : ¬ nI k < 0 := Int32.not_lt.mpr c_24
              exact ⟨by dsimp only; rw [if_neg q1, if_neg q2, if_neg q3, if_neg q4], by dsimp only; rw [if_neg q1, if_neg q2, if_neg q3, if_neg q4, nI_clamp (by omega)]⟩
            have hfin : ∀ J9 : HI, (∀ j, j < 40 → J9 (m + 17) (40 * s9 + j) = 0) → (∀ a k, ¬ (a = m + 17 ∧ 40 * s9 ≤ k ∧ k < 40 * s9 + 40) → J9 a k = Iq4 a k) → ∃ J8 : HI, (Sh, J9, R) = (Sh, J8, R) ∧ MI m Sh J8 R (sheetS σ (nI s9) so (nI k)) ∧ FrM m I J8 := by
              intro J9 z1 z2
              refine ⟨J9, rfl, ?_, fun a k q => by rw [z2 _ _ (by omega), e_Iq4, u2_ne (by omega), e_Iq3, u2_ne (by omega)]⟩
              rw [hv.2]
              refine hm0.sheet hi_s9 (fun a k q1 q2 q3 => by rw [z2 a k q3, e_Iq4, u2_ne (by omega), e_Iq3, u2_ne (by omega)]) (by rw [z2 _ _ (by omega), e_Iq4, u2_ne (by omega), e_Iq3, u2_same]) (by rw [z2 _ _ (by omega), e_Iq4, u2_same]) (by omega) z1
            rw [hv.1]
            exact k_msheet_l hsh hrf hi_s9 (n := nI k) (Q := fun g => ∃ J8 : HI, g = (Sh, J8, R) ∧ MI m Sh J8 R (sheetS σ (nI s9) so (nI k)) ∧ FrM m I J8) hfin 41 0 Iq4 (by omega) (by omega) (fun j hj => absurd hj (by omega)) (fun _ _ _ => rfl)
          · refine x_bipush (v := (-2)) dX8_sheet_40 (by decide) ?_
            refine x_iret dX8_sheet_42 rfl (Nat.le_refl _) (Nat.le_refl _) ?_
            have hv : sheetV s so n = -2 ∧ sheetS σ s so n = σ := by
              obtain ⟨s9, hid⟩ := Option.isSome_iff_exists.mp c_4
              unfold sheetV sheetS
              rw [hid]
              have q1 := so_iff.mp c_13
              have q2 : ¬ so = -1 := fun z => c_31 ((so_m1 c_13).mpr z)
              have q3 : 40 < n := Int32.not_le.mp c_37
              exact ⟨by dsimp only; rw [if_neg q1, if_neg q2, if_pos q3], by dsimp only; rw [if_neg q1, if_neg q2, if_pos q3]⟩
            refine ⟨hv.1.symm, I, rfl, ?_, FrM.rf⟩
            rw [hv.2]
            exact hm0
        · refine x_bipush (v := (-14)) dX8_sheet_27 (by decide) ?_
          refine x_iret dX8_sheet_29 rfl (Nat.le_refl _) (Nat.le_refl _) ?_
          have hv : sheetV s so n = -14 ∧ sheetS σ s so n = σ := by
            obtain ⟨s9, hid⟩ := Option.isSome_iff_exists.mp c_4
            unfold sheetV sheetS
            rw [hid]
            have q1 := so_iff.mp c_13
            have q2 : ¬ so = -1 := fun z => c_20 ((so_m1 c_13).mpr z)
            have q3 : ¬ 40 < n := fun z => c_24 (Int32.le_of_lt (Int32.lt_trans (by decide) z))
            have q4 : n < 0 := Int32.not_le.mp c_24
            exact ⟨by dsimp only; rw [if_neg q1, if_neg q2, if_neg q3, if_pos q4], by dsimp only; rw [if_neg q1, if_neg q2, if_neg q3, if_pos q4]⟩
          refine ⟨hv.1.symm, I, rfl, ?_, FrM.rf⟩
          rw [hv.2]
          exact hm0
    · refine x_bipush (v := (-2)) dX8_sheet_16 (by decide) ?_
      refine x_iret dX8_sheet_18 rfl (Nat.le_refl _) (Nat.le_refl _) ?_
      have hv : sheetV s so n = -2 ∧ sheetS σ s so n = σ := by
        obtain ⟨s9, hid⟩ := Option.isSome_iff_exists.mp c_4
        unfold sheetV sheetS
        rw [hid]
        have q : so < -1 ∨ 3 ≤ so := Classical.not_not.mp (fun z => c_13 (so_iff.mpr z))
        exact ⟨if_pos q, if_pos q⟩
      refine ⟨hv.1.symm, I, rfl, ?_, FrM.rf⟩
      rw [hv.2]
      exact hm0

