section
variable {tb : Nat → Int32} {ts p : Nat}
theorem tk_1 (h : srF (byF tb ts (fmF tb ts p)) = 1) : tkF tb ts p = ntF tb ts (fmF tb ts p) (behF tb ts 1 (fmF tb ts p)) ∧ nxF tb ts p = behF tb ts 1 (fmF tb ts p) := by
  unfold tkF nxF
  rw [if_pos h, if_pos h]
  exact ⟨rfl, rfl⟩
theorem tk_2 (h : srF (byF tb ts (fmF tb ts p)) = 2) : tkF tb ts p = wtF tb ts (fmF tb ts p) (behF tb ts 2 (fmF tb ts p)) ∧ nxF tb ts p = behF tb ts 2 (fmF tb ts p) := by
  have h1 : ¬ srF (byF tb ts (fmF tb ts p)) = 1 := by rw [h]; decide
  unfold tkF nxF
  rw [if_neg h1, if_neg h1, if_pos h, if_pos h]
  exact ⟨rfl, rfl⟩
theorem tk_3 (h : srF (byF tb ts (fmF tb ts p)) = 3) : tkF tb ts p = byF tb ts (fmF tb ts p) ∧ nxF tb ts p = fmF tb ts p + 1 := by
  have h1 : ¬ srF (byF tb ts (fmF tb ts p)) = 1 := by rw [h]; decide
  have h2 : ¬ srF (byF tb ts (fmF tb ts p)) = 2 := by rw [h]; decide
  unfold tkF nxF
  rw [if_neg h1, if_neg h1, if_neg h2, if_neg h2, if_pos h, if_pos h]
  exact ⟨rfl, rfl⟩
theorem tk_4 (h1 : ¬ srF (byF tb ts (fmF tb ts p)) = 1) (h2 : ¬ srF (byF tb ts (fmF tb ts p)) = 2) (h3 : ¬ srF (byF tb ts (fmF tb ts p)) = 3) (hl : fmF tb ts p < ts) : tkF tb ts p = 2 := by
  unfold tkF
  rw [if_neg h1, if_neg h2, if_neg h3, if_pos hl]
theorem tk_e (hl : ¬ fmF tb ts p < ts) : tkF tb ts p = 1 := by
  have h := sr_out (tb := tb) hl
  unfold tkF
  rw [if_neg (by rw [h]; decide), if_neg (by rw [h]; decide), if_neg (by rw [h]; decide), if_neg hl]
theorem nu_s {f d : Nat} : nuF tb ts f (d + 1) = nuF tb ts f d * 10 + byF tb ts (f + d) - 48 := rfl
theorem wt_none {f t : Nat} (h : ∀ i, 1 ≤ i → i ≤ 12 → ¬ wdP tb ts i f t) : wtF tb ts f t = 2 := by
  unfold wtF
  rw [if_neg (h 1 (by omega) (by omega)), if_neg (h 2 (by omega) (by omega)), if_neg (h 3 (by omega) (by omega)), if_neg (h 4 (by omega) (by omega)), if_neg (h 5 (by omega) (by omega)), if_neg (h 6 (by omega) (by omega)), if_neg (h 7 (by omega) (by omega)), if_neg (h 8 (by omega) (by omega)), if_neg (h 9 (by omega) (by omega)), if_neg (h 10 (by omega) (by omega)), if_neg (h 11 (by omega) (by omega)), if_neg (h 12 (by omega) (by omega))]
theorem wt_some {f t i : Nat} (h : wdP tb ts i f t) (h1 : 1 ≤ i) (h2 : i ≤ 12) : mtF (wtF tb ts f t) = 119 := by
  unfold wtF
  by_cases c1 : wdP tb ts 1 f t
  · rw [if_pos c1]; decide
  rw [if_neg c1]
  by_cases c2 : wdP tb ts 2 f t
  · rw [if_pos c2]; decide
  rw [if_neg c2]
  by_cases c3 : wdP tb ts 3 f t
  · rw [if_pos c3]; decide
  rw [if_neg c3]
  by_cases c4 : wdP tb ts 4 f t
  · rw [if_pos c4]; decide
  rw [if_neg c4]
  by_cases c5 : wdP tb ts 5 f t
  · rw [if_pos c5]; decide
  rw [if_neg c5]
  by_cases c6 : wdP tb ts 6 f t
  · rw [if_pos c6]; decide
  rw [if_neg c6]
  by_cases c7 : wdP tb ts 7 f t
  · rw [if_pos c7]; decide
  rw [if_neg c7]
  by_cases c8 : wdP tb ts 8 f t
  · rw [if_pos c8]; decide
  rw [if_neg c8]
  by_cases c9 : wdP tb ts 9 f t
  · rw [if_pos c9]; decide
  rw [if_neg c9]
  by_cases c10 : wdP tb ts 10 f t
  · rw [if_pos c10]; decide
  rw [if_neg c10]
  by_cases c11 : wdP tb ts 11 f t
  · rw [if_pos c11]; decide
  rw [if_neg c11]
  by_cases c12 : wdP tb ts 12 f t
  · rw [if_pos c12]; decide
  exfalso
  have hc : i = 1 ∨ i = 2 ∨ i = 3 ∨ i = 4 ∨ i = 5 ∨ i = 6 ∨ i = 7 ∨ i = 8 ∨ i = 9 ∨ i = 10 ∨ i = 11 ∨ i = 12 := by omega
  rcases hc with rfl | rfl | rfl | rfl | rfl | rfl | rfl | rfl | rfl | rfl | rfl | rfl <;> contradiction
end

set_option maxHeartbeats 4000000 in
set_option maxRecDepth 100000 in
theorem k_next_s {G : GG} {Sh : HS} {I : HI} {R : HR} {m ts : Nat} {tb : Nat → Int32} (hsh : MSh Sh m) (hrf : MRf R m) (ht : TPm m ts tb I) {p : Nat} (hp : p ≤ ts) {f : Nat} (hfm : fmF tb ts p = f) (hfl : f < ts) {c : Int32} (hc : c = tb f) {J : HI} (hfx : frX m I J) (h16 : J m 16 = nI f) (h17 : J m 17 = nI f) (hnl : ¬ (97 ≤ c ∧ c ≤ 122)) (hnd : ¬ (48 ≤ c ∧ c ≤ 57)) : X G (kM G 7 0 0 (qv fun g => ∃ J : HI, g = (Sh, J, R) ∧ frX m I J ∧ TOK tb ts m p J)) yX8_next cX8_next 2 none 0 0 334 [(1, .int c), (0, .ref m)] [] (Sh, J, R) := by
  obtain ⟨ht9, hts, htb, hby⟩ := id ht
  obtain ⟨z0, z1, z6, z7, z8, z9, z10, z11, z12, z13, z14, z15, z16, z17⟩ := id hsh
  obtain ⟨y1, y6, y7, y8, y9, y10, y11, y12, y13, y14, y15, y16, y17⟩ := id hrf
  refine x_aload_n dX8_next_334 1 rfl rfl ?_
  refine x_dup dX8_next_335 rfl ?_
  refine x_gI (v := nI f) dX8_next_336 fl_8_120 rfl z0 h17 ?_
  refine x_iconst (v := nI 1) dX8_next_339 (by decide) ?_
  refine x_iadd dX8_next_340 ?_
  refine x_vali (nI_add f 1) ?_
  refine x_pI dX8_next_341 fl_8_120 rfl rfl rfl z0 (fun Iq1 e_Iq1 => ?_)
  refine x_aload_n dX8_next_344 1 rfl rfl ?_
  refine x_ldcS (i := 13) (tx := "();+-*<=") dX8_next_345 (by decide +kernel) ?_
  refine x_iload_n dX8_next_347 0 rfl rfl ?_
  refine x_callT (by decide) (k_ix (G := G) (Sh := Sh) (I := Iq1) (R := R) (c := c) (by rw [hc]; exact hby f hfl)) dX8_next_348 crc_J0_indexOf_0f7a4 vc_8_166 rfl rfl rfl (Nat.le_of_ble_eq_true rfl) (roomy_k (by omega) (by decide)) (Nat.le_refl _) (Nat.le_refl _) ?_
  rintro _ _ ⟨r, rfl, hr, rfl⟩
  refine x_if_lt (tgt := 362) dX8_next_351 (by decide) (fun c_351 => ?_) (fun c_351 => ?_)
  · refine x_bipush (v := 120) dX8_next_362 (by decide) ?_
    refine x_pI dX8_next_364 fl_8_117 rfl rfl rfl z0 (fun Iq2 e_Iq2 => ?_)
    refine x_vret dX8_next_367 rfl (Nat.le_refl _) (Nat.le_refl _) ?_
    have hs := sr_by ht (p := f) hfl
    rw [← hfm] at hs
    have hs3 : ¬ srF (byF tb ts (fmF tb ts p)) = 3 := fun y => by
      have h5 := hs.2.2.2.2 y
      have h6 := hs.2.2.2.1.mp y
      rw [hfm] at h5 h6
      rw [← hc] at h5 h6
      have no : r < 0 ∨ c ≤ 0 := Or.inl c_351
      rcases no with no | no
      · rcases hr with ⟨z, _⟩ | ⟨_, z⟩
        · exact absurd no (Int32.not_lt.mpr z)
        · obtain ⟨j, hj, ej⟩ := h6
          exact z j hj ej
      · exact absurd h5.1 (Int32.not_lt.mpr no)
    have k1 := tk_4 (fun y => hnd (by have z := hs.2.1.mp y; rw [hfm, ← hc] at z; exact z)) (fun y => hnl (by have z := hs.2.2.1.mp y; rw [hfm, ← hc] at z; exact z)) hs3 (by rw [hfm]; exact hfl)
    refine ⟨_, rfl, fun a k z => ?_, ?_⟩
    · rw [e_Iq2, u2_ne (by omega), e_Iq1, u2_ne (by omega)]
      exact hfx a k z
    · refine ⟨?_, ?_, fun z => absurd (Or.inr k1) z, fun z => ?_⟩
      · rw [e_Iq2, u2_ne (by omega), e_Iq1, u2_ne (by omega), hfm]
        exact h16
      · rw [e_Iq2, u2_same, k1]
        rfl
      · rw [k1] at z
        exact absurd z (by decide)
  · refine x_iload_n dX8_next_354 0 rfl rfl ?_
    refine x_if_le (tgt := 362) dX8_next_355 (by decide) (fun c_355 => ?_) (fun c_355 => ?_)
    · refine x_bipush (v := 120) dX8_next_362 (by decide) ?_
      refine x_pI dX8_next_364 fl_8_117 rfl rfl rfl z0 (fun Iq3 e_Iq3 => ?_)
      refine x_vret dX8_next_367 rfl (Nat.le_refl _) (Nat.le_refl _) ?_
      have hs := sr_by ht (p := f) hfl
      rw [← hfm] at hs
      have hs3 : ¬ srF (byF tb ts (fmF tb ts p)) = 3 := fun y => by
        have h5 := hs.2.2.2.2 y
        have h6 := hs.2.2.2.1.mp y
        rw [hfm] at h5 h6
        rw [← hc] at h5 h6
        have no : r < 0 ∨ c ≤ 0 := Or.inr c_355
        rcases no with no | no
        · rcases hr with ⟨z, _⟩ | ⟨_, z⟩
          · exact absurd no (Int32.not_lt.mpr z)
          · obtain ⟨j, hj, ej⟩ := h6
            exact z j hj ej
        · exact absurd h5.1 (Int32.not_lt.mpr no)
      have k1 := tk_4 (fun y => hnd (by have z := hs.2.1.mp y; rw [hfm, ← hc] at z; exact z)) (fun y => hnl (by have z := hs.2.2.1.mp y; rw [hfm, ← hc] at z; exact z)) hs3 (by rw [hfm]; exact hfl)
      refine ⟨_, rfl, fun a k z => ?_, ?_⟩
      · rw [e_Iq3, u2_ne (by omega), e_Iq1, u2_ne (by omega)]
        exact hfx a k z
      · refine ⟨?_, ?_, fun z => absurd (Or.inr k1) z, fun z => ?_⟩
        · rw [e_Iq3, u2_ne (by omega), e_Iq1, u2_ne (by omega), hfm]
          exact h16
        · rw [e_Iq3, u2_same, k1]
          rfl
        · rw [k1] at z
          exact absurd z (by decide)
    · refine x_iload_n dX8_next_358 0 rfl rfl ?_
      refine x_goto (tgt := 364) dX8_next_359 (by decide) ?_
      refine x_pI dX8_next_364 fl_8_117 rfl rfl rfl z0 (fun Iq4 e_Iq4 => ?_)
      refine x_vret dX8_next_367 rfl (Nat.le_refl _) (Nat.le_refl _) ?_
      have hs := sr_by ht (p := f) hfl
      rw [← hfm] at hs
      have hs3 : srF (byF tb ts (fmF tb ts p)) = 3 := by
        refine hs.2.2.2.1.mpr ?_
        rw [hfm, ← hc]
        rcases hr with ⟨_, z⟩ | ⟨z, _⟩
        · exact z
        · exact absurd (by rw [z]; decide) c_351
      obtain ⟨k1, k2⟩ := tk_3 hs3
      have kb : byF tb ts (fmF tb ts p) = tb f := by rw [hfm, by_in hfl]
      have h5 := hs.2.2.2.2 hs3
      rw [hfm] at h5
      refine ⟨_, rfl, fun a k z => ?_, ?_⟩
      · rw [e_Iq4, u2_ne (by omega), e_Iq1, u2_ne (by omega)]
        exact hfx a k z
      · refine ⟨?_, ?_, fun _ => ?_, fun z => ?_⟩
        · rw [e_Iq4, u2_ne (by omega), e_Iq1, u2_ne (by omega), hfm]
          exact h16
        · rw [e_Iq4, u2_same, k1, kb, h5.2.1, hc]
        · rw [e_Iq4, u2_ne (by omega), e_Iq1, u2_same, k2, hfm]
        · rw [k1, kb] at z
          exact absurd z h5.2.2

set_option maxHeartbeats 4000000 in
set_option maxRecDepth 100000 in
theorem k_next_n {G : GG} {Sh : HS} {I : HI} {R : HR} {m ts : Nat} {tb : Nat → Int32} (hsh : MSh Sh m) (hrf : MRf R m) (ht : TPm m ts tb I) {p : Nat} (hp : p ≤ ts) {f : Nat} (hfm : fmF tb ts p = f) (hfl : f < ts) {c : Int32} (hc : c = tb f) (hd0 : srF (byF tb ts f) = 1) : ∀ (m9 : Nat) (x : Nat) (J : HI), (f ≤ x) → (x ≤ ts) → (ts < x + m9) → (frX m I J) → (J m 16 = nI f) → (J m 17 = nI x) → (J m 19 = nuF tb ts f (min (x - f) 4)) → (∀ j, f ≤ j → j < x → srF (byF tb ts j) = 1) → (behF tb ts 1 x = behF tb ts 1 f) → X G (kM G 7 0 0 (qv fun g => ∃ J : HI, g = (Sh, J, R) ∧ frX m I J ∧ TOK tb ts m p J)) yX8_next cX8_next 2 none 0 0 231 [(1, .int c), (0, .ref m)] [] (Sh, J, R) := by
  intro m9
  induction m9 with
  | zero =>
    intro x J hx1 hx2 hm hfx h16 h17 h19 hdig hbeh
    exact absurd hm (by omega)
  | succ m9 ih =>
    intro x J hx1 hx2 hm hfx h16 h17 h19 hdig hbeh
    obtain ⟨ht9, hts, htb, hby⟩ := id ht
    obtain ⟨z0, z1, z6, z7, z8, z9, z10, z11, z12, z13, z14, z15, z16, z17⟩ := id hsh
    obtain ⟨y1, y6, y7, y8, y9, y10, y11, y12, y13, y14, y15, y16, y17⟩ := id hrf
    refine x_aload_n dX8_next_231 1 rfl rfl ?_
    refine x_gI (v := nI x) dX8_next_232 fl_8_120 rfl z0 h17 ?_
    refine x_aload_n dX8_next_235 1 rfl rfl ?_
    refine x_gI (v := nI ts) dX8_next_236 fl_8_72 rfl z0 ((ht.fx hfx).1) ?_
    refine x_icmp_ge (tgt := 307) dX8_next_239 (by decide) (fun c_239 => ?_) (fun c_239 => ?_)
    · have c_239 : ts ≤ x := (nI_leI (a := ts) (b := x) (by omega) (by omega)).mp c_239
      refine x_aload_n dX8_next_307 1 rfl rfl ?_
      refine x_aload_n dX8_next_308 1 rfl rfl ?_
      refine x_gI (v := nI x) dX8_next_309 fl_8_120 rfl z0 h17 ?_
      refine x_aload_n dX8_next_312 1 rfl rfl ?_
      refine x_gI (v := nI f) dX8_next_313 fl_8_123 rfl z0 h16 ?_
      refine x_isub dX8_next_316 ?_
      refine x_vali (pk_sub hx1) ?_
      refine x_iconst (v := nI 4) dX8_next_317 (by decide) ?_
      refine x_icmp_le (tgt := 326) dX8_next_318 (by decide) (fun c_318 => ?_) (fun c_318 => ?_)
      · have c_318 : (x - f) ≤ 4 := (nI_leI (a := (x - f)) (b := 4) (by omega) (by omega)).mp c_318
        refine x_bipush (v := 48) dX8_next_326 (by decide) ?_
        refine x_pI dX8_next_328 fl_8_117 rfl rfl rfl z0 (fun Iq1 e_Iq1 => ?_)
        refine x_goto (tgt := 367) dX8_next_331 (by decide) ?_
        refine x_vret dX8_next_367 rfl (Nat.le_refl _) (Nat.le_refl _) ?_
        have hbx : behF tb ts 1 f = x := by
          rw [← hbeh]
          exact beh_no (fun z => absurd z (by omega))
        obtain ⟨k1, k2⟩ := tk_1 (p := p) (by rw [hfm]; exact hd0)
        rw [hfm, hbx] at k1 k2
        have k3 : tkF tb ts p = 1000 + nuF tb ts f (x - f) := by
          rw [k1]
          unfold ntF
          rw [if_neg (by omega)]
        obtain ⟨v, hv, ev⟩ := nu_le (tb := tb) (ts := ts) (f := f) (x - f) (by omega) (fun j hj => hdig _ (by omega) (by omega))
        have hv4 : v < 10000 := Nat.lt_of_lt_of_le hv (Nat.pow_le_pow_right (by decide) (by omega) : _ ≤ 10 ^ 4)
        refine ⟨_, rfl, fun a k z => ?_, ?_⟩
        · rw [e_Iq1, u2_ne (by omega)]
          exact hfx a k z
        · refine ⟨?_, ?_, fun _ => ?_, fun _ => ?_⟩
          · rw [e_Iq1, u2_ne (by omega), hfm]
            exact h16
          · rw [e_Iq1, u2_same, k3, ev, show (1000 : Int32) + nI v = nI (1000 + v) from nI_add 1000 v]
            have hge : (1000 : Int32) ≤ nI (1000 + v) := (nI_leI (a := 1000) (b := 1000 + v) (by omega) (by omega)).mpr (by omega)
            unfold mtF
            rw [if_pos hge]
          · rw [e_Iq1, u2_ne (by omega), k2]
            exact h17
          · rw [e_Iq1, u2_ne (by omega), h19, k3, Nat.min_eq_left (by omega), Int32.add_comm]
            exact (Int32.add_sub_cancel _ _).symm
      · have c_318 : ¬ (x - f) ≤ 4 := fun zz9 => c_318 ((nI_leI (a := (x - f)) (b := 4) (by omega) (by omega)).mpr zz9)
        refine x_bipush (v := 120) dX8_next_321 (by decide) ?_
        refine x_goto (tgt := 328) dX8_next_323 (by decide) ?_
        refine x_pI dX8_next_328 fl_8_117 rfl rfl rfl z0 (fun Iq2 e_Iq2 => ?_)
        refine x_goto (tgt := 367) dX8_next_331 (by decide) ?_
        refine x_vret dX8_next_367 rfl (Nat.le_refl _) (Nat.le_refl _) ?_
        have hbx : behF tb ts 1 f = x := by
          rw [← hbeh]
          exact beh_no (fun z => absurd z (by omega))
        obtain ⟨k1, k2⟩ := tk_1 (p := p) (by rw [hfm]; exact hd0)
        rw [hfm, hbx] at k1 k2
        have k3 : tkF tb ts p = 2 := by
          rw [k1]
          unfold ntF
          rw [if_pos (by omega)]
        refine ⟨_, rfl, fun a k z => ?_, ?_⟩
        · rw [e_Iq2, u2_ne (by omega)]
          exact hfx a k z
        · refine ⟨?_, ?_, fun z => absurd (Or.inr k3) z, fun z => ?_⟩
          · rw [e_Iq2, u2_ne (by omega), hfm]
            exact h16
          · rw [e_Iq2, u2_same, k3]
            rfl
          · rw [k3] at z
            exact absurd z (by decide)
    · have c_239 : ¬ ts ≤ x := fun zz9 => c_239 ((nI_leI (a := ts) (b := x) (by omega) (by omega)).mpr zz9)
      refine x_aload_n dX8_next_242 1 rfl rfl ?_
      refine x_gR (b := m + 6) dX8_next_243 fl_8_25 rfl z0 y6 ?_
      refine x_aload_n dX8_next_246 1 rfl rfl ?_
      refine x_gI (v := nI x) dX8_next_247 fl_8_120 rfl z0 h17 ?_
      refine x_ia (j := x) (v := tb x) dX8_next_250 z6 rfl (by omega) (by omega) ((ht.fx hfx).2.2.1 x (by omega)) ?_
      refine x_callS (rest := []) (k_misDigit (G := G) (Sh := Sh) (I := J) (R := R) (c := tb x)) dX8_next_251 crc_X8_isDigit sc_8_158 rfl rfl (Nat.le_of_ble_eq_true rfl) (roomy_k (by omega) (by decide)) (Nat.le_refl _) (Nat.le_refl _) ?_
      rintro _ _ ⟨_, rfl, rfl, rfl⟩
      refine x_if_eqB (tgt := 307) dX8_next_254 (by decide) (fun c_254 => ?_) (fun c_254 => ?_)
      · refine x_aload_n dX8_next_307 1 rfl rfl ?_
        refine x_aload_n dX8_next_308 1 rfl rfl ?_
        refine x_gI (v := nI x) dX8_next_309 fl_8_120 rfl z0 h17 ?_
        refine x_aload_n dX8_next_312 1 rfl rfl ?_
        refine x_gI (v := nI f) dX8_next_313 fl_8_123 rfl z0 h16 ?_
        refine x_isub dX8_next_316 ?_
        refine x_vali (pk_sub hx1) ?_
        refine x_iconst (v := nI 4) dX8_next_317 (by decide) ?_
        refine x_icmp_le (tgt := 326) dX8_next_318 (by decide) (fun c_318 => ?_) (fun c_318 => ?_)
        · have c_318 : (x - f) ≤ 4 := (nI_leI (a := (x - f)) (b := 4) (by omega) (by omega)).mp c_318
          refine x_bipush (v := 48) dX8_next_326 (by decide) ?_
          refine x_pI dX8_next_328 fl_8_117 rfl rfl rfl z0 (fun Iq3 e_Iq3 => ?_)
          refine x_goto (tgt := 367) dX8_next_331 (by decide) ?_
          refine x_vret dX8_next_367 rfl (Nat.le_refl _) (Nat.le_refl _) ?_
          have hbx : behF tb ts 1 f = x := by
            rw [← hbeh]
            exact beh_no (fun z y => c_254 (((sr_by ht z).2.1.mp y)))
          obtain ⟨k1, k2⟩ := tk_1 (p := p) (by rw [hfm]; exact hd0)
          rw [hfm, hbx] at k1 k2
          have k3 : tkF tb ts p = 1000 + nuF tb ts f (x - f) := by
            rw [k1]
            unfold ntF
            rw [if_neg (by omega)]
          obtain ⟨v, hv, ev⟩ := nu_le (tb := tb) (ts := ts) (f := f) (x - f) (by omega) (fun j hj => hdig _ (by omega) (by omega))
          have hv4 : v < 10000 := Nat.lt_of_lt_of_le hv (Nat.pow_le_pow_right (by decide) (by omega) : _ ≤ 10 ^ 4)
          refine ⟨_, rfl, fun a k z => ?_, ?_⟩
          · rw [e_Iq3, u2_ne (by omega)]
            exact hfx a k z
          · refine ⟨?_, ?_, fun _ => ?_, fun _ => ?_⟩
            · rw [e_Iq3, u2_ne (by omega), hfm]
              exact h16
            · rw [e_Iq3, u2_same, k3, ev, show (1000 : Int32) + nI v = nI (1000 + v) from nI_add 1000 v]
              have hge : (1000 : Int32) ≤ nI (1000 + v) := (nI_leI (a := 1000) (b := 1000 + v) (by omega) (by omega)).mpr (by omega)
              unfold mtF
              rw [if_pos hge]
            · rw [e_Iq3, u2_ne (by omega), k2]
              exact h17
            · rw [e_Iq3, u2_ne (by omega), h19, k3, Nat.min_eq_left (by omega), Int32.add_comm]
              exact (Int32.add_sub_cancel _ _).symm
        · have c_318 : ¬ (x - f) ≤ 4 := fun zz9 => c_318 ((nI_leI (a := (x - f)) (b := 4) (by omega) (by omega)).mpr zz9)
          refine x_bipush (v := 120) dX8_next_321 (by decide) ?_
          refine x_goto (tgt := 328) dX8_next_323 (by decide) ?_
          refine x_pI dX8_next_328 fl_8_117 rfl rfl rfl z0 (fun Iq4 e_Iq4 => ?_)
          refine x_goto (tgt := 367) dX8_next_331 (by decide) ?_
          refine x_vret dX8_next_367 rfl (Nat.le_refl _) (Nat.le_refl _) ?_
          have hbx : behF tb ts 1 f = x := by
            rw [← hbeh]
            exact beh_no (fun z y => c_254 (((sr_by ht z).2.1.mp y)))
          obtain ⟨k1, k2⟩ := tk_1 (p := p) (by rw [hfm]; exact hd0)
          rw [hfm, hbx] at k1 k2
          have k3 : tkF tb ts p = 2 := by
            rw [k1]
            unfold ntF
            rw [if_pos (by omega)]
          refine ⟨_, rfl, fun a k z => ?_, ?_⟩
          · rw [e_Iq4, u2_ne (by omega)]
            exact hfx a k z
          · refine ⟨?_, ?_, fun z => absurd (Or.inr k3) z, fun z => ?_⟩
            · rw [e_Iq4, u2_ne (by omega), hfm]
              exact h16
            · rw [e_Iq4, u2_same, k3]
              rfl
            · rw [k3] at z
              exact absurd z (by decide)
      · refine x_aload_n dX8_next_257 1 rfl rfl ?_
        refine x_gI (v := nI x) dX8_next_258 fl_8_120 rfl z0 h17 ?_
        refine x_aload_n dX8_next_261 1 rfl rfl ?_
        refine x_gI (v := nI f) dX8_next_262 fl_8_123 rfl z0 h16 ?_
        refine x_isub dX8_next_265 ?_
        refine x_vali (pk_sub hx1) ?_
        refine x_iconst (v := nI 4) dX8_next_266 (by decide) ?_
        refine x_icmp_ge (tgt := 294) dX8_next_267 (by decide) (fun c_267 => ?_) (fun c_267 => ?_)
        · have c_267 : 4 ≤ (x - f) := (nI_leI (a := 4) (b := (x - f)) (by omega) (by omega)).mp c_267
          refine x_aload_n dX8_next_294 1 rfl rfl ?_
          refine x_dup dX8_next_295 rfl ?_
          refine x_gI (v := nI x) dX8_next_296 fl_8_120 rfl z0 h17 ?_
          refine x_iconst (v := nI 1) dX8_next_299 (by decide) ?_
          refine x_iadd dX8_next_300 ?_
          refine x_vali (nI_add x 1) ?_
          refine x_pI dX8_next_301 fl_8_120 rfl rfl rfl z0 (fun Iq5 e_Iq5 => ?_)
          refine x_goto (tgt := 231) dX8_next_304 (by decide) ?_
          refine x_sub [0, 1] rfl ?_
          have hdx : srF (byF tb ts x) = 1 := (sr_by ht (by omega)).2.1.mpr c_254
          exact ih (x + 1) Iq5 (by omega) (by omega) (by omega) (fun a k z => by rw [e_Iq5, u2_ne (by omega)]; exact hfx a k z) (by rw [e_Iq5, u2_ne (by omega)]; exact h16) (by rw [e_Iq5, u2_same]) (by
            rw [e_Iq5, u2_ne (by omega), h19, Nat.min_eq_right (by omega), Nat.min_eq_right (by omega)]) (fun j h1 h2 => by
            by_cases z : j = x
            · rw [z]; exact hdx
            · exact hdig j h1 (by omega)) (by rw [← beh_go (by omega) hdx]; exact hbeh)
        · have c_267 : ¬ 4 ≤ (x - f) := fun zz9 => c_267 ((nI_leI (a := 4) (b := (x - f)) (by omega) (by omega)).mpr zz9)
          refine x_aload_n dX8_next_270 1 rfl rfl ?_
          refine x_bipush (v := 10) dX8_next_271 (by decide) ?_
          refine x_aload_n dX8_next_273 1 rfl rfl ?_
          refine x_gI (v := nuF tb ts f (min (x - f) 4)) dX8_next_274 fl_8_161 rfl z0 h19 ?_
          refine x_imul dX8_next_277 ?_
          refine x_aload_n dX8_next_278 1 rfl rfl ?_
          refine x_gR (b := m + 6) dX8_next_279 fl_8_25 rfl z0 y6 ?_
          refine x_aload_n dX8_next_282 1 rfl rfl ?_
          refine x_gI (v := nI x) dX8_next_283 fl_8_120 rfl z0 h17 ?_
          refine x_ia (j := x) (v := tb x) dX8_next_286 z6 rfl (by omega) (by omega) ((ht.fx hfx).2.2.1 x (by omega)) ?_
          refine x_iadd dX8_next_287 ?_
          refine x_bipush (v := 48) dX8_next_288 (by decide) ?_
          refine x_isub dX8_next_290 ?_
          refine x_pI dX8_next_291 fl_8_161 rfl rfl rfl z0 (fun Iq6 e_Iq6 => ?_)
          refine x_aload_n dX8_next_294 1 rfl rfl ?_
          refine x_dup dX8_next_295 rfl ?_
          refine x_gI (v := nI x) dX8_next_296 fl_8_120 rfl z0 (by rw [e_Iq6, u2_ne (by omega)]; exact h17) ?_
          refine x_iconst (v := nI 1) dX8_next_299 (by decide) ?_
          refine x_iadd dX8_next_300 ?_
          refine x_vali (nI_add x 1) ?_
          refine x_pI dX8_next_301 fl_8_120 rfl rfl rfl z0 (fun Iq7 e_Iq7 => ?_)
          refine x_goto (tgt := 231) dX8_next_304 (by decide) ?_
          refine x_sub [0, 1] rfl ?_
          have hdx : srF (byF tb ts x) = 1 := (sr_by ht (by omega)).2.1.mpr c_254
          exact ih (x + 1) Iq7 (by omega) (by omega) (by omega) (fun a k z => by rw [e_Iq7, u2_ne (by omega), e_Iq6, u2_ne (by omega)]; exact hfx a k z) (by rw [e_Iq7, u2_ne (by omega), e_Iq6, u2_ne (by omega)]; exact h16) (by rw [e_Iq7, u2_same]) (by
            rw [e_Iq7, u2_ne (by omega), e_Iq6, u2_same, Nat.min_eq_left (show x - f ≤ 4 by omega), Nat.min_eq_left (show x + 1 - f ≤ 4 by omega), show x + 1 - f = (x - f) + 1 by omega, nu_s, show f + (x - f) = x by omega, by_in (by omega), Int32.mul_comm]) (fun j h1 h2 => by
            by_cases z : j = x
            · rw [z]; exact hdx
            · exact hdig j h1 (by omega)) (by rw [← beh_go (by omega) hdx]; exact hbeh)

set_option maxHeartbeats 4000000 in
set_option maxRecDepth 100000 in
theorem k_next_w2 {G : GG} {Sh : HS} {I : HI} {R : HR} {m ts : Nat} {tb : Nat → Int32} (hsh : MSh Sh m) (hrf : MRf R m) (ht : TPm m ts tb I) {p : Nat} (hp : p ≤ ts) {f : Nat} (hfm : fmF tb ts p = f) (hfl : f < ts) {c : Int32} (hc : c = tb f) {x : Nat} {J : HI} (hx1 : f ≤ x) (hx2 : x ≤ ts) (hfx : frX m I J) (h16 : J m 16 = nI f) (h17 : J m 17 = nI x) (hd0 : srF (byF tb ts f) = 2) (hbx : behF tb ts 2 f = x) : X G (kM G 7 0 0 (qv fun g => ∃ J : HI, g = (Sh, J, R) ∧ frX m I J ∧ TOK tb ts m p J)) yX8_next cX8_next 2 none 0 0 142 [(1, .int c), (0, .ref m)] [] (Sh, J, R) := by
  obtain ⟨ht9, hts, htb, hby⟩ := id ht
  obtain ⟨z0, z1, z6, z7, z8, z9, z10, z11, z12, z13, z14, z15, z16, z17⟩ := id hsh
  obtain ⟨y1, y6, y7, y8, y9, y10, y11, y12, y13, y14, y15, y16, y17⟩ := id hrf
  refine x_aload_n dX8_next_142 1 rfl rfl ?_
  refine x_bipush (v := 119) dX8_next_143 (by decide) ?_
  refine x_pI dX8_next_145 fl_8_117 rfl rfl rfl z0 (fun Iq1 e_Iq1 => ?_)
  refine x_aload_n dX8_next_148 1 rfl rfl ?_
  refine x_callV (k_mnamed (G := G) (I := Iq1) hsh hrf (ht.fx (fun a k z => by rw [e_Iq1, u2_ne (by omega)]; exact hfx a k z)) (by rw [e_Iq1, u2_ne (by omega)]; exact h16) (by rw [e_Iq1, u2_ne (by omega)]; exact h17) hx1 hx2 (by rw [e_Iq1, u2_same])) dX8_next_149 crc_X8_named vc_8_143 z0 rfl rfl rfl rfl (Nat.le_of_ble_eq_true rfl) (roomy_k (by omega) (by decide)) (Nat.le_refl _) (Nat.le_refl _) ?_
  rintro _ _ ⟨r, rfl, hr, rfl⟩
  refine x_iconst (v := (-1)) dX8_next_152 (by decide) ?_
  refine x_icmp_ne (tgt := 367) dX8_next_153 (by decide) (fun c_153 => ?_) (fun c_153 => ?_)
  · refine x_vret dX8_next_367 rfl (Nat.le_refl _) (Nat.le_refl _) ?_
    obtain ⟨k1, k2⟩ := tk_2 (p := p) (by rw [hfm]; exact hd0)
    rw [hfm, hbx] at k1 k2
    have k4 : ¬ 1000 ≤ tkF tb ts p := fun z => absurd (Int32.le_trans z (by rw [k1]; exact wt_le _ _)) (by decide)
    have k3 : mtF (tkF tb ts p) = 119 := by
      rw [k1]
      rcases hr with ⟨j, h1, h2, h3, h4⟩ | ⟨z, _⟩
      · exact wt_some h4 (by omega) (by omega)
      · exact absurd z c_153
    refine ⟨_, rfl, fun a k z => ?_, ?_, ?_, fun _ => ?_, fun z => absurd z k4⟩
    · rw [e_Iq1, u2_ne (by omega)]
      exact hfx a k z
    · rw [e_Iq1, u2_ne (by omega), hfm]
      exact h16
    · rw [e_Iq1, u2_same, k3]
    · rw [e_Iq1, u2_ne (by omega), k2]
      exact h17
  · refine x_aload_n dX8_next_156 1 rfl rfl ?_
    refine x_ldcS (i := 1) (tx := "strikes") dX8_next_157 (by decide +kernel) ?_
    refine x_callV (k_misWord (G := G) (I := Iq1) hsh hrf (ht.fx (fun a k z => by rw [e_Iq1, u2_ne (by omega)]; exact hfx a k z)) (i := 1) (by decide) (by rw [e_Iq1, u2_ne (by omega)]; exact h16) (by rw [e_Iq1, u2_ne (by omega)]; exact h17) hx1 hx2) dX8_next_159 crc_X8_isWord vc_8_136 z0 rfl rfl rfl rfl (Nat.le_of_ble_eq_true rfl) (roomy_k (by omega) (by decide)) (Nat.le_refl _) (Nat.le_refl _) ?_
    rintro _ _ ⟨_, rfl, rfl, rfl⟩
    refine x_if_neB (tgt := 367) dX8_next_162 (by decide) (fun c_162 => ?_) (fun c_162 => ?_)
    · refine x_vret dX8_next_367 rfl (Nat.le_refl _) (Nat.le_refl _) ?_
      obtain ⟨k1, k2⟩ := tk_2 (p := p) (by rw [hfm]; exact hd0)
      rw [hfm, hbx] at k1 k2
      have k4 : ¬ 1000 ≤ tkF tb ts p := fun z => absurd (Int32.le_trans z (by rw [k1]; exact wt_le _ _)) (by decide)
      have k3 : mtF (tkF tb ts p) = 119 := by
        rw [k1]
        exact wt_some c_162.2 (by omega) (by omega)
      refine ⟨_, rfl, fun a k z => ?_, ?_, ?_, fun _ => ?_, fun z => absurd z k4⟩
      · rw [e_Iq1, u2_ne (by omega)]
        exact hfx a k z
      · rw [e_Iq1, u2_ne (by omega), hfm]
        exact h16
      · rw [e_Iq1, u2_same, k3]
      · rw [e_Iq1, u2_ne (by omega), k2]
        exact h17
    · refine x_aload_n dX8_next_165 1 rfl rfl ?_
      refine x_ldcS (i := 2) (tx := "raises") dX8_next_166 (by decide +kernel) ?_
      refine x_callV (k_misWord (G := G) (I := Iq1) hsh hrf (ht.fx (fun a k z => by rw [e_Iq1, u2_ne (by omega)]; exact hfx a k z)) (i := 2) (by decide) (by rw [e_Iq1, u2_ne (by omega)]; exact h16) (by rw [e_Iq1, u2_ne (by omega)]; exact h17) hx1 hx2) dX8_next_168 crc_X8_isWord vc_8_136 z0 rfl rfl rfl rfl (Nat.le_of_ble_eq_true rfl) (roomy_k (by omega) (by decide)) (Nat.le_refl _) (Nat.le_refl _) ?_
      rintro _ _ ⟨_, rfl, rfl, rfl⟩
      refine x_if_neB (tgt := 367) dX8_next_171 (by decide) (fun c_171 => ?_) (fun c_171 => ?_)
      · refine x_vret dX8_next_367 rfl (Nat.le_refl _) (Nat.le_refl _) ?_
        obtain ⟨k1, k2⟩ := tk_2 (p := p) (by rw [hfm]; exact hd0)
        rw [hfm, hbx] at k1 k2
        have k4 : ¬ 1000 ≤ tkF tb ts p := fun z => absurd (Int32.le_trans z (by rw [k1]; exact wt_le _ _)) (by decide)
        have k3 : mtF (tkF tb ts p) = 119 := by
          rw [k1]
          exact wt_some c_171.2 (by omega) (by omega)
        refine ⟨_, rfl, fun a k z => ?_, ?_, ?_, fun _ => ?_, fun z => absurd z k4⟩
        · rw [e_Iq1, u2_ne (by omega)]
          exact hfx a k z
        · rw [e_Iq1, u2_ne (by omega), hfm]
          exact h16
        · rw [e_Iq1, u2_same, k3]
        · rw [e_Iq1, u2_ne (by omega), k2]
          exact h17
      · refine x_aload_n dX8_next_174 1 rfl rfl ?_
        refine x_ldcS (i := 3) (tx := "worth") dX8_next_175 (by decide +kernel) ?_
        refine x_callV (k_misWord (G := G) (I := Iq1) hsh hrf (ht.fx (fun a k z => by rw [e_Iq1, u2_ne (by omega)]; exact hfx a k z)) (i := 3) (by decide) (by rw [e_Iq1, u2_ne (by omega)]; exact h16) (by rw [e_Iq1, u2_ne (by omega)]; exact h17) hx1 hx2) dX8_next_177 crc_X8_isWord vc_8_136 z0 rfl rfl rfl rfl (Nat.le_of_ble_eq_true rfl) (roomy_k (by omega) (by decide)) (Nat.le_refl _) (Nat.le_refl _) ?_
        rintro _ _ ⟨_, rfl, rfl, rfl⟩
        refine x_if_neB (tgt := 367) dX8_next_180 (by decide) (fun c_180 => ?_) (fun c_180 => ?_)
        · refine x_vret dX8_next_367 rfl (Nat.le_refl _) (Nat.le_refl _) ?_
          obtain ⟨k1, k2⟩ := tk_2 (p := p) (by rw [hfm]; exact hd0)
          rw [hfm, hbx] at k1 k2
          have k4 : ¬ 1000 ≤ tkF tb ts p := fun z => absurd (Int32.le_trans z (by rw [k1]; exact wt_le _ _)) (by decide)
          have k3 : mtF (tkF tb ts p) = 119 := by
            rw [k1]
            exact wt_some c_180.2 (by omega) (by omega)
          refine ⟨_, rfl, fun a k z => ?_, ?_, ?_, fun _ => ?_, fun z => absurd z k4⟩
          · rw [e_Iq1, u2_ne (by omega)]
            exact hfx a k z
          · rw [e_Iq1, u2_ne (by omega), hfm]
            exact h16
          · rw [e_Iq1, u2_same, k3]
          · rw [e_Iq1, u2_ne (by omega), k2]
            exact h17
        · refine x_aload_n dX8_next_183 1 rfl rfl ?_
          refine x_ldcS (i := 4) (tx := "or") dX8_next_184 (by decide +kernel) ?_
          refine x_callV (k_misWord (G := G) (I := Iq1) hsh hrf (ht.fx (fun a k z => by rw [e_Iq1, u2_ne (by omega)]; exact hfx a k z)) (i := 4) (by decide) (by rw [e_Iq1, u2_ne (by omega)]; exact h16) (by rw [e_Iq1, u2_ne (by omega)]; exact h17) hx1 hx2) dX8_next_186 crc_X8_isWord vc_8_136 z0 rfl rfl rfl rfl (Nat.le_of_ble_eq_true rfl) (roomy_k (by omega) (by decide)) (Nat.le_refl _) (Nat.le_refl _) ?_
          rintro _ _ ⟨_, rfl, rfl, rfl⟩
          refine x_if_neB (tgt := 367) dX8_next_189 (by decide) (fun c_189 => ?_) (fun c_189 => ?_)
          · refine x_vret dX8_next_367 rfl (Nat.le_refl _) (Nat.le_refl _) ?_
            obtain ⟨k1, k2⟩ := tk_2 (p := p) (by rw [hfm]; exact hd0)
            rw [hfm, hbx] at k1 k2
            have k4 : ¬ 1000 ≤ tkF tb ts p := fun z => absurd (Int32.le_trans z (by rw [k1]; exact wt_le _ _)) (by decide)
            have k3 : mtF (tkF tb ts p) = 119 := by
              rw [k1]
              exact wt_some c_189.2 (by omega) (by omega)
            refine ⟨_, rfl, fun a k z => ?_, ?_, ?_, fun _ => ?_, fun z => absurd z k4⟩
            · rw [e_Iq1, u2_ne (by omega)]
              exact hfx a k z
            · rw [e_Iq1, u2_ne (by omega), hfm]
              exact h16
            · rw [e_Iq1, u2_same, k3]
            · rw [e_Iq1, u2_ne (by omega), k2]
              exact h17
          · refine x_aload_n dX8_next_192 1 rfl rfl ?_
            refine x_ldcS (i := 5) (tx := "and") dX8_next_193 (by decide +kernel) ?_
            refine x_callV (k_misWord (G := G) (I := Iq1) hsh hrf (ht.fx (fun a k z => by rw [e_Iq1, u2_ne (by omega)]; exact hfx a k z)) (i := 5) (by decide) (by rw [e_Iq1, u2_ne (by omega)]; exact h16) (by rw [e_Iq1, u2_ne (by omega)]; exact h17) hx1 hx2) dX8_next_195 crc_X8_isWord vc_8_136 z0 rfl rfl rfl rfl (Nat.le_of_ble_eq_true rfl) (roomy_k (by omega) (by decide)) (Nat.le_refl _) (Nat.le_refl _) ?_
            rintro _ _ ⟨_, rfl, rfl, rfl⟩
            refine x_if_neB (tgt := 367) dX8_next_198 (by decide) (fun c_198 => ?_) (fun c_198 => ?_)
            · refine x_vret dX8_next_367 rfl (Nat.le_refl _) (Nat.le_refl _) ?_
              obtain ⟨k1, k2⟩ := tk_2 (p := p) (by rw [hfm]; exact hd0)
              rw [hfm, hbx] at k1 k2
              have k4 : ¬ 1000 ≤ tkF tb ts p := fun z => absurd (Int32.le_trans z (by rw [k1]; exact wt_le _ _)) (by decide)
              have k3 : mtF (tkF tb ts p) = 119 := by
                rw [k1]
                exact wt_some c_198.2 (by omega) (by omega)
              refine ⟨_, rfl, fun a k z => ?_, ?_, ?_, fun _ => ?_, fun z => absurd z k4⟩
              · rw [e_Iq1, u2_ne (by omega)]
                exact hfx a k z
              · rw [e_Iq1, u2_ne (by omega), hfm]
                exact h16
              · rw [e_Iq1, u2_same, k3]
              · rw [e_Iq1, u2_ne (by omega), k2]
                exact h17
            · refine x_aload_n dX8_next_201 1 rfl rfl ?_
              refine x_ldcS (i := 6) (tx := "not") dX8_next_202 (by decide +kernel) ?_
              refine x_callV (k_misWord (G := G) (I := Iq1) hsh hrf (ht.fx (fun a k z => by rw [e_Iq1, u2_ne (by omega)]; exact hfx a k z)) (i := 6) (by decide) (by rw [e_Iq1, u2_ne (by omega)]; exact h16) (by rw [e_Iq1, u2_ne (by omega)]; exact h17) hx1 hx2) dX8_next_204 crc_X8_isWord vc_8_136 z0 rfl rfl rfl rfl (Nat.le_of_ble_eq_true rfl) (roomy_k (by omega) (by decide)) (Nat.le_refl _) (Nat.le_refl _) ?_
              rintro _ _ ⟨_, rfl, rfl, rfl⟩
              refine x_if_neB (tgt := 367) dX8_next_207 (by decide) (fun c_207 => ?_) (fun c_207 => ?_)
              · refine x_vret dX8_next_367 rfl (Nat.le_refl _) (Nat.le_refl _) ?_
                obtain ⟨k1, k2⟩ := tk_2 (p := p) (by rw [hfm]; exact hd0)
                rw [hfm, hbx] at k1 k2
                have k4 : ¬ 1000 ≤ tkF tb ts p := fun z => absurd (Int32.le_trans z (by rw [k1]; exact wt_le _ _)) (by decide)
                have k3 : mtF (tkF tb ts p) = 119 := by
                  rw [k1]
                  exact wt_some c_207.2 (by omega) (by omega)
                refine ⟨_, rfl, fun a k z => ?_, ?_, ?_, fun _ => ?_, fun z => absurd z k4⟩
                · rw [e_Iq1, u2_ne (by omega)]
                  exact hfx a k z
                · rw [e_Iq1, u2_ne (by omega), hfm]
                  exact h16
                · rw [e_Iq1, u2_same, k3]
                · rw [e_Iq1, u2_ne (by omega), k2]
                  exact h17
              · refine x_aload_n dX8_next_210 1 rfl rfl ?_
                refine x_bipush (v := 120) dX8_next_211 (by decide) ?_
                refine x_pI dX8_next_213 fl_8_117 rfl rfl rfl z0 (fun Iq2 e_Iq2 => ?_)
                refine x_goto (tgt := 367) dX8_next_216 (by decide) ?_
                refine x_vret dX8_next_367 rfl (Nat.le_refl _) (Nat.le_refl _) ?_
                obtain ⟨k1, k2⟩ := tk_2 (p := p) (by rw [hfm]; exact hd0)
                rw [hfm, hbx] at k1 k2
                have k4 : ¬ 1000 ≤ tkF tb ts p := fun z => absurd (Int32.le_trans z (by rw [k1]; exact wt_le _ _)) (by decide)
                have h119 : Iq1 m 18 = 119 := by rw [e_Iq1, u2_same]
                have k3 : tkF tb ts p = 2 := by
                  rw [k1]
                  refine wt_none (fun i h1 h2 y => ?_)
                  rcases hr with ⟨j, q1, q2, q3, _⟩ | ⟨_, z⟩
                  · rw [q3] at c_153
                    exact nI_pos (n := j) (by omega) (by rw [c_153]; decide)
                  · by_cases h7 : 7 ≤ i
                    · exact z (i - 7) (by omega) (by omega) (by rw [show 7 + (i - 7) = i by omega]; exact y)
                    · have hc : i = 1 ∨ i = 2 ∨ i = 3 ∨ i = 4 ∨ i = 5 ∨ i = 6 := by omega
                      rcases hc with rfl | rfl | rfl | rfl | rfl | rfl
                      · exact c_162 ⟨h119, y⟩
                      · exact c_171 ⟨h119, y⟩
                      · exact c_180 ⟨h119, y⟩
                      · exact c_189 ⟨h119, y⟩
                      · exact c_198 ⟨h119, y⟩
                      · exact c_207 ⟨h119, y⟩
                refine ⟨_, rfl, fun a k z => ?_, ?_, ?_, fun z => absurd (Or.inr k3) z, fun z => absurd z k4⟩
                · rw [e_Iq2, u2_ne (by omega), e_Iq1, u2_ne (by omega)]
                  exact hfx a k z
                · rw [e_Iq2, u2_ne (by omega), e_Iq1, u2_ne (by omega), hfm]
                  exact h16
                · rw [e_Iq2, u2_same, k3]
                  rfl

set_option maxHeartbeats 4000000 in
set_option maxRecDepth 100000 in
theorem k_next_w {G : GG} {Sh : HS} {I : HI} {R : HR} {m ts : Nat} {tb : Nat → Int32} (hsh : MSh Sh m) (hrf : MRf R m) (ht : TPm m ts tb I) {p : Nat} (hp : p ≤ ts) {f : Nat} (hfm : fmF tb ts p = f) (hfl : f < ts) {c : Int32} (hc : c = tb f) (hd0 : srF (byF tb ts f) = 2) : ∀ (m9 : Nat) (x : Nat) (J : HI), (f ≤ x) → (x ≤ ts) → (ts < x + m9) → (frX m I J) → (J m 16 = nI f) → (J m 17 = nI x) → (behF tb ts 2 x = behF tb ts 2 f) → X G (kM G 7 0 0 (qv fun g => ∃ J : HI, g = (Sh, J, R) ∧ frX m I J ∧ TOK tb ts m p J)) yX8_next cX8_next 2 none 0 0 103 [(1, .int c), (0, .ref m)] [] (Sh, J, R) := by
  intro m9
  induction m9 with
  | zero =>
    intro x J hx1 hx2 hm hfx h16 h17 hbeh
    exact absurd hm (by omega)
  | succ m9 ih =>
    intro x J hx1 hx2 hm hfx h16 h17 hbeh
    obtain ⟨ht9, hts, htb, hby⟩ := id ht
    obtain ⟨z0, z1, z6, z7, z8, z9, z10, z11, z12, z13, z14, z15, z16, z17⟩ := id hsh
    obtain ⟨y1, y6, y7, y8, y9, y10, y11, y12, y13, y14, y15, y16, y17⟩ := id hrf
    refine x_aload_n dX8_next_103 1 rfl rfl ?_
    refine x_gI (v := nI x) dX8_next_104 fl_8_120 rfl z0 h17 ?_
    refine x_aload_n dX8_next_107 1 rfl rfl ?_
    refine x_gI (v := nI ts) dX8_next_108 fl_8_72 rfl z0 ((ht.fx hfx).1) ?_
    refine x_icmp_ge (tgt := 142) dX8_next_111 (by decide) (fun c_111 => ?_) (fun c_111 => ?_)
    · have c_111 : ts ≤ x := (nI_leI (a := ts) (b := x) (by omega) (by omega)).mp c_111
      refine x_sub [0, 1] rfl ?_
      exact k_next_w2 hsh hrf ht hp hfm hfl hc hx1 hx2 hfx h16 h17 hd0 (by
        rw [← hbeh]
        exact beh_no (fun z => absurd z (by omega)))
    · have c_111 : ¬ ts ≤ x := fun zz9 => c_111 ((nI_leI (a := ts) (b := x) (by omega) (by omega)).mpr zz9)
      refine x_aload_n dX8_next_114 1 rfl rfl ?_
      refine x_gR (b := m + 6) dX8_next_115 fl_8_25 rfl z0 y6 ?_
      refine x_aload_n dX8_next_118 1 rfl rfl ?_
      refine x_gI (v := nI x) dX8_next_119 fl_8_120 rfl z0 h17 ?_
      refine x_ia (j := x) (v := tb x) dX8_next_122 z6 rfl (by omega) (by omega) ((ht.fx hfx).2.2.1 x (by omega)) ?_
      refine x_callS (rest := []) (k_misLetter (G := G) (Sh := Sh) (I := J) (R := R) (c := tb x)) dX8_next_123 crc_X8_isLetter sc_8_140 rfl rfl (Nat.le_of_ble_eq_true rfl) (roomy_k (by omega) (by decide)) (Nat.le_refl _) (Nat.le_refl _) ?_
      rintro _ _ ⟨_, rfl, rfl, rfl⟩
      refine x_if_eqB (tgt := 142) dX8_next_126 (by decide) (fun c_126 => ?_) (fun c_126 => ?_)
      · refine x_sub [0, 1] rfl ?_
        exact k_next_w2 hsh hrf ht hp hfm hfl hc hx1 hx2 hfx h16 h17 hd0 (by
          rw [← hbeh]
          exact beh_no (fun z y => c_126 (((sr_by ht z).2.2.1.mp y))))
      · refine x_aload_n dX8_next_129 1 rfl rfl ?_
        refine x_dup dX8_next_130 rfl ?_
        refine x_gI (v := nI x) dX8_next_131 fl_8_120 rfl z0 h17 ?_
        refine x_iconst (v := nI 1) dX8_next_134 (by decide) ?_
        refine x_iadd dX8_next_135 ?_
        refine x_vali (nI_add x 1) ?_
        refine x_pI dX8_next_136 fl_8_120 rfl rfl rfl z0 (fun Iq1 e_Iq1 => ?_)
        refine x_goto (tgt := 103) dX8_next_139 (by decide) ?_
        refine x_sub [0, 1] rfl ?_
        have hdx : srF (byF tb ts x) = 2 := (sr_by ht (by omega)).2.2.1.mpr c_126
        exact ih (x + 1) Iq1 (by omega) (by omega) (by omega) (fun a k z => by rw [e_Iq1, u2_ne (by omega)]; exact hfx a k z) (by rw [e_Iq1, u2_ne (by omega)]; exact h16) (by rw [e_Iq1, u2_same]) (by rw [← beh_go (by omega) hdx]; exact hbeh)

set_option maxHeartbeats 4000000 in
set_option maxRecDepth 100000 in
theorem k_next_b {G : GG} {Sh : HS} {I : HI} {R : HR} {m ts : Nat} {tb : Nat → Int32} (hsh : MSh Sh m) (hrf : MRf R m) (ht : TPm m ts tb I) {p : Nat} (hp : p ≤ ts) {f : Nat} (hfm : fmF tb ts p = f) (hfts : f ≤ ts) {J : HI} (hfx : frX m I J) (h16 : J m 16 = nI f) : X G (kM G 7 0 0 (qv fun g => ∃ J : HI, g = (Sh, J, R) ∧ frX m I J ∧ TOK tb ts m p J)) yX8_next cX8_next 2 none 0 0 60 [(0, .ref m)] [] (Sh, J, R) := by
  obtain ⟨ht9, hts, htb, hby⟩ := id ht
  obtain ⟨z0, z1, z6, z7, z8, z9, z10, z11, z12, z13, z14, z15, z16, z17⟩ := id hsh
  obtain ⟨y1, y6, y7, y8, y9, y10, y11, y12, y13, y14, y15, y16, y17⟩ := id hrf
  refine x_aload_n dX8_next_60 0 rfl rfl ?_
  refine x_aload_n dX8_next_61 0 rfl rfl ?_
  refine x_gI (v := nI f) dX8_next_62 fl_8_123 rfl z0 h16 ?_
  refine x_pI dX8_next_65 fl_8_120 rfl rfl rfl z0 (fun Iq1 e_Iq1 => ?_)
  refine x_aload_n dX8_next_68 0 rfl rfl ?_
  refine x_gI (v := nI f) dX8_next_69 fl_8_123 rfl z0 (by rw [e_Iq1, u2_ne (by omega)]; exact h16) ?_
  refine x_aload_n dX8_next_72 0 rfl rfl ?_
  refine x_gI (v := nI ts) dX8_next_73 fl_8_72 rfl z0 (by rw [e_Iq1, u2_ne (by omega)]; exact (ht.fx hfx).1) ?_
  refine x_icmp_ne (tgt := 86) dX8_next_76 (by decide) (fun c_76 => ?_) (fun c_76 => ?_)
  · have c_76 : ¬ f = ts := fun zz9 => c_76 ((nI_eq (a := f) (b := ts) (by omega) (by omega)).mpr zz9)
    have hfl : f < ts := by omega
    refine x_aload_n dX8_next_86 0 rfl rfl ?_
    refine x_gR (b := m + 6) dX8_next_87 fl_8_25 rfl z0 y6 ?_
    refine x_aload_n dX8_next_90 0 rfl rfl ?_
    refine x_gI (v := nI f) dX8_next_91 fl_8_123 rfl z0 (by rw [e_Iq1, u2_ne (by omega)]; exact h16) ?_
    refine x_ia (j := f) (v := tb f) dX8_next_94 z6 rfl (by omega) (by omega) (by rw [e_Iq1, u2_ne (by omega)]; exact (ht.fx hfx).2.2.1 f (by omega)) ?_
    refine x_topi (fun c e_c => ?_)
    refine x_istore_n (lv' := [(1, .int c), (0, .ref m)]) dX8_next_95 rfl (by decide) rfl ?_
    refine x_iload_n dX8_next_96 0 rfl rfl ?_
    refine x_callS (rest := []) (k_misLetter (G := G) (Sh := Sh) (I := Iq1) (R := R) (c := c)) dX8_next_97 crc_X8_isLetter sc_8_140 rfl rfl (Nat.le_of_ble_eq_true rfl) (roomy_k (by omega) (by decide)) (Nat.le_refl _) (Nat.le_refl _) ?_
    rintro _ _ ⟨_, rfl, rfl, rfl⟩
    refine x_if_eqB (tgt := 219) dX8_next_100 (by decide) (fun c_100 => ?_) (fun c_100 => ?_)
    · refine x_iload_n dX8_next_219 0 rfl rfl ?_
      refine x_callS (rest := []) (k_misDigit (G := G) (Sh := Sh) (I := Iq1) (R := R) (c := c)) dX8_next_220 crc_X8_isDigit sc_8_158 rfl rfl (Nat.le_of_ble_eq_true rfl) (roomy_k (by omega) (by decide)) (Nat.le_refl _) (Nat.le_refl _) ?_
      rintro _ _ ⟨_, rfl, rfl, rfl⟩
      refine x_if_eqB (tgt := 334) dX8_next_223 (by decide) (fun c_223 => ?_) (fun c_223 => ?_)
      · refine x_sub [0, 1] rfl ?_
        exact k_next_s hsh hrf ht hp hfm hfl e_c (fun a k z => by rw [e_Iq1, u2_ne (by omega)]; exact hfx a k z) (by rw [e_Iq1, u2_ne (by omega)]; exact h16) (by rw [e_Iq1, u2_same]) c_100 c_223
      · refine x_aload_n dX8_next_226 1 rfl rfl ?_
        refine x_iconst (v := 0) dX8_next_227 (by decide) ?_
        refine x_pI dX8_next_228 fl_8_161 rfl rfl rfl z0 (fun Iq2 e_Iq2 => ?_)
        refine x_sub [0, 1] rfl ?_
        exact k_next_n hsh hrf ht hp hfm hfl e_c ((sr_by ht hfl).2.1.mpr (by rw [← e_c]; exact c_223)) (ts + 1) f Iq2 (by omega) (by omega) (by omega) (fun a k z => by rw [e_Iq2, u2_ne (by omega), e_Iq1, u2_ne (by omega)]; exact hfx a k z) (by rw [e_Iq2, u2_ne (by omega), e_Iq1, u2_ne (by omega)]; exact h16) (by rw [e_Iq2, u2_ne (by omega), e_Iq1, u2_same]) (by rw [e_Iq2, u2_same, Nat.sub_self]; rfl) (fun j h1 h2 => absurd h1 (by omega)) rfl
    · refine x_sub [0, 1] rfl ?_
      exact k_next_w hsh hrf ht hp hfm hfl e_c ((sr_by ht hfl).2.2.1.mpr (by rw [← e_c]; exact c_100)) (ts + 1) f Iq1 (by omega) (by omega) (by omega) (fun a k z => by rw [e_Iq1, u2_ne (by omega)]; exact hfx a k z) (by rw [e_Iq1, u2_ne (by omega)]; exact h16) (by rw [e_Iq1, u2_same]) rfl
  · have c_76 : f = ts := (nI_eq (a := f) (b := ts) (by omega) (by omega)).mp c_76
    refine x_aload_n dX8_next_79 0 rfl rfl ?_
    refine x_bipush (v := 101) dX8_next_80 (by decide) ?_
    refine x_pI dX8_next_82 fl_8_117 rfl rfl rfl z0 (fun Iq3 e_Iq3 => ?_)
    refine x_vret dX8_next_85 rfl (Nat.le_refl _) (Nat.le_refl _) ?_
    have k1 := tk_e (tb := tb) (ts := ts) (p := p) (by rw [hfm]; omega)
    refine ⟨_, rfl, fun a k z => ?_, ?_, ?_, fun z => absurd (Or.inl k1) z, fun z => ?_⟩
    · rw [e_Iq3, u2_ne (by omega), e_Iq1, u2_ne (by omega)]
      exact hfx a k z
    · rw [e_Iq3, u2_ne (by omega), e_Iq1, u2_ne (by omega), hfm]
      exact h16
    · rw [e_Iq3, u2_same, k1]
      rfl
    · rw [k1] at z
      exact absurd z (by decide)

set_option maxHeartbeats 4000000 in
set_option maxRecDepth 100000 in
theorem k_next_a {G : GG} {Sh : HS} {I : HI} {R : HR} {m ts : Nat} {tb : Nat → Int32} (hsh : MSh Sh m) (hrf : MRf R m) (ht : TPm m ts tb I) {p : Nat} (hp : p ≤ ts) : ∀ (m9 : Nat) (x : Nat) (J : HI), (x ≤ ts) → (ts < x + m9) → (frX m I J) → (J m 16 = nI x) → (behF tb ts 0 x = behF tb ts 0 p) → X G (kM G 7 0 0 (qv fun g => ∃ J : HI, g = (Sh, J, R) ∧ frX m I J ∧ TOK tb ts m p J)) yX8_next cX8_next 2 none 0 0 8 [(0, .ref m)] [] (Sh, J, R) := by
  intro m9
  induction m9 with
  | zero =>
    intro x J hx2 hm hfx h16 hbeh
    exact absurd hm (by omega)
  | succ m9 ih =>
    intro x J hx2 hm hfx h16 hbeh
    obtain ⟨ht9, hts, htb, hby⟩ := id ht
    obtain ⟨z0, z1, z6, z7, z8, z9, z10, z11, z12, z13, z14, z15, z16, z17⟩ := id hsh
    obtain ⟨y1, y6, y7, y8, y9, y10, y11, y12, y13, y14, y15, y16, y17⟩ := id hrf
    refine x_aload_n dX8_next_8 0 rfl rfl ?_
    refine x_gI (v := nI x) dX8_next_9 fl_8_123 rfl z0 h16 ?_
    refine x_aload_n dX8_next_12 0 rfl rfl ?_
    refine x_gI (v := nI ts) dX8_next_13 fl_8_72 rfl z0 ((ht.fx hfx).1) ?_
    refine x_icmp_ge (tgt := 60) dX8_next_16 (by decide) (fun c_16 => ?_) (fun c_16 => ?_)
    · have c_16 : ts ≤ x := (nI_leI (a := ts) (b := x) (by omega) (by omega)).mp c_16
      exact k_next_b hsh hrf ht hp (by
        show behF tb ts 0 p = x
        rw [← hbeh]
        exact beh_no (fun z => absurd z (by omega))) hx2 hfx h16
    · have c_16 : ¬ ts ≤ x := fun zz9 => c_16 ((nI_leI (a := ts) (b := x) (by omega) (by omega)).mpr zz9)
      refine x_aload_n dX8_next_19 0 rfl rfl ?_
      refine x_gR (b := m + 6) dX8_next_20 fl_8_25 rfl z0 y6 ?_
      refine x_aload_n dX8_next_23 0 rfl rfl ?_
      refine x_gI (v := nI x) dX8_next_24 fl_8_123 rfl z0 h16 ?_
      refine x_ia (j := x) (v := tb x) dX8_next_27 z6 rfl (by omega) (by omega) ((ht.fx hfx).2.2.1 x (by omega)) ?_
      refine x_bipush (v := 32) dX8_next_28 (by decide) ?_
      refine x_icmp_eq (tgt := 47) dX8_next_30 (by decide) (fun c_30 => ?_) (fun c_30 => ?_)
      · refine x_aload_n dX8_next_47 0 rfl rfl ?_
        refine x_dup dX8_next_48 rfl ?_
        refine x_gI (v := nI x) dX8_next_49 fl_8_123 rfl z0 h16 ?_
        refine x_iconst (v := nI 1) dX8_next_52 (by decide) ?_
        refine x_iadd dX8_next_53 ?_
        refine x_vali (nI_add x 1) ?_
        refine x_pI dX8_next_54 fl_8_123 rfl rfl rfl z0 (fun Iq1 e_Iq1 => ?_)
        refine x_goto (tgt := 8) dX8_next_57 (by decide) ?_
        refine x_sub [0] rfl ?_
        have hdx : srF (byF tb ts x) = 0 := (sr_by ht (by omega)).1.mpr (Or.inl c_30)
        exact ih (x + 1) Iq1 (by omega) (by omega) (fun a k z => by rw [e_Iq1, u2_ne (by omega)]; exact hfx a k z) (by rw [e_Iq1, u2_same]) (by rw [← beh_go (by omega) hdx]; exact hbeh)
      · refine x_aload_n dX8_next_33 0 rfl rfl ?_
        refine x_gR (b := m + 6) dX8_next_34 fl_8_25 rfl z0 y6 ?_
        refine x_aload_n dX8_next_37 0 rfl rfl ?_
        refine x_gI (v := nI x) dX8_next_38 fl_8_123 rfl z0 h16 ?_
        refine x_ia (j := x) (v := tb x) dX8_next_41 z6 rfl (by omega) (by omega) ((ht.fx hfx).2.2.1 x (by omega)) ?_
        refine x_bipush (v := 10) dX8_next_42 (by decide) ?_
        refine x_icmp_ne (tgt := 60) dX8_next_44 (by decide) (fun c_44 => ?_) (fun c_44 => ?_)
        · exact k_next_b hsh hrf ht hp (by
            show behF tb ts 0 p = x
            rw [← hbeh]
            exact beh_no (fun z y => ((sr_by ht z).1.mp y).elim (fun q => c_30 q) (fun q => c_44 q))) hx2 hfx h16
        · refine x_aload_n dX8_next_47 0 rfl rfl ?_
          refine x_dup dX8_next_48 rfl ?_
          refine x_gI (v := nI x) dX8_next_49 fl_8_123 rfl z0 h16 ?_
          refine x_iconst (v := nI 1) dX8_next_52 (by decide) ?_
          refine x_iadd dX8_next_53 ?_
          refine x_vali (nI_add x 1) ?_
          refine x_pI dX8_next_54 fl_8_123 rfl rfl rfl z0 (fun Iq2 e_Iq2 => ?_)
          refine x_goto (tgt := 8) dX8_next_57 (by decide) ?_
          refine x_sub [0] rfl ?_
          have hdx : srF (byF tb ts x) = 0 := (sr_by ht (by omega)).1.mpr (Or.inr c_44)
          exact ih (x + 1) Iq2 (by omega) (by omega) (fun a k z => by rw [e_Iq2, u2_ne (by omega)]; exact hfx a k z) (by rw [e_Iq2, u2_same]) (by rw [← beh_go (by omega) hdx]; exact hbeh)

set_option maxHeartbeats 4000000 in
set_option maxRecDepth 100000 in
theorem k_next {G : GG} {Sh : HS} {I : HI} {R : HR} {m ts : Nat} {tb : Nat → Int32} (hsh : MSh Sh m) (hrf : MRf R m) (ht : TPm m ts tb I) {p : Nat} (hp : p ≤ ts) (h17 : I m 17 = nI p) : AM G 7 0 0 yX8_next cX8_next 2 none [.ref m] (Sh, I, R) (qv fun g => ∃ J : HI, g = (Sh, J, R) ∧ frX m I J ∧ TOK tb ts m p J) := by
  obtain ⟨ht9, hts, htb, hby⟩ := id ht
  obtain ⟨z0, z1, z6, z7, z8, z9, z10, z11, z12, z13, z14, z15, z16, z17⟩ := id hsh
  obtain ⟨y1, y6, y7, y8, y9, y10, y11, y12, y13, y14, y15, y16, y17⟩ := id hrf
  refine am_intro (by decide) (Nat.le_of_ble_eq_true rfl) ?_
  refine x_aload_n dX8_next_0 0 rfl rfl ?_
  refine x_aload_n dX8_next_1 0 rfl rfl ?_
  refine x_gI (v := nI p) dX8_next_2 fl_8_120 rfl z0 h17 ?_
  refine x_pI dX8_next_5 fl_8_123 rfl rfl rfl z0 (fun Iq1 e_Iq1 => ?_)
  exact k_next_a hsh hrf ht hp (ts + 1) p Iq1 hp (by omega) (fun a k z => by rw [e_Iq1, u2_ne (by omega)]) (by rw [e_Iq1, u2_same]) rfl

