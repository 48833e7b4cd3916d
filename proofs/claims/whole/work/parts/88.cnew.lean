/-! A NEW SYSTEM -/
theorem Lay.sh {T : LTB} {b m f n : Nat} {B : HI} {S0 : AH} {Sh : HS} {I : HI} {R : HR} (h : Lay T b m f n B S0 Sh I R) {a j : Nat} {q : Nat × Nat} (ha : a = b + j) (hj : j < m) (ht : T.1 j = q) : Sh.2 a = q := by
  rw [ha, h.2.1 j hj, ht]
theorem Lay.rf {T : LTB} {b m f n : Nat} {B : HI} {S0 : AH} {Sh : HS} {I : HI} {R : HR} (h : Lay T b m f n B S0 Sh I R) {a i ja k jv c : Nat} (hi : i < f) (ht : T.2.1 i = (ja, k, jv)) (ha : a = b + ja) (hc : c = b + jv) : R a k = some c := by
  have := h.2.2.1 i hi
  rw [ht] at this
  rw [ha, hc]
  exact this
def sg0 : SG := ((0, (fun _ _ => 0, 0, 0), 0), (0, fun _ _ => []), (kTn 0, kC 0), none, fun _ => (-1, 0, fun _ => 0))
def sgI (P : Nat → List Int32) : SG := newT sg0 P
theorem ca_1 : ∀ t, t < 6 → ccT2.1 (8 + 3 * t) = (6, 7) ∧ ccT2.1 (9 + 3 * t) = (9, 160) ∧ ccT2.1 (10 + 3 * t) = (9, 40) := by decide +kernel
theorem ca_2 : ∀ s, s < 4 → ccT2.1 (26 + 2 * s) = (3, 3) ∧ ccT2.1 (27 + 2 * s) = (9, 40) := by decide +kernel
theorem ca_3 : ∀ i, i < 8 → ccT2.1 (36 + i) = (0, 6) ∧ ccT2.1 (46 + i) = (0, 6) ∧ ccT2.1 (56 + i) = (0, 6) := by decide +kernel
theorem ca_4 : ∀ r, r < 3 → ccT2.1 (66 + r) = (9, 8) := by decide +kernel
theorem cb_1 : ∀ t, t < 6 → ccT2.2.1 (8 + 3 * t) = (8 + 3 * t, 1, 9 + 3 * t) ∧ ccT2.2.1 (9 + 3 * t) = (8 + 3 * t, 5, 10 + 3 * t) ∧ ccT2.2.1 (10 + 3 * t) = (6, t, 8 + 3 * t) := by decide +kernel
theorem cb_2 : ∀ s, s < 4 → ccT2.2.1 (26 + 2 * s) = (26 + 2 * s, 0, 27 + 2 * s) ∧ ccT2.2.1 (27 + 2 * s) = (7, s, 26 + 2 * s) := by decide +kernel
theorem cb_3 : ∀ i, i < 8 → ccT2.2.1 (36 + i) = (35, i, 36 + i) ∧ ccT2.2.1 (47 + i) = (45, i, 46 + i) ∧ ccT2.2.1 (58 + i) = (55, i, 56 + i) := by decide +kernel
theorem cb_4 : ∀ r, r < 3 → ccT2.2.1 (67 + r) = (65, r, 66 + r) := by decide +kernel
theorem ce_1 : ∀ t, t < 6 → ∀ k, k = 0 → IV ccT (fun _ _ => 0) 10 (8 + 3 * t) k = nI t := by
  intro t ht k hk
  subst hk
  revert t
  decide +kernel
theorem ce_2 : ∀ s, s < 4 → IV ccT (fun _ _ => 0) 10 (26 + 2 * s) 1 = -1 ∧ IV ccT (fun _ _ => 0) 10 (26 + 2 * s) 2 = 0 := by decide +kernel
theorem ce_3 : ∀ s, s < 4 → ∀ j, j < 40 → IV ccT (fun _ _ => 0) 10 (27 + 2 * s) j = 0 := by decide +kernel

theorem ci_CI {b : Nat} {B : HI} {S0 : AH} {Sh : HS} {I : HI} {R : HR} {P : Nat → List Int32} (h : Lay ccT2 b 69 73 1 B S0 Sh I R) (hx : TX (fun a k => B (a - b) k) (b + 8) P) (h1 : B 1 1 = 0) (h2 : B 0 7 = 0) (h3 : ∀ t, t < 6 → B (8 + 3 * t) 0 = nI t) (h4 : ∀ s, s < 4 → B (26 + 2 * s) 1 = -1 ∧ B (26 + 2 * s) 2 = 0) (h5 : ∀ s, s < 4 → ∀ j, j < 40 → B (27 + 2 * s) j = 0) (h6 : ∀ j, 34 ≤ j → ∀ k, B j k = 0) : CI b Sh I R (sgI P) := by
  have v : ∀ j k, j < 69 → ¬ (j = 0 ∧ k = 3) → I (b + j) k = B j k := fun j k hj hn => (h.2.2.2.1 j hj k).trans (if_neg (show ¬ (0 = j ∧ 3 = k) by omega))
  refine ⟨⟨(h.sh (j := 0) rfl (by decide) rfl), (h.sh (j := 1) rfl (by decide) rfl), (h.sh (j := 2) rfl (by decide) rfl), (h.sh (j := 3) rfl (by decide) rfl), (h.sh (j := 4) rfl (by decide) rfl), (h.sh (j := 5) rfl (by decide) rfl), (h.sh (j := 6) rfl (by decide) rfl), (h.sh (j := 7) rfl (by decide) rfl), fun t ht => ⟨h.sh (j := 8 + 3 * t) (by omega) (by omega) (ca_1 t ht).1, h.sh (j := 9 + 3 * t) (by omega) (by omega) (ca_1 t ht).2.1, h.sh (j := 10 + 3 * t) (by omega) (by omega) (ca_1 t ht).2.2⟩, fun s hs => ⟨h.sh (j := 26 + 2 * s) (by omega) (by omega) (ca_2 s hs).1, h.sh (j := 27 + 2 * s) (by omega) (by omega) (ca_2 s hs).2⟩, ⟨(h.sh (j := 34) rfl (by decide) rfl), (h.sh (j := 35) rfl (by decide) rfl), fun i hi => h.sh (j := 36 + i) (by omega) (by omega) (ca_3 i hi).1⟩, ⟨(h.sh (j := 44) rfl (by decide) rfl), (h.sh (j := 45) rfl (by decide) rfl), fun i hi => h.sh (j := 46 + i) (by omega) (by omega) (ca_3 i hi).2.1⟩, ⟨(h.sh (j := 54) rfl (by decide) rfl), (h.sh (j := 55) rfl (by decide) rfl), fun i hi => h.sh (j := 56 + i) (by omega) (by omega) (ca_3 i hi).2.2⟩, (h.sh (j := 64) rfl (by decide) rfl), (h.sh (j := 65) rfl (by decide) rfl), fun r hr => h.sh (j := 66 + r) (by omega) (by omega) (ca_4 r hr)⟩, ?_, ?_, ?_, ?_, ?_, ?_⟩
  · exact ⟨(h.rf (i := 3) (by decide) rfl rfl rfl), (h.rf (i := 5) (by decide) rfl rfl rfl), (h.rf (i := 6) (by decide) rfl rfl rfl), (h.rf (i := 44) (by decide) rfl rfl rfl), (h.rf (i := 55) (by decide) rfl rfl rfl), (h.rf (i := 66) (by decide) rfl rfl rfl), (h.rf (i := 72) (by decide) rfl rfl rfl), (h.rf (i := 7) (by decide) rfl rfl rfl), (h.rf (i := 0) (by decide) rfl rfl rfl), (h.rf (i := 1) (by decide) rfl rfl rfl), (h.rf (i := 2) (by decide) rfl rfl rfl), (h.rf (i := 4) (by decide) rfl rfl rfl), fun t ht => h.rf (i := 10 + 3 * t) (by omega) (cb_1 t ht).2.2 rfl (by omega), fun s hs => h.rf (i := 27 + 2 * s) (by omega) (cb_2 s hs).2 rfl (by omega), fun t ht => ⟨h.rf (i := 8 + 3 * t) (by omega) (cb_1 t ht).1 (by omega) (by omega), h.rf (i := 9 + 3 * t) (by omega) (cb_1 t ht).2.1 (by omega) (by omega)⟩, fun s hs => h.rf (i := 26 + 2 * s) (by omega) (cb_2 s hs).1 (by omega) (by omega), ⟨(h.rf (i := 34) (by decide) rfl rfl rfl), fun i hi => h.rf (i := 36 + i) (by omega) (cb_3 i hi).1 rfl (by omega)⟩, ⟨(h.rf (i := 45) (by decide) rfl rfl rfl), fun i hi => h.rf (i := 47 + i) (by omega) (cb_3 i hi).2.1 rfl (by omega)⟩, ⟨(h.rf (i := 56) (by decide) rfl rfl rfl), fun i hi => h.rf (i := 58 + i) (by omega) (cb_3 i hi).2.2 rfl (by omega)⟩, (h.rf (i := 71) (by decide) rfl rfl rfl), (h.rf (i := 70) (by decide) rfl rfl rfl), fun r hr => h.rf (i := 67 + r) (by omega) (cb_4 r hr) rfl (by omega)⟩
  · refine ⟨(h.2.2.2.1 0 (by decide) 3).trans (if_pos ⟨rfl, rfl⟩), Nat.le_refl 1, Nat.le_of_ble_eq_true rfl, fun t ht => ?_, fun t ht => ?_⟩
    · have ht : t < 1 := ht
      rw [show t = 0 by omega]
      show TX I (b + 8) P
      refine hx.same (fun k hk => ?_) (fun k => ?_)
      · show I (b + 8) k = B (b + 8 - b) k
        rw [Nat.add_sub_cancel_left]
        exact v 8 k (by decide) (by omega)
      · show I (b + 8 + 1) k = B (b + 8 + 1 - b) k
        rw [Nat.add_assoc, Nat.add_sub_cancel_left]
        exact v 9 k (by decide) (by omega)
    · rw [show b + 8 + 3 * t = b + (8 + 3 * t) by omega, v _ _ (by omega) (by omega)]
      exact h3 t ht
  · exact ⟨(v 34 1 (by decide) (by omega)).trans (h6 _ (by decide) _), Nat.zero_le _, ⟨fun i hi => absurd hi (Nat.not_lt_zero i), (v 34 2 (by decide) (by omega)).trans (h6 _ (by decide) _), (v 34 3 (by decide) (by omega)).trans (h6 _ (by decide) _)⟩, (h.rf (i := 35) (by decide) rfl rfl rfl), Nat.zero_lt_one⟩
  · exact ⟨(v 1 1 (by decide) (by omega)).trans h1, Nat.zero_le _, fun j hj => absurd hj (Nat.not_lt_zero j)⟩
  · exact (v 0 7 (by decide) (by omega)).trans h2
  · intro s hs
    refine ⟨?_, ?_, Nat.zero_le _, fun j hj => ?_⟩
    · rw [show b + 26 + 2 * s = b + (26 + 2 * s) by omega, v _ _ (by omega) (by omega)]
      exact (h4 s hs).1
    · rw [show b + 26 + 2 * s = b + (26 + 2 * s) by omega, v _ _ (by omega) (by omega)]
      exact (h4 s hs).2
    · rw [show b + 26 + 2 * s + 1 = b + (27 + 2 * s) by omega, v _ _ (by omega) (by omega)]
      exact h5 s hs j hj

theorem ci_RC {b : Nat} {S0 : AH} {Sh : HS} {I : HI} {R : HR} (hL : Lay ccT b 34 34 10 (fun _ _ => 0) S0 Sh I R) : RC b 0 Sh R :=
  ⟨⟨trivial, (hL.sh (j := 1) rfl (by decide) rfl), (hL.sh (j := 2) rfl (by decide) rfl), (hL.sh (j := 3) rfl (by decide) rfl), (hL.sh (j := 4) rfl (by decide) rfl), (hL.sh (j := 5) rfl (by decide) rfl), trivial, trivial, fun t ht => ⟨hL.sh (j := 8 + 3 * t) (by omega) (by omega) (ca_1 t ht).1, hL.sh (j := 9 + 3 * t) (by omega) (by omega) (ca_1 t ht).2.1, hL.sh (j := 10 + 3 * t) (by omega) (by omega) (ca_1 t ht).2.2⟩, trivial⟩, ⟨trivial, trivial, trivial, trivial, trivial, trivial, trivial, trivial, (hL.rf (i := 0) (by decide) rfl rfl rfl), (hL.rf (i := 1) (by decide) rfl rfl rfl), (hL.rf (i := 2) (by decide) rfl rfl rfl), (hL.rf (i := 4) (by decide) rfl rfl rfl), trivial, trivial, fun t ht => ⟨hL.rf (i := 8 + 3 * t) (by omega) (cb_1 t ht).1 (by omega) (by omega), hL.rf (i := 9 + 3 * t) (by omega) (cb_1 t ht).2.1 (by omega) (by omega)⟩, trivial⟩, by decide⟩
set_option maxHeartbeats 4000000 in
set_option maxRecDepth 100000 in
theorem ci_132 {G : GG} {b : Nat} {S0 : AH} {K : XK} {Sh : HS} {I : HI} {R : HR} (hL : Lay ccT b 34 34 10 (fun _ _ => 0) S0 Sh I R) {P : Nat → List Int32} (htx : txR (kC 0) (kTn 0) (true, 58, P)) (hr : 41 ≤ K.1.frames) (hr2 : 1650 ≤ K.1.locals) (hcc : 33 + 0 ≤ K.1.cells ∧ 1915 + 0 ≤ K.1.slots) {J : HI} (hs : J (b + 1) 1 = nI (kTn 0)) (hb : ∀ j, j < kTn 0 → J (b + 2) j = kC 0 j) (hf : ∀ a k, ¬ (a = b + 1 ∧ k = 1) → ¬ a = b + 2 → J a k = I a k) (hk : ∀ J2 : HI, TX J2 (b + 8) P → J2 (b + 1) 1 = 0 → (∀ a k, ¬ (a = b + 1 ∧ k = 1) → ¬ a = b + 2 → ¬ (a = b + 3 ∨ a = b + 4) → ¬ (a = b + 5 ∧ 1 ≤ k) → ¬ (a = b + 8 ∧ 2 ≤ k ∧ k ≤ 4) → ¬ a = b + 9 → J2 a k = I a k) → X G K yX7_init cX7_init 2 none 33 1915 153 [(0, .ref b)] [] (Sh, J2, R)) : X G K yX7_init cX7_init 2 none 33 1915 132 [(1, .int (nI (kTn 0))), (0, .ref b)] [] (Sh, J, R) := by
  have htp9 : TPp Sh J R (b + 1) (kC 0) (kTn 0) := ⟨(hL.sh (j := 1) rfl (by decide) rfl), (hL.sh (j := 2) rfl (by decide) rfl), (hL.sh (j := 3) rfl (by decide) rfl), (hL.sh (j := 4) rfl (by decide) rfl), (hL.rf (i := 0) (by decide) rfl rfl rfl), (hL.rf (i := 1) (by decide) rfl rfl rfl), (hL.rf (i := 2) (by decide) rfl rfl rfl), hs, by decide, hb⟩
  refine x_aload_n dX7_init_132 1 rfl rfl ?_
  refine x_gR (b := b + 5) dX7_init_133 fl_7_21 rfl (hL.sh (j := 0) rfl (by decide) rfl) (hL.rf (i := 5) (by decide) rfl rfl rfl) ?_
  refine x_aload_n dX7_init_136 1 rfl rfl ?_
  refine x_gR (b := b + 6) dX7_init_137 fl_7_27 rfl (hL.sh (j := 0) rfl (by decide) rfl) (hL.rf (i := 6) (by decide) rfl rfl rfl) ?_
  refine x_iconst (v := nI 0) dX7_init_140 (by decide) ?_
  refine x_aa (j := 0) (b := b + 8 + 3 * 0) dX7_init_141 (hL.sh (j := 6) rfl (by decide) rfl) (by decide) (by decide) rfl (by decide) (by omega) (hL.rf (i := 10) (by decide) rfl rfl rfl) ?_
  refine x_callV (k_readInto (G := G) (ci_RC hL) (t := 0) (J := J) htp9 htx) dX7_init_142 crc_X2_readInto vc_7_57 (hL.sh (j := 5) rfl (by decide) rfl) rfl rfl rfl rfl (Nat.le_of_ble_eq_true rfl) ⟨by omega, by omega⟩ hcc.1 hcc.2 ?_
  rintro _ _ ⟨x9, rfl, J2, rfl, hru9, hres9⟩
  refine x_pop dX7_init_145 rfl ?_
  refine x_aload_n dX7_init_146 1 rfl rfl ?_
  refine x_gR (b := b + 1) dX7_init_147 fl_7_10 rfl (hL.sh (j := 0) rfl (by decide) rfl) (hL.rf (i := 3) (by decide) rfl rfl rfl) ?_
  obtain ⟨Jc, e_Jc⟩ : ∃ z : HI, z = u2 J2 (b + 1) 1 0 := ⟨_, rfl⟩
  refine x_callV (k_tclear (G := G) (Sh := Sh) (I := J2) (R := R) (hL.sh (j := 1) rfl (by decide) rfl)) dX7_init_150 crc_X5_clear vc_7_61 (hL.sh (j := 1) rfl (by decide) rfl) rfl rfl rfl rfl (Nat.le_of_ble_eq_true rfl) ⟨by omega, by omega⟩ hcc.1 hcc.2 ?_
  rintro _ _ ⟨rfl, e9⟩
  rw [← e_Jc] at e9
  subst e9
  refine x_sub [1] rfl ?_
  refine hk Jc ?_ (by rw [e_Jc, u2_same]) (fun a k q1 q2 q3 q4 q5 q6 => by
    rw [e_Jc, u2_ne q1, hru9 a k q3 q4 (by omega) (by omega)]
    exact hf a k q1 q2)
  rcases hres9 with ⟨-, -, q2⟩ | ⟨q1, -⟩
  · exact q2.same (fun k hk => by rw [e_Jc, u2_ne (by omega)]) (fun k => by rw [e_Jc, u2_ne (by omega)])
  · cases q1

set_option maxHeartbeats 4000000 in
set_option maxRecDepth 100000 in
theorem ci_103 {G : GG} {b : Nat} {S0 : AH} {K : XK} {Sh : HS} {I : HI} {R : HR} (hL : Lay ccT b 34 34 10 (fun _ _ => 0) S0 Sh I R) {P : Nat → List Int32} (htx : txR (kC 0) (kTn 0) (true, 58, P)) (hr : 41 ≤ K.1.frames) (hr2 : 1650 ≤ K.1.locals) (hcc : 33 + 0 ≤ K.1.cells ∧ 1915 + 0 ≤ K.1.slots) (hk : ∀ J2 : HI, TX J2 (b + 8) P → J2 (b + 1) 1 = 0 → (∀ a k, ¬ (a = b + 1 ∧ k = 1) → ¬ a = b + 2 → ¬ (a = b + 3 ∨ a = b + 4) → ¬ (a = b + 5 ∧ 1 ≤ k) → ¬ (a = b + 8 ∧ 2 ≤ k ∧ k ≤ 4) → ¬ a = b + 9 → J2 a k = I a k) → X G K yX7_init cX7_init 2 none 33 1915 153 [(0, .ref b)] [] (Sh, J2, R)) : ∀ (m : Nat) (i : Nat) (J : HI), (i ≤ kTn 0) → (kTn 0 < i + m) → (J (b + 1) 1 = nI i) → (∀ j, j < i → J (b + 2) j = kC 0 j) → (∀ a k, ¬ (a = b + 1 ∧ k = 1) → ¬ a = b + 2 → J a k = I a k) → X G K yX7_init cX7_init 2 none 33 1915 103 [(1, .int (nI i)), (0, .ref b)] [] (Sh, J, R) := by
  intro m
  induction m with
  | zero =>
    intro i J hi hm hs hb hf
    exact absurd hm (by omega)
  | succ m ih =>
    intro i J hi hm hs hb hf
    have h58 : kTn 0 = 58 := rfl
    refine x_iload_n dX7_init_103 0 rfl rfl ?_
    refine x_ldcS (i := 0) (tx := "strikes 9 + moon - place - shelter ; raises 5 ; worth 10 ;") dX7_init_104 (by decide +kernel) ?_
    refine x_callT (by decide) (k_slen (G := G) (Sh := Sh) (I := J) (R := R) (i := 0) (by decide)) dX7_init_106 crc_J0_length_8abf5 vc_7_43 rfl rfl rfl (Nat.le_of_ble_eq_true rfl) ⟨by omega, by omega⟩ hcc.1 hcc.2 ?_
    rintro _ _ ⟨_, rfl, rfl, rfl⟩
    refine x_icmp_ge (tgt := 132) dX7_init_109 (by decide) (fun c_109 => ?_) (fun c_109 => ?_)
    · have c_109 : (kTn 0) ≤ i := (nI_leI (a := (kTn 0)) (b := i) (by omega) (by omega)).mp c_109
      have hin : i = kTn 0 := by omega
      subst hin
      exact ci_132 hL htx hr hr2 hcc hs hb hf hk
    · have c_109 : ¬ (kTn 0) ≤ i := fun zz9 => c_109 ((nI_leI (a := (kTn 0)) (b := i) (by omega) (by omega)).mpr zz9)
      refine x_aload_n dX7_init_112 1 rfl rfl ?_
      refine x_gR (b := b + 1) dX7_init_113 fl_7_10 rfl (hL.sh (j := 0) rfl (by decide) rfl) (hL.rf (i := 3) (by decide) rfl rfl rfl) ?_
      refine x_ldcS (i := 0) (tx := "strikes 9 + moon - place - shelter ; raises 5 ; worth 10 ;") dX7_init_116 (by decide +kernel) ?_
      refine x_iload_n dX7_init_118 0 rfl rfl ?_
      refine x_callT (by decide) (k_scharAt (G := G) (Sh := Sh) (I := J) (R := R) (i := 0) (j := i) (by decide) (by omega)) dX7_init_119 crc_J0_charAt_5068e vc_7_49 rfl rfl rfl (Nat.le_of_ble_eq_true rfl) ⟨by omega, by omega⟩ hcc.1 hcc.2 ?_
      rintro _ _ ⟨_, rfl, rfl, rfl⟩
      refine x_callV (k_tadd (G := G) (Sh := Sh) (I := J) (R := R) (hL.sh (j := 1) rfl (by decide) rfl) (hL.sh (j := 2) rfl (by decide) rfl) (hL.rf (i := 0) (by decide) rfl rfl rfl) hs (by omega) (v := kC 0 i)) dX7_init_122 crc_X5_add vc_7_53 (hL.sh (j := 1) rfl (by decide) rfl) rfl rfl rfl rfl (Nat.le_of_ble_eq_true rfl) ⟨by omega, by omega⟩ hcc.1 hcc.2 ?_
      rintro _ _ ⟨x9, rfl, (⟨z1, rfl, e9⟩ | ⟨z1, rfl, e9⟩)⟩
      · obtain ⟨Ja, e_Ja⟩ : ∃ z : HI, z = u2 (u2 J (b + 1 + 1) i (kC 0 i)) (b + 1) 1 (nI (i + 1)) := ⟨_, rfl⟩
        rw [← e_Ja] at e9
        subst e9
        refine x_pop dX7_init_125 rfl ?_
        refine x_iinc (v := nI (i + 1)) (lv' := [(1, .int (nI (i + 1))), (0, .ref b)]) dX7_init_126 0 rfl (nI_1 i) (by decide) rfl ?_
        refine x_goto (tgt := 103) dX7_init_129 (by decide) ?_
        refine x_sub [0, 1] rfl ?_
        exact ih (i + 1) Ja (by omega) (by omega) (by rw [e_Ja, u2_same]) (fun j hj => by
          rw [e_Ja, u2_ne (by omega)]
          by_cases e : j = i
          · rw [e]; exact u2_same
          · rw [u2_ne (by omega)]; exact hb j (by omega)) (fun a k q1 q2 => by rw [e_Ja, u2_ne q1, u2_ne (by omega)]; exact hf a k q1 q2)
      · exact absurd z1 (by omega)

theorem k_cinit {G : GG} {Sh : HS} {I : HI} {R : HR} {b : Nat} {P : Nat → List Int32} (htx : txR (kC 0) (kTn 0) (true, 58, P)) (hz : Sh.1 = b + 1) (hs : Sh.2 b = (7, 10)) (hi : ∀ k, I b k = 0) : AM G 42 68 2128 yX7_init cX7_init 2 none [.ref b] (Sh, I, R) (qv fun g => ∃ (S9 : HS) (I9 : HI) (R9 : HR), g = (S9, I9, R9) ∧ CI b S9 I9 R9 (sgI P) ∧ S9.1 = b + 69 ∧ ∀ a, a < b → S9.2 a = Sh.2 a ∧ ∀ k, I9 a k = I a k ∧ R9 a k = R a k) := by
  refine am_intro (by decide) (Nat.le_of_ble_eq_true rfl) ?_
  have hL : Lay ccT b 1 0 0 (fun _ _ => 0) (Sh, I, R) Sh I R := ⟨hz, fun j hj => by rw [show j = 0 by omega]; exact hs, fun i hi => absurd hi (Nat.not_lt_zero i), fun j hj k => by rw [show j = 0 by omega]; exact hi k, fun _ _ _ => rfl, fun a ha => ⟨rfl, fun k => ⟨rfl, rfl⟩⟩⟩
  refine ci_1 (F9 := fun S9 I9 R9 => CI b S9 I9 R9 (sgI P) ∧ S9.1 = b + 69 ∧ ∀ a, a < b → S9.2 a = Sh.2 a ∧ ∀ k, I9 a k = I a k ∧ R9 a k = R a k) hL (fun S1 I1 R1 L1 => ?_)
  refine ci_103 L1 htx (Nat.le_of_ble_eq_true rfl) (Nat.le_of_ble_eq_true rfl) ⟨Nat.le_of_ble_eq_true rfl, Nat.le_of_ble_eq_true rfl⟩ ?_ 100 0 I1 (Nat.zero_le _) (by decide) ?_ (fun j hj => absurd hj (Nat.not_lt_zero j)) (fun _ _ _ _ => rfl)
  · intro J2 hx h1 hf
    have e : ∀ j k, j < 34 → ¬ (j = 1 ∧ k = 1) → ¬ j = 2 → ¬ (j = 3 ∨ j = 4) → ¬ (j = 5 ∧ 1 ≤ k) → ¬ (j = 8 ∧ 2 ≤ k ∧ k ≤ 4) → ¬ j = 9 → J2 (b + j) k = IV ccT (fun _ _ => 0) 10 j k := fun j k hj q1 q2 q3 q4 q5 q6 => (hf _ _ (by omega) (by omega) (by omega) (by omega) (by omega) (by omega)).trans (L1.2.2.2.1 j hj k)
    obtain ⟨B, hB⟩ : ∃ B : HI, B = fun j k => if j < 34 then J2 (b + j) k else 0 := ⟨_, rfl⟩
    have b1 : ∀ j k, j < 34 → B j k = J2 (b + j) k := fun j k hj => by rw [hB]; exact if_pos hj
    have b2 : ∀ j, 34 ≤ j → ∀ k, B j k = 0 := fun j hj k => by rw [hB]; exact if_neg (by omega)
    have L2 : Lay ccT2 b 34 34 0 B (Sh, I, R) S1 J2 R1 := ⟨L1.1, L1.2.1, L1.2.2.1, fun j hj k => (b1 j k hj).symm, b2, fun a ha => ⟨(L1.2.2.2.2.2 a ha).1, fun k => ⟨(hf _ _ (by omega) (by omega) (by omega) (by omega) (by omega) (by omega)).trans ((L1.2.2.2.2.2 a ha).2 k).1, ((L1.2.2.2.2.2 a ha).2 k).2⟩⟩⟩
    refine ci_3 L2 (fun S9 I9 R9 L9 => ⟨S9, I9, R9, rfl, ci_CI L9 ?_ ?_ ?_ (fun t ht => ?_) (fun s hs => ⟨?_, ?_⟩) (fun s hs j hj => ?_) b2, L9.1, L9.2.2.2.2.2⟩)
    · refine hx.same (fun k hk => ?_) (fun k => ?_)
      · show B (b + 8 - b) k = _
        rw [Nat.add_sub_cancel_left, b1 _ _ (by decide)]
      · show B (b + 8 + 1 - b) k = _
        rw [Nat.add_assoc, Nat.add_sub_cancel_left, b1 _ _ (by decide)]
    · exact (b1 _ _ (by decide)).trans h1
    · rw [b1 _ _ (by decide)]
      exact e 0 7 (by decide) (by omega) (by omega) (by omega) (by omega) (by omega) (by omega)
    · rw [b1 _ _ (by omega), e _ _ (by omega) (by omega) (by omega) (by omega) (by omega) (by omega) (by omega)]
      exact ce_1 t ht 0 rfl
    · rw [b1 _ _ (by omega), e _ _ (by omega) (by omega) (by omega) (by omega) (by omega) (by omega) (by omega)]
      exact (ce_2 s hs).1
    · rw [b1 _ _ (by omega), e _ _ (by omega) (by omega) (by omega) (by omega) (by omega) (by omega) (by omega)]
      exact (ce_2 s hs).2
    · rw [b1 _ _ (by omega), e _ _ (by omega) (by omega) (by omega) (by omega) (by omega) (by omega) (by omega)]
      exact ce_3 s hs j hj
  · exact (L1.2.2.2.1 1 (by decide) 1).trans (by decide +kernel)
