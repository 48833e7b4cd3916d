theorem TK.wr {m a k : Nat} {I J : HI} {x : Int32} (h : TK m I J) (ha : a = m + 17) : TK m (u2 I a k x) (u2 J a k x) := by
  subst ha
  refine ⟨fun q hq => by rw [u2_ne (by omega), u2_ne (by omega)]; exact h.1 q hq, by rw [u2_ne (by omega), u2_ne (by omega)]; exact h.2.1, by rw [u2_ne (by omega), u2_ne (by omega)]; exact h.2.2.1, fun a q q1 q2 q3 => ?_⟩
  by_cases z : a = m + 17 ∧ q = k
  · rw [z.1, z.2, u2_same, u2_same]
  · rw [u2_ne z, u2_ne z]
    exact h.2.2.2 a q q1 q2 q3
theorem sh_sh {σ : SG} {s : Nat} {x y : Int32 × Nat × (Nat → Int32)} : withSh (withSh σ s x) s y = withSh σ s y := by
  unfold withSh
  refine congrArg (fun z => (σ.1, σ.2.1, σ.2.2.1, σ.2.2.2.1, z)) (funext fun t => ?_)
  by_cases e : t = s <;> simp [e]
theorem film_ok {σ : SG} {s9 i k : Nat} (hs : s9 < 4) (hi : i < gN σ) (hn8 : gN σ ≤ 8) (hk : k ≤ 40) (ha : aheadP (nI k)) : filmV σ (nI s9) (nI i) (nI k) = nI k ∧ filmS σ (nI s9) (nI i) (nI k) = withSh σ s9 (0, k, filmRo σ i k k) := by
  unfold filmV filmS
  rw [idF_in hs (by omega), idF_in hi hn8]
  dsimp only
  rw [if_pos ha, if_pos ha, nI_clamp (by omega)]
  exact ⟨rfl, rfl⟩
theorem film_no {σ : SG} {s f n : Int32} (h : idF 4 s = none ∨ idF (gN σ) f = none ∨ ¬ aheadP n) : filmV σ s f n = -2 ∧ filmS σ s f n = σ := by
  unfold filmV filmS
  cases hs : idF 4 s with
  | none => exact ⟨rfl, rfl⟩
  | some t =>
    cases hf : idF (gN σ) f with
    | none => exact ⟨rfl, rfl⟩
    | some i =>
      rcases h with h | h | h
      · rw [hs] at h; cases h
      · rw [hf] at h; cases h
      · exact ⟨if_neg h, if_neg h⟩

theorem mw_17 {Sh : HS} {I J : HI} {R : HR} {m n t : Nat} {P : Nat → List Int32} (h : MW Sh I R m n t P) (e : ∀ a k, ¬ a = m + 17 → J a k = I a k) : MW Sh J R m n t P :=
  ⟨h.1, h.2.1, (e _ _ (by omega)).trans h.2.2.1, h.2.2.2.1, (e _ _ (by omega)).trans h.2.2.2.2.1, h.2.2.2.2.2.1, h.2.2.2.2.2.2.elim fun c q => ⟨c, q.1, q.2.same (fun a k q1 q2 => e a k (by omega))⟩⟩

set_option maxHeartbeats 4000000 in
set_option maxRecDepth 100000 in
theorem k_mfilm_l {G : GG} {Sh : HS} {I : HI} {R : HR} {m : Nat} {σ : SG} (hm0 : MI m Sh I R σ) (hw0 : WI σ) {s9 i k : Nat} (hs4 : s9 < 4) (hi : i < gN σ) (hk : k ≤ 40) {J1 : HI} (hm1 : MI m Sh J1 R (withSh σ s9 (0, k, fun _ => 0))) (hf1 : FrM m I J1) : ∀ (m9 : Nat) (q : Nat) (J I1 : HI), (q ≤ k) → (k < q + m9) → (∀ a z, ¬ (a = m + 17 ∧ 40 * s9 ≤ z ∧ z < 40 * s9 + 40) → I1 a z = J1 a z) → (∀ j, j < q → I1 (m + 17) (40 * s9 + j) = (passF (gP σ) (gN σ) (gW σ) (j + 1)).1 i 4) → (∀ j, q ≤ j → j < 40 → I1 (m + 17) (40 * s9 + j) = 0) → (TK m I1 J) → (MS J m (gN σ) (passF (gP σ) (gN σ) (gW σ) q)) → X G (kM G 5 0 0 (qi fun r g => r = nI k ∧ ∃ J9 : HI, g = (Sh, J9, R) ∧ MI m Sh J9 R (withSh σ s9 (0, k, filmRo σ i k k)) ∧ FrM m I J9)) yX8_film cX8_film 5 (some .int) 0 0 40 [(4, .int (nI q)), (0, .ref m), (1, .int (nI s9)), (2, .int (nI i)), (3, .int (nI k))] [] (Sh, J, R) := by
  intro m9
  induction m9 with
  | zero =>
    intro q J I1 hq hm hI1 hI2 hI3 htk hsu
    exact absurd hm (by omega)
  | succ m9 ih =>
    intro q J I1 hq hm hI1 hI2 hI3 htk hsu
    obtain ⟨hsh, hrf, ⟨hn, hn8⟩, hs, ⟨hru, hrt⟩, ⟨htc, htc6⟩, hmt, hmp, him, hse⟩ := id hm0
    have hmw := hm0.mw
    have hnb := hw0.nb
    obtain ⟨z0, z1, z6, z7, z8, z9, z10, z11, z12, z13, z14, z15, z16, z17⟩ := id hsh
    obtain ⟨y1, y6, y7, y8, y9, y10, y11, y12, y13, y14, y15, y16, y17⟩ := id hrf
    have hw1 : MW Sh I1 R m (gN σ) (gRu σ) (gP σ) := mw_17 (J := I1) (m := m) hm1.mw (fun a z q9 => hI1 a z (by omega))
    refine x_iload dX8_film_40 0 rfl ?_
    refine x_iload_n dX8_film_42 4 rfl rfl ?_
    refine x_icmp_ge (tgt := 74) dX8_film_43 (by decide) (fun c_43 => ?_) (fun c_43 => ?_)
    · have c_43 : k ≤ q := (nI_leI (a := k) (b := q) (by omega) (by omega)).mp c_43
      refine x_aload_n dX8_film_74 1 rfl rfl ?_
      refine x_callV (k_again (G := G) hsh hrf htk) dX8_film_75 crc_X8_again vc_8_274 z0 rfl rfl rfl rfl (Nat.le_of_ble_eq_true rfl) (roomy_k (by omega) (by decide)) (Nat.le_refl _) (Nat.le_refl _) ?_
      rintro _ _ ⟨rfl, J9, rfl, hp9⟩
      refine x_iload_n dX8_film_78 4 rfl rfl ?_
      refine x_iret dX8_film_79 rfl (Nat.le_refl _) (Nat.le_refl _) ?_
      have hqk : q = k := by omega
      subst hqk
      refine ⟨rfl, J9, rfl, ?_, (hf1.tr (fun a z q9 => hI1 a z (by omega))).tr hp9.fm⟩
      rw [← sh_sh (x := (0, q, fun _ => 0))]
      refine MI.pv (hm1.sheet hs4 (fun a z q1 q2 q3 => hI1 a z q3) ((hI1 _ _ (by omega)).trans ?_) ((hI1 _ _ (by omega)).trans ?_) hk (fun j hj => ?_)) hp9
      · have := (hm1.2.2.2.2.2.2.2.2.2 s9 hs4).1
        unfold gSo withSh at this
        simpa using this
      · have := (hm1.2.2.2.2.2.2.2.2.2 s9 hs4).2.1
        unfold gSz withSh at this
        simpa using this
      · show _ = if j < q then cutF 0 ((passF (gP σ) (gN σ) (gW σ) (j + 1)).1 i 4) else 0
        split
        · rename_i z
          rw [hI2 j z]
          exact (cut_small (wf4 (hw0.1.1.pass (j + 1)) hi)).symm
        · rename_i z
          exact hI3 j (by omega) hj
    · have c_43 : ¬ k ≤ q := fun zz9 => c_43 ((nI_leI (a := k) (b := q) (by omega) (by omega)).mpr zz9)
      refine x_aload_n dX8_film_46 1 rfl rfl ?_
      refine x_callV (k_comes (G := G) (htk.mw hw1) hsu (hnb.pass q)) dX8_film_47 crc_X8_comes vc_8_236 z0 rfl rfl rfl rfl (Nat.le_of_ble_eq_true rfl) (roomy_k (by omega) (by decide)) (Nat.le_refl _) (Nat.le_refl _) ?_
      rintro _ _ ⟨rfl, J6, rfl, hs6, hf6⟩
      have htk6 := htk.fr hf6
      refine x_aload_n dX8_film_50 1 rfl rfl ?_
      refine x_gR (b := m + 17) dX8_film_51 fl_8_58 rfl z0 y17 ?_
      refine x_bipush (v := nI 40) dX8_film_54 (by decide) ?_
      refine x_iload_n dX8_film_56 2 rfl rfl ?_
      refine x_imul dX8_film_57 ?_
      refine x_vali (pk_mul 40 s9) ?_
      refine x_iload dX8_film_58 0 rfl ?_
      refine x_iadd dX8_film_60 ?_
      refine x_vali (nI_add (40 * s9) q) ?_
      refine x_aload_n dX8_film_61 1 rfl rfl ?_
      refine x_gR (b := m + 1 + 4) dX8_film_62 fl_8_22 rfl z0 (y1 4 (by omega)) ?_
      refine x_iload_n dX8_film_65 3 rfl rfl ?_
      refine x_ia (j := i) (v := (passF (gP σ) (gN σ) (gW σ) (q + 1)).1 i 4) dX8_film_66 (z1 4 (by omega)) rfl (by omega) (by omega) (hs6.1 i hi 4 (by omega)) ?_
      refine x_is (j := 40 * s9 + q) dX8_film_67 z17 rfl (by omega) (by omega) (fun Iq1 e_Iq1 => ?_)
      refine x_iinc (v := nI (q + 1)) (lv' := [(4, .int (nI (q + 1))), (0, .ref m), (1, .int (nI s9)), (2, .int (nI i)), (3, .int (nI k))]) dX8_film_68 0 rfl (nI_1 q) (by decide) rfl ?_
      refine x_goto (tgt := 40) dX8_film_71 (by decide) ?_
      refine x_sub [0, 1, 2, 3, 4] rfl ?_
      exact ih (q + 1) Iq1 (u2 I1 (m + 17) (40 * s9 + q) ((passF (gP σ) (gN σ) (gW σ) (q + 1)).1 i 4)) (by omega) (by omega) (fun a z q9 => by rw [u2_ne (by omega)]; exact hI1 a z q9) (fun j hj => by
        by_cases z : j = q
        · rw [z, u2_same]
        · rw [u2_ne (by omega)]
          exact hI2 j (by omega)) (fun j hj h40 => by
        rw [u2_ne (by omega)]
        exact hI3 j (by omega) h40) (by
        rw [e_Iq1]
        exact htk6.wr rfl) (by
        rw [e_Iq1]
        exact ⟨fun j hj z hz => (u2_ne (by omega)).trans (hs6.1 j hj z hz), (u2_ne (by omega)).trans hs6.2.1, (u2_ne (by omega)).trans hs6.2.2⟩)

set_option maxHeartbeats 4000000 in
set_option maxRecDepth 100000 in
theorem k_mfilm {G : GG} {Sh : HS} {I : HI} {R : HR} {m : Nat} {σ : SG} (hm0 : MI m Sh I R σ) (hw0 : WI σ) {s f n : Int32} : AM G 5 0 0 yX8_film cX8_film 5 (some .int) [.ref m, .int s, .int f, .int n] (Sh, I, R) (qi (updM m Sh I R (filmV σ s f n) (filmS σ s f n))) := by
  obtain ⟨hsh, hrf, ⟨hn, hn8⟩, hs, ⟨hru, hrt⟩, ⟨htc, htc6⟩, hmt, hmp, him, hse⟩ := id hm0
  have hmw := hm0.mw
  have hnb := hw0.nb
  obtain ⟨z0, z1, z6, z7, z8, z9, z10, z11, z12, z13, z14, z15, z16, z17⟩ := id hsh
  obtain ⟨y1, y6, y7, y8, y9, y10, y11, y12, y13, y14, y15, y16, y17⟩ := id hrf
  refine am_intro (by decide) (Nat.le_of_ble_eq_true rfl) ?_
  refine x_iload_n dX8_film_0 1 rfl rfl ?_
  refine x_callS (rest := []) (k_misSheet (G := G) (Sh := Sh) (I := I) (R := R) (s := s)) dX8_film_1 crc_X8_isSheet sc_8_277 rfl rfl (Nat.le_of_ble_eq_true rfl) (roomy_k (by omega) (by decide)) (Nat.le_refl _) (Nat.le_refl _) ?_
  rintro _ _ ⟨rs, rfl, hrs, rfl⟩
  subst hrs
  refine x_if_eqB (tgt := 22) dX8_film_4 (by decide) (fun c_4 => ?_) (fun c_4 => ?_)
  · refine x_bipush (v := (-2)) dX8_film_22 (by decide) ?_
    refine x_iret dX8_film_24 rfl (Nat.le_refl _) (Nat.le_refl _) ?_
    obtain ⟨y1, y2⟩ := film_no (σ := σ) (s := s) (f := f) (n := n) (Or.inl (Option.not_isSome_iff_eq_none.mp c_4))
    refine ⟨y1.symm, I, rfl, ?_, FrM.rf⟩
    rw [y2]
    exact hm0
  · refine x_aload_n dX8_film_7 0 rfl rfl ?_
    refine x_iload_n dX8_film_8 2 rfl rfl ?_
    refine x_callV (k_misFort (G := G) (Sh := Sh) (I := I) (R := R) hsh hn hn8 (f := f)) dX8_film_9 crc_X8_isFort vc_8_102 z0 rfl rfl rfl rfl (Nat.le_of_ble_eq_true rfl) (roomy_k (by omega) (by decide)) (Nat.le_refl _) (Nat.le_refl _) ?_
    rintro _ _ ⟨ri, rfl, hri, rfl⟩
    subst hri
    refine x_if_eqB (tgt := 22) dX8_film_12 (by decide) (fun c_12 => ?_) (fun c_12 => ?_)
    · refine x_bipush (v := (-2)) dX8_film_22 (by decide) ?_
      refine x_iret dX8_film_24 rfl (Nat.le_refl _) (Nat.le_refl _) ?_
      obtain ⟨y1, y2⟩ := film_no (σ := σ) (s := s) (f := f) (n := n) (Or.inr (Or.inl (Option.not_isSome_iff_eq_none.mp c_12)))
      refine ⟨y1.symm, I, rfl, ?_, FrM.rf⟩
      rw [y2]
      exact hm0
    · refine x_iload_n dX8_film_15 3 rfl rfl ?_
      refine x_callS (rest := []) (k_misWaves (G := G) (Sh := Sh) (I := I) (R := R) (n := n)) dX8_film_16 crc_X8_isWaves sc_8_258 rfl rfl (Nat.le_of_ble_eq_true rfl) (roomy_k (by omega) (by decide)) (Nat.le_refl _) (Nat.le_refl _) ?_
      rintro _ _ ⟨rv, rfl, hrv, rfl⟩
      subst hrv
      refine x_if_neB (tgt := 25) dX8_film_19 (by decide) (fun c_19 => ?_) (fun c_19 => ?_)
      · obtain ⟨s9, hid_s9⟩ := Option.isSome_iff_exists.mp c_4
        obtain ⟨hi_s9, hie_s9⟩ := idF_some (by omega) hid_s9
        subst hie_s9
        obtain ⟨i, hid_i⟩ := Option.isSome_iff_exists.mp c_12
        obtain ⟨hi_i, hie_i⟩ := idF_some hn8 hid_i
        subst hie_i
        have hi := hi_i
        obtain ⟨k, hk, rfl⟩ := ahead_nat c_19
        have hfo := film_ok hi_s9 hi hn8 hk c_19
        refine x_aload_n dX8_film_25 0 rfl rfl ?_
        refine x_iload_n dX8_film_26 1 rfl rfl ?_
        refine x_iconst (v := 0) dX8_film_27 (by decide) ?_
        refine x_iload_n dX8_film_28 3 rfl rfl ?_
        refine x_callV (k_msheet (G := G) hm0 hw0 (s := nI s9) (so := 0) (n := nI k)) dX8_film_29 crc_X8_sheet vc_8_302 z0 rfl rfl rfl rfl (Nat.le_of_ble_eq_true rfl) (roomy_k (by omega) (by decide)) (Nat.le_refl _) (Nat.le_refl _) ?_
        rintro _ _ ⟨rx, rfl, hrx, J1, rfl, hm1, hf1⟩
        have hm1 : MI m Sh J1 R (withSh σ s9 (0, k, fun _ => 0)) := by
          have e : sheetS σ (nI s9) 0 (nI k) = withSh σ s9 (0, k, fun _ => 0) := by
            unfold sheetS
            rw [idF_in hi_s9 (by omega)]
            dsimp only
            rw [if_neg (by decide), if_neg (by decide), if_neg (Int32.not_lt.mpr c_19.2), if_neg (Int32.not_lt.mpr c_19.1), nI_clamp (by omega)]
          rw [← e]
          exact hm1
        refine x_pop dX8_film_32 rfl ?_
        refine x_aload_n dX8_film_33 0 rfl rfl ?_
        refine x_callV (k_keep (G := G) (I := J1) hm1.1 hm1.2.1) dX8_film_34 crc_X8_keep vc_8_265 z0 rfl rfl rfl rfl (Nat.le_of_ble_eq_true rfl) (roomy_k (by omega) (by decide)) (Nat.le_refl _) (Nat.le_refl _) ?_
        rintro _ _ ⟨rfl, J2, rfl, htk, hp2⟩
        refine x_iconst (v := nI 0) dX8_film_37 (by decide) ?_
        refine x_istore (lv' := [(4, .int (nI 0)), (0, .ref m), (1, .int (nI s9)), (2, .int (nI i)), (3, .int (nI k))]) dX8_film_38 (by decide) rfl ?_
        refine x_sub [0, 1, 2, 3, 4] rfl ?_
        rw [hfo.1, hfo.2]
        exact k_mfilm_l hm0 hw0 hi_s9 hi hk hm1 hf1 (k + 1) 0 J2 J1 (by omega) (by omega) (fun _ _ _ => rfl) (fun j hj => absurd hj (by omega)) (fun j _ hj => by
          have := (hm1.2.2.2.2.2.2.2.2.2 s9 hi_s9).2.2.2 j hj
          unfold gRo withSh at this
          simpa using this) htk (MS.pv hm1.2.2.2.1 hp2)
      · refine x_bipush (v := (-2)) dX8_film_22 (by decide) ?_
        refine x_iret dX8_film_24 rfl (Nat.le_refl _) (Nat.le_refl _) ?_
        obtain ⟨y1, y2⟩ := film_no (σ := σ) (s := s) (f := f) (n := n) (Or.inr (Or.inr c_19))
        refine ⟨y1.symm, I, rfl, ?_, FrM.rf⟩
        rw [y2]
        exact hm0

theorem cmp_gt {x z : Int64} : 0 < lg_cmp x z ↔ z < x := by
  unfold lg_cmp
  split
  · rename_i h
    exact ⟨fun _ => h, fun _ => by decide⟩
  · rename_i h
    split
    · exact ⟨fun q => absurd q (by decide), fun q => absurd q h⟩
    · exact ⟨fun q => absurd q (by decide), fun q => absurd q h⟩
theorem cmp_sp {sz a c : Nat} (hs : sz ≤ 40) (ha : a < 2 ^ 31) (hc : c < 2 ^ 31) : 0 < lg_cmp ((nI a).toInt64 + (nI c).toInt64) (nI sz).toInt64 ↔ sz < a + c := by
  rw [cmp_gt, nI_l ha, nI_l hc, nI_l (by omega), lN_add]
  exact pk_lLT (by omega) (by omega)
theorem sp_nat2 {sz a c : Nat} (hs : sz ≤ 40) (ha : a < 2 ^ 31) (hc : c < 2 ^ 31) : spP sz (nI a) (nI c) ↔ a + c ≤ sz := by
  constructor
  · intro h
    obtain ⟨a', c', e1, e2, h3⟩ := sp_nat h hs
    have q1 : ∀ z, nI a = nI z → z < 2 ^ 31 → a = z := fun z e hz => (nI_eq ha hz).mp e
    have e1 := (nI_eq (a := a) (b := a') ha (by omega)).mp e1
    have e2 := (nI_eq (a := c) (b := c') hc (by omega)).mp e2
    omega
  · intro h
    refine ⟨nI_pos' ha, nI_pos' hc, ?_⟩
    rw [pk_sub (by omega)]
    exact nI_le (by omega) (by omega)
theorem copy_no {σ : SG} {t u : Nat} {i j n : Int32} (ht : t < 4) (hu : u < 4) (h1 : ¬ gSo σ t = -1) (h2 : ¬ gSo σ u = -1) (h3 : gSo σ t = gSo σ u) (h : ¬ (spP (gSz σ t) i n ∧ spP (gSz σ u) j n)) : copyV σ (nI t) i (nI u) j n = -12 ∧ copyS σ (nI t) i (nI u) j n = σ := by
  unfold copyV copyS
  rw [idF_in ht (by omega), idF_in hu (by omega)]
  dsimp only
  have n1 : ¬ (gSo σ t = -1 ∨ gSo σ u = -1) := fun z => z.elim h1 h2
  have n2 : ¬ ¬ gSo σ t = gSo σ u := fun z => z h3
  rw [if_neg n1, if_neg n1, if_neg n2, if_neg n2, if_neg h, if_neg h]
  exact ⟨rfl, rfl⟩
def cpR (σ : SG) (t u a b c : Nat) : Nat → Int32 := fun q => if b ≤ q ∧ q < b + c then gRo σ t (a + (q - b)) else gRo σ u q
theorem copy_ok {σ : SG} {t u a b c : Nat} (ht : t < 4) (hu : u < 4) (h1 : ¬ gSo σ t = -1) (h2 : ¬ gSo σ u = -1) (h3 : gSo σ t = gSo σ u) (ha : a + c ≤ gSz σ t) (hb : b + c ≤ gSz σ u) (s1 : gSz σ t ≤ 40) (s2 : gSz σ u ≤ 40) : copyV σ (nI t) (nI a) (nI u) (nI b) (nI c) = nI c ∧ copyS σ (nI t) (nI a) (nI u) (nI b) (nI c) = withSh σ u (gSo σ u, gSz σ u, cpR σ t u a b c) := by
  have h : spP (gSz σ t) (nI a) (nI c) ∧ spP (gSz σ u) (nI b) (nI c) := ⟨(sp_nat2 s1 (by omega) (by omega)).mpr ha, (sp_nat2 s2 (by omega) (by omega)).mpr hb⟩
  unfold copyV copyS
  rw [idF_in ht (by omega), idF_in hu (by omega)]
  dsimp only
  have n1 : ¬ (gSo σ t = -1 ∨ gSo σ u = -1) := fun z => z.elim h1 h2
  have n2 : ¬ ¬ gSo σ t = gSo σ u := fun z => z h3
  rw [if_neg n1, if_neg n1, if_neg n2, if_neg n2, if_pos h, if_pos h, nI_clamp (by omega), nI_clamp (by omega), nI_clamp (by omega)]
  exact ⟨rfl, rfl⟩
theorem copy_fin {m t u a b c : Nat} {Sh : HS} {I J : HI} {R : HR} {σ : SG} (hm0 : MI m Sh I R σ) (ht : t < 4) (hu : u < 4) (ha : a + c ≤ gSz σ t) (hb : b + c ≤ gSz σ u) (h1 : ∀ x, x < c → J (m + 17) (40 * u + b + x) = I (m + 17) (40 * t + a + x)) (h2 : ∀ q k, ¬ (q = m + 17 ∧ 40 * u + b ≤ k ∧ k < 40 * u + b + c) → J q k = I q k) : MI m Sh J R (withSh σ u (gSo σ u, gSz σ u, cpR σ t u a b c)) ∧ FrM m I J := by
  have hst := hm0.2.2.2.2.2.2.2.2.2 t ht
  have hsu := hm0.2.2.2.2.2.2.2.2.2 u hu
  have s1 := hst.2.2.1
  have s2 := hsu.2.2.1
  refine ⟨hm0.sheet hu (fun q k q1 q2 q3 => h2 q k (by omega)) ((h2 _ _ (by omega)).trans hsu.1) ((h2 _ _ (by omega)).trans hsu.2.1) s2 (fun j hj => ?_), fun q k z => h2 q k (by omega)⟩
  show _ = if b ≤ j ∧ j < b + c then gRo σ t (a + (j - b)) else gRo σ u j
  split
  · rename_i z
    have := h1 (j - b) (by omega)
    rw [show 40 * u + b + (j - b) = 40 * u + j by omega, show 40 * t + a + (j - b) = 40 * t + (a + (j - b)) by omega] at this
    rw [this]
    exact hst.2.2.2 _ (by omega)
  · rename_i z
    rw [h2 _ _ (by omega)]
    exact hsu.2.2.2 j hj

set_option maxHeartbeats 4000000 in
set_option maxRecDepth 100000 in
theorem k_copy_f {G : GG} {Sh : HS} {I : HI} {R : HR} {m : Nat} {σ : SG} (hm0 : MI m Sh I R σ) (hw0 : WI σ) {t u a b c : Nat} (ht : t < 4) (hu : u < 4) (ha : a + c ≤ gSz σ t) (hb : b + c ≤ gSz σ u) (hdir : ¬ t = u ∨ b ≤ a) : ∀ (m9 : Nat) (q : Nat) (J : HI), (q ≤ c) → (c < q + m9) → (∀ x, x < q → J (m + 17) (40 * u + b + x) = I (m + 17) (40 * t + a + x)) → (∀ z k, ¬ (z = m + 17 ∧ 40 * u + b ≤ k ∧ k < 40 * u + b + q) → J z k = I z k) → X G (kM G 3 0 0 (qi (updM m Sh I R (nI c) (withSh σ u (gSo σ u, gSz σ u, cpR σ t u a b c))))) yX8_copy cX8_copy 7 (some .int) 0 0 171 [(6, .int (nI q)), (0, .ref m), (1, .int (nI t)), (2, .int (nI a)), (3, .int (nI u)), (4, .int (nI b)), (5, .int (nI c))] [] (Sh, J, R) := by
  intro m9
  induction m9 with
  | zero =>
    intro q J hq hm hcp hex
    exact absurd hm (by omega)
  | succ m9 ih =>
    intro q J hq hm hcp hex
    obtain ⟨hsh, hrf, ⟨hn, hn8⟩, hs, ⟨hru, hrt⟩, ⟨htc, htc6⟩, hmt, hmp, him, hse⟩ := id hm0
    have hmw := hm0.mw
    have hnb := hw0.nb
    obtain ⟨z0, z1, z6, z7, z8, z9, z10, z11, z12, z13, z14, z15, z16, z17⟩ := id hsh
    obtain ⟨y1, y6, y7, y8, y9, y10, y11, y12, y13, y14, y15, y16, y17⟩ := id hrf
    have s1 := (hse t ht).2.2.1
    have s2 := (hse u hu).2.2.1
    refine x_iload dX8_copy_171 0 rfl ?_
    refine x_iload dX8_copy_173 6 rfl ?_
    refine x_icmp_ge (tgt := 213) dX8_copy_175 (by decide) (fun c_175 => ?_) (fun c_175 => ?_)
    · have c_175 : c ≤ q := (nI_leI (a := c) (b := q) (by omega) (by omega)).mp c_175
      refine x_iload dX8_copy_213 6 rfl ?_
      refine x_iret dX8_copy_215 rfl (Nat.le_refl _) (Nat.le_refl _) ?_
      have hqc : q = c := by omega
      subst hqc
      obtain ⟨x1, x2⟩ := copy_fin hm0 ht hu ha hb hcp hex
      exact ⟨rfl, J, rfl, x1, x2⟩
    · have c_175 : ¬ c ≤ q := fun zz9 => c_175 ((nI_leI (a := c) (b := q) (by omega) (by omega)).mpr zz9)
      refine x_aload_n dX8_copy_178 1 rfl rfl ?_
      refine x_gR (b := m + 17) dX8_copy_179 fl_8_58 rfl z0 y17 ?_
      refine x_bipush (v := nI 40) dX8_copy_182 (by decide) ?_
      refine x_iload_n dX8_copy_184 4 rfl rfl ?_
      refine x_imul dX8_copy_185 ?_
      refine x_vali (pk_mul 40 u) ?_
      refine x_iload dX8_copy_186 5 rfl ?_
      refine x_iadd dX8_copy_188 ?_
      refine x_vali (nI_add (40 * u) b) ?_
      refine x_iload dX8_copy_189 0 rfl ?_
      refine x_iadd dX8_copy_191 ?_
      refine x_vali (nI_add (40 * u + b) q) ?_
      refine x_aload_n dX8_copy_192 1 rfl rfl ?_
      refine x_gR (b := m + 17) dX8_copy_193 fl_8_58 rfl z0 y17 ?_
      refine x_bipush (v := nI 40) dX8_copy_196 (by decide) ?_
      refine x_iload_n dX8_copy_198 2 rfl rfl ?_
      refine x_imul dX8_copy_199 ?_
      refine x_vali (pk_mul 40 t) ?_
      refine x_iload_n dX8_copy_200 3 rfl rfl ?_
      refine x_iadd dX8_copy_201 ?_
      refine x_vali (nI_add (40 * t) a) ?_
      refine x_iload dX8_copy_202 0 rfl ?_
      refine x_iadd dX8_copy_204 ?_
      refine x_vali (nI_add (40 * t + a) q) ?_
      refine x_ia (j := (40 * t + a + q)) (v := I (m + 17) (40 * t + a + q)) dX8_copy_205 z17 rfl (by omega) (by omega) (hex _ _ (by omega)) ?_
      refine x_is (j := (40 * u + b + q)) dX8_copy_206 z17 rfl (by omega) (by omega) (fun Iq1 e_Iq1 => ?_)
      refine x_iinc (v := nI (q + 1)) (lv' := [(6, .int (nI (q + 1))), (0, .ref m), (1, .int (nI t)), (2, .int (nI a)), (3, .int (nI u)), (4, .int (nI b)), (5, .int (nI c))]) dX8_copy_207 0 rfl (nI_1 q) (by decide) rfl ?_
      refine x_goto (tgt := 171) dX8_copy_210 (by decide) ?_
      refine x_sub [0, 1, 2, 3, 4, 5, 6] rfl ?_
      exact ih (q + 1) Iq1 (by omega) (by omega) (fun x hx => by
        rw [e_Iq1]
        by_cases z : x = q
        · rw [z, u2_same]
        · rw [u2_ne (by omega)]
          exact hcp x (by omega)) (fun z k h => by
        rw [e_Iq1, u2_ne (by omega)]
        exact hex z k (by omega))

set_option maxHeartbeats 4000000 in
set_option maxRecDepth 100000 in
theorem k_copy_b {G : GG} {Sh : HS} {I : HI} {R : HR} {m : Nat} {σ : SG} (hm0 : MI m Sh I R σ) (hw0 : WI σ) {t u a b c : Nat} (ht : t < 4) (hu : u < 4) (ha : a + c ≤ gSz σ t) (hb : b + c ≤ gSz σ u) (htu : t = u) (hab : a < b) : ∀ (m9 : Nat) (q : Nat) (mo : Int32) (J : HI), (q ≤ c) → (q < m9) → (mo = nI q - 1) → (∀ x, q ≤ x → x < c → J (m + 17) (40 * u + b + x) = I (m + 17) (40 * t + a + x)) → (∀ z k, ¬ (z = m + 17 ∧ 40 * u + b + q ≤ k ∧ k < 40 * u + b + c) → J z k = I z k) → X G (kM G 3 0 0 (qi (updM m Sh I R (nI c) (withSh σ u (gSo σ u, gSz σ u, cpR σ t u a b c))))) yX8_copy cX8_copy 7 (some .int) 0 0 125 [(6, .int mo), (0, .ref m), (1, .int (nI t)), (2, .int (nI a)), (3, .int (nI u)), (4, .int (nI b)), (5, .int (nI c))] [] (Sh, J, R) := by
  intro m9
  induction m9 with
  | zero =>
    intro q mo J hq hm hmo hcp hex
    exact absurd hm (by omega)
  | succ m9 ih =>
    intro q mo J hq hm hmo hcp hex
    obtain ⟨hsh, hrf, ⟨hn, hn8⟩, hs, ⟨hru, hrt⟩, ⟨htc, htc6⟩, hmt, hmp, him, hse⟩ := id hm0
    have hmw := hm0.mw
    have hnb := hw0.nb
    obtain ⟨z0, z1, z6, z7, z8, z9, z10, z11, z12, z13, z14, z15, z16, z17⟩ := id hsh
    obtain ⟨y1, y6, y7, y8, y9, y10, y11, y12, y13, y14, y15, y16, y17⟩ := id hrf
    have s1 := (hse t ht).2.2.1
    have s2 := (hse u hu).2.2.1
    refine x_iload dX8_copy_125 0 rfl ?_
    refine x_if_lt (tgt := 165) dX8_copy_127 (by decide) (fun c_127 => ?_) (fun c_127 => ?_)
    · refine x_goto (tgt := 213) dX8_copy_165 (by decide) ?_
      refine x_iload dX8_copy_213 6 rfl ?_
      refine x_iret dX8_copy_215 rfl (Nat.le_refl _) (Nat.le_refl _) ?_
      have hq0 : q = 0 := by
        cases q with
        | zero => rfl
        | succ p =>
          exfalso
          have z := hmo.trans (nI_pred p)
          rw [z] at c_127
          exact nI_pos (by omega) c_127
      subst hq0
      obtain ⟨x1, x2⟩ := copy_fin hm0 ht hu ha hb (fun x hx => hcp x (by omega) hx) (fun z k h => hex z k (by omega))
      exact ⟨rfl, J, rfl, x1, x2⟩
    · obtain ⟨p, rfl⟩ : ∃ p, q = p + 1 := by
        cases q with
        | zero => exact absurd (show mo < 0 by rw [hmo]; decide) c_127
        | succ p => exact ⟨p, rfl⟩
      have hmq : mo = nI p := hmo.trans (nI_pred p)
      subst hmq
      refine x_aload_n dX8_copy_130 1 rfl rfl ?_
      refine x_gR (b := m + 17) dX8_copy_131 fl_8_58 rfl z0 y17 ?_
      refine x_bipush (v := nI 40) dX8_copy_134 (by decide) ?_
      refine x_iload_n dX8_copy_136 4 rfl rfl ?_
      refine x_imul dX8_copy_137 ?_
      refine x_vali (pk_mul 40 u) ?_
      refine x_iload dX8_copy_138 5 rfl ?_
      refine x_iadd dX8_copy_140 ?_
      refine x_vali (nI_add (40 * u) b) ?_
      refine x_iload dX8_copy_141 0 rfl ?_
      refine x_iadd dX8_copy_143 ?_
      refine x_vali (nI_add (40 * u + b) p) ?_
      refine x_aload_n dX8_copy_144 1 rfl rfl ?_
      refine x_gR (b := m + 17) dX8_copy_145 fl_8_58 rfl z0 y17 ?_
      refine x_bipush (v := nI 40) dX8_copy_148 (by decide) ?_
      refine x_iload_n dX8_copy_150 2 rfl rfl ?_
      refine x_imul dX8_copy_151 ?_
      refine x_vali (pk_mul 40 t) ?_
      refine x_iload_n dX8_copy_152 3 rfl rfl ?_
      refine x_iadd dX8_copy_153 ?_
      refine x_vali (nI_add (40 * t) a) ?_
      refine x_iload dX8_copy_154 0 rfl ?_
      refine x_iadd dX8_copy_156 ?_
      refine x_vali (nI_add (40 * t + a) p) ?_
      refine x_ia (j := (40 * t + a + p)) (v := I (m + 17) (40 * t + a + p)) dX8_copy_157 z17 rfl (by omega) (by omega) (hex _ _ (by omega)) ?_
      refine x_is (j := (40 * u + b + p)) dX8_copy_158 z17 rfl (by omega) (by omega) (fun Iq1 e_Iq1 => ?_)
      obtain ⟨xq2, e_xq2⟩ : ∃ z : Int32, z = nI p + (-1) := ⟨_, rfl⟩
      refine x_iinc (v := xq2) (lv' := [(6, .int xq2), (0, .ref m), (1, .int (nI t)), (2, .int (nI a)), (3, .int (nI u)), (4, .int (nI b)), (5, .int (nI c))]) dX8_copy_159 0 rfl e_xq2.symm (by decide) rfl ?_
      refine x_goto (tgt := 125) dX8_copy_162 (by decide) ?_
      refine x_sub [0, 1, 2, 3, 4, 5, 6] rfl ?_
      exact ih p xq2 Iq1 (by omega) (by omega) (by rw [e_xq2]; exact (Int32.sub_eq_add_neg _ _).symm) (fun x hx hxc => by
        rw [e_Iq1]
        by_cases z : x = p
        · rw [z, u2_same]
        · rw [u2_ne (by omega)]
          exact hcp x (by omega) hxc) (fun z k h => by
        rw [e_Iq1, u2_ne (by omega)]
        exact hex z k (by omega))

set_option maxHeartbeats 4000000 in
set_option maxRecDepth 100000 in
theorem k_mcopy {G : GG} {Sh : HS} {I : HI} {R : HR} {m : Nat} {σ : SG} (hm0 : MI m Sh I R σ) (hw0 : WI σ) {s i o j n : Int32} : AM G 3 0 0 yX8_copy cX8_copy 7 (some .int) [.ref m, .int s, .int i, .int o, .int j, .int n] (Sh, I, R) (qi (updM m Sh I R (copyV σ s i o j n) (copyS σ s i o j n))) := by
  obtain ⟨hsh, hrf, ⟨hn, hn8⟩, hs, ⟨hru, hrt⟩, ⟨htc, htc6⟩, hmt, hmp, him, hse⟩ := id hm0
  have hmw := hm0.mw
  have hnb := hw0.nb
  obtain ⟨z0, z1, z6, z7, z8, z9, z10, z11, z12, z13, z14, z15, z16, z17⟩ := id hsh
  obtain ⟨y1, y6, y7, y8, y9, y10, y11, y12, y13, y14, y15, y16, y17⟩ := id hrf
  refine am_intro (by decide) (Nat.le_of_ble_eq_true rfl) ?_
  refine x_iload_n dX8_copy_0 1 rfl rfl ?_
  refine x_callS (rest := []) (k_misSheet (G := G) (Sh := Sh) (I := I) (R := R) (s := s)) dX8_copy_1 crc_X8_isSheet sc_8_277 rfl rfl (Nat.le_of_ble_eq_true rfl) (roomy_k (by omega) (by decide)) (Nat.le_refl _) (Nat.le_refl _) ?_
  rintro _ _ ⟨rs, rfl, hrs, rfl⟩
  subst hrs
  refine x_if_eqB (tgt := 14) dX8_copy_4 (by decide) (fun c_4 => ?_) (fun c_4 => ?_)
  · refine x_bipush (v := (-2)) dX8_copy_14 (by decide) ?_
    refine x_iret dX8_copy_16 rfl (Nat.le_refl _) (Nat.le_refl _) ?_
    have hv : copyV σ s i o j n = -2 ∧ copyS σ s i o j n = σ := by
      unfold copyV copyS
      cases h : idF 4 s with
      | none => exact ⟨rfl, rfl⟩
      | some t => exact absurd (by rw [h]; rfl) c_4
    refine ⟨hv.1.symm, I, rfl, ?_, FrM.rf⟩
    rw [hv.2]
    exact hm0
  · refine x_iload_n dX8_copy_7 3 rfl rfl ?_
    refine x_callS (rest := []) (k_misSheet (G := G) (Sh := Sh) (I := I) (R := R) (s := o)) dX8_copy_8 crc_X8_isSheet sc_8_277 rfl rfl (Nat.le_of_ble_eq_true rfl) (roomy_k (by omega) (by decide)) (Nat.le_refl _) (Nat.le_refl _) ?_
    rintro _ _ ⟨rs, rfl, hrs, rfl⟩
    subst hrs
    refine x_if_neB (tgt := 17) dX8_copy_11 (by decide) (fun c_11 => ?_) (fun c_11 => ?_)
    · obtain ⟨t, hid_t⟩ := Option.isSome_iff_exists.mp c_4
      obtain ⟨hi_t, hie_t⟩ := idF_some (by omega) hid_t
      subst hie_t
      have ht := hi_t
      obtain ⟨u, hid_u⟩ := Option.isSome_iff_exists.mp c_11
      obtain ⟨hi_u, hie_u⟩ := idF_some (by omega) hid_u
      subst hie_u
      have hu := hi_u
      have het := hse t ht
      have heu := hse u hu
      have s1 := het.2.2.1
      have s2 := heu.2.2.1
      refine x_aload_n dX8_copy_17 0 rfl rfl ?_
      refine x_gR (b := m + 15) dX8_copy_18 fl_8_52 rfl z0 y15 ?_
      refine x_iload_n dX8_copy_21 1 rfl rfl ?_
      refine x_ia (j := t) (v := gSo σ t) dX8_copy_22 z15 rfl (by omega) (by omega) het.1 ?_
      refine x_if_lt (tgt := 35) dX8_copy_23 (by decide) (fun c_23 => ?_) (fun c_23 => ?_)
      · refine x_bipush (v := (-11)) dX8_copy_35 (by decide) ?_
        refine x_iret dX8_copy_37 rfl (Nat.le_refl _) (Nat.le_refl _) ?_
        unfold copyV copyS
        rw [idF_in ht (by omega), idF_in hu (by omega)]
        dsimp only
        have hq : gSo σ t = -1 ∨ gSo σ u = -1 := Or.inl ((so_neg hw0 ht).mp c_23)
        rw [if_pos hq, if_pos hq]
        exact ⟨rfl, I, rfl, hm0, FrM.rf⟩
      · refine x_aload_n dX8_copy_26 0 rfl rfl ?_
        refine x_gR (b := m + 15) dX8_copy_27 fl_8_52 rfl z0 y15 ?_
        refine x_iload_n dX8_copy_30 3 rfl rfl ?_
        refine x_ia (j := u) (v := gSo σ u) dX8_copy_31 z15 rfl (by omega) (by omega) heu.1 ?_
        refine x_if_ge (tgt := 38) dX8_copy_32 (by decide) (fun c_32 => ?_) (fun c_32 => ?_)
        · have h1 : ¬ gSo σ t = -1 := fun z => c_23 ((so_neg hw0 ht).mpr z)
          have h2 : ¬ gSo σ u = -1 := fun z => (so_neg2 hw0 hu).mpr z c_32
          refine x_aload_n dX8_copy_38 0 rfl rfl ?_
          refine x_gR (b := m + 15) dX8_copy_39 fl_8_52 rfl z0 y15 ?_
          refine x_iload_n dX8_copy_42 1 rfl rfl ?_
          refine x_ia (j := t) (v := gSo σ t) dX8_copy_43 z15 rfl (by omega) (by omega) het.1 ?_
          refine x_aload_n dX8_copy_44 0 rfl rfl ?_
          refine x_gR (b := m + 15) dX8_copy_45 fl_8_52 rfl z0 y15 ?_
          refine x_iload_n dX8_copy_48 3 rfl rfl ?_
          refine x_ia (j := u) (v := gSo σ u) dX8_copy_49 z15 rfl (by omega) (by omega) heu.1 ?_
          refine x_icmp_eq (tgt := 56) dX8_copy_50 (by decide) (fun c_50 => ?_) (fun c_50 => ?_)
          · refine x_iload dX8_copy_56 5 rfl ?_
            refine x_if_lt (tgt := 105) dX8_copy_58 (by decide) (fun c_58 => ?_) (fun c_58 => ?_)
            · refine x_bipush (v := (-12)) dX8_copy_105 (by decide) ?_
              refine x_iret dX8_copy_107 rfl (Nat.le_refl _) (Nat.le_refl _) ?_
              obtain ⟨y1, y2⟩ := copy_no ht hu h1 h2 c_50 (fun z => absurd c_58 (Int32.not_lt.mpr z.1.2.1))
              refine ⟨y1.symm, I, rfl, ?_, FrM.rf⟩
              rw [y2]
              exact hm0
            · refine x_iload_n dX8_copy_61 2 rfl rfl ?_
              refine x_if_lt (tgt := 105) dX8_copy_62 (by decide) (fun c_62 => ?_) (fun c_62 => ?_)
              · refine x_bipush (v := (-12)) dX8_copy_105 (by decide) ?_
                refine x_iret dX8_copy_107 rfl (Nat.le_refl _) (Nat.le_refl _) ?_
                obtain ⟨y1, y2⟩ := copy_no ht hu h1 h2 c_50 (fun z => absurd c_62 (Int32.not_lt.mpr z.1.1))
                refine ⟨y1.symm, I, rfl, ?_, FrM.rf⟩
                rw [y2]
                exact hm0
              · refine x_iload dX8_copy_65 4 rfl ?_
                refine x_if_lt (tgt := 105) dX8_copy_67 (by decide) (fun c_67 => ?_) (fun c_67 => ?_)
                · refine x_bipush (v := (-12)) dX8_copy_105 (by decide) ?_
                  refine x_iret dX8_copy_107 rfl (Nat.le_refl _) (Nat.le_refl _) ?_
                  obtain ⟨y1, y2⟩ := copy_no ht hu h1 h2 c_50 (fun z => absurd c_67 (Int32.not_lt.mpr z.2.1))
                  refine ⟨y1.symm, I, rfl, ?_, FrM.rf⟩
                  rw [y2]
                  exact hm0
                · obtain ⟨a, ha9, rfl⟩ := nI_of c_62
                  obtain ⟨c, hc9, rfl⟩ := nI_of c_58
                  obtain ⟨b, hb9, rfl⟩ := nI_of c_67
                  refine x_iload_n dX8_copy_70 2 rfl rfl ?_
                  refine x_i2l (v := (nI a).toInt64) dX8_copy_71 rfl ?_
                  refine x_iload dX8_copy_72 5 rfl ?_
                  refine x_i2l (v := (nI c).toInt64) dX8_copy_74 rfl ?_
                  refine x_ladd dX8_copy_75 ?_
                  refine x_aload_n dX8_copy_76 0 rfl rfl ?_
                  refine x_gR (b := m + 16) dX8_copy_77 fl_8_55 rfl z0 y16 ?_
                  refine x_iload_n dX8_copy_80 1 rfl rfl ?_
                  refine x_ia (j := t) (v := nI (gSz σ t)) dX8_copy_81 z16 rfl (by omega) (by omega) het.2.1 ?_
                  refine x_i2l (v := (nI (gSz σ t)).toInt64) dX8_copy_82 rfl ?_
                  refine x_lcmp dX8_copy_83 ?_
                  refine x_if_gt (tgt := 105) dX8_copy_84 (by decide) (fun c_84 => ?_) (fun c_84 => ?_)
                  · refine x_bipush (v := (-12)) dX8_copy_105 (by decide) ?_
                    refine x_iret dX8_copy_107 rfl (Nat.le_refl _) (Nat.le_refl _) ?_
                    obtain ⟨y1, y2⟩ := copy_no ht hu h1 h2 c_50 (fun z => by
                      have y1 := (cmp_sp s1 ha9 hc9).mp c_84
                      have y2 := (sp_nat2 s1 ha9 hc9).mp z.1
                      omega)
                    refine ⟨y1.symm, I, rfl, ?_, FrM.rf⟩
                    rw [y2]
                    exact hm0
                  · refine x_iload dX8_copy_87 4 rfl ?_
                    refine x_i2l (v := (nI b).toInt64) dX8_copy_89 rfl ?_
                    refine x_iload dX8_copy_90 5 rfl ?_
                    refine x_i2l (v := (nI c).toInt64) dX8_copy_92 rfl ?_
                    refine x_ladd dX8_copy_93 ?_
                    refine x_aload_n dX8_copy_94 0 rfl rfl ?_
                    refine x_gR (b := m + 16) dX8_copy_95 fl_8_55 rfl z0 y16 ?_
                    refine x_iload_n dX8_copy_98 3 rfl rfl ?_
                    refine x_ia (j := u) (v := nI (gSz σ u)) dX8_copy_99 z16 rfl (by omega) (by omega) heu.2.1 ?_
                    refine x_i2l (v := (nI (gSz σ u)).toInt64) dX8_copy_100 rfl ?_
                    refine x_lcmp dX8_copy_101 ?_
                    refine x_if_le (tgt := 108) dX8_copy_102 (by decide) (fun c_102 => ?_) (fun c_102 => ?_)
                    · have ha : a + c ≤ gSz σ t := by
                        have z : ¬ gSz σ t < a + c := fun y => c_84 ((cmp_sp s1 ha9 hc9).mpr y)
                        omega
                      have hb : b + c ≤ gSz σ u := by
                        have z : ¬ 0 < lg_cmp ((nI b).toInt64 + (nI c).toInt64) (nI (gSz σ u)).toInt64 := Int32.not_lt.mpr c_102
                        have z : ¬ gSz σ u < b + c := fun y => z ((cmp_sp s2 hb9 hc9).mpr y)
                        omega
                      obtain ⟨y1, y2⟩ := copy_ok ht hu h1 h2 c_50 ha hb s1 s2
                      rw [y1, y2]
                      refine x_iload_n dX8_copy_108 1 rfl rfl ?_
                      refine x_iload_n dX8_copy_109 3 rfl rfl ?_
                      refine x_icmp_ne (tgt := 168) dX8_copy_110 (by decide) (fun c_110 => ?_) (fun c_110 => ?_)
                      · have c_110 : ¬ t = u := fun zz9 => c_110 ((nI_eq (a := t) (b := u) (by omega) (by omega)).mpr zz9)
                        refine x_iconst (v := nI 0) dX8_copy_168 (by decide) ?_
                        refine x_istore (lv' := [(6, .int (nI 0)), (0, .ref m), (1, .int (nI t)), (2, .int (nI a)), (3, .int (nI u)), (4, .int (nI b)), (5, .int (nI c))]) dX8_copy_169 (by decide) rfl ?_
                        refine x_sub [0, 1, 2, 3, 4, 5, 6] rfl ?_
                        exact k_copy_f hm0 hw0 ht hu ha hb (Or.inl c_110) (c + 1) 0 I (by omega) (by omega) (fun x hx => absurd hx (by omega)) (fun _ _ _ => rfl)
                      · have c_110 : t = u := (nI_eq (a := t) (b := u) (by omega) (by omega)).mp c_110
                        refine x_iload_n dX8_copy_113 2 rfl rfl ?_
                        refine x_iload dX8_copy_114 4 rfl ?_
                        refine x_icmp_ge (tgt := 168) dX8_copy_116 (by decide) (fun c_116 => ?_) (fun c_116 => ?_)
                        · have c_116 : b ≤ a := (nI_leI (a := b) (b := a) (by omega) (by omega)).mp c_116
                          refine x_iconst (v := nI 0) dX8_copy_168 (by decide) ?_
                          refine x_istore (lv' := [(6, .int (nI 0)), (0, .ref m), (1, .int (nI t)), (2, .int (nI a)), (3, .int (nI u)), (4, .int (nI b)), (5, .int (nI c))]) dX8_copy_169 (by decide) rfl ?_
                          refine x_sub [0, 1, 2, 3, 4, 5, 6] rfl ?_
                          exact k_copy_f hm0 hw0 ht hu ha hb (Or.inr c_116) (c + 1) 0 I (by omega) (by omega) (fun x hx => absurd hx (by omega)) (fun _ _ _ => rfl)
                        · have c_116 : ¬ b ≤ a := fun zz9 => c_116 ((nI_leI (a := b) (b := a) (by omega) (by omega)).mpr zz9)
                          refine x_iload dX8_copy_119 5 rfl ?_
                          refine x_iconst (v := 1) dX8_copy_121 (by decide) ?_
                          refine x_isub dX8_copy_122 ?_
                          refine x_topi (fun xq1 e_xq1 => ?_)
                          refine x_istore (lv' := [(6, .int xq1), (0, .ref m), (1, .int (nI t)), (2, .int (nI a)), (3, .int (nI u)), (4, .int (nI b)), (5, .int (nI c))]) dX8_copy_123 (by decide) rfl ?_
                          refine x_sub [0, 1, 2, 3, 4, 5, 6] rfl ?_
                          exact k_copy_b hm0 hw0 ht hu ha hb c_110 (by omega) (c + 1) c xq1 I (by omega) (by omega) e_xq1 (fun x h1 h2 => absurd h1 (by omega)) (fun _ _ _ => rfl)
                    · refine x_bipush (v := (-12)) dX8_copy_105 (by decide) ?_
                      refine x_iret dX8_copy_107 rfl (Nat.le_refl _) (Nat.le_refl _) ?_
                      obtain ⟨y1, y2⟩ := copy_no ht hu h1 h2 c_50 (fun z => by
                        have y1 := (cmp_sp s2 hb9 hc9).mp (Int32.not_le.mp c_102)
                        have y2 := (sp_nat2 s2 hb9 hc9).mp z.2
                        omega)
                      refine ⟨y1.symm, I, rfl, ?_, FrM.rf⟩
                      rw [y2]
                      exact hm0
          · refine x_bipush (v := (-13)) dX8_copy_53 (by decide) ?_
            refine x_iret dX8_copy_55 rfl (Nat.le_refl _) (Nat.le_refl _) ?_
            unfold copyV copyS
            rw [idF_in ht (by omega), idF_in hu (by omega)]
            dsimp only
            have n1 : ¬ (gSo σ t = -1 ∨ gSo σ u = -1) := fun z => z.elim h1 h2
            rw [if_neg n1, if_neg n1, if_pos c_50, if_pos c_50]
            exact ⟨rfl, I, rfl, hm0, FrM.rf⟩
        · refine x_bipush (v := (-11)) dX8_copy_35 (by decide) ?_
          refine x_iret dX8_copy_37 rfl (Nat.le_refl _) (Nat.le_refl _) ?_
          unfold copyV copyS
          rw [idF_in ht (by omega), idF_in hu (by omega)]
          dsimp only
          have hq : gSo σ t = -1 ∨ gSo σ u = -1 := Or.inr ((so_neg2 hw0 hu).mp c_32)
          rw [if_pos hq, if_pos hq]
          exact ⟨rfl, I, rfl, hm0, FrM.rf⟩
    · refine x_bipush (v := (-2)) dX8_copy_14 (by decide) ?_
      refine x_iret dX8_copy_16 rfl (Nat.le_refl _) (Nat.le_refl _) ?_
      have hv : copyV σ s i o j n = -2 ∧ copyS σ s i o j n = σ := by
        unfold copyV copyS
        cases idF 4 s with
        | none => exact ⟨rfl, rfl⟩
        | some t =>
          rw [Option.not_isSome_iff_eq_none.mp c_11]
          exact ⟨rfl, rfl⟩
      refine ⟨hv.1.symm, I, rfl, ?_, FrM.rf⟩
      rw [hv.2]
      exact hm0

