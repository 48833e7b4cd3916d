/-! WHAT EVERY NUMBER IS, kept by every call -/
theorem nI_div {a b : Nat} (ha : a < 2 ^ 31) (hb : b < 2 ^ 31) : nI a / nI b = nI (a / b) := by
  apply Int32.toInt_inj.mp
  rw [Int32.toInt_div, nI_toInt ha, nI_toInt hb]
  have hz : Int.tdiv (a : Int) (b : Int) = ((a / b : Nat) : Int) := rfl
  have hle : (a / b) ≤ a := Nat.div_le_self a b
  have key : ∀ z : Nat, z < 2 ^ 31 → Int.bmod (z : Int) (2 ^ 32) = z := fun z h => Int.bmod_eq_of_le (by omega) (by omega)
  have hlt : a / b < 2 ^ 31 := Nat.lt_of_le_of_lt hle ha
  rw [hz, key _ hlt, nI_toInt hlt]
theorem mnmx {b : Nat} {x : Int32} (hb : b < 2 ^ 31) : ∃ c, c ≤ b ∧ mnI (nI b) (mxI 0 x) = nI c := by
  have e0 : (0 : Int32).toInt = 0 := by decide
  have eb : (nI b).toInt = (b : Int) := nI_toInt hb
  have h1 := mn_t (a := nI b) (b := mxI 0 x)
  have h2 := mx_t (a := 0) (b := x)
  exact nI_of2 (M := nI b) (n := b) eb (by rw [Int32.lt_iff_toInt_lt]; omega) (by rw [Int32.le_iff_toInt_le]; omega)
theorem lo_pos {k nu v wa : Int32} (hn : ∃ a, a < 10 ∧ nu = nI a) (hv : ∃ c, c ≤ 99 ∧ v = nI c) : 0 ≤ lossF k nu v wa := by
  obtain ⟨a, ha, rfl⟩ := hn
  obtain ⟨c, hc, rfl⟩ := hv
  have h2 : nI c / 2 = nI (c / 2) := nI_div (b := 2) (by omega) (by omega)
  have hd : c / 2 ≤ c := Nat.div_le_self c 2
  have h3 : (2 : Int32) * nI c = nI (2 * c) := pk_mul 2 c
  unfold lossF
  split
  · rw [h2]; exact nI_pos' (by omega)
  · split
    · split
      · decide
      · exact nI_pos' (by omega)
    · split
      · rw [h2, nI_add]; exact nI_pos' (by omega)
      · split
        · split
          · decide
          · rw [h3]; exact nI_pos' (by omega)
        · split
          · exact mxI_le.1
          · exact nI_pos' (by omega)
theorem ri_sm {k v : Int32} (hv : ∃ c, c ≤ 20 ∧ v = nI c) : ∃ c, c ≤ 21 ∧ riseF k v = nI c := by
  obtain ⟨c, hc, rfl⟩ := hv
  have h2 : nI c / 2 = nI (c / 2) := nI_div (b := 2) (by omega) (by omega)
  have hd : c / 2 ≤ c := Nat.div_le_self c 2
  unfold riseF
  split
  · exact ⟨c + 1, by omega, nI_1 c⟩
  · split
    · exact ⟨c / 2, by omega, h2⟩
    · split
      · exact ⟨c / 2 + 1, by omega, by rw [h2]; exact nI_1 _⟩
      · exact ⟨c, by omega, rfl⟩
theorem WF.beat {P : Nat → List Int32} {n : Nat} {v : SV} (h : WF n v) : WF n (beatF P n v) := by
  intro i hi
  obtain ⟨h0, h1, h2, h3, h4⟩ := h i hi
  refine ⟨h0, h1, h2, h3, ?_⟩
  show ∃ a, a < 100 ∧ mxI 0 (v.1 i 4 - leF P n v i) = nI a
  refine mx_le h4 ?_
  unfold leF
  split
  · unfold loF
    refine lo_pos h1 ?_
    obtain ⟨c, hc, e⟩ := mnmx (b := 99) (x := topF (cF n v i) (P 0)) (by decide)
    exact ⟨c, hc, e⟩
  · decide
theorem WF.pass {P : Nat → List Int32} {n : Nat} {v : SV} (h : WF n v) (k : Nat) : WF n (passF P n v k) := by
  induction k with
  | zero => exact h
  | succ k ih => exact WF.beat (P := P) (v := passF P n v k) ih
theorem WF.spade {P : Nat → List Int32} {n i : Nat} {v : SV} (h : WF n v) : WF n (spadeF P n i v) := by
  intro j hj
  obtain ⟨h0, h1, h2, h3, h4⟩ := h j hj
  have e : ∀ k, ¬ k = 4 → (spadeF P n i v).1 j k = v.1 j k := fun k hk => by
    show (if j = i ∧ k = 4 then _ else v.1 j k) = _
    rw [if_neg (fun z => hk z.2)]
  rw [e 0 (by decide), e 1 (by decide), e 2 (by decide), e 3 (by decide)]
  refine ⟨h0, h1, h2, h3, ?_⟩
  show ∃ a, a < 100 ∧ (if j = i ∧ 4 = 4 then mnI 99 (v.1 i 4 + riF P n v i) else v.1 j 4) = nI a
  split
  · rename_i q
    obtain ⟨rfl, -⟩ := q
    obtain ⟨x, hx, ex⟩ := h4
    obtain ⟨c, hc, ec⟩ := ri_sm (k := v.1 j 0) (v := raF P n v j) (by
      obtain ⟨c, hc, e⟩ := mnmx (b := 20) (x := topF (cF n v j) (P 1)) (by decide)
      exact ⟨c, hc, e⟩)
    have er : riF P n v j = nI c := ec
    rw [ex, er, nI_add]
    unfold mnI
    split
    · rename_i q
      have := (nI_ltI (a := x + c) (b := 99) (by omega) (by omega)).mp q
      exact ⟨x + c, by omega, rfl⟩
    · exact ⟨99, by decide, rfl⟩
  · exact h4
theorem WI.own {σ : SG} {v : SV} (h : WI σ) (hv : WV (gN σ) v) (hk : ∀ i, i < gN σ → v.1 i 0 = (gW σ).1 i 0) : WI (withV σ v) :=
  ⟨hv, h.2.1, fun x hx => ⟨(h.2.2.1 x hx).1, (h.2.2.1 x hx).2.1, fun i hi => ((h.2.2.1 x hx).2.2 i hi).trans (hk i (Nat.lt_of_lt_of_le hi (h.2.2.1 x hx).1)).symm⟩, h.2.2.2⟩
theorem WI.wave {σ : SG} (h : WI σ) : WI (waveS σ) := by
  unfold waveS
  split
  · rename_i q
    obtain ⟨a, ha, e⟩ := h.1.2.2
    rw [e] at q
    have h9 := (nI_ltI (a := a) (b := 999) (by omega) (by omega)).mp q
    refine h.own ⟨h.1.1.beat, h.1.2.1, a + 1, by omega, ?_⟩ (fun i hi => rfl)
    show (gW σ).2.2 + 1 = _
    rw [e]
    exact nI_1 a
  · exact h
theorem WI.spade {σ : SG} {f : Int32} (h : WI σ) : WI (spadeS σ f) := by
  unfold spadeS
  split
  · rename_i j q
    refine h.own ⟨h.1.1.spade, h.1.2.1, h.1.2.2⟩ (fun i hi => ?_)
    show (if i = j ∧ 0 = 4 then _ else (gW σ).1 i 0) = _
    rw [if_neg (by omega)]
  · exact h
theorem WI.force {σ : SG} {t : Int32} (h : WI σ) : WI (forceS σ t) := by
  unfold forceS
  split
  · exact h
  · exact h
theorem WI.img {σ : SG} (h : WI σ) : WI (withIm σ (some σ.1)) := by
  refine ⟨h.1, h.2.1, fun x hx => ?_, h.2.2.2⟩
  have hx : some σ.1 = some x := hx
  cases hx
  exact ⟨Nat.le_refl _, h.1, fun _ _ => rfl⟩
theorem WI.back {σ : SG} (h : WI σ) : WI (backS σ) := by
  unfold backS
  cases hi : gIm σ with
  | none => exact h
  | some x =>
    refine ⟨(h.2.2.1 x hi).2.1, h.2.1, fun y hy => ?_, h.2.2.2⟩
    have hy : gIm σ = some y := hy
    rw [hi] at hy
    cases hy
    exact ⟨Nat.le_refl _, (h.2.2.1 x hi).2.1, fun _ _ => rfl⟩
theorem WI.feed {σ : SG} {v : Int32} (h : WI σ) : WI (feedS σ v) := by
  unfold feedS
  split
  · rename_i q
    refine ⟨h.1, fun j hj => ?_, h.2.2.1, h.2.2.2⟩
    have hj : j < gTs σ + 1 := hj
    show ∃ a, a < 256 ∧ (if j = gTs σ then v else gTb σ j) = nI a
    split
    · obtain ⟨a, ha, e⟩ := nI_of2 (M := 255) (n := 255) (by decide) (Int32.not_lt.mpr q.1.1) q.1.2
      exact ⟨a, by omega, e⟩
    · exact h.2.1 j (by omega)
  · exact h
theorem WI.fort {σ : SG} {k nu p : Int32} (h : WI σ) : WI (fortS σ k nu p) := by
  unfold fortS
  split
  · rename_i q
    obtain ⟨⟨k0, k6, n0, n10, p0, p16⟩, hn⟩ := q
    have up : ∀ (x M : Int32) (c : Nat), (M.toInt = (c : Int)) → 0 ≤ x → x < M → ∃ a, a < c ∧ x = nI a := by
      intro x M c hM h0 h1
      obtain ⟨a, ha, rfl⟩ := nI_of (Int32.not_lt.mpr h0)
      rw [Int32.lt_iff_toInt_lt, nI_toInt ha, hM] at h1
      exact ⟨a, by omega, rfl⟩
    refine ⟨⟨fun i hi => ?_, h.1.2.1, h.1.2.2⟩, h.2.1, fun x hx => ?_, h.2.2.2⟩
    · have hi : i < gN σ + 1 := hi
      show (∃ a, a < 6 ∧ (addV (gW σ) (gN σ) k nu p).1 i 0 = nI a) ∧ (∃ a, a < 10 ∧ (addV (gW σ) (gN σ) k nu p).1 i 1 = nI a) ∧ (∃ a, a < 16 ∧ (addV (gW σ) (gN σ) k nu p).1 i 2 = nI a) ∧ (∃ a, a < 2 ∧ (addV (gW σ) (gN σ) k nu p).1 i 3 = nI a) ∧ ∃ a, a < 100 ∧ (addV (gW σ) (gN σ) k nu p).1 i 4 = nI a
      by_cases e : i = gN σ
      · unfold addV
        simp only [e, if_true]
        exact ⟨up k 6 6 (by decide) k0 k6, up nu 10 10 (by decide) n0 n10, up p 16 16 (by decide) p0 p16, ⟨0, by decide, rfl⟩, ⟨20, by decide, rfl⟩⟩
      · have hw := h.1.1 i (by omega)
        unfold addV
        simp only [e, if_false]
        exact hw
    · obtain ⟨h1, h2, h3⟩ := h.2.2.1 x hx
      refine ⟨Nat.le_succ_of_le h1, h2, fun i hi => ?_⟩
      have : ¬ i = gN σ := by omega
      show _ = (addV (gW σ) (gN σ) k nu p).1 i 0
      unfold addV
      simp only [this, if_false]
      exact h3 i hi
  · exact h
theorem WF.up {n f k : Nat} {v : SV} {x : Int32} (h : WF n v) (hx : (k = 1 ∧ ∃ a, a < 10 ∧ x = nI a) ∨ (k = 2 ∧ ∃ a, a < 16 ∧ x = nI a) ∨ (k = 3 ∧ ∃ a, a < 2 ∧ x = nI a) ∨ (k = 4 ∧ ∃ a, a < 100 ∧ x = nI a)) : WF n (upV v f k x) := by
  intro i hi
  obtain ⟨h0, h1, h2, h3, h4⟩ := h i hi
  unfold upV
  by_cases e : i = f
  · rcases hx with ⟨rfl, hx⟩ | ⟨rfl, hx⟩ | ⟨rfl, hx⟩ | ⟨rfl, hx⟩ <;> simp [e] at * <;> simp [*]
  · simp [e]
    exact ⟨h0, h1, h2, h3, h4⟩
theorem WI.set {σ : SG} {w of v : Int32} (h : WI σ) : WI (setS σ w of v) := by
  by_cases ok : setOk σ w of v
  · rw [(set_ok ok).2]
    have up : ∀ (M : Int32) (c : Nat), boF w = M → (M.toInt = (c : Int)) → ∃ a, a < c ∧ v = nI a := by
      intro M c hb hM
      obtain ⟨a, ha, e⟩ := nI_of ok.1
      have h1 := Int32.not_le.mp ok.2.1
      rw [hb, e, Int32.lt_iff_toInt_lt, nI_toInt ha, hM] at h1
      exact ⟨a, by omega, e⟩
    unfold putS
    split
    · rename_i q
      exact h.own ⟨h.1.1, up 10 10 (by rw [q]; rfl) (by decide), h.1.2.2⟩ (fun _ _ => rfl)
    · split
      · rename_i q0 q
        exact h.own ⟨h.1.1, h.1.2.1, up 1000 1000 (by rw [q]; rfl) (by decide)⟩ (fun _ _ => rfl)
      · rename_i q0 q1
        split
        · rename_i i hi
          have hk0 : ∀ k x j, ¬ k = 0 → (upV (gW σ) i k x).1 j 0 = (gW σ).1 j 0 := fun k x j hk => by
            unfold upV
            simp [Ne.symm hk]
          by_cases w2 : w = 2
          · have e : flF w = 1 := by rw [w2]; rfl
            rw [e]
            exact h.own ⟨h.1.1.up (Or.inl ⟨rfl, up 10 10 (by rw [w2]; rfl) (by decide)⟩), h.1.2.1, h.1.2.2⟩ (fun j _ => hk0 _ _ _ (by decide))
          · by_cases w3 : w = 3
            · have e : flF w = 2 := by rw [w3]; rfl
              rw [e]
              exact h.own ⟨h.1.1.up (Or.inr (Or.inl ⟨rfl, up 16 16 (by rw [w3]; rfl) (by decide)⟩)), h.1.2.1, h.1.2.2⟩ (fun j _ => hk0 _ _ _ (by decide))
            · by_cases w4 : w = 4
              · have e : flF w = 3 := by rw [w4]; rfl
                rw [e]
                exact h.own ⟨h.1.1.up (Or.inr (Or.inr (Or.inl ⟨rfl, up 2 2 (by rw [w4]; rfl) (by decide)⟩))), h.1.2.1, h.1.2.2⟩ (fun j _ => hk0 _ _ _ (by decide))
              · have e : flF w = 4 := by
                  unfold flF
                  rw [if_neg w2, if_neg w3, if_neg w4]
                have w5 : w = 5 := by
                  refine Classical.not_not.mp (fun w5 => ok.2.1 ?_)
                  unfold boF
                  rw [if_neg q0, if_neg q1, if_neg w2, if_neg w3, if_neg w4, if_neg w5]
                  exact Int32.not_lt.mp ok.1
                rw [e]
                exact h.own ⟨h.1.1.up (Or.inr (Or.inr (Or.inr ⟨rfl, up 100 100 (by rw [w5]; rfl) (by decide)⟩))), h.1.2.1, h.1.2.2⟩ (fun j _ => hk0 _ _ _ (by decide))
        · exact h
  · rw [(set_no ok).2]
    exact h
theorem WI.sh {σ : SG} {s : Nat} {x : Int32 × Nat × (Nat → Int32)} (h : WI σ) (hx : (x.1 = -1 ∧ x.2.1 = 0) ∨ x.1 = 0 ∨ x.1 = 1 ∨ x.1 = 2) : WI (withSh σ s x) := by
  refine ⟨h.1, h.2.1, h.2.2.1, fun t ht => ?_⟩
  have h4 := h.2.2.2 t ht
  unfold gSo gSz withSh at *
  by_cases e : t = s
  · simp only [e, if_true]
    exact hx
  · simp only [e, if_false]
    exact h4
theorem WI.sheet {σ : SG} {s so n : Int32} (h : WI σ) : WI (sheetS σ s so n) := by
  unfold sheetS
  split
  · exact h
  · split
    · exact h
    · rename_i q
      split
      · exact h.sh (Or.inl ⟨rfl, rfl⟩)
      · rename_i q1
        split
        · exact h
        · split
          · exact h
          · refine h.sh (Or.inr ?_)
            show so = 0 ∨ so = 1 ∨ so = 2
            have q2 := so_iff.mpr q
            have q3 : ¬ so < 0 := fun z => q1 ((so_m1 q2).mp z)
            obtain ⟨a, ha, e⟩ := nI_of2 (M := 2) (n := 2) (by decide) q3 q2.2
            rw [e]
            have : a = 0 ∨ a = 1 ∨ a = 2 := by omega
            rcases this with rfl | rfl | rfl <;> decide
theorem WI.cell {σ : SG} {s i v : Int32} (h : WI σ) : WI (cellS σ s i v) := by
  unfold cellS
  split
  · exact h
  · rename_i t ht
    split
    · exact h
    · split
      · have h4 := h.2.2.2 t (idF_some (by omega) ht).1
        exact h.sh h4
      · exact h
theorem WI.copy {σ : SG} {s i o j n : Int32} (h : WI σ) : WI (copyS σ s i o j n) := by
  unfold copyS
  split
  · rename_i t u ht hu
    split
    · exact h
    · split
      · exact h
      · split
        · have h4 := h.2.2.2 u (idF_some (by omega) hu).1
          exact h.sh h4
        · exact h
  · exact h
theorem WI.film {σ : SG} {s f n : Int32} (h : WI σ) : WI (filmS σ s f n) := by
  unfold filmS
  split
  · split
    · exact h.sh (Or.inr (Or.inl rfl))
    · exact h
  · exact h
theorem WI.fortsL {t : Nat} : ∀ (c : Nat) (at_ came : Int32) (σ : SG), WI σ → WI (fortsL t c at_ came σ).2
  | 0, _, _, _, h => h
  | c + 1, at_, came, σ, h => by
    by_cases q : spP (gSz σ t) at_ 3
    · rw [fl_t q]
      exact WI.fortsL c _ _ _ h.fort
    · rw [fl_f q]
      exact h
theorem WI.forts {σ : SG} {s so fr n : Int32} (h : WI σ) : WI (fortsF σ s so fr n).2 := by
  unfold fortsF
  split
  · exact h
  · split
    · exact h
    · split
      · exact h
      · split
        · exact h
        · exact WI.fortsL _ _ _ _ h

