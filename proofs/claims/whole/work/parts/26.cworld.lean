/-! THE STATE OF A SYSTEM in numbers: strand (forts, their numbers, rule), texts, tape, image, sheets -/
abbrev SG : Type := (Nat × SV × Nat) × (Nat × (Nat → Nat → List Int32)) × (Nat × (Nat → Int32)) × Option (Nat × SV × Nat) × (Nat → Int32 × Nat × (Nat → Int32))
def gN (σ : SG) : Nat := σ.1.1
def gW (σ : SG) : SV := σ.1.2.1
def gRu (σ : SG) : Nat := σ.1.2.2
def gTc (σ : SG) : Nat := σ.2.1.1
def gPP (σ : SG) : Nat → Nat → List Int32 := σ.2.1.2
def gTs (σ : SG) : Nat := σ.2.2.1.1
def gTb (σ : SG) : Nat → Int32 := σ.2.2.1.2
def gIm (σ : SG) : Option (Nat × SV × Nat) := σ.2.2.2.1
def gSo (σ : SG) (s : Nat) : Int32 := (σ.2.2.2.2 s).1
def gSz (σ : SG) (s : Nat) : Nat := (σ.2.2.2.2 s).2.1
def gRo (σ : SG) (s : Nat) : Nat → Int32 := (σ.2.2.2.2 s).2.2
def gP (σ : SG) : Nat → List Int32 := gPP σ (gRu σ)
/-! the class's cells, from b on -/
def CSh (Sh : HS) (b : Nat) : Prop := Sh.2 b = (7, 10) ∧ Sh.2 (b + 1) = (5, 4) ∧ Sh.2 (b + 2) = (9, 160) ∧ Sh.2 (b + 3) = (9, 161) ∧ Sh.2 (b + 4) = (9, 161) ∧ Sh.2 (b + 5) = (2, 5) ∧ Sh.2 (b + 6) = (11, 6) ∧ Sh.2 (b + 7) = (12, 4) ∧ (∀ t, t < 6 → ShT Sh (b + 8 + 3 * t)) ∧ (∀ s, s < 4 → Sh.2 (b + 26 + 2 * s) = (3, 3) ∧ Sh.2 (b + 26 + 2 * s + 1) = (9, 40)) ∧ ShS Sh (b + 34) ∧ ShS Sh (b + 44) ∧ ShS Sh (b + 54) ∧ ShG Sh (b + 64)
def CRf (R : HR) (b : Nat) : Prop := R b 0 = some (b + 1) ∧ R b 1 = some (b + 5) ∧ R b 2 = some (b + 6) ∧ R b 4 = some (b + 34) ∧ R b 5 = some (b + 44) ∧ R b 6 = some (b + 54) ∧ R b 8 = some (b + 64) ∧ R b 9 = some (b + 7) ∧ R (b + 1) 0 = some (b + 2) ∧ R (b + 1) 2 = some (b + 3) ∧ R (b + 1) 3 = some (b + 4) ∧ R (b + 5) 0 = some (b + 1) ∧ (∀ t, t < 6 → R (b + 6) t = some (b + 8 + 3 * t)) ∧ (∀ s, s < 4 → R (b + 7) s = some (b + 26 + 2 * s)) ∧ (∀ t, t < 6 → RT R (b + 8 + 3 * t)) ∧ (∀ s, s < 4 → R (b + 26 + 2 * s) 0 = some (b + 26 + 2 * s + 1)) ∧ RS R (b + 34) ∧ RS R (b + 44) ∧ RS R (b + 54) ∧ RG R (b + 64) (b + 44)
def ruB (b a k : Nat) : Prop := (a = b + 34 ∨ a = b + 44 ∨ a = b + 54) ∧ k = 4
theorem CRf.same {R R' : HR} {b : Nat} (h : CRf R b) (e : ∀ a k, ¬ ruB b a k → R' a k = R a k) : CRf R' b := by
  have q : ∀ a k, ¬ ((a = b + 34 ∨ a = b + 44 ∨ a = b + 54) ∧ k = 4) → R' a k = R a k := e
  obtain ⟨h1, h2, h3, h4, h5, h6, h7, h8, h9, h10, h11, h12, h13, h14, h15, h16, h17, h18, h19, h20⟩ := h
  refine ⟨(q _ _ (by omega)).trans h1, (q _ _ (by omega)).trans h2, (q _ _ (by omega)).trans h3, (q _ _ (by omega)).trans h4, (q _ _ (by omega)).trans h5, (q _ _ (by omega)).trans h6, (q _ _ (by omega)).trans h7, (q _ _ (by omega)).trans h8, (q _ _ (by omega)).trans h9, (q _ _ (by omega)).trans h10, (q _ _ (by omega)).trans h11, (q _ _ (by omega)).trans h12, fun t ht => (q _ _ (by omega)).trans (h13 t ht), fun s hs => (q _ _ (by omega)).trans (h14 s hs), fun t ht => ⟨(q _ _ (by omega)).trans (h15 t ht).1, (q _ _ (by omega)).trans (h15 t ht).2⟩, fun s hs => (q _ _ (by omega)).trans (h16 s hs), ⟨(q _ _ (by omega)).trans h17.1, fun i hi => (q _ _ (by omega)).trans (h17.2 i hi)⟩, ⟨(q _ _ (by omega)).trans h18.1, fun i hi => (q _ _ (by omega)).trans (h18.2 i hi)⟩, ⟨(q _ _ (by omega)).trans h19.1, fun i hi => (q _ _ (by omega)).trans (h19.2 i hi)⟩, ⟨(q _ _ (by omega)).trans h20.1, (q _ _ (by omega)).trans h20.2.1, fun r hr => (q _ _ (by omega)).trans (h20.2.2 r hr)⟩⟩
/-- texts -/
def CT (b : Nat) (I : HI) (σ : SG) : Prop := I b 3 = nI (gTc σ) ∧ 1 ≤ gTc σ ∧ gTc σ ≤ 6 ∧ (∀ t, t < gTc σ → TX I (b + 8 + 3 * t) (gPP σ t)) ∧ ∀ t, t < 6 → I (b + 8 + 3 * t) 0 = nI t
/-- a strand that is kept -/
def CK (b S : Nat) (I : HI) (R : HR) (tc : Nat) (x : Nat × SV × Nat) : Prop := I S 1 = nI x.1 ∧ x.1 ≤ 8 ∧ SR I S x.1 x.2.1 ∧ R S 4 = some (b + 8 + 3 * x.2.2) ∧ x.2.2 < tc
def CTp (b : Nat) (I : HI) (σ : SG) : Prop := I (b + 1) 1 = nI (gTs σ) ∧ gTs σ ≤ 160 ∧ ∀ j, j < gTs σ → I (b + 2) j = gTb σ j
def CIm (b : Nat) (I : HI) (R : HR) (σ : SG) : Prop := match gIm σ with
  | none => I b 7 = 0
  | some x => I b 7 = 1 ∧ CK b (b + 54) I R (gTc σ) x
def CSe (b : Nat) (I : HI) (σ : SG) : Prop := ∀ s, s < 4 → I (b + 26 + 2 * s) 1 = gSo σ s ∧ I (b + 26 + 2 * s) 2 = nI (gSz σ s) ∧ gSz σ s ≤ 40 ∧ ∀ j, j < 40 → I (b + 26 + 2 * s + 1) j = gRo σ s j
def CI (b : Nat) (Sh : HS) (I : HI) (R : HR) (σ : SG) : Prop := CSh Sh b ∧ CRf R b ∧ CT b I σ ∧ CK b (b + 34) I R (gTc σ) σ.1 ∧ CTp b I σ ∧ CIm b I R σ ∧ CSe b I σ
/-- what is the class's own business -/
def prv (b a k : Nat) : Prop := (b + 44 ≤ a ∧ a < b + 54) ∨ (b + 64 ≤ a ∧ a < b + 69) ∨ (b + 8 ≤ a ∧ a < b + 26 ∧ ((a - (b + 8)) % 3 = 2 ∨ ((a - (b + 8)) % 3 = 0 ∧ k = 6))) ∨ (b + 3 ≤ a ∧ a ≤ b + 5) ∨ (b + 36 ≤ a ∧ a < b + 44 ∧ k = 5) ∨ (b + 56 ≤ a ∧ a < b + 64 ∧ k = 5)
def pvE (b : Nat) (I J : HI) : Prop := ∀ a k, ¬ prv b a k → J a k = I a k
def rvE (b : Nat) (R R' : HR) : Prop := ∀ a k, ¬ (a = b + 44 ∧ k = 4) → R' a k = R a k
theorem pvE.rf {b : Nat} {I : HI} : pvE b I I := fun _ _ _ => rfl
theorem rvE.rf {b : Nat} {R : HR} : rvE b R R := fun _ _ _ => rfl
theorem pvE.tr {b : Nat} {I J J2 : HI} (h : pvE b I J) (h2 : pvE b J J2) : pvE b I J2 := fun a k q => (h2 a k q).trans (h a k q)
theorem rvE.tr {b : Nat} {I J J2 : HR} (h : rvE b I J) (h2 : rvE b J J2) : rvE b I J2 := fun a k q => (h2 a k q).trans (h a k q)
theorem TX.pv {b t : Nat} {I J : HI} {P : Nat → List Int32} (h : TX I (b + 8 + 3 * t) P) (ht : t < 6) (e : pvE b I J) : TX J (b + 8 + 3 * t) P :=
  h.same (fun k hk => e _ _ (by unfold prv; omega)) (fun k => e _ _ (by unfold prv; omega))
theorem SR.pv {b S n : Nat} {I J : HI} {v : SV} (h : SR I S n v) (hn : n ≤ 8) (hS : S = b + 34 ∨ S = b + 54) (e : pvE b I J) : SR J S n v :=
  ⟨fun i hi k hk => (e _ _ (by unfold prv; omega)).trans (h.1 i hi k hk), (e _ _ (by unfold prv; omega)).trans h.2.1, (e _ _ (by unfold prv; omega)).trans h.2.2⟩
theorem CK.pv {b S tc : Nat} {I J : HI} {R R' : HR} {x : Nat × SV × Nat} (h : CK b S I R tc x) (hS : S = b + 34 ∨ S = b + 54) (e : pvE b I J) (e2 : rvE b R R') : CK b S J R' tc x :=
  ⟨(e _ _ (by unfold prv; omega)).trans h.1, h.2.1, h.2.2.1.pv h.2.1 hS e, (e2 _ _ (by omega)).trans h.2.2.2.1, h.2.2.2.2⟩
theorem CI.pv {b : Nat} {Sh : HS} {I J : HI} {R R' : HR} {σ : SG} (h : CI b Sh I R σ) (e : pvE b I J) (e2 : rvE b R R') : CI b Sh J R' σ := by
  obtain ⟨h1, h2, h3, h4, h5, h6, h7⟩ := h
  refine ⟨h1, h2.same (fun a k q => e2 a k (fun z => q ⟨Or.inr (Or.inl z.1), z.2⟩)), ?_, h4.pv (Or.inl rfl) e e2, ?_, ?_, ?_⟩
  · obtain ⟨a1, a2, a3, a4, a5⟩ := h3
    exact ⟨(e _ _ (by unfold prv; omega)).trans a1, a2, a3, fun t ht => (a4 t ht).pv (by omega) e, fun t ht => (e _ _ (by unfold prv; omega)).trans (a5 t ht)⟩
  · exact ⟨(e _ _ (by unfold prv; omega)).trans h5.1, h5.2.1, fun j hj => (e _ _ (by unfold prv; omega)).trans (h5.2.2 j hj)⟩
  · unfold CIm at *
    cases hi : gIm σ with
    | none =>
      rw [hi] at h6
      exact (e _ _ (by unfold prv; omega)).trans h6
    | some x =>
      rw [hi] at h6
      exact ⟨(e _ _ (by unfold prv; omega)).trans h6.1, h6.2.pv (Or.inr rfl) e e2⟩
  · intro s hs
    obtain ⟨a1, a2, a3, a4⟩ := h7 s hs
    exact ⟨(e _ _ (by unfold prv; omega)).trans a1, (e _ _ (by unfold prv; omega)).trans a2, a3, fun j hj => (e _ _ (by unfold prv; omega)).trans (a4 j hj)⟩
theorem frS.pv {b t S : Nat} {I J : HI} (h : frS (b + 8 + 3 * t) S I J) (ht : t < 6) (hS : S = b + 44) : pvE b I J := by
  subst hS
  refine fun a k q => h a k ?_ ?_ ?_
  · unfold scr
    unfold prv at q
    omega
  · unfold prv at q
    omega
  · unfold prv at q
    omega
theorem offT.pv {b t : Nat} {I J : HI} (h : offT (b + 8 + 3 * t) I J) (ht : t < 6) : pvE b I J := by
  refine fun a k q => h a k ?_
  unfold scr
  unfold prv at q
  omega
theorem frG.pv {b t w : Nat} {I J : HI} (h : frG (b + 8 + 3 * t) (b + 44) (b + 64) w I J) (ht : t < 6) (hw : w ≤ 3) : pvE b I J := by
  refine fun a k q => h a k ?_ ?_ ?_ ?_ ?_
  · unfold scr
    unfold prv at q
    omega
  · unfold prv at q
    omega
  · unfold prv at q
    omega
  · unfold prv at q
    omega
  · unfold prv at q
    omega
/-- the true strand, with its rule -/
theorem CI.sw {b : Nat} {Sh : HS} {I : HI} {R : HR} {σ : SG} (h : CI b Sh I R σ) : SW Sh I R (b + 34) (b + 8 + 3 * gRu σ) (gN σ) (gP σ) := by
  obtain ⟨h1, h2, h3, h4, h5, h6, h7⟩ := h
  have hr : gRu σ < gTc σ := h4.2.2.2.2
  have h6' := h3.2.2.1
  exact ⟨h1.2.2.2.2.2.2.2.2.2.2.1, h2.2.2.2.2.2.2.2.2.2.2.2.2.2.2.2.2.1, h4.1, h4.2.1, h4.2.2.2.1, h1.2.2.2.2.2.2.2.2.1 _ (by omega), h2.2.2.2.2.2.2.2.2.2.2.2.2.2.2.1 _ (by omega), h3.2.2.2.1 _ hr, by omega⟩
theorem CI.sr {b : Nat} {Sh : HS} {I : HI} {R : HR} {σ : SG} (h : CI b Sh I R σ) : SR I (b + 34) (gN σ) (gW σ) := h.2.2.2.1.2.2.1
theorem CI.ru {b : Nat} {Sh : HS} {I : HI} {R : HR} {σ : SG} (h : CI b Sh I R σ) : gRu σ < 6 := Nat.lt_of_lt_of_le h.2.2.2.1.2.2.2.2 h.2.2.1.2.2.1
/-- the thought strand, when it has begun -/
def TH (b : Nat) (Sh : HS) (I : HI) (R : HR) (σ : SG) (v : SV) : Prop := SW Sh I R (b + 44) (b + 8 + 3 * gRu σ) (gN σ) (gP σ) ∧ SR I (b + 44) (gN σ) v
theorem TH.of {b : Nat} {Sh : HS} {I J : HI} {R : HR} {σ : SG} (h : CI b Sh I R σ) (h1 : ∀ i, i < 8 → ∀ k, k < 5 → J (b + 44 + 2 + i) k = I (b + 34 + 2 + i) k) (h2 : J (b + 44) 1 = I (b + 34) 1) (h3 : J (b + 44) 2 = I (b + 34) 2) (h4 : J (b + 44) 3 = I (b + 34) 3) (h5 : ∀ a k, ¬ (b + 44 ≤ a ∧ a < b + 44 + 10) → J a k = I a k) :
    TH b Sh J (u2 R (b + 44) 4 (some (b + 8 + 3 * gRu σ))) σ (gW σ) ∧ pvE b I J ∧ rvE b R (u2 R (b + 44) 4 (some (b + 8 + 3 * gRu σ))) := by
  have hpv : pvE b I J := fun a k q => h5 a k (by unfold prv at q; omega)
  have hrv : rvE b R (u2 R (b + 44) 4 (some (b + 8 + 3 * gRu σ))) := fun a k q => u2_ne q
  have hr := h.ru
  have hn8 : gN σ ≤ 8 := h.2.2.2.1.2.1
  obtain ⟨a1, a2, a3, a4, a5, a6, a7, a8, a9⟩ := h.sw
  have hc := h.pv hpv hrv
  refine ⟨⟨⟨h.1.2.2.2.2.2.2.2.2.2.2.2.1, hc.2.1.2.2.2.2.2.2.2.2.2.2.2.2.2.2.2.2.2.1, h2.trans a3, hn8, u2_same, a6, hc.2.1.2.2.2.2.2.2.2.2.2.2.2.2.2.2.1 _ hr, hc.2.2.1.2.2.2.1 _ h.2.2.2.1.2.2.2.2, by omega⟩, ?_⟩, hpv, hrv⟩
  have hs := h.sr
  exact ⟨fun i hi k hk => (h1 i (by omega) k hk).trans (hs.1 i hi k hk), h3.trans hs.2.1, h4.trans hs.2.2⟩
