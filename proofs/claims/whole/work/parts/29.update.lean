/-! UPDATES in numbers -/
def FrC {α : Type} (b : Nat) (I J : Nat → Nat → α) : Prop := ∀ a k, ¬ (b ≤ a ∧ a < b + 69) → J a k = I a k
theorem FrC.rf {α : Type} {b : Nat} {I : Nat → Nat → α} : FrC b I I := fun _ _ _ => rfl
theorem FrC.tr {α : Type} {b : Nat} {I J J2 : Nat → Nat → α} (h : FrC b I J) (h2 : FrC b J J2) : FrC b I J2 := fun a k q => (h2 a k q).trans (h a k q)
theorem pvE.fc {b : Nat} {I J : HI} (h : pvE b I J) : FrC b I J := fun a k q => h a k (by unfold prv; omega)
theorem rvE.fc {b : Nat} {I J : HR} (h : rvE b I J) : FrC b I J := fun a k q => h a k (by omega)
/-- a call's answer and the state behind it -/
def updI (b : Nat) (Sh : HS) (I : HI) (R : HR) (val : Int32) (σ : SG) : Int32 → AH → Prop := fun r g => r = val ∧ ∃ (J : HI) (R' : HR), g = (Sh, J, R') ∧ CI b Sh J R' σ ∧ FrC b I J ∧ FrC b R R'
theorem qry_upd {b : Nat} {Sh : HS} {I : HI} {R : HR} {val : Int32} {σ : SG} (hc : CI b Sh I R σ) {r : Int32} {g : AH} (h : qryI b Sh I R val r g) : updI b Sh I R val σ r g := by
  obtain ⟨h1, J, R', h2, h3, h4⟩ := h
  exact ⟨h1, J, R', h2, hc.pv h3 h4, h3.fc, h4.fc⟩
def withX (σ : SG) (x : Nat × SV × Nat) : SG := (x, σ.2)
def withV (σ : SG) (v : SV) : SG := ((gN σ, v, gRu σ), σ.2)
def withIm (σ : SG) (x : Option (Nat × SV × Nat)) : SG := (σ.1, σ.2.1, σ.2.2.1, x, σ.2.2.2.2)
def withTp (σ : SG) (x : Nat × (Nat → Int32)) : SG := (σ.1, σ.2.1, x, σ.2.2.2)
def withSh (σ : SG) (s : Nat) (x : Int32 × Nat × (Nat → Int32)) : SG := (σ.1, σ.2.1, σ.2.2.1, σ.2.2.2.1, fun t => if t = s then x else σ.2.2.2.2 t)
def upV (v : SV) (i k : Nat) (x : Int32) : SV := (fun j q => if j = i ∧ q = k then x else v.1 j q, v.2)
/-- the strand has changed, all else is as it was -/
theorem CI.strand {b : Nat} {Sh : HS} {I J : HI} {R R' : HR} {σ : SG} {x : Nat × SV × Nat} (h : CI b Sh I R σ) (e : ∀ a k, ¬ prv b a k → ¬ (b + 34 ≤ a ∧ a < b + 44) → J a k = I a k) (e2 : ∀ a k, ¬ ((a = b + 34 ∨ a = b + 44) ∧ k = 4) → R' a k = R a k) (hk : CK b (b + 34) J R' (gTc σ) x) : CI b Sh J R' (withX σ x) := by
  obtain ⟨h1, h2, h3, h4, h5, h6, h7⟩ := h
  refine ⟨h1, h2.same (fun a k q => e2 a k (fun z => q (by unfold ruB; omega))), ?_, hk, ?_, ?_, ?_⟩
  · obtain ⟨a1, a2, a3, a4, a5⟩ := h3
    exact ⟨(e _ _ (by unfold prv; omega) (by omega)).trans a1, a2, a3, fun t ht => (have ht : t < gTc σ := ht; (a4 t ht).same (fun k hk => e _ _ (by unfold prv; omega) (by omega)) (fun k => e _ _ (by unfold prv; omega) (by omega))), fun t ht => (e _ _ (by unfold prv; omega) (by omega)).trans (a5 t ht)⟩
  · exact ⟨(e _ _ (by unfold prv; omega) (by omega)).trans h5.1, h5.2.1, fun j hj => (e _ _ (by unfold prv; omega) (by omega)).trans (h5.2.2 j hj)⟩
  · have hz : gIm (withX σ x) = gIm σ := rfl
    unfold CIm at *
    rw [hz]
    cases hi : gIm σ with
    | none =>
      rw [hi] at h6
      exact (e _ _ (by unfold prv; omega) (by omega)).trans h6
    | some y =>
      rw [hi] at h6
      obtain ⟨c1, c2, c3, c4, c5, c6⟩ := h6
      exact ⟨(e _ _ (by unfold prv; omega) (by omega)).trans c1, (e _ _ (by unfold prv; omega) (by omega)).trans c2, c3, ⟨fun i hi k hk => (e _ _ (by unfold prv; omega) (by omega)).trans (c4.1 i hi k hk), (e _ _ (by unfold prv; omega) (by omega)).trans c4.2.1, (e _ _ (by unfold prv; omega) (by omega)).trans c4.2.2⟩, (e2 _ _ (by omega)).trans c5, c6⟩
  · intro s hs
    obtain ⟨a1, a2, a3, a4⟩ := h7 s hs
    exact ⟨(e _ _ (by unfold prv; omega) (by omega)).trans a1, (e _ _ (by unfold prv; omega) (by omega)).trans a2, a3, fun j hj => (e _ _ (by unfold prv; omega) (by omega)).trans (a4 j hj)⟩
/-- a sheet has changed, all else is as it was -/
theorem CI.sheetU {b s : Nat} {Sh : HS} {I J : HI} {R : HR} {σ : SG} {so : Int32} {sz : Nat} {ro : Nat → Int32} (h : CI b Sh I R σ) (hs : s < 4) (e : ∀ a k, ¬ (a = b + 26 + 2 * s ∧ (k = 1 ∨ k = 2)) → ¬ a = b + 26 + 2 * s + 1 → J a k = I a k) (k1 : J (b + 26 + 2 * s) 1 = so) (k2 : J (b + 26 + 2 * s) 2 = nI sz) (k3 : sz ≤ 40) (k4 : ∀ j, j < 40 → J (b + 26 + 2 * s + 1) j = ro j) : CI b Sh J R (withSh σ s (so, sz, ro)) := by
  obtain ⟨h1, h2, h3, h4, h5, h6, h7⟩ := h
  have hn8 := h4.2.1
  refine ⟨h1, h2, ?_, ?_, ?_, ?_, ?_⟩
  · obtain ⟨a1, a2, a3, a4, a5⟩ := h3
    exact ⟨(e _ _ (by omega) (by omega)).trans a1, a2, a3, fun t ht => (have ht : t < gTc σ := ht; (a4 t ht).same (fun k hk => e _ _ (by omega) (by omega)) (fun k => e _ _ (by omega) (by omega))), fun t ht => (e _ _ (by omega) (by omega)).trans (a5 t ht)⟩
  · obtain ⟨c2, c3, c4, c5, c6⟩ := h4
    exact ⟨(e _ _ (by omega) (by omega)).trans c2, c3, ⟨fun i hi k hk => (e _ _ (by omega) (by omega)).trans (c4.1 i hi k hk), (e _ _ (by omega) (by omega)).trans c4.2.1, (e _ _ (by omega) (by omega)).trans c4.2.2⟩, c5, c6⟩
  · exact ⟨(e _ _ (by omega) (by omega)).trans h5.1, h5.2.1, fun j hj => (e _ _ (by omega) (by omega)).trans (h5.2.2 j hj)⟩
  · have hz : gIm (withSh σ s (so, sz, ro)) = gIm σ := rfl
    have hz2 : gTc (withSh σ s (so, sz, ro)) = gTc σ := rfl
    unfold CIm at *
    rw [hz, hz2]
    cases hi : gIm σ with
    | none =>
      rw [hi] at h6
      exact (e _ _ (by omega) (by omega)).trans h6
    | some y =>
      rw [hi] at h6
      obtain ⟨c1, c2, c3, c4, c5, c6⟩ := h6
      exact ⟨(e _ _ (by omega) (by omega)).trans c1, (e _ _ (by omega) (by omega)).trans c2, c3, ⟨fun i hi k hk => (e _ _ (by omega) (by omega)).trans (c4.1 i hi k hk), (e _ _ (by omega) (by omega)).trans c4.2.1, (e _ _ (by omega) (by omega)).trans c4.2.2⟩, c5, c6⟩
  · intro t ht
    obtain ⟨a1, a2, a3, a4⟩ := h7 t ht
    by_cases hts : t = s
    · subst hts
      unfold gSo gSz gRo withSh
      simp only [if_true]
      exact ⟨k1, k2, k3, k4⟩
    · unfold gSo gSz gRo withSh at *
      simp only [hts, if_false]
      exact ⟨(e _ _ (by omega) (by omega)).trans a1, (e _ _ (by omega) (by omega)).trans a2, a3, fun j hj => (e _ _ (by omega) (by omega)).trans (a4 j hj)⟩
noncomputable def toldF (σ : SG) (of what : Int32) : Int32 := if what = 0 then (gW σ).2.1 else if what = 1 then (gW σ).2.2 else match idF (gN σ) of with
  | none => -2
  | some i => if what = 2 then (gW σ).1 i 1 else if what = 3 then (gW σ).1 i 2 else if what = 4 then (gW σ).1 i 3 else if what = 5 then (gW σ).1 i 4 else if what = 6 then (gW σ).1 i 0 else if what = 7 then loF (gP σ) (gN σ) (gW σ) i else if what = 8 then riF (gP σ) (gN σ) (gW σ) i else if what = 9 then shelF (gW σ).1 ((gW σ).1 i 2) (gN σ) else -2
def boF (what : Int32) : Int32 := if what = 0 then 10 else if what = 1 then 1000 else if what = 2 then 10 else if what = 3 then 16 else if what = 4 then 2 else if what = 5 then 100 else 0
def flF (what : Int32) : Nat := if what = 2 then 1 else if what = 3 then 2 else if what = 4 then 3 else 4
def setOk (σ : SG) (what of v : Int32) : Prop := ¬ v < 0 ∧ ¬ boF what ≤ v ∧ ¬ toldF σ of what = -2
noncomputable def setV (σ : SG) (what of v : Int32) : Int32 := by
  classical
  exact if setOk σ what of v then toldF σ of what else -2
noncomputable def setS (σ : SG) (what of v : Int32) : SG := by
  classical
  exact if setOk σ what of v then (if what = 0 then withV σ ((gW σ).1, v, (gW σ).2.2) else if what = 1 then withV σ ((gW σ).1, (gW σ).2.1, v) else match idF (gN σ) of with
    | some i => withV σ (upV (gW σ) i (flF what) v)
    | none => σ) else σ
def fortP (k nu p : Int32) : Prop := 0 ≤ k ∧ k < 6 ∧ 0 ≤ nu ∧ nu < 10 ∧ 0 ≤ p ∧ p < 16
def addV (v : SV) (n : Nat) (k nu p : Int32) : SV := (fun j q => if j = n then (if q = 0 then k else if q = 1 then nu else if q = 2 then p else if q = 3 then 0 else 20) else v.1 j q, v.2)
noncomputable def fortV (σ : SG) (k nu p : Int32) : Int32 := by
  classical
  exact if fortP k nu p then (if gN σ = 8 then -4 else nI (gN σ)) else -2
noncomputable def fortS (σ : SG) (k nu p : Int32) : SG := by
  classical
  exact if fortP k nu p ∧ ¬ gN σ = 8 then withX σ (gN σ + 1, addV (gW σ) (gN σ) k nu p, gRu σ) else σ
