/-! QUERIES in numbers -/
def idF (n : Nat) (x : Int32) : Option Nat := if ¬ x < 0 ∧ x < nI n then some x.toNatClampNeg else none
theorem idF_in {n j : Nat} (hj : j < n) (hn : n ≤ 8) : idF n (nI j) = some j := by
  unfold idF
  rw [if_pos ⟨nI_pos (by omega), (nI_ltI (by omega) (by omega)).mpr hj⟩, nI_clamp (by omega)]
theorem idF_out {n : Nat} {x : Int32} (hn : n ≤ 8) (h : ∀ j, j < n → x ≠ nI j) : idF n x = none := by
  unfold idF
  split
  · rename_i q
    exfalso
    obtain ⟨j, hj, e⟩ := idx_of (n := n) q.1 (Int32.not_le.mpr q.2) (by omega)
    exact h j hj e
  · rfl
theorem idF_some {n j : Nat} {x : Int32} (hn : n ≤ 8) (h : idF n x = some j) : j < n ∧ x = nI j := by
  unfold idF at h
  split at h
  · rename_i q
    obtain ⟨j', hj, e⟩ := idx_of (n := n) q.1 (Int32.not_le.mpr q.2) (by omega)
    subst e
    rw [nI_clamp (by omega)] at h
    cases h
    exact ⟨hj, rfl⟩
  · cases h
theorem idF_none {n : Nat} {x : Int32} (hn : n ≤ 8) (h : idF n x = none) : ∀ j, j < n → x ≠ nI j := by
  intro j hj e
  subst e
  rw [idF_in hj hn] at h
  cases h
def viewP (n : Nat) (what : Int32) : Prop := (0 ≤ what ∧ what ≤ 2) ∨ (idF n (what - 10)).isSome = true
def aheadP (n : Int32) : Prop := 0 ≤ n ∧ n ≤ 40
def ansP (w : Int32) : Prop := w = 0 ∨ w = 1
theorem ahead_nat {n : Int32} (h : aheadP n) : ∃ k : Nat, k ≤ 40 ∧ n = nI k := nI_of2 (M := 40) (n := 40) (by decide) (Int32.not_lt.mpr h.1) h.2
noncomputable def vwF (P : Nat → List Int32) (n : Nat) (v : SV) (what : Int32) : Int32 := if what = 0 then standF n v else if what = 1 then bayF n v else if what = 2 then valueF P n 0 v else match idF n (what - 10) with
  | some j => v.1 j 4
  | none => -100000
noncomputable def runF (σ : SG) (n what : Int32) : Int32 := by
  classical
  exact if aheadP n ∧ viewP (gN σ) what then vwF (gP σ) (gN σ) (passF (gP σ) (gN σ) (gW σ) n.toNatClampNeg) what else -100000
/-- an answer that changes the class's own business alone -/
def qryI (b : Nat) (Sh : HS) (I : HI) (R : HR) (val : Int32) : Int32 → AH → Prop := fun r g => r = val ∧ ∃ (J : HI) (R' : HR), g = (Sh, J, R') ∧ pvE b I J ∧ rvE b R R'
