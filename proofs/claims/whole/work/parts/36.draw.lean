/-! MOONS THAT ARE DRAWN, PLANS, WAVES THAT WERE TOLD, in numbers -/
def moonF (z : Int32) : Int32 := usI z 9 - usI z 9 / 10 * 10
noncomputable def drG (σ : SG) (s : Int32) (q : Nat) : Int32 × SV := fd (fun _ x => (x.1 * 1103515245 + 12345, beatF (gP σ) (gN σ) (x.2.1, moonF (x.1 * 1103515245 + 12345), x.2.2.2))) (s, gW σ) q
noncomputable def drawnF (σ : SG) (s n : Int32) : Int32 := by
  classical
  exact if aheadP n then standF (gN σ) (drG σ s n.toNatClampNeg).2 else -2
noncomputable def wonG (σ : SG) (s : Int32) (k m : Nat) : Nat := fd (fun q c => if bayF (gN σ) (drG σ (s + nI q) k).2 = 0 then c + 1 else c) 0 m
def cdG (a m : Nat) : Nat → Nat
  | 0 => 1
  | d + 1 => if d + 1 ≤ 1 then 1 else if a % (d + 1) = 0 ∧ m % (d + 1) = 0 then d + 1 else cdG a m d
theorem cdG_pos {a m : Nat} : ∀ d, 1 ≤ cdG a m d
  | 0 => Nat.le_refl 1
  | d + 1 => by
    unfold cdG
    split
    · omega
    · split
      · omega
      · exact cdG_pos d
theorem cdG_le {a m : Nat} : ∀ d, cdG a m d ≤ d + 1
  | 0 => Nat.le_refl 1
  | d + 1 => by
    unfold cdG
    split
    · omega
    · split
      · omega
      · have := cdG_le (a := a) (m := m) d
        omega
theorem won_le {σ : SG} {s : Int32} {k : Nat} : ∀ m, wonG σ s k m ≤ m
  | 0 => Nat.le_refl 0
  | m + 1 => by
    have h := won_le (σ := σ) (s := s) (k := k) m
    unfold wonG at *
    rw [fd_s]
    split <;> omega
def chanceP (n waves part : Int32) : Prop := 1 ≤ n ∧ n ≤ 20 ∧ aheadP waves ∧ ansP part
noncomputable def chanceF (σ : SG) (s n waves part : Int32) : Int64 := by
  classical
  exact if chanceP n waves part then (if part = 0 then (nI (wonG σ s waves.toNatClampNeg n.toNatClampNeg) / nI (cdG (wonG σ s waves.toNatClampNeg n.toNatClampNeg) n.toNatClampNeg n.toNatClampNeg)).toInt64 else (n / nI (cdG (wonG σ s waves.toNatClampNeg n.toNatClampNeg) n.toNatClampNeg n.toNatClampNeg)).toInt64) else -4611686018427387904
def qryL (b : Nat) (Sh : HS) (I : HI) (R : HR) (val : Int64) : Int64 → AH → Prop := fun r g => r = val ∧ ∃ (J : HI) (R' : HR), g = (Sh, J, R') ∧ pvE b I J ∧ rvE b R R'
def planOk (σ : SG) (t : Nat) : Prop := ∀ j, j < gSz σ t → gRo σ t j = -1 ∨ (idF (gN σ) (gRo σ t j)).isSome = true
noncomputable def plG (σ : SG) (t q : Nat) : SV := fd (fun j v => beatF (gP σ) (gN σ) (match idF (gN σ) (gRo σ t j) with
  | some i => spadeF (gP σ) (gN σ) i v
  | none => v)) (gW σ) q
noncomputable def planF (σ : SG) (s w : Int32) : Int32 := by
  classical
  exact match idF 4 s with
    | none => -100000
    | some t => if viewP (gN σ) w ∧ ¬ gSo σ t = -1 ∧ planOk σ t then vwF (gP σ) (gN σ) (plG σ t (gSz σ t)) w else -100000
