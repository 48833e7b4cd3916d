/-! A STRAND AND ITS RULE, as cells and as numbers -/
def TX (I : HI) (T : Nat) (P : Nat → List Int32) : Prop := I T 3 = nI (P 0).length ∧ I T 4 = nI ((P 0).length + (P 1).length) ∧ I T 2 = nI ((P 0).length + (P 1).length + (P 2).length) ∧ (P 0).length + (P 1).length + (P 2).length ≤ 160 ∧ atF I T 0 (P 0) ∧ atF I T (P 0).length (P 1) ∧ atF I T ((P 0).length + (P 1).length) (P 2) ∧ okF (P 0) 0 ∧ okF (P 1) 0 ∧ okF (P 2) 0
def SW (Sh : HS) (I : HI) (R : HR) (S T n : Nat) (P : Nat → List Int32) : Prop := ShS Sh S ∧ RS R S ∧ I S 1 = nI n ∧ n ≤ 8 ∧ R S 4 = some T ∧ ShT Sh T ∧ RT R T ∧ TX I T P ∧ T + 3 ≤ S
theorem TX.same {I J : HI} {T : Nat} {P : Nat → List Int32} (h : TX I T P) (e : ∀ k, k < 5 → J T k = I T k) (e2 : ∀ k, J (T + 1) k = I (T + 1) k) : TX J T P := by
  obtain ⟨h1, h2, h3, h4, h5, h6, h7, h8⟩ := h
  refine ⟨(e 3 (by omega)).trans h1, (e 4 (by omega)).trans h2, (e 2 (by omega)).trans h3, h4, ?_, ?_, ?_, h8⟩
  · exact fun j x q => (e2 _).trans (h5 j x q)
  · exact fun j x q => (e2 _).trans (h6 j x q)
  · exact fun j x q => (e2 _).trans (h7 j x q)
theorem TX.off {I J : HI} {T : Nat} {P : Nat → List Int32} (h : TX I T P) (o : offT T I J) : TX J T P :=
  h.same (fun k hk => o T k (fun e => by rcases e with e | e <;> omega)) (fun k => o (T + 1) k (fun e => by rcases e with e | e <;> omega))
theorem SW.off {Sh : HS} {I J : HI} {R : HR} {S T n : Nat} {P : Nat → List Int32} (w : SW Sh I R S T n P) (o : offT T I J) : SW Sh J R S T n P :=
  ⟨w.1, w.2.1, (o.out w.2.2.2.2.2.2.2.2).trans w.2.2.1, w.2.2.2.1, w.2.2.2.2.1, w.2.2.2.2.2.1, w.2.2.2.2.2.2.1, w.2.2.2.2.2.2.2.1.off o, w.2.2.2.2.2.2.2.2⟩
/-- a strand's numbers: forts, MOON, THE WAVE -/
abbrev SV : Type := (Nat → Nat → Int32) × Int32 × Int32
def SR (I : HI) (S n : Nat) (v : SV) : Prop := (∀ i, i < n → ∀ k, k < 5 → I (S + 2 + i) k = v.1 i k) ∧ I S 2 = v.2.1 ∧ I S 3 = v.2.2
noncomputable def cF (n : Nat) (v : SV) (i : Nat) : Int32 → Int32 := cxF v.2.2 v.2.1 (v.1 i 2) (v.1 i 1) (v.1 i 4) (shelF v.1 (v.1 i 2) n)
noncomputable def stF (P : Nat → List Int32) (n : Nat) (v : SV) (i : Nat) : Int32 := mnI 99 (mxI 0 (topF (cF n v i) (P 0)))
noncomputable def raF (P : Nat → List Int32) (n : Nat) (v : SV) (i : Nat) : Int32 := mnI 20 (mxI 0 (topF (cF n v i) (P 1)))
noncomputable def woF (P : Nat → List Int32) (n : Nat) (v : SV) (i : Nat) : Int32 := mnI 99 (mxI 0 (topF (cF n v i) (P 2)))
noncomputable def loF (P : Nat → List Int32) (n : Nat) (v : SV) (i : Nat) : Int32 := lossF (v.1 i 0) (v.1 i 1) (stF P n v i) v.2.2
noncomputable def riF (P : Nat → List Int32) (n : Nat) (v : SV) (i : Nat) : Int32 := riseF (v.1 i 0) (raF P n v i)
noncomputable def leF (P : Nat → List Int32) (n : Nat) (v : SV) (i : Nat) : Int32 := if 0 < v.1 i 4 then loF P n v i else 0
/-- A WAVE -/
noncomputable def beatF (P : Nat → List Int32) (n : Nat) (v : SV) : SV := (fun i k => if k = 4 then mxI 0 (v.1 i 4 - leF P n v i) else v.1 i k, v.2.1, v.2.2 + 1)
/-- A SPADE -/
noncomputable def spadeF (P : Nat → List Int32) (n : Nat) (i : Nat) (v : SV) : SV := (fun j k => if j = i ∧ k = 4 then mnI 99 (v.1 i 4 + riF P n v i) else v.1 j k, v.2)
noncomputable def standF (n : Nat) (v : SV) : Int32 := fd (fun i r => if 0 < v.1 i 4 then r ||| ((1 : Int32) <<< (nI i &&& 31)) else r) 0 n
noncomputable def sideF (v : SV) (i : Nat) : Int32 := if v.1 i 3 = 0 then 1 else -1
noncomputable def bayM (v : SV) (n : Nat) : Int32 := fd (fun i r => if 0 < v.1 i 4 then r + sideF v i else r) 0 n
noncomputable def bayQ (v : SV) (n : Nat) : Int32 := fd (fun i r => r + sideF v i * v.1 i 4) 0 n
noncomputable def bayX (m q : Int32) : Int32 := if (if ¬ m = 0 then m else q) = 0 then -1 else if 0 < (if ¬ m = 0 then m else q) then 0 else 1
noncomputable def bayF (n : Nat) (v : SV) : Int32 := bayX (bayM v n) (bayQ v n)
/-- the worths up to j, of n forts -/
noncomputable def valueG (P : Nat → List Int32) (n : Nat) (r : Int32) (v : SV) (j : Nat) : Int32 := fd (fun i s => if 0 < v.1 i 4 then (if v.1 i 3 = r then s + woF P n v i else s + -woF P n v i) else s) 0 j
noncomputable def valueF (P : Nat → List Int32) (n : Nat) (r : Int32) (v : SV) : Int32 := valueG P n r v n
theorem shelF_congr {F F' : Nat → Nat → Int32} {p : Int32} {n : Nat} (h : ∀ i, i < n → ∀ k, k < 5 → F i k = F' i k) : shelF F p n = shelF F' p n := by
  unfold shelF
  refine fd_congr (fun i r hi => ?_)
  rw [h i hi 2 (by omega), h i hi 4 (by omega), h i hi 0 (by omega)]
theorem cF_congr {v v' : SV} {n i : Nat} (h : ∀ i, i < n → ∀ k, k < 5 → v.1 i k = v'.1 i k) (h2 : v.2 = v'.2) (hi : i < n) : cF n v i = cF n v' i := by
  unfold cF
  rw [h i hi 2 (by omega), h i hi 4 (by omega), h i hi 1 (by omega), h2, shelF_congr h]
theorem cx_cF {I : HI} {S n i : Nat} {v : SV} (h : SR I S n v) (hi : i < n) : cxI I S (S + 2 + i) n = cF n v i := by
  unfold cxI cF
  rw [h.2.1, h.2.2, h.1 i hi 2 (by omega), h.1 i hi 4 (by omega), h.1 i hi 1 (by omega)]
  rw [shelF_congr (F := fun o k => I (S + 2 + o) k) (F' := v.1) (fun o ho k hk => h.1 o ho k hk)]
theorem SR.off {I J : HI} {S T n : Nat} {v : SV} (h : SR I S n v) (o : offT T I J) (hS : T + 3 ≤ S) : SR J S n v :=
  ⟨fun i hi k hk => (o.out (by omega)).trans (h.1 i hi k hk), (o.out (by omega)).trans h.2.1, (o.out (by omega)).trans h.2.2⟩
/-- what a strand's own doing may change: its rule's scratch, heights, losses, THE WAVE -/
def frS (T S : Nat) (I J : HI) : Prop := ∀ a k, ¬ scr T a k → ¬ (S + 2 ≤ a ∧ a < S + 10 ∧ 4 ≤ k) → ¬ (a = S ∧ k = 3) → J a k = I a k
theorem frS.rf {T S : Nat} {I : HI} : frS T S I I := fun _ _ _ _ _ => rfl
theorem frS.tr {T S : Nat} {I J J2 : HI} (h : frS T S I J) (h2 : frS T S J J2) : frS T S I J2 := fun a k q1 q2 q3 => (h2 a k q1 q2 q3).trans (h a k q1 q2 q3)
theorem offT.fr {T S : Nat} {I J : HI} (h : offT T I J) : frS T S I J := fun a k q1 _ _ => h a k q1
theorem SW.fr {Sh : HS} {I J : HI} {R : HR} {S T n : Nat} {P : Nat → List Int32} (w : SW Sh I R S T n P) (o : frS T S I J) : SW Sh J R S T n P := by
  obtain ⟨h1, h2, h3, h4, h5, h6, h7, h8, h9⟩ := w
  refine ⟨h1, h2, ?_, h4, h5, h6, h7, ?_, h9⟩
  · rw [o S 1 (fun e => by rcases e with e | e <;> omega) (by omega) (by omega)]
    exact h3
  · refine h8.same (fun k hk => o T k (fun e => by rcases e with e | e <;> omega) (by omega) (by omega)) (fun k => o (T + 1) k (fun e => by rcases e with e | e <;> omega) (by omega) (by omega))
