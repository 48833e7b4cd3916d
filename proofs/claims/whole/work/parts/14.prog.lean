/-! TEXTS AS PROGRAMS: an E is a row of numbers, operands ahead of their sign -/
noncomputable def jnF (c a b : Int32) : Int32 := if c = -9 then bI (¬ a = 0 ∨ ¬ b = 0) else if c = -10 then bI (¬ a = 0 ∧ ¬ b = 0) else if c = -11 then bI (a < b) else if c = -12 then bI (a = b) else if c = -13 then a + b else if c = -14 then a - b else a * b
noncomputable def stepF (c : Int32 → Int32) (x : Int32) (st : List Int32) : List Int32 :=
  if 0 ≤ x then x :: st else if -6 ≤ x then c x :: st else if -8 ≤ x then (match st with
    | [] => []
    | a :: t => (if x = -8 then -a else bI (a = 0)) :: t) else (match st with
    | b :: a :: t => jnF x a b :: t
    | t => t)
noncomputable def evF (c : Int32 → Int32) : List Int32 → List Int32 → List Int32
  | [], st => st
  | x :: xs, st => evF c xs (stepF c x st)
/-- its operands never want, its waiting ones never pass 40, and one is left -/
def okF : List Int32 → Nat → Prop
  | [], d => d = 1
  | x :: xs, d => if -6 ≤ x then d < 40 ∧ okF xs (d + 1) else if -8 ≤ x then 1 ≤ d ∧ okF xs d else 2 ≤ d ∧ okF xs (d - 1)
noncomputable def topF (c : Int32 → Int32) (P : List Int32) : Int32 := (evF c P []).headD 0
def cxF (wa mo pl nu he sh : Int32) : Int32 → Int32 := fun x => if x = -1 then wa else if x = -2 then mo else if x = -3 then pl else if x = -4 then nu else if x = -5 then he else sh
noncomputable def cxI (I : HI) (S f n : Nat) : Int32 → Int32 := cxF (I S 3) (I S 2) (I f 2) (I f 1) (I f 4) (shelF (fun o k => I (S + 2 + o) k) (I f 2) n)
/-- what a text's telling writes: its depth, its stack -/
def scr (T a k : Nat) : Prop := (a = T ∧ k = 6) ∨ a = T + 2
def offT (T : Nat) (I I2 : HI) : Prop := ∀ a k, ¬ scr T a k → I2 a k = I a k
theorem offT.rf {T : Nat} {I : HI} : offT T I I := fun _ _ _ => rfl
theorem offT.tr {T : Nat} {I I2 I3 : HI} (h : offT T I I2) (h2 : offT T I2 I3) : offT T I I3 := fun a k q => (h2 a k q).trans (h a k q)
theorem offT.out {T a k : Nat} {I I2 : HI} (h : offT T I I2) (q : T + 3 ≤ a) : I2 a k = I a k := h a k (fun e => by rcases e with e | e <;> omega)
theorem offT.un {T a k : Nat} {I I2 : HI} (h : offT T I I2) (q : a < T) : I2 a k = I a k := h a k (fun e => by rcases e with e | e <;> omega)
theorem cx_off {T S f n : Nat} {I I2 : HI} (h : offT T I I2) (hS : T + 3 ≤ S) (hf : S ≤ f) : cxI I2 S f n = cxI I S f n := by
  have e : (fun o k => I2 (S + 2 + o) k) = (fun o k => I (S + 2 + o) k) := funext fun o => funext fun k => h.out (by omega)
  unfold cxI
  rw [h.out hS, h.out hS, h.out (a := f) (by omega), h.out (a := f) (by omega), h.out (a := f) (by omega), e]
def stkF (f : Nat → Int32) : List Int32 → Prop
  | [] => True
  | x :: t => f t.length = x ∧ stkF f t
theorem stkF.up {f g : Nat → Int32} {st : List Int32} (h : stkF f st) (e : ∀ j, j < st.length → g j = f j) : stkF g st := by
  induction st with
  | nil => trivial
  | cons x t ih => exact ⟨(e t.length (by simp)).trans h.1, ih h.2 (fun j hj => e j (by simp; omega))⟩
def RT (R : HR) (T : Nat) : Prop := R T 1 = some (T + 1) ∧ R T 5 = some (T + 2)
/-- a program at its place among the codes -/
def atF (I : HI) (T fr : Nat) (P : List Int32) : Prop := ∀ j (x : Int32), P[j]? = some x → I (T + 1) (fr + j) = x
theorem lt6 {x : Int32} (h : ¬ x < -6) : -6 ≤ x := Int32.not_lt.mp h
theorem neg_ge0 {x : Int32} (h : x < 0) : ¬ 0 ≤ x := Int32.not_le.mpr h
theorem step_num {c : Int32 → Int32} {x : Int32} {st : List Int32} (h : ¬ x < 0) : stepF c x st = x :: st := by
  unfold stepF
  rw [if_pos (Int32.not_lt.mp h)]
theorem step_name {c : Int32 → Int32} {x : Int32} {st : List Int32} (h : x < 0) (h2 : ¬ x < -6) : stepF c x st = c x :: st := by
  unfold stepF
  rw [if_neg (neg_ge0 h), if_pos (lt6 h2)]
theorem step_un {c : Int32 → Int32} {x a : Int32} {t : List Int32} (h : x < 0) (h2 : x < -6) (h3 : ¬ x < -8) : stepF c x (a :: t) = (if x = -8 then -a else bI (a = 0)) :: t := by
  unfold stepF
  rw [if_neg (neg_ge0 h), if_neg (Int32.not_le.mpr h2), if_pos (Int32.not_lt.mp h3)]
theorem step_bin {c : Int32 → Int32} {x a b : Int32} {t : List Int32} (h : x < 0) (h2 : x < -6) (h3 : x < -8) : stepF c x (b :: a :: t) = jnF x a b :: t := by
  unfold stepF
  rw [if_neg (neg_ge0 h), if_neg (Int32.not_le.mpr h2), if_neg (Int32.not_le.mpr h3)]
theorem ok_num {x : Int32} {xs : List Int32} {d : Nat} (h : okF (x :: xs) d) (h2 : ¬ x < -6) : d < 40 ∧ okF xs (d + 1) := by
  unfold okF at h
  rw [if_pos (lt6 h2)] at h
  exact h
theorem ok_un {x : Int32} {xs : List Int32} {d : Nat} (h : okF (x :: xs) d) (h2 : x < -6) (h3 : ¬ x < -8) : 1 ≤ d ∧ okF xs d := by
  unfold okF at h
  rw [if_neg (Int32.not_le.mpr h2), if_pos (Int32.not_lt.mp h3)] at h
  exact h
theorem ok_bin {x : Int32} {xs : List Int32} {d : Nat} (h : okF (x :: xs) d) (h2 : x < -6) (h3 : x < -8) : 2 ≤ d ∧ okF xs (d - 1) := by
  unfold okF at h
  rw [if_neg (Int32.not_le.mpr h2), if_neg (Int32.not_le.mpr h3)] at h
  exact h
theorem drop_at {P : List Int32} {i : Nat} {x : Int32} (h : P[i]? = some x) : P.drop i = x :: P.drop (i + 1) := by
  obtain ⟨hl, hx⟩ := List.getElem?_eq_some_iff.mp h
  rw [← hx]
  exact List.drop_eq_getElem_cons hl
