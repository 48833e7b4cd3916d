/-! THE RULES OVER A WORLD IN THREE PARTS: shapes, ints, references -/
abbrev HS : Type := Nat × (Nat → Nat × Nat)
abbrev HI : Type := Nat → Nat → Int32
abbrev HR : Type := Nat → Nat → Option Nat
section
variable {G : GG} {K : XK} {y : MethodName} {cc : ByteArray} {L : Nat} {ret : Option FieldType} {cs sl pc : Nat} {lv : List (Nat × Value)} {st : List Value} {h : AH} {Sh : HS} {I : HI} {R : HR}
theorem x_vali {x z : Int32} (e : x = z) (k : X G K y cc L ret cs sl pc lv (.int z :: st) h) : X G K y cc L ret cs sl pc lv (.int x :: st) h := e ▸ k
theorem x_if_eqB {P : Prop} {off : Int} {tgt : Nat} (hd : decode cc pc = .ok (.ifCond .eq off, 3)) (ht : (pc : Int) + off = (tgt : Int)) (kt : ¬ P → X G K y cc L ret cs sl tgt lv st h) (kf : P → X G K y cc L ret cs sl (pc + 3) lv st h) : X G K y cc L ret cs sl pc lv (.int (bI P) :: st) h := by
  refine x_if_eq hd ht (fun q => kt (bI_0.mp q)) (fun q => kf ?_)
  by_cases hp : P
  · exact hp
  · exact absurd (bI_0.mpr hp) q
theorem x_if_neB {P : Prop} {off : Int} {tgt : Nat} (hd : decode cc pc = .ok (.ifCond .ne off, 3)) (ht : (pc : Int) + off = (tgt : Int)) (kt : P → X G K y cc L ret cs sl tgt lv st h) (kf : ¬ P → X G K y cc L ret cs sl (pc + 3) lv st h) : X G K y cc L ret cs sl pc lv (.int (bI P) :: st) h := by
  refine x_if_ne hd ht (fun q => kt ?_) (fun q => kf (bI_0.mp q))
  by_cases hp : P
  · exact hp
  · exact absurd (bI_0.mpr hp) q
theorem x_gI {ci k a idx n : Nat} {v : Int32} (hd : decode cc pc = .ok (.getfield idx, 3)) (f : FR y.cls idx ci k) (hi : slInt ci k = true) (hs : Sh.2 a = (ci, n)) (hv : I a k = v) (kk : X G K y cc L ret cs sl (pc + 3) lv (.int v :: st) (Sh, I, R)) : X G K y cc L ret cs sl pc lv (.ref a :: st) (Sh, I, R) := by
  subst hv
  exact x_getI (h := (Sh, I, R)) hd f hi hs kk
theorem x_gR {ci k a idx n b : Nat} (hd : decode cc pc = .ok (.getfield idx, 3)) (f : FR y.cls idx ci k) (hi : slInt ci k = false) (hs : Sh.2 a = (ci, n)) (hv : R a k = some b) (kk : X G K y cc L ret cs sl (pc + 3) lv (.ref b :: st) (Sh, I, R)) : X G K y cc L ret cs sl pc lv (.ref a :: st) (Sh, I, R) :=
  x_getR (h := (Sh, I, R)) hd f hi hs hv kk
theorem x_pI {ci k a idx n : Nat} {v : Int32} (hd : decode cc pc = .ok (.putfield idx, 3)) (f : FR y.cls idx ci k) (hi : slInt ci k = true) (ht : tyAt ci k = .int) (hf : nfB ci k = true) (hs : Sh.2 a = (ci, n)) (kk : ∀ I' : HI, I' = u2 I a k v → X G K y cc L ret cs sl (pc + 3) lv st (Sh, I', R)) : X G K y cc L ret cs sl pc lv (.int v :: .ref a :: st) (Sh, I, R) :=
  x_putI (h := (Sh, I, R)) hd f hi ht hf hs (kk _ rfl)
theorem x_pZ {ci k a idx n : Nat} (hd : decode cc pc = .ok (.putfield idx, 3)) (f : FR y.cls idx ci k) (hi : slInt ci k = true) (ht : tyAt ci k = .boolean) (hf : nfB ci k = true) (hs : Sh.2 a = (ci, n)) (kk : ∀ I' : HI, I' = u2 I a k 1 → X G K y cc L ret cs sl (pc + 3) lv st (Sh, I', R)) : X G K y cc L ret cs sl pc lv (.int 1 :: .ref a :: st) (Sh, I, R) :=
  x_putZ (h := (Sh, I, R)) hd f hi ht hf hs (kk _ rfl)
theorem x_pR {ci k a idx n v : Nat} (hd : decode cc pc = .ok (.putfield idx, 3)) (f : FR y.cls idx ci k) (hi : slInt ci k = false) (hn : narrow (tyAt ci k) (.ref v) = .ref v) (hfit : fits (tyAt ci k) (.ref v) = true) (hf : nfB ci k = true) (hs : Sh.2 a = (ci, n)) (kk : ∀ R' : HR, R' = u2 R a k (some v) → X G K y cc L ret cs sl (pc + 3) lv st (Sh, I, R')) : X G K y cc L ret cs sl pc lv (.ref v :: .ref a :: st) (Sh, I, R) :=
  x_putR (h := (Sh, I, R)) hd f hi hn hfit hf hs (kk _ rfl)
theorem x_ia {a n j : Nat} {i v : Int32} (hd : decode cc pc = .ok (.iaload, 1)) (hs : Sh.2 a = (9, n)) (hi : i = nI j) (hj : j < n) (hn : n < 2147483648) (hv : I a j = v) (kk : X G K y cc L ret cs sl (pc + 1) lv (.int v :: st) (Sh, I, R)) : X G K y cc L ret cs sl pc lv (.int i :: .ref a :: st) (Sh, I, R) := by
  subst hi
  subst hv
  refine x_iald (h := (Sh, I, R)) hd hs (vp_in_nI hj hn) ?_
  rw [nI_clamp (Nat.lt_trans hj hn)]
  exact kk
theorem x_is {a n j : Nat} {i x : Int32} (hd : decode cc pc = .ok (.iastore, 1)) (hs : Sh.2 a = (9, n)) (hi : i = nI j) (hj : j < n) (hn : n < 2147483648) (kk : ∀ I' : HI, I' = u2 I a j x → X G K y cc L ret cs sl (pc + 1) lv st (Sh, I', R)) : X G K y cc L ret cs sl pc lv (.int x :: .int i :: .ref a :: st) (Sh, I, R) := by
  subst hi
  refine x_iast (h := (Sh, I, R)) hd hs (vp_in_nI hj hn) ?_
  rw [nI_clamp (Nat.lt_trans hj hn)]
  exact kk _ rfl
theorem x_aa {a n j b kd : Nat} {i : Int32} (hd : decode cc pc = .ok (.aaload, 1)) (hs : Sh.2 a = (kd, n)) (hk : 10 ≤ kd) (hk2 : kd ≤ 13) (hi : i = nI j) (hj : j < n) (hn : n < 2147483648) (hv : R a j = some b) (kk : X G K y cc L ret cs sl (pc + 1) lv (.ref b :: st) (Sh, I, R)) : X G K y cc L ret cs sl pc lv (.int i :: .ref a :: st) (Sh, I, R) := by
  subst hi
  refine x_aald (h := (Sh, I, R)) hd hs hk hk2 (vp_in_nI hj hn) ?_ kk
  rw [nI_clamp (Nat.lt_trans hj hn)]
  exact hv
end
/-- f over 0 .. n-1, from the first on -/
def fd {α : Type} (f : Nat → α → α) (a : α) : Nat → α := fun n => Nat.rec a (fun i r => f i r) n
theorem fd_0 {α : Type} {f : Nat → α → α} {a : α} : fd f a 0 = a := rfl
theorem fd_s {α : Type} {f : Nat → α → α} {a : α} {n : Nat} : fd f a (n + 1) = f n (fd f a n) := rfl
theorem fd_congr {α : Type} {f g : Nat → α → α} {a : α} {n : Nat} (h : ∀ i r, i < n → f i r = g i r) : fd f a n = fd g a n := by
  induction n with
  | zero => rfl
  | succ n ih =>
    rw [fd_s, fd_s, ih (fun i r hi => h i r (by omega))]
    exact h n _ (by omega)
/-! the class's cells -/
def ShS (Sh : HS) (S : Nat) : Prop := Sh.2 S = (4, 5) ∧ Sh.2 (S + 1) = (10, 8) ∧ ∀ i, i < 8 → Sh.2 (S + 2 + i) = (0, 6)
def RS (R : HR) (S : Nat) : Prop := R S 0 = some (S + 1) ∧ ∀ i, i < 8 → R (S + 1) i = some (S + 2 + i)
def ShT (Sh : HS) (T : Nat) : Prop := Sh.2 T = (6, 7) ∧ Sh.2 (T + 1) = (9, 160) ∧ Sh.2 (T + 2) = (9, 40)
