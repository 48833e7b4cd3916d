/-! CELLS LAID ONE AFTER THE OTHER: a table of shapes, of references in the order they are set, of ints in that order -/
abbrev LTB : Type := (Nat → Nat × Nat) × (Nat → Nat × Nat × Nat) × (Nat → Nat × Nat × Int32)
def IV (T : LTB) (B : HI) : Nat → Nat → Nat → Int32
  | 0, j, k => B j k
  | n + 1, j, k => if (T.2.2 n).1 = j ∧ (T.2.2 n).2.1 = k then (T.2.2 n).2.2 else IV T B n j k
def Lay (T : LTB) (b m f n : Nat) (B : HI) (S0 : AH) (Sh : HS) (I : HI) (R : HR) : Prop := Sh.1 = b + m ∧ (∀ j, j < m → Sh.2 (b + j) = T.1 j) ∧ (∀ i, i < f → R (b + (T.2.1 i).1) (T.2.1 i).2.1 = some (b + (T.2.1 i).2.2)) ∧ (∀ j, j < m → ∀ k, I (b + j) k = IV T B n j k) ∧ (∀ j, m ≤ j → ∀ k, B j k = 0) ∧ ∀ a, a < b → Sh.2 a = S0.1.2 a ∧ ∀ k, I a k = S0.2.1 a k ∧ R a k = S0.2.2 a k
def okM (T : LTB) (m f n : Nat) : Bool := (List.range f).all (fun i => decide ((T.2.1 i).1 < m)) && (List.range n).all (fun i => decide ((T.2.2 i).1 < m))
def fOk (T : LTB) (f : Nat) : Bool := (List.range f).all fun i => !(decide ((T.2.1 i).1 = (T.2.1 f).1) && decide ((T.2.1 i).2.1 = (T.2.1 f).2.1))
def finB (ci k : Nat) (nm cls : String) : Bool := match vwCl[ci]? with
  | some r => !(r.2.1 k).2.2.2 || (decide (nm = "<init>") && decide (r.1 = cls))
  | none => true
theorem fin_of {ci k : Nat} {y : MethodName} (h : finB ci k y.name y.cls = true) : ∀ r, vwCl[ci]? = some r → (r.2.1 k).2.2.2 = false ∨ ((r.2.1 k).2.2.2 = true ∧ y.name = "<init>" ∧ r.1 = y.cls) := by
  intro r hr
  unfold finB at h
  rw [hr] at h
  simp only [Bool.or_eq_true, Bool.not_eq_true', Bool.and_eq_true, decide_eq_true_eq] at h
  cases hb : (r.2.1 k).2.2.2 with
  | false => exact Or.inl rfl
  | true =>
    rw [hb] at h
    exact Or.inr ⟨rfl, h.resolve_left (fun z => by cases z)⟩
theorem IV_fresh {T : LTB} {B : HI} {m : Nat} (hB : ∀ k, B m k = 0) : ∀ n, (∀ i, i < n → (T.2.2 i).1 < m) → ∀ k, IV T B n m k = 0
  | 0, _, k => hB k
  | n + 1, h, k => by
    unfold IV
    have := h n (Nat.lt_succ_self n)
    rw [if_neg (by omega)]
    exact IV_fresh hB n (fun i hi => h i (by omega)) k
section
variable {T : LTB} {b m f n : Nat} {B : HI} {S0 : AH} {Sh : HS} {I : HI} {R : HR}
theorem okM_1 (h : okM T m f n = true) : (∀ i, i < f → (T.2.1 i).1 < m) ∧ ∀ i, i < n → (T.2.2 i).1 < m := by
  unfold okM at h
  simp only [Bool.and_eq_true, List.all_eq_true, List.mem_range, decide_eq_true_eq] at h
  exact h
theorem Lay.new (h : Lay T b m f n B S0 Sh I R) (hk : okM T m f n = true) {kd nn : Nat} (ht : T.1 m = (kd, nn)) : Lay T b (m + 1) f n B S0 (nUp (Sh, I, R) kd nn).1 (nUp (Sh, I, R) kd nn).2.1 (nUp (Sh, I, R) kd nn).2.2 := by
  obtain ⟨h1, h2, h3, h4, h5, h6⟩ := h
  obtain ⟨k1, k2⟩ := okM_1 hk
  have hS : ∀ a, (nUp (Sh, I, R) kd nn).1.2 a = if a = Sh.1 then (kd, nn) else Sh.2 a := fun _ => rfl
  have hI : ∀ a k, (nUp (Sh, I, R) kd nn).2.1 a k = if a = Sh.1 then 0 else I a k := fun _ _ => rfl
  have hR : ∀ a k, (nUp (Sh, I, R) kd nn).2.2 a k = if a = Sh.1 then none else R a k := fun _ _ => rfl
  refine ⟨?_, fun j hj => ?_, fun i hi => ?_, fun j hj k => ?_, fun j hj k => h5 j (by omega) k, fun a ha => ⟨?_, fun k => ⟨?_, ?_⟩⟩⟩
  · show Sh.1 + 1 = _
    omega
  · rw [hS]
    by_cases e : j = m
    · rw [if_pos (by omega), e, ht]
    · rw [if_neg (by omega)]
      exact h2 j (by omega)
  · have := k1 i hi
    rw [hR, if_neg (by omega)]
    exact h3 i hi
  · rw [hI]
    by_cases e : j = m
    · rw [if_pos (by omega), e, IV_fresh (h5 m (Nat.le_refl _)) n k2]
    · rw [if_neg (by omega)]
      exact h4 j (by omega) k
  · rw [hS, if_neg (by omega)]
    exact (h6 a ha).1
  · rw [hI, if_neg (by omega)]
    exact ((h6 a ha).2 k).1
  · rw [hR, if_neg (by omega)]
    exact ((h6 a ha).2 k).2
theorem Lay.pR (h : Lay T b m f n B S0 Sh I R) (hk : fOk T f = true) {ja k jv : Nat} (ht : T.2.1 f = (ja, k, jv)) : Lay T b m (f + 1) n B S0 Sh I (u2 R (b + ja) k (some (b + jv))) := by
  obtain ⟨h1, h2, h3, h4, h5, h6⟩ := h
  unfold fOk at hk
  simp only [List.all_eq_true, List.mem_range, Bool.not_eq_true', Bool.and_eq_false_iff, decide_eq_false_iff_not, ht] at hk
  refine ⟨h1, h2, fun i hi => ?_, h4, h5, fun a ha => ⟨(h6 a ha).1, fun k => ⟨((h6 a ha).2 k).1, ?_⟩⟩⟩
  · by_cases e : i = f
    · rw [e, ht]
      exact u2_same
    · have := hk i (by omega)
      rw [u2_ne (by omega)]
      exact h3 i (by omega)
  · rw [u2_ne (by omega)]
    exact ((h6 a ha).2 k).2
theorem Lay.pI (h : Lay T b m f n B S0 Sh I R) {ja k : Nat} {v : Int32} (ht : T.2.2 n = (ja, k, v)) : Lay T b m f (n + 1) B S0 Sh (u2 I (b + ja) k v) R := by
  obtain ⟨h1, h2, h3, h4, h5, h6⟩ := h
  refine ⟨h1, h2, h3, fun j hj q => ?_, h5, fun a ha => ⟨(h6 a ha).1, fun q => ⟨?_, ((h6 a ha).2 q).2⟩⟩⟩
  · unfold IV
    rw [ht]
    by_cases e : ja = j ∧ k = q
    · rw [if_pos e, ← e.1, ← e.2]
      exact u2_same
    · rw [if_neg e, u2_ne (by omega)]
      exact h4 j hj q
  · rw [u2_ne (by omega)]
    exact ((h6 a ha).2 q).1
theorem Lay.multi (h : Lay T b m f n B S0 Sh I R) (hk : okM T m f n = true) (t0 : T.1 m = (13, 3)) (t1 : T.1 (m + 1) = (9, 8)) (t2 : T.1 (m + 2) = (9, 8)) (t3 : T.1 (m + 3) = (9, 8)) (f0 : T.2.1 f = (m, 0, m + 1)) (f1 : T.2.1 (f + 1) = (m, 1, m + 2)) (f2 : T.2.1 (f + 2) = (m, 2, m + 3)) : Lay T b (m + 4) (f + 3) n B S0 (mUp (Sh, I, R)).1 (mUp (Sh, I, R)).2.1 (mUp (Sh, I, R)).2.2 := by
  obtain ⟨h1, h2, h3, h4, h5, h6⟩ := h
  obtain ⟨k1, k2⟩ := okM_1 hk
  have hS : ∀ a, (mUp (Sh, I, R)).1.2 a = if a = Sh.1 then (13, 3) else if Sh.1 < a ∧ a < Sh.1 + 4 then (9, 8) else Sh.2 a := fun _ => rfl
  have hI : ∀ a k, (mUp (Sh, I, R)).2.1 a k = if Sh.1 ≤ a ∧ a < Sh.1 + 4 then 0 else I a k := fun _ _ => rfl
  have hR : ∀ a k, (mUp (Sh, I, R)).2.2 a k = if a = Sh.1 then (if k < 3 then some (Sh.1 + 1 + k) else none) else if Sh.1 ≤ a ∧ a < Sh.1 + 4 then none else R a k := fun _ _ => rfl
  refine ⟨?_, fun j hj => ?_, fun i hi => ?_, fun j hj k => ?_, fun j hj k => h5 j (by omega) k, fun a ha => ⟨?_, fun k => ⟨?_, ?_⟩⟩⟩
  · show Sh.1 + 4 = _
    omega
  · rw [hS]
    by_cases e : j < m
    · rw [if_neg (by omega), if_neg (by omega)]
      exact h2 j e
    · have hc : j = m ∨ j = m + 1 ∨ j = m + 2 ∨ j = m + 3 := by omega
      rcases hc with rfl | rfl | rfl | rfl
      · rw [if_pos (by omega), t0]
      · rw [if_neg (by omega), if_pos (by omega), t1]
      · rw [if_neg (by omega), if_pos (by omega), t2]
      · rw [if_neg (by omega), if_pos (by omega), t3]
  · rw [hR]
    by_cases e : i < f
    · have := k1 i e
      rw [if_neg (by omega), if_neg (by omega)]
      exact h3 i e
    · have hc : i = f ∨ i = f + 1 ∨ i = f + 2 := by omega
      rcases hc with rfl | rfl | rfl
      · rw [f0]
        show (if b + m = Sh.1 then _ else _) = some (b + (m + 1))
        rw [if_pos h1.symm, if_pos (show (0 : Nat) < 3 by decide), h1]
        rfl
      · rw [f1]
        show (if b + m = Sh.1 then _ else _) = some (b + (m + 2))
        rw [if_pos h1.symm, if_pos (show (1 : Nat) < 3 by decide), h1]
        exact congrArg some (show b + m + 1 + 1 = b + (m + 2) by omega)
      · rw [f2]
        show (if b + m = Sh.1 then _ else _) = some (b + (m + 3))
        rw [if_pos h1.symm, if_pos (show (2 : Nat) < 3 by decide), h1]
        exact congrArg some (show b + m + 1 + 2 = b + (m + 3) by omega)
  · rw [hI]
    by_cases e : j < m
    · rw [if_neg (by omega)]
      exact h4 j e k
    · rw [if_pos (by omega), IV_fresh (h5 j (by omega)) n (fun i hi => by have := k2 i hi; omega)]
  · rw [hS, if_neg (by omega), if_neg (by omega)]
    exact (h6 a ha).1
  · rw [hI, if_neg (by omega)]
    exact ((h6 a ha).2 k).1
  · rw [hR, if_neg (by omega), if_neg (by omega)]
    exact ((h6 a ha).2 k).2
end
section
variable {G : GG} {K : XK} {y : MethodName} {cc : ByteArray} {L : Nat} {ret : Option FieldType} {cs sl pc : Nat} {lv : List (Nat × Value)} {st : List Value} {T : LTB} {b m f n : Nat} {B : HI} {S0 : AH} {Sh : HS} {I : HI} {R : HR}
theorem x_LnI {N : Nat} {i : Int32} (hL : Lay T b m f n B S0 Sh I R) (hd : decode cc pc = .ok (.newarray .int, 2)) (hi : i = nI N) (hN : N ≤ 100000) (ht : T.1 m = (9, N)) (hk : okM T m f n = true) (hcs : cs + 1 ≤ K.1.cells) (hsl : sl + N ≤ K.1.slots) (kk : ∀ Sh' I' R', Lay T b (m + 1) f n B S0 Sh' I' R' → X G K y cc L ret (cs + 1) (sl + N) (pc + 2) lv (.ref (b + m) :: st) (Sh', I', R')) : X G K y cc L ret cs sl pc lv (.int i :: st) (Sh, I, R) := by
  refine x_newI hd hi hN hcs hsl ?_
  rw [show hpZ (Sh, I, R) = b + m from hL.1]
  exact kk _ _ _ (hL.new hk ht)
theorem x_LnQ {N idx kd : Nat} {E : String} {i : Int32} (hL : Lay T b m f n B S0 Sh I R) (hd : decode cc pc = .ok (.anewarray idx, 3)) (hl : tw (Cond.classLink y.cls idx E)) (hao : ∀ U, KS G U → va_AO E U) (hk1 : 10 ≤ kd) (hk2 : kd ≤ 13) (hty : tyk kd = .object E) (hi : i = nI N) (hN : N ≤ 100000) (ht : T.1 m = (kd, N)) (hk : okM T m f n = true) (hcs : cs + 1 ≤ K.1.cells) (hsl : sl + N ≤ K.1.slots) (kk : ∀ Sh' I' R', Lay T b (m + 1) f n B S0 Sh' I' R' → X G K y cc L ret (cs + 1) (sl + N) (pc + 3) lv (.ref (b + m) :: st) (Sh', I', R')) : X G K y cc L ret cs sl pc lv (.int i :: st) (Sh, I, R) := by
  refine x_newQ hd hl hao hk1 hk2 hty hi hN hcs hsl ?_
  rw [show hpZ (Sh, I, R) = b + m from hL.1]
  exact kk _ _ _ (hL.new hk ht)
theorem x_Lnw {idx ci : Nat} {r : vw_C} (hL : Lay T b m f n B S0 Sh I R) (hd : decode cc pc = .ok (.new idx, 3)) (hr : vwCl[ci]? = some r) (hl : tw (Cond.classLink y.cls idx r.1)) (hins : tw (Cond.instantiable r.1 r.2.2)) (hini : tw (Cond.initialized r.1)) (ht : T.1 m = (ci, r.2.2)) (hk : okM T m f n = true) (hcs : cs + 1 ≤ K.1.cells) (hsl : sl + r.2.2 ≤ K.1.slots) (kk : ∀ Sh' I' R', Lay T b (m + 1) f n B S0 Sh' I' R' → X G K y cc L ret (cs + 1) (sl + r.2.2) (pc + 3) lv (.ref (b + m) :: st) (Sh', I', R')) : X G K y cc L ret cs sl pc lv st (Sh, I, R) := by
  refine x_new hd hr hl hins hini hcs hsl ?_
  rw [show hpZ (Sh, I, R) = b + m from hL.1]
  exact kk _ _ _ (hL.new hk ht)
theorem x_Lmu {idx : Nat} {i j : Int32} (hL : Lay T b m f n B S0 Sh I R) (hd : decode cc pc = .ok (.multianewarray idx 2, 4)) (hl : tw (Cond.classLink y.cls idx "[[I")) (hi : i = 3) (hj : j = 8) (hk : okM T m f n = true) (t0 : T.1 m = (13, 3)) (t1 : T.1 (m + 1) = (9, 8)) (t2 : T.1 (m + 2) = (9, 8)) (t3 : T.1 (m + 3) = (9, 8)) (f0 : T.2.1 f = (m, 0, m + 1)) (f1 : T.2.1 (f + 1) = (m, 1, m + 2)) (f2 : T.2.1 (f + 2) = (m, 2, m + 3)) (hcs : cs + 4 ≤ K.1.cells) (hsl : sl + 27 ≤ K.1.slots) (kk : ∀ Sh' I' R', Lay T b (m + 4) (f + 3) n B S0 Sh' I' R' → X G K y cc L ret (cs + 4) (sl + 27) (pc + 4) lv (.ref (b + m) :: st) (Sh', I', R')) : X G K y cc L ret cs sl pc lv (.int j :: .int i :: st) (Sh, I, R) := by
  refine x_multi hd hl hi hj hcs hsl ?_
  rw [show hpZ (Sh, I, R) = b + m from hL.1]
  exact kk _ _ _ (hL.multi hk t0 t1 t2 t3 f0 f1 f2)
theorem x_LpR {idx ci k ja jv nn : Nat} (hL : Lay T b m f n B S0 Sh I R) (hd : decode cc pc = .ok (.putfield idx, 3)) (fr : FR y.cls idx ci k) (hi : slInt ci k = false) (hn : narrow (tyAt ci k) (.ref (b + jv)) = .ref (b + jv)) (hfit : fits (tyAt ci k) (.ref (b + jv)) = true) (hfin : finB ci k y.name y.cls = true) (hT : T.1 ja = (ci, nn)) (hj : ja < m) (hF : T.2.1 f = (ja, k, jv)) (hok : fOk T f = true) (kk : ∀ R', Lay T b m (f + 1) n B S0 Sh I R' → X G K y cc L ret cs sl (pc + 3) lv st (Sh, I, R')) : X G K y cc L ret cs sl pc lv (.ref (b + jv) :: .ref (b + ja) :: st) (Sh, I, R) :=
  x_putRF (n := nn) hd fr hi hn hfit (fin_of hfin) ((hL.2.1 ja hj).trans hT) (kk _ (hL.pR hok hF))
theorem x_LpI {idx ci k ja nn : Nat} {v : Int32} (hL : Lay T b m f n B S0 Sh I R) (hd : decode cc pc = .ok (.putfield idx, 3)) (fr : FR y.cls idx ci k) (hi : slInt ci k = true) (hty : tyAt ci k = .int) (hfin : finB ci k y.name y.cls = true) (hT : T.1 ja = (ci, nn)) (hj : ja < m) (hF : T.2.2 n = (ja, k, v)) (kk : ∀ I', Lay T b m f (n + 1) B S0 Sh I' R → X G K y cc L ret cs sl (pc + 3) lv st (Sh, I', R)) : X G K y cc L ret cs sl pc lv (.int v :: .ref (b + ja) :: st) (Sh, I, R) :=
  x_putIF (n := nn) hd fr hi hty (fin_of hfin) ((hL.2.1 ja hj).trans hT) (kk _ (hL.pI hF))
theorem x_LaR {kd ci ja jv j nn nb : Nat} {i : Int32} {r : vw_C} (hL : Lay T b m f n B S0 Sh I R) (hd : decode cc pc = .ok (.aastore, 1)) (hT : T.1 ja = (kd, nn)) (hj : ja < m) (hk1 : 10 ≤ kd) (hk2 : kd ≤ 13) (hr : vwCl[ci]? = some r) (hty : tyk kd = .object r.1) (hV : T.1 jv = (ci, nb)) (hjv : jv < m) (hi : i = nI j) (hjn : j < nn) (hnn : nn < 1000) (hF : T.2.1 f = (ja, j, jv)) (hok : fOk T f = true) (kk : ∀ R', Lay T b m (f + 1) n B S0 Sh I R' → X G K y cc L ret cs sl (pc + 1) lv st (Sh, I, R')) : X G K y cc L ret cs sl pc lv (.ref (b + jv) :: .int i :: .ref (b + ja) :: st) (Sh, I, R) := by
  subst hi
  refine x_aast hd ((hL.2.1 ja hj).trans hT) hk1 hk2 hr hty ((hL.2.1 jv hjv).trans hV) (vp_in_nI hjn (by omega)) ?_
  rw [nI_clamp (by omega)]
  exact kk _ (hL.pR hok hF)
theorem x_LiS {ja j nn : Nat} {i v : Int32} (hL : Lay T b m f n B S0 Sh I R) (hd : decode cc pc = .ok (.iastore, 1)) (hT : T.1 ja = (9, nn)) (hj : ja < m) (hi : i = nI j) (hjn : j < nn) (hnn : nn < 2147483648) (hF : T.2.2 n = (ja, j, v)) (kk : ∀ I', Lay T b m f (n + 1) B S0 Sh I' R → X G K y cc L ret cs sl (pc + 1) lv st (Sh, I', R)) : X G K y cc L ret cs sl pc lv (.int v :: .int i :: .ref (b + ja) :: st) (Sh, I, R) :=
  x_is hd ((hL.2.1 ja hj).trans hT) hi hjn hnn (fun I' e => kk I' (by rw [e]; exact hL.pI hF))
end
