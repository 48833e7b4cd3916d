/-! THE GAME in numbers, and what a search between two bounds says of it -/
noncomputable def lvF (P : Nat → List Int32) (n : Nat) (g : SV → Int32) (u : SV) (j : Nat) : Int32 := fd (fun i b => if u.1 i 3 = 1 then mnI b (g (beatF P n (spadeF P n i u))) else b) (g (beatF P n u)) j
noncomputable def mgF (P : Nat → List Int32) (n : Nat) (g : SV → Int32) (v : SV) (j : Nat) : Int32 := fd (fun i b => if v.1 i 3 = 0 then mxI b (lvF P n g (spadeF P n i v) n) else b) (lvF P n g v n) j
noncomputable def mvF (P : Nat → List Int32) (n : Nat) : Nat → SV → Int32
  | 0, v => valueF P n 0 v
  | w + 1, v => mgF P n (mvF P n w) v n
/-- the choice: value and fort -/
noncomputable def ffF (P : Nat → List Int32) (n : Nat) (g : SV → Int32) (v : SV) (j : Nat) : Int32 × Int32 := fd (fun i b => if v.1 i 3 = 0 ∧ b.1 < lvF P n g (spadeF P n i v) n then (lvF P n g (spadeF P n i v) n, nI i) else b) (lvF P n g v n, -1) j
theorem mxI_le {a b : Int32} : a ≤ mxI a b ∧ b ≤ mxI a b := by
  unfold mxI
  split
  · exact ⟨Int32.le_of_lt (by assumption), Int32.le_refl _⟩
  · exact ⟨Int32.le_refl _, Int32.not_lt.mp (by assumption)⟩
theorem mnI_le {a b : Int32} : mnI a b ≤ a ∧ mnI a b ≤ b := by
  unfold mnI
  split
  · exact ⟨Int32.le_of_lt (by assumption), Int32.le_refl _⟩
  · exact ⟨Int32.le_refl _, Int32.not_lt.mp (by assumption)⟩
theorem ff_mg {P : Nat → List Int32} {n : Nat} {g : SV → Int32} {v : SV} {j : Nat} : (ffF P n g v j).1 = mgF P n g v j := by
  induction j with
  | zero => rfl
  | succ j ih =>
    unfold ffF mgF at *
    rw [fd_s, fd_s]
    by_cases h : v.1 j 3 = 0
    · rw [if_pos h]
      by_cases h2 : (fd (fun i b => if v.1 i 3 = 0 ∧ b.1 < lvF P n g (spadeF P n i v) n then (lvF P n g (spadeF P n i v) n, nI i) else b) (lvF P n g v n, -1) j).1 < lvF P n g (spadeF P n j v) n
      · rw [if_pos ⟨h, h2⟩, ← ih]
        unfold mxI
        rw [if_pos h2]
      · rw [if_neg (fun q => h2 q.2), ← ih]
        unfold mxI
        rw [if_neg h2]
    · rw [if_neg h, if_neg (fun q => h q.1), ih]
theorem mn_t {a b : Int32} : (mnI a b).toInt ≤ a.toInt ∧ (mnI a b).toInt ≤ b.toInt ∧ ((mnI a b).toInt = a.toInt ∨ (mnI a b).toInt = b.toInt) := by
  refine ⟨Int32.le_iff_toInt_le.mp mnI_le.1, Int32.le_iff_toInt_le.mp mnI_le.2, ?_⟩
  unfold mnI
  split
  · exact Or.inr rfl
  · exact Or.inl rfl
theorem mx_t {a b : Int32} : a.toInt ≤ (mxI a b).toInt ∧ b.toInt ≤ (mxI a b).toInt ∧ ((mxI a b).toInt = a.toInt ∨ (mxI a b).toInt = b.toInt) := by
  refine ⟨Int32.le_iff_toInt_le.mp mxI_le.1, Int32.le_iff_toInt_le.mp mxI_le.2, ?_⟩
  unfold mxI
  split
  · exact Or.inr rfl
  · exact Or.inl rfl
theorem lv_mono {P : Nat → List Int32} {n : Nat} {g : SV → Int32} {v : SV} {i j : Nat} (h : i ≤ j) : lvF P n g v j ≤ lvF P n g v i := by
  induction j with
  | zero =>
    have : i = 0 := by omega
    subst this
    exact Int32.le_refl _
  | succ j ih =>
    by_cases e : i = j + 1
    · subst e
      exact Int32.le_refl _
    · have h1 := ih (by omega)
      refine Int32.le_trans ?_ h1
      unfold lvF
      rw [fd_s]
      split
      · exact mnI_le.1
      · exact Int32.le_refl _
theorem mg_mono {P : Nat → List Int32} {n : Nat} {g : SV → Int32} {v : SV} {i j : Nat} (h : i ≤ j) : mgF P n g v i ≤ mgF P n g v j := by
  induction j with
  | zero =>
    have : i = 0 := by omega
    subst this
    exact Int32.le_refl _
  | succ j ih =>
    by_cases e : i = j + 1
    · subst e
      exact Int32.le_refl _
    · have h1 := ih (by omega)
      refine Int32.le_trans h1 ?_
      unfold mgF
      rw [fd_s]
      split
      · exact mxI_le.1
      · exact Int32.le_refl _
/-- r is what V is, as far as lo and hi ask -/
def abF (r V lo hi : Int32) : Prop := (lo < r → r ≤ V) ∧ (r < hi → V ≤ r)
theorem ab_min {a m r V lo hi : Int32} (h : abF a m lo hi) (hl : ¬ a ≤ lo) (h2 : abF r V lo (mnI hi a)) : abF (mnI a r) (mnI m V) lo hi := by
  have h3 := mn_t (a := hi) (b := a)
  have h4 := mn_t (a := a) (b := r)
  have h5 := mn_t (a := m) (b := V)
  unfold abF at *
  simp only [Int32.lt_iff_toInt_lt, Int32.le_iff_toInt_le] at *
  omega
theorem ab_max {a m r V lo hi : Int32} (h : abF a m lo hi) (hl : ¬ hi ≤ a) (h2 : abF r V (mxI lo a) hi) : abF (mxI a r) (mxI m V) lo hi := by
  have h3 := mx_t (a := lo) (b := a)
  have h4 := mx_t (a := a) (b := r)
  have h5 := mx_t (a := m) (b := V)
  unfold abF at *
  simp only [Int32.lt_iff_toInt_lt, Int32.le_iff_toInt_le] at *
  omega
theorem ab_ge {a m M lo hi : Int32} (h : abF a m lo hi) (h1 : hi ≤ a) (h2 : m ≤ M) : abF a M lo hi :=
  ⟨fun q => Int32.le_trans (h.1 q) h2, fun q => absurd q (Int32.not_lt.mpr h1)⟩
theorem ab_le {a m M lo hi : Int32} (h : abF a m lo hi) (h1 : a ≤ lo) (h2 : M ≤ m) : abF a M lo hi :=
  ⟨fun q => absurd q (Int32.not_lt.mpr h1), fun q => Int32.le_trans h2 (h.2 q)⟩
theorem ab_in {a V lo hi : Int32} (h : abF a V lo hi) (h1 : lo < V) (h2 : V < hi) : a = V := by
  unfold abF at h
  apply Int32.toInt_inj.mp
  simp only [Int32.lt_iff_toInt_lt, Int32.le_iff_toInt_le] at *
  omega
/-! values are small -/
def smallI (x : Int32) (k : Int) : Prop := -k ≤ x.toInt ∧ x.toInt ≤ k
theorem small_add {x z : Int32} {k m : Int} (h : smallI x k) (h2 : smallI z m) (hk : 0 ≤ k) (hm : 0 ≤ m) (hb : k + m < 2147483648) : smallI (x + z) (k + m) := by
  unfold smallI at *
  rw [Int32.toInt_add, Int.bmod_def]
  omega
theorem small_neg {x : Int32} {k : Int} (h : smallI x k) (hb : k < 2147483648) : smallI (-x) k := by
  unfold smallI at *
  rw [Int32.toInt_neg, Int.bmod_def]
  omega
theorem small_wo {P : Nat → List Int32} {n i : Nat} {v : SV} : smallI (woF P n v i) 99 := by
  have e1 : (99 : Int32).toInt = 99 := by decide
  have e0 : (0 : Int32).toInt = 0 := by decide
  have h1 := mn_t (a := 99) (b := mxI 0 (topF (cF n v i) (P 2)))
  have h2 := mx_t (a := 0) (b := topF (cF n v i) (P 2))
  unfold woF smallI
  omega
theorem small_val {P : Nat → List Int32} {n : Nat} {r : Int32} {v : SV} : ∀ j : Nat, j ≤ 8 → smallI (valueG P n r v j) (99 * j) := by
  intro j
  induction j with
  | zero =>
    intro _
    show smallI (0 : Int32) _
    unfold smallI
    have e0 : (0 : Int32).toInt = 0 := by decide
    omega
  | succ j ih =>
    intro hj
    have h := ih (by omega)
    have hw := small_wo (P := P) (n := n) (i := j) (v := v)
    have e : (99 * ((j + 1 : Nat) : Int)) = 99 * (j : Int) + 99 := by omega
    rw [e]
    unfold valueG at *
    rw [fd_s]
    split
    · split
      · exact small_add h hw (by omega) (by omega) (by omega)
      · exact small_add h (small_neg hw (by omega)) (by omega) (by omega) (by omega)
    · unfold smallI at *
      omega
theorem small_mx {a b : Int32} {k : Int} (h : smallI a k) (h2 : smallI b k) : smallI (mxI a b) k := by
  unfold mxI
  split <;> assumption
theorem small_mn {a b : Int32} {k : Int} (h : smallI a k) (h2 : smallI b k) : smallI (mnI a b) k := by
  unfold mnI
  split <;> assumption
theorem small_lv {P : Nat → List Int32} {n : Nat} {g : SV → Int32} {k : Int} (h : ∀ u, smallI (g u) k) (u : SV) (j : Nat) : smallI (lvF P n g u j) k := by
  induction j with
  | zero => exact h _
  | succ j ih =>
    unfold lvF at *
    rw [fd_s]
    split
    · exact small_mn ih (h _)
    · exact ih
theorem small_mg {P : Nat → List Int32} {n : Nat} {g : SV → Int32} {k : Int} (h : ∀ u, smallI (g u) k) (u : SV) (j : Nat) : smallI (mgF P n g u j) k := by
  induction j with
  | zero => exact small_lv h _ _
  | succ j ih =>
    unfold mgF at *
    rw [fd_s]
    split
    · exact small_mx ih (small_lv h _ _)
    · exact ih
theorem small_mv {P : Nat → List Int32} {n : Nat} (hn : n ≤ 8) : ∀ (w : Nat) (v : SV), smallI (mvF P n w v) 792
  | 0, v => by
    have h := small_val (P := P) (n := n) (r := 0) (v := v) n hn
    show smallI (valueG P n 0 v n) 792
    unfold smallI at *
    omega
  | w + 1, v => small_mg (fun u => small_mv hn w u) v n
/-! the game's cells -/
def ShG (Sh : HS) (Gm : Nat) : Prop := Sh.2 Gm = (1, 3) ∧ Sh.2 (Gm + 1) = (13, 3) ∧ ∀ r, r < 3 → Sh.2 (Gm + 2 + r) = (9, 8)
def RG (R : HR) (Gm S : Nat) : Prop := R Gm 0 = some S ∧ R Gm 1 = some (Gm + 1) ∧ ∀ r, r < 3 → R (Gm + 1) r = some (Gm + 2 + r)
def frG (T S Gm w : Nat) (I J : HI) : Prop := ∀ a k, ¬ scr T a k → ¬ (S + 2 ≤ a ∧ a < S + 10 ∧ 4 ≤ k) → ¬ (a = S ∧ k = 3) → ¬ (a = Gm ∧ k = 2) → ¬ (Gm + 2 ≤ a ∧ a < Gm + 2 + w) → J a k = I a k
theorem frG.rf {T S Gm w : Nat} {I : HI} : frG T S Gm w I I := fun _ _ _ _ _ _ _ => rfl
theorem frG.tr {T S Gm w : Nat} {I J J2 : HI} (h : frG T S Gm w I J) (h2 : frG T S Gm w J J2) : frG T S Gm w I J2 := fun a k q1 q2 q3 q4 q5 => (h2 a k q1 q2 q3 q4 q5).trans (h a k q1 q2 q3 q4 q5)
theorem frG.up {T S Gm w w2 : Nat} {I J : HI} (h : frG T S Gm w I J) (hw : w ≤ w2) : frG T S Gm w2 I J := fun a k q1 q2 q3 q4 q5 => h a k q1 q2 q3 q4 (by omega)
theorem frS.g {T S Gm w : Nat} {I J : HI} (h : frS T S I J) : frG T S Gm w I J := fun a k q1 q2 q3 _ _ => h a k q1 q2 q3
theorem SW.frG {Sh : HS} {I J : HI} {R : HR} {S T n Gm w : Nat} {P : Nat → List Int32} (wS : SW Sh I R S T n P) (hG : S + 10 ≤ Gm) (o : frG T S Gm w I J) : SW Sh J R S T n P := by
  obtain ⟨h1, h2, h3, h4, h5, h6, h7, h8, h9⟩ := wS
  refine ⟨h1, h2, ?_, h4, h5, h6, h7, ?_, h9⟩
  · rw [o S 1 (scr_no h9 (Nat.le_refl _)) (by omega) (by omega) (by omega) (by omega)]
    exact h3
  · refine h8.same (fun k hk => o T k (fun e => by rcases e with e | e <;> omega) (by omega) (by omega) (by omega) (by omega)) (fun k => o (T + 1) k (fun e => by rcases e with e | e <;> omega) (by omega) (by omega) (by omega) (by omega))
theorem SR.back {I : HI} {S n i : Nat} {v : SV} {P : Nat → List Int32} (h : SR I S n (spadeF P n i v)) (hi : i < n) : SR (u2 I (S + 2 + i) 4 (v.1 i 4)) S n v := by
  refine ⟨fun j hj k hk => ?_, ?_, ?_⟩
  · by_cases e : j = i ∧ k = 4
    · obtain ⟨rfl, rfl⟩ := e
      exact u2_same
    · rw [u2_ne (by omega), h.1 j hj k hk]
      unfold spadeF
      simp [e]
  · rw [u2_ne (by omega)]
    exact h.2.1
  · rw [u2_ne (by omega)]
    exact h.2.2
