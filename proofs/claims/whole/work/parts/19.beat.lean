theorem scr_no {T S a k : Nat} (h : T + 3 ≤ S) (ha : S ≤ a) : ¬ scr T a k := fun e => by rcases e with e | e <;> omega
theorem raise_ok {T S n i : Nat} {I I2 : HI} {v : SV} {P : Nat → List Int32} {r : Int32} (h : SR I S n v) (o : offT T I I2) (hTS : T + 3 ≤ S) (hi : i < n) (hn8 : n ≤ 8) (hr : r = riseF (I (S + 2 + i) 0) (mnI 20 (mxI 0 (topF (cxI I S (S + 2 + i) n) (P 1))))) : SR (u2 I2 (S + 2 + i) 4 (mnI 99 (I (S + 2 + i) 4 + r))) S n (spadeF P n i v) ∧ frS T S I (u2 I2 (S + 2 + i) 4 (mnI 99 (I (S + 2 + i) 4 + r))) := by
  have h2 := h.off o hTS
  have hr2 : r = riF P n v i := by
    rw [hr, cx_cF h hi, h.1 i hi 0 (by omega)]
    rfl
  refine ⟨⟨fun j hj k hk => ?_, ?_, ?_⟩, fun a k q1 q2 q3 => ?_⟩
  · unfold spadeF
    by_cases e : j = i ∧ k = 4
    · obtain ⟨rfl, rfl⟩ := e
      rw [u2_same, hr2, h.1 j hj 4 (by omega)]
      simp
    · rw [u2_ne (by omega), h2.1 j hj k hk]
      simp [e]
  · rw [u2_ne (by omega)]
    exact h2.2.1
  · rw [u2_ne (by omega)]
    exact h2.2.2
  · rw [u2_ne (by omega)]
    exact o a k q1
/-- the losses are counted up to i -/
def bt1 (T S n : Nat) (P : Nat → List Int32) (v : SV) (I J : HI) (i : Nat) : Prop := (∀ a k, ¬ scr T a k → ¬ (S + 2 ≤ a ∧ a < S + 10 ∧ k = 5) → J a k = I a k) ∧ ∀ o, o < i → J (S + 2 + o) 5 = leF P n v o
theorem bt1.fr {T S n i : Nat} {P : Nat → List Int32} {v : SV} {I J : HI} (h : bt1 T S n P v I J i) : frS T S I J := fun a k q1 q2 q3 => h.1 a k q1 (by omega)
theorem bt1.sr {T S n i : Nat} {P : Nat → List Int32} {v : SV} {I J : HI} (h : bt1 T S n P v I J i) (hs : SR I S n v) (hTS : T + 3 ≤ S) : SR J S n v :=
  ⟨fun j hj k hk => (h.1 _ _ (scr_no hTS (by omega)) (by omega)).trans (hs.1 j hj k hk), (h.1 _ _ (scr_no hTS (by omega)) (by omega)).trans hs.2.1, (h.1 _ _ (scr_no hTS (by omega)) (by omega)).trans hs.2.2⟩
theorem bt1.step {T S n i : Nat} {P : Nat → List Int32} {v : SV} {I J J2 : HI} {x : Int32} (h : bt1 T S n P v I J i) (hTS : T + 3 ≤ S) (o : offT T J J2) (hi : i < n) (hn8 : n ≤ 8) (hx : x = leF P n v i) : bt1 T S n P v I (u2 J2 (S + 2 + i) 5 x) (i + 1) := by
  refine ⟨fun a k q1 q2 => ?_, fun j hj => ?_⟩
  · rw [u2_ne (by omega), o a k q1]
    exact h.1 a k q1 q2
  · by_cases e : j = i
    · subst e
      rw [u2_same]
      exact hx
    · rw [u2_ne (by omega), o.out (by omega)]
      exact h.2 j (by omega)
/-- the heights have fallen up to i -/
def bt2 (T S n : Nat) (P : Nat → List Int32) (v : SV) (I J : HI) (i : Nat) : Prop := (∀ a k, ¬ scr T a k → ¬ (S + 2 ≤ a ∧ a < S + 10 ∧ 4 ≤ k) → J a k = I a k) ∧ (∀ o, o < n → J (S + 2 + o) 5 = leF P n v o) ∧ (∀ o, o < i → J (S + 2 + o) 4 = mxI 0 (v.1 o 4 - leF P n v o)) ∧ ∀ o, i ≤ o → o < n → J (S + 2 + o) 4 = v.1 o 4
theorem bt1.end_ {T S n : Nat} {P : Nat → List Int32} {v : SV} {I J : HI} (h : bt1 T S n P v I J n) (hs : SR I S n v) (hTS : T + 3 ≤ S) : bt2 T S n P v I J 0 :=
  ⟨fun a k q1 q2 => h.1 a k q1 (by omega), h.2, fun o ho => absurd ho (by omega), fun o _ ho => (h.sr hs hTS).1 o ho 4 (by omega)⟩
theorem bt2.step {T S n i : Nat} {P : Nat → List Int32} {v : SV} {I J : HI} {x : Int32} (h : bt2 T S n P v I J i) (hi : i < n) (hn8 : n ≤ 8) (hx : x = mxI 0 (J (S + 2 + i) 4 - J (S + 2 + i) 5)) : bt2 T S n P v I (u2 J (S + 2 + i) 4 x) (i + 1) := by
  refine ⟨fun a k q1 q2 => ?_, fun j hj => ?_, fun j hj => ?_, fun j hj hj2 => ?_⟩
  · rw [u2_ne (by omega)]
    exact h.1 a k q1 q2
  · rw [u2_ne (by omega)]
    exact h.2.1 j hj
  · by_cases e : j = i
    · subst e
      rw [u2_same, hx, h.2.2.2 j (by omega) hi, h.2.1 j hi]
    · rw [u2_ne (by omega)]
      exact h.2.2.1 j (by omega)
  · rw [u2_ne (by omega)]
    exact h.2.2.2 j (by omega) hj2
theorem bt2.end_ {T S n : Nat} {P : Nat → List Int32} {v : SV} {I J : HI} (h : bt2 T S n P v I J n) (hs : SR I S n v) (hTS : T + 3 ≤ S) : SR (u2 J S 3 (J S 3 + 1)) S n (beatF P n v) ∧ frS T S I (u2 J S 3 (J S 3 + 1)) := by
  have hw : J S 3 = v.2.2 := (h.1 S 3 (scr_no hTS (Nat.le_refl _)) (by omega)).trans hs.2.2
  refine ⟨⟨fun j hj k hk => ?_, ?_, ?_⟩, fun a k q1 q2 q3 => ?_⟩
  · rw [u2_ne (by omega)]
    unfold beatF
    by_cases e : k = 4
    · subst e
      rw [h.2.2.1 j hj]
      simp
    · rw [h.1 _ _ (scr_no hTS (by omega)) (by omega), hs.1 j hj k hk]
      simp [e]
  · rw [u2_ne (by omega)]
    exact (h.1 S 2 (scr_no hTS (Nat.le_refl _)) (by omega)).trans hs.2.1
  · rw [u2_same, hw]
    rfl
  · rw [u2_ne (by omega)]
    exact h.1 a k q1 q2
noncomputable def passF (P : Nat → List Int32) (n : Nat) (v : SV) (k : Nat) : SV := fd (fun _ u => beatF P n u) v k
