/-! TEXT 0, read: it stands -/
def wdB (tb : Nat → Int32) (ts i f t : Nat) : Bool := decide (t - f = kTn i) && (List.range (kTn i)).all fun j => decide (byF tb ts (f + j) = kC i j)
theorem wd_iff {tb : Nat → Int32} {ts i f t : Nat} : wdP tb ts i f t ↔ wdB tb ts i f t = true := by
  unfold wdP wdB
  simp only [Bool.and_eq_true, decide_eq_true_eq, List.all_eq_true, List.mem_range]
def wtC (tb : Nat → Int32) (ts f t : Nat) : Int32 := if wdB tb ts 1 f t = true then 3 else if wdB tb ts 2 f t = true then 4 else if wdB tb ts 3 f t = true then 5 else if wdB tb ts 4 f t = true then -9 else if wdB tb ts 5 f t = true then -10 else if wdB tb ts 6 f t = true then -7 else if wdB tb ts 7 f t = true then -1 else if wdB tb ts 8 f t = true then -2 else if wdB tb ts 9 f t = true then -3 else if wdB tb ts 10 f t = true then -4 else if wdB tb ts 11 f t = true then -5 else if wdB tb ts 12 f t = true then -6 else 2
theorem ite_w {P Q : Prop} {d1 : Decidable P} {d2 : Decidable Q} {a b c : Int32} (h : P ↔ Q) (e : b = c) : @ite _ P d1 a b = @ite _ Q d2 a c := by
  by_cases p : P
  · rw [if_pos p, if_pos (h.mp p)]
  · rw [if_neg p, if_neg (fun q => p (h.mpr q)), e]
theorem wt_eq {tb : Nat → Int32} {ts f t : Nat} : wtF tb ts f t = wtC tb ts f t := by
  unfold wtF wtC
  exact ite_w wd_iff (ite_w wd_iff (ite_w wd_iff (ite_w wd_iff (ite_w wd_iff (ite_w wd_iff (ite_w wd_iff (ite_w wd_iff (ite_w wd_iff (ite_w wd_iff (ite_w wd_iff (ite_w wd_iff rfl)))))))))))
def ntF' (tb : Nat → Int32) (ts f t : Nat) : Int32 := if 4 < t - f then 2 else 1000 + nuF tb ts f (t - f)
def tkC (tb : Nat → Int32) (ts p : Nat) : Int32 := if srF (byF tb ts (fmF tb ts p)) = 1 then ntF' tb ts (fmF tb ts p) (behF tb ts 1 (fmF tb ts p)) else if srF (byF tb ts (fmF tb ts p)) = 2 then wtC tb ts (fmF tb ts p) (behF tb ts 2 (fmF tb ts p)) else if srF (byF tb ts (fmF tb ts p)) = 3 then byF tb ts (fmF tb ts p) else if fmF tb ts p < ts then 2 else 1
theorem tk_eq {tb : Nat → Int32} {ts p : Nat} : tkF tb ts p = tkC tb ts p := by
  unfold tkF tkC
  rw [wt_eq]
  rfl
section
variable {tk : Nat → Int32} {nx : Nat → Nat}
theorem pr_term {p p1 o : Nat} {Q : List Int32} (h : Prs tk nx 6 p o (true, p1, Q)) (ho : o ≤ 5) (h1 : ¬ tk p = 45) (h2 : ¬ tk p1 = 42) : ∃ Q', Prs tk nx 1 p o (true, p1, Q') :=
  ⟨_, Prs_clo.2.2.1.1 p o p1 _ (true, p1, []) (Prs_clo.2.1.1 p o 0 (true, p1, Q) (fun i hi => absurd hi (Nat.not_lt_zero i)) ho h1 h) (Prs_clo.2.2.1.2.2.1 p1 o h2)⟩
theorem pr_more {p p2 p3 o : Nat} (h : ∃ Q, Prs tk nx 1 (nx p) o (true, p2, Q)) (h1 : sgS (tk p)) (h2 : ∃ Q, Prs tk nx 12 p2 o (true, p3, Q)) : ∃ Q, Prs tk nx 12 p o (true, p3, Q) := by
  obtain ⟨Q2, h⟩ := h
  obtain ⟨Q3, h2⟩ := h2
  exact ⟨_, Prs_clo.2.2.2.1.2.2.2.1 p o p2 Q2 (true, p3, Q3) h1 h h2⟩
theorem pr_end {p o : Nat} (h : ¬ sgS (tk p)) : ∃ Q, Prs tk nx 12 p o (true, p, Q) := ⟨_, Prs_clo.2.2.2.1.2.2.1 p o h⟩
theorem pr_sum {p p1 p2 o : Nat} (h : ∃ Q, Prs tk nx 1 p o (true, p1, Q)) (h2 : ∃ Q, Prs tk nx 12 p1 o (true, p2, Q)) : ∃ Q, Prs tk nx 2 p o (true, p2, Q) := by
  obtain ⟨Q1, h⟩ := h
  obtain ⟨Q2, h2⟩ := h2
  exact ⟨_, Prs_clo.2.2.2.1.1 p o p1 Q1 (true, p2, Q2) h h2⟩
theorem pr_any {p p1 o : Nat} (h : ∃ Q, Prs tk nx 2 p o (true, p1, Q)) (ho : o ≤ 5) (h0 : ¬ tk p = -7) (h1 : ¬ (tk p1 = 60 ∨ tk p1 = 61)) (h2 : ¬ tk p1 = -10) (h3 : ¬ tk p1 = -9) : ∃ Q, Prs tk nx 5 p o (true, p1, Q) := by
  obtain ⟨Q1, h⟩ := h
  have a7 := Prs_clo.2.2.2.2.1.1 p o p1 Q1 h h1
  have a3 := Prs_clo.2.2.2.2.2.1.1 p o 0 (true, p1, Q1) (fun i hi => absurd hi (Nat.not_lt_zero i)) ho h0 a7
  have a4 := Prs_clo.2.2.2.2.2.2.1.1 p o p1 _ (true, p1, []) a3 (Prs_clo.2.2.2.2.2.2.1.2.2.1 p1 o h2)
  exact ⟨_, Prs_clo.2.2.2.2.2.2.2.1 p o p1 _ (true, p1, []) a4 (Prs_clo.2.2.2.2.2.2.2.2.2.1 p1 o h3)⟩
end

theorem t0_0 : tkF (kC 0) (kTn 0) 0 = 3 := tk_eq.trans (by decide +kernel)
theorem n0_0 : nxF (kC 0) (kTn 0) 0 = 7 := by decide +kernel
theorem t0_7 : tkF (kC 0) (kTn 0) 7 = 1009 := tk_eq.trans (by decide +kernel)
theorem n0_7 : nxF (kC 0) (kTn 0) 7 = 9 := by decide +kernel
theorem t0_9 : tkF (kC 0) (kTn 0) 9 = 43 := tk_eq.trans (by decide +kernel)
theorem n0_9 : nxF (kC 0) (kTn 0) 9 = 11 := by decide +kernel
theorem t0_11 : tkF (kC 0) (kTn 0) 11 = (-2) := tk_eq.trans (by decide +kernel)
theorem n0_11 : nxF (kC 0) (kTn 0) 11 = 16 := by decide +kernel
theorem t0_16 : tkF (kC 0) (kTn 0) 16 = 45 := tk_eq.trans (by decide +kernel)
theorem n0_16 : nxF (kC 0) (kTn 0) 16 = 18 := by decide +kernel
theorem t0_18 : tkF (kC 0) (kTn 0) 18 = (-3) := tk_eq.trans (by decide +kernel)
theorem n0_18 : nxF (kC 0) (kTn 0) 18 = 24 := by decide +kernel
theorem t0_24 : tkF (kC 0) (kTn 0) 24 = 45 := tk_eq.trans (by decide +kernel)
theorem n0_24 : nxF (kC 0) (kTn 0) 24 = 26 := by decide +kernel
theorem t0_26 : tkF (kC 0) (kTn 0) 26 = (-6) := tk_eq.trans (by decide +kernel)
theorem n0_26 : nxF (kC 0) (kTn 0) 26 = 34 := by decide +kernel
theorem t0_34 : tkF (kC 0) (kTn 0) 34 = 59 := tk_eq.trans (by decide +kernel)
theorem n0_34 : nxF (kC 0) (kTn 0) 34 = 36 := by decide +kernel
theorem t0_36 : tkF (kC 0) (kTn 0) 36 = 4 := tk_eq.trans (by decide +kernel)
theorem n0_36 : nxF (kC 0) (kTn 0) 36 = 43 := by decide +kernel
theorem t0_43 : tkF (kC 0) (kTn 0) 43 = 1005 := tk_eq.trans (by decide +kernel)
theorem n0_43 : nxF (kC 0) (kTn 0) 43 = 45 := by decide +kernel
theorem t0_45 : tkF (kC 0) (kTn 0) 45 = 59 := tk_eq.trans (by decide +kernel)
theorem n0_45 : nxF (kC 0) (kTn 0) 45 = 47 := by decide +kernel
theorem t0_47 : tkF (kC 0) (kTn 0) 47 = 5 := tk_eq.trans (by decide +kernel)
theorem n0_47 : nxF (kC 0) (kTn 0) 47 = 53 := by decide +kernel
theorem t0_53 : tkF (kC 0) (kTn 0) 53 = 1010 := tk_eq.trans (by decide +kernel)
theorem n0_53 : nxF (kC 0) (kTn 0) 53 = 56 := by decide +kernel
theorem t0_56 : tkF (kC 0) (kTn 0) 56 = 59 := tk_eq.trans (by decide +kernel)
theorem n0_56 : nxF (kC 0) (kTn 0) 56 = 58 := by decide +kernel
theorem t0_58 : tkF (kC 0) (kTn 0) 58 = 1 := tk_eq.trans (by decide +kernel)
theorem at_num {p q : Nat} {v : Int32} (h : tkF (kC 0) (kTn 0) p = v) (h2 : nxF (kC 0) (kTn 0) p = q) (hv : 1000 ≤ v) : ∃ Q, Prs (tkF (kC 0) (kTn 0)) (nxF (kC 0) (kTn 0)) 6 p 0 (true, q, Q) := by
  rw [← h2]
  exact ⟨_, Prs_clo.1.1 p 0 (by rw [h]; exact hv)⟩
theorem at_wrd {p q : Nat} {v : Int32} (h : tkF (kC 0) (kTn 0) p = v) (h2 : nxF (kC 0) (kTn 0) p = q) (hv : v ≤ -1) (hv2 : -6 ≤ v) : ∃ Q, Prs (tkF (kC 0) (kTn 0)) (nxF (kC 0) (kTn 0)) 6 p 0 (true, q, Q) := by
  rw [← h2]
  exact ⟨_, Prs_clo.1.2.1 p 0 (by rw [h]; exact hv) (by rw [h]; exact hv2)⟩
theorem tm0 {p q : Nat} {v w : Int32} (a : ∃ Q, Prs (tkF (kC 0) (kTn 0)) (nxF (kC 0) (kTn 0)) 6 p 0 (true, q, Q)) (h : tkF (kC 0) (kTn 0) p = v) (h2 : tkF (kC 0) (kTn 0) q = w) (hv : ¬ v = 45) (hw : ¬ w = 42) : ∃ Q, Prs (tkF (kC 0) (kTn 0)) (nxF (kC 0) (kTn 0)) 1 p 0 (true, q, Q) := by
  obtain ⟨Q, a⟩ := a
  exact pr_term a (by omega) (by rw [h]; exact hv) (by rw [h2]; exact hw)
theorem an0 {p q : Nat} {v w : Int32} (a : ∃ Q, Prs (tkF (kC 0) (kTn 0)) (nxF (kC 0) (kTn 0)) 2 p 0 (true, q, Q)) (h : tkF (kC 0) (kTn 0) p = v) (h2 : tkF (kC 0) (kTn 0) q = w) (hv : ¬ v = -7) (hw : ¬ (w = 60 ∨ w = 61)) (hw2 : ¬ w = -10) (hw3 : ¬ w = -9) : ∃ Q, Prs (tkF (kC 0) (kTn 0)) (nxF (kC 0) (kTn 0)) 5 p 0 (true, q, Q) :=
  pr_any a (by omega) (by rw [h]; exact hv) (by rw [h2]; exact hw) (by rw [h2]; exact hw2) (by rw [h2]; exact hw3)
theorem mo0 {p p1 p2 p3 : Nat} {v : Int32} (h : tkF (kC 0) (kTn 0) p = v) (hn : nxF (kC 0) (kTn 0) p = p1) (hv : v = 43 ∨ v = 45) (a : ∃ Q, Prs (tkF (kC 0) (kTn 0)) (nxF (kC 0) (kTn 0)) 1 p1 0 (true, p2, Q)) (b : ∃ Q, Prs (tkF (kC 0) (kTn 0)) (nxF (kC 0) (kTn 0)) 12 p2 0 (true, p3, Q)) : ∃ Q, Prs (tkF (kC 0) (kTn 0)) (nxF (kC 0) (kTn 0)) 12 p 0 (true, p3, Q) := by
  refine pr_more (p2 := p2) ?_ (by rw [h]; exact hv) b
  rw [hn]
  exact a
theorem en0 {p : Nat} (h : tkF (kC 0) (kTn 0) p = 59) : ∃ Q, Prs (tkF (kC 0) (kTn 0)) (nxF (kC 0) (kTn 0)) 12 p 0 (true, p, Q) := pr_end (by rw [h]; unfold sgS; decide)
theorem pt0 {w : Int32} {p p1 p2 p3 : Nat} (h : tkF (kC 0) (kTn 0) p = w) (hn : nxF (kC 0) (kTn 0) p = p1) (a : ∃ Q, Prs (tkF (kC 0) (kTn 0)) (nxF (kC 0) (kTn 0)) 5 p1 0 (true, p2, Q)) (h2 : tkF (kC 0) (kTn 0) p2 = 59) (hn2 : nxF (kC 0) (kTn 0) p2 = p3) : ∃ Q, Prt (kC 0) (kTn 0) w p (true, p3, Q) := by
  obtain ⟨Q, a⟩ := a
  exact ⟨Q, Or.inr ⟨h, (true, p2, Q), by rw [hn]; exact a, Or.inr (Or.inr ⟨rfl, h2, by rw [hn2]⟩)⟩⟩
theorem tx_0 : ∃ P, txR (kC 0) (kTn 0) (true, 58, P) := by
  have s1 := an0 (pr_sum (tm0 (at_num t0_7 n0_7 (by decide)) t0_7 t0_9 (by decide) (by decide)) (mo0 t0_9 n0_9 (Or.inl rfl) (tm0 (at_wrd t0_11 n0_11 (by decide) (by decide)) t0_11 t0_16 (by decide) (by decide)) (mo0 t0_16 n0_16 (Or.inr rfl) (tm0 (at_wrd t0_18 n0_18 (by decide) (by decide)) t0_18 t0_24 (by decide) (by decide)) (mo0 t0_24 n0_24 (Or.inr rfl) (tm0 (at_wrd t0_26 n0_26 (by decide) (by decide)) t0_26 t0_34 (by decide) (by decide)) (en0 t0_34))))) t0_7 t0_34 (by decide) (by decide) (by decide) (by decide)
  have s2 := an0 (pr_sum (tm0 (at_num t0_43 n0_43 (by decide)) t0_43 t0_45 (by decide) (by decide)) (en0 t0_45)) t0_43 t0_45 (by decide) (by decide) (by decide) (by decide)
  have s3 := an0 (pr_sum (tm0 (at_num t0_53 n0_53 (by decide)) t0_53 t0_56 (by decide) (by decide)) (en0 t0_56)) t0_53 t0_56 (by decide) (by decide) (by decide) (by decide)
  obtain ⟨Q0, p0⟩ := pt0 t0_0 n0_0 s1 t0_34 n0_34
  obtain ⟨Q1, p1⟩ := pt0 t0_36 n0_36 s2 t0_45 n0_45
  obtain ⟨Q2, p2⟩ := pt0 t0_47 n0_47 s3 t0_56 n0_56
  exact ⟨_, _, _, _, p0, p1, p2, Or.inr (Or.inr (Or.inr (Or.inr ⟨rfl, rfl, rfl, t0_58, rfl⟩)))⟩

