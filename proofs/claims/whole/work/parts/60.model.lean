/-! THE REFERENCE'S CELLS, from m on: the object, its rows -/
def MSh (Sh : HS) (m : Nat) : Prop := Sh.2 m = (8, 35) ∧ (∀ k, k < 5 → Sh.2 (m + 1 + k) = (9, 8)) ∧ Sh.2 (m + 6) = (9, 160) ∧ Sh.2 (m + 7) = (9, 18) ∧ Sh.2 (m + 8) = (9, 18) ∧ Sh.2 (m + 9) = (9, 3000) ∧ Sh.2 (m + 10) = (9, 200) ∧ Sh.2 (m + 11) = (9, 8) ∧ Sh.2 (m + 12) = (9, 56) ∧ Sh.2 (m + 13) = (9, 8) ∧ Sh.2 (m + 14) = (9, 35) ∧ Sh.2 (m + 15) = (9, 4) ∧ Sh.2 (m + 16) = (9, 4) ∧ Sh.2 (m + 17) = (9, 160)
def MRf (R : HR) (m : Nat) : Prop := (∀ k, k < 5 → R m (3 + k) = some (m + 1 + k)) ∧ R m 10 = some (m + 6) ∧ R m 12 = some (m + 7) ∧ R m 13 = some (m + 8) ∧ R m 14 = some (m + 9) ∧ R m 22 = some (m + 10) ∧ R m 23 = some (m + 11) ∧ R m 26 = some (m + 12) ∧ R m 28 = some (m + 13) ∧ R m 31 = some (m + 14) ∧ R m 32 = some (m + 15) ∧ R m 33 = some (m + 16) ∧ R m 34 = some (m + 17)
/-- the reference's number for a code -/
def mcF (x : Int32) : Int32 := if 0 ≤ x then x + 15 else if -6 ≤ x then -x - 1 else if x = -7 then 13 else if x = -8 then 14 else if x = -9 then 12 else if x = -10 then 11 else if x = -11 then 9 else if x = -12 then 10 else if x = -13 then 6 else if x = -14 then 7 else 8
/-- a code that can stand in a text -/
def cdP (x : Int32) : Prop := -15 ≤ x ∧ x < 10000
def MTx (m : Nat) (I : HI) (t : Nat) (P : Nat → List Int32) (c : Nat) : Prop := ∀ q, q < 3 → ∃ B, I (m + 7) (3 * t + q) = nI B ∧ I (m + 8) (3 * t + q) = nI (P q).length ∧ B + (P q).length ≤ c ∧ (∀ j (x : Int32), (P q)[j]? = some x → I (m + 9) (B + j) = mcF x ∧ cdP x) ∧ okF (P q) 0
/-- the reference's strand -/
def MW (Sh : HS) (I : HI) (R : HR) (m n t : Nat) (P : Nat → List Int32) : Prop := MSh Sh m ∧ MRf R m ∧ I m 2 = nI n ∧ n ≤ 8 ∧ I m 8 = nI t ∧ t < 6 ∧ ∃ c, c ≤ 960 ∧ MTx m I t P c
def MS (I : HI) (m n : Nat) (v : SV) : Prop := (∀ i, i < n → ∀ k, k < 5 → I (m + 1 + k) i = v.1 i k) ∧ I m 0 = v.2.1 ∧ I m 1 = v.2.2
def NB (n : Nat) (v : SV) : Prop := ∀ i, i < n → ∃ a, a < 10 ∧ v.1 i 1 = nI a
/-- what thinking may change -/
def offK (m : Nat) (I J : HI) : Prop := ∀ a k, ¬ a = m + 10 → J a k = I a k
def frM (m : Nat) (I J : HI) : Prop := ∀ a k, ¬ a = m + 10 → ¬ a = m + 13 → ¬ (a = m + 1 + 4 ∧ k < 8) → ¬ (a = m ∧ k = 1) → J a k = I a k
theorem offK.rf {m : Nat} {I : HI} : offK m I I := fun _ _ _ => rfl
theorem offK.tr {m : Nat} {I J J2 : HI} (h : offK m I J) (h2 : offK m J J2) : offK m I J2 := fun a k q => (h2 a k q).trans (h a k q)
theorem frM.rf {m : Nat} {I : HI} : frM m I I := fun _ _ _ _ _ _ => rfl
theorem frM.tr {m : Nat} {I J J2 : HI} (h : frM m I J) (h2 : frM m J J2) : frM m I J2 := fun a k q1 q2 q3 q4 => (h2 a k q1 q2 q3 q4).trans (h a k q1 q2 q3 q4)
theorem offK.fr {m : Nat} {I J : HI} (h : offK m I J) : frM m I J := fun a k q1 _ _ _ => h a k q1
theorem MTx.same {m t c : Nat} {I J : HI} {P : Nat → List Int32} (h : MTx m I t P c) (e : ∀ a k, m + 7 ≤ a → a ≤ m + 9 → J a k = I a k) : MTx m J t P c := by
  intro q hq
  obtain ⟨B, h1, h2, h3, h4, h5⟩ := h q hq
  exact ⟨B, (e _ _ (by omega) (by omega)).trans h1, (e _ _ (by omega) (by omega)).trans h2, h3, fun j x hx => ⟨(e _ _ (by omega) (by omega)).trans (h4 j x hx).1, (h4 j x hx).2⟩, h5⟩
theorem MW.fr {Sh : HS} {I J : HI} {R : HR} {m n t : Nat} {P : Nat → List Int32} (h : MW Sh I R m n t P) (e : frM m I J) : MW Sh J R m n t P :=
  ⟨h.1, h.2.1, (e _ _ (by omega) (by omega) (by omega) (by omega)).trans h.2.2.1, h.2.2.2.1, (e _ _ (by omega) (by omega) (by omega) (by omega)).trans h.2.2.2.2.1, h.2.2.2.2.2.1, h.2.2.2.2.2.2.elim fun c q => ⟨c, q.1, q.2.same (fun a k q1 q2 => e a k (by omega) (by omega) (by omega) (by omega))⟩⟩
theorem MS.off {I J : HI} {m n : Nat} {v : SV} (h : MS I m n v) (e : offK m I J) : MS J m n v :=
  ⟨fun i hi k hk => (e _ _ (by omega)).trans (h.1 i hi k hk), (e _ _ (by omega)).trans h.2.1, (e _ _ (by omega)).trans h.2.2⟩
theorem shelF_ext {F F' : Nat → Nat → Int32} {p p' : Int32} {n : Nat} (h : ∀ i, i < n → ∀ k, k < 5 → F i k = F' i k) (hp : p = p') : shelF F p n = shelF F' p' n := by
  rw [hp]
  exact shelF_congr h
noncomputable def cxM (I : HI) (m f n : Nat) : Int32 → Int32 := cxF (I m 1) (I m 0) (I (m + 1 + 2) f) (I (m + 1 + 1) f) (I (m + 1 + 4) f) (shelF (fun o k => I (m + 1 + k) o) (I (m + 1 + 2) f) n)
theorem cxM_cF {I : HI} {m n f : Nat} {v : SV} (h : MS I m n v) (hf : f < n) : cxM I m f n = cF n v f := by
  unfold cxM cF
  rw [h.2.1, h.2.2, h.1 f hf 2 (by omega), h.1 f hf 1 (by omega), h.1 f hf 4 (by omega)]
  rw [shelF_congr (F := fun o k => I (m + 1 + k) o) (F' := v.1) (fun o ho k hk => h.1 o ho k hk)]
theorem cxM_off {I J : HI} {m n f : Nat} (h : offK m I J) : cxM J m f n = cxM I m f n := by
  unfold cxM
  rw [h _ _ (by omega), h _ _ (by omega), h _ _ (by omega), h _ _ (by omega), h _ _ (by omega)]
  rw [shelF_congr (F := fun o k => J (m + 1 + k) o) (F' := fun o k => I (m + 1 + k) o) (fun o ho k hk => h _ _ (by omega))]
/-! a code's number, told apart -/
theorem mc_cases {x : Int32} (h : cdP x) : (0 ≤ x ∧ 15 ≤ mcF x ∧ mcF x - 15 = x) ∨ (x = -1 ∧ mcF x = 0) ∨ (x = -2 ∧ mcF x = 1) ∨ (x = -3 ∧ mcF x = 2) ∨ (x = -4 ∧ mcF x = 3) ∨ (x = -5 ∧ mcF x = 4) ∨ (x = -6 ∧ mcF x = 5) ∨ (x = -7 ∧ mcF x = 13) ∨ (x = -8 ∧ mcF x = 14) ∨ (x < -8 ∧ ¬ 15 ≤ mcF x ∧ 5 < mcF x ∧ ¬ mcF x = 13 ∧ ¬ mcF x = 14) := by
  by_cases h0 : 0 ≤ x
  · refine Or.inl ⟨h0, ?_, ?_⟩
    · unfold mcF
      rw [if_pos h0]
      obtain ⟨a, ha, rfl⟩ := nI_of2 (M := 9999) (n := 9999) (by decide) (Int32.not_lt.mpr h0) (by
        have := h.2
        rw [Int32.lt_iff_toInt_lt] at this
        rw [Int32.le_iff_toInt_le]
        have e1 : (10000 : Int32).toInt = 10000 := by decide
        have e2 : (9999 : Int32).toInt = 9999 := by decide
        omega)
      rw [show nI a + 15 = nI (a + 15) from nI_add a 15]
      exact (nI_leI (a := 15) (by omega) (by omega)).mpr (by omega)
    · unfold mcF
      rw [if_pos h0]
      exact Int32.add_sub_cancel x 15
  · have hx : x = -1 ∨ x = -2 ∨ x = -3 ∨ x = -4 ∨ x = -5 ∨ x = -6 ∨ x = -7 ∨ x = -8 ∨ x = -9 ∨ x = -10 ∨ x = -11 ∨ x = -12 ∨ x = -13 ∨ x = -14 ∨ x = -15 := by
      have h1 := h.1
      rw [Int32.le_iff_toInt_le] at h1 h0
      have e15 : (-15 : Int32).toInt = -15 := by decide
      have e0 : (0 : Int32).toInt = 0 := by decide
      have hk : ∀ k : Int, -16 < k → k < 0 → x.toInt = k → x = Int32.ofInt k := fun k _ _ e => by rw [← e]; exact (Int32.ofInt_toInt x).symm
      have hc : x.toInt = -1 ∨ x.toInt = -2 ∨ x.toInt = -3 ∨ x.toInt = -4 ∨ x.toInt = -5 ∨ x.toInt = -6 ∨ x.toInt = -7 ∨ x.toInt = -8 ∨ x.toInt = -9 ∨ x.toInt = -10 ∨ x.toInt = -11 ∨ x.toInt = -12 ∨ x.toInt = -13 ∨ x.toInt = -14 ∨ x.toInt = -15 := by omega
      rcases hc with e | e | e | e | e | e | e | e | e | e | e | e | e | e | e <;> have e' := hk _ (by decide) (by decide) e <;> simp only [e'] <;> decide
    rcases hx with rfl | rfl | rfl | rfl | rfl | rfl | rfl | rfl | rfl | rfl | rfl | rfl | rfl | rfl | rfl <;> decide
theorem mc_num {x : Int32} (h : cdP x) (c : 15 ≤ mcF x) : ¬ x < 0 ∧ mcF x - 15 = x := by
  rcases mc_cases h with q | q | q | q | q | q | q | q | q | q
  · exact ⟨Int32.not_lt.mpr q.1, q.2.2⟩
  · rw [q.2] at c; exact absurd c (by decide)
  · rw [q.2] at c; exact absurd c (by decide)
  · rw [q.2] at c; exact absurd c (by decide)
  · rw [q.2] at c; exact absurd c (by decide)
  · rw [q.2] at c; exact absurd c (by decide)
  · rw [q.2] at c; exact absurd c (by decide)
  · rw [q.2] at c; exact absurd c (by decide)
  · rw [q.2] at c; exact absurd c (by decide)
  · exact absurd c q.2.1
theorem mc_name {x : Int32} (h : cdP x) (c : ¬ 15 ≤ mcF x) (c2 : ¬ 5 < mcF x) : x < 0 ∧ ¬ x < -6 ∧ (mcF x = 0 → x = -1) ∧ (mcF x = 1 → x = -2) ∧ (mcF x = 2 → x = -3) ∧ (mcF x = 3 → x = -4) ∧ (mcF x = 4 → x = -5) ∧ (¬ mcF x = 0 → ¬ mcF x = 1 → ¬ mcF x = 2 → ¬ mcF x = 3 → ¬ mcF x = 4 → x = -6) := by
  rcases mc_cases h with q | q | q | q | q | q | q | q | q | q
  · exact absurd q.2.1 c
  iterate 6
    obtain ⟨rfl, -⟩ := q
    refine ⟨by decide, by decide, by decide, by decide, by decide, by decide, by decide, by decide⟩
  · rw [q.2] at c2; exact absurd (by decide) c2
  · rw [q.2] at c2; exact absurd (by decide) c2
  · exact absurd q.2.2.1 c2
theorem mc_un {x : Int32} (h : cdP x) (c : mcF x = 13 ∨ mcF x = 14) : x < 0 ∧ x < -6 ∧ ¬ x < -8 ∧ (mcF x = 14 → x = -8) ∧ (¬ mcF x = 14 → ¬ x = -8) := by
  rcases mc_cases h with q | q | q | q | q | q | q | q | q | q
  · rcases c with c | c <;> rw [c] at q <;> exact absurd q.2.1 (by decide)
  iterate 6
    rw [q.2] at c
    exact absurd c (by decide)
  · obtain ⟨rfl, -⟩ := q; decide
  · obtain ⟨rfl, -⟩ := q; decide
  · rcases c with c | c
    · exact absurd c q.2.2.2.1
    · exact absurd c q.2.2.2.2
theorem mc_bin {x : Int32} (h : cdP x) (c : ¬ 15 ≤ mcF x) (c2 : 5 < mcF x) (c3 : ¬ mcF x = 13) (c4 : ¬ mcF x = 14) : x < 0 ∧ x < -6 ∧ x < -8 := by
  rcases mc_cases h with q | q | q | q | q | q | q | q | q | q
  · exact absurd q.2.1 c
  iterate 6
    rw [q.2] at c2
    exact absurd c2 (by decide)
  · exact absurd q.2 c3
  · exact absurd q.2 c4
  · exact ⟨Int32.lt_trans q.1 (by decide), Int32.lt_trans q.1 (by decide), q.1⟩
noncomputable def bthF (c a b : Int32) : Int32 := if c = 6 then a + b else if c = 7 then a - b else if c = 8 then a * b else if c = 9 then bI (a < b) else if c = 10 then bI (a = b) else if c = 11 then bI (¬ a = 0 ∧ ¬ b = 0) else bI (¬ a = 0 ∨ ¬ b = 0)
theorem bth_jn {x a b : Int32} (h : cdP x) (h8 : x < -8) : bthF (mcF x) a b = jnF x a b := by
  have hx : x = -9 ∨ x = -10 ∨ x = -11 ∨ x = -12 ∨ x = -13 ∨ x = -14 ∨ x = -15 := by
    have h1 := h.1
    rw [Int32.le_iff_toInt_le] at h1
    rw [Int32.lt_iff_toInt_lt] at h8
    have e15 : (-15 : Int32).toInt = -15 := by decide
    have e8 : (-8 : Int32).toInt = -8 := by decide
    have hk : ∀ k : Int, -16 < k → k < 0 → x.toInt = k → x = Int32.ofInt k := fun k _ _ e => by rw [← e]; exact (Int32.ofInt_toInt x).symm
    have hc : x.toInt = -9 ∨ x.toInt = -10 ∨ x.toInt = -11 ∨ x.toInt = -12 ∨ x.toInt = -13 ∨ x.toInt = -14 ∨ x.toInt = -15 := by omega
    rcases hc with e | e | e | e | e | e | e <;> have e' := hk _ (by decide) (by decide) e <;> simp only [e'] <;> decide
  rcases hx with rfl | rfl | rfl | rfl | rfl | rfl | rfl <;> rfl
theorem mx_mn {x b : Int32} (hb : 0 ≤ b) : mxI 0 (mnI b x) = mnI b (mxI 0 x) := by
  have a1 := mx_t (a := 0) (b := mnI b x)
  have a2 := mn_t (a := b) (b := x)
  have a3 := mn_t (a := b) (b := mxI 0 x)
  have a4 := mx_t (a := 0) (b := x)
  have e0 : (0 : Int32).toInt = 0 := by decide
  rw [Int32.le_iff_toInt_le] at hb
  apply Int32.toInt_inj.mp
  omega

