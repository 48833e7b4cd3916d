def exR (tk : Nat → Int32) (nx : Nat → Nat) (ts k n : Nat) : Prop := ∀ p, p ≤ ts → ts - p ≤ n → ∀ o, o ≤ 5 → ∃ r, Prs tk nx k p o r
section
variable {tk : Nat → Int32} {nx : Nat → Nat} {ts : Nat}
theorem tot_un {s k n : Nat} {sg cd : Int32} (hn : ∀ p, p ≤ ts → p ≤ nx p ∧ nx p ≤ ts) (hl : ∀ p, p ≤ ts → ¬ endT (tk p) → p < nx p) (he : ¬ endT sg) (hu : unR tk nx (Prs tk nx) s k sg cd) (hs : exR tk nx ts s n) : exR tk nx ts k n := by
  intro p hp hpn o ho
  have hj : ∀ m, m ≤ 5 - o → (∀ i, i < m → tk (itN nx i p) = sg) ∨ ∃ j, j < m ∧ (∀ i, i < j → tk (itN nx i p) = sg) ∧ ¬ tk (itN nx j p) = sg := by
    intro m
    induction m with
    | zero => exact fun _ => Or.inl (fun i hi => absurd hi (by omega))
    | succ m ih =>
      intro hm
      rcases ih (by omega) with h | ⟨j, h1, h2, h3⟩
      · by_cases e : tk (itN nx m p) = sg
        · refine Or.inl (fun i hi => ?_)
          by_cases q : i = m
          · rw [q]; exact e
          · exact h i (by omega)
        · exact Or.inr ⟨m, by omega, h, e⟩
      · exact Or.inr ⟨j, by omega, h2, h3⟩
  have fin : ∀ j, j ≤ 5 - o → (∀ i, i < j → tk (itN nx i p) = sg) → ¬ tk (itN nx j p) = sg → ∃ r, Prs tk nx k p o r := by
    intro j h1 h2 h3
    have := itN_le hn hl he hp j h2
    obtain ⟨r, hr⟩ := hs (itN nx j p) this.2 (by omega) (o + j) (by omega)
    exact ⟨_, hu.1 p o j r h2 (by omega) h3 hr⟩
  rcases hj (5 - o) (Nat.le_refl _) with h | ⟨j, h1, h2, h3⟩
  · by_cases e : tk (itN nx (5 - o) p) = sg
    · refine ⟨_, hu.2 p o (5 - o) (fun i hi => ?_) (by omega)⟩
      by_cases q : i = 5 - o
      · rw [q]; exact e
      · exact h i (by omega)
    · exact fin (5 - o) (Nat.le_refl _) h e
  · exact fin j (by omega) h2 h3
theorem tot_l {s k l n : Nat} {sg : Int32 → Prop} {cd : Int32 → Int32} (hn : ∀ p, p ≤ ts → p ≤ nx p ∧ nx p ≤ ts) (hl : ∀ p, p ≤ ts → ¬ endT (tk p) → p < nx p) (hm : ∀ k p o r, Prs tk nx k p o r → MPp ts k p o r) (he : ∀ x, sg x → ¬ endT x) (hu : chR tk nx (Prs tk nx) s k l sg cd) (hs : exR tk nx ts s n) (hi : ∀ p, p ≤ ts → ts - p < n → ∀ o, o ≤ 5 → ∃ r, Prs tk nx l p o r) : exR tk nx ts l n := by
  intro p hp hpn o ho
  by_cases e : sg (tk p)
  · have h1 := hn p hp
    have h2 := hl p hp (he _ e)
    obtain ⟨⟨b, p2, Q2⟩, hr⟩ := hs (nx p) h1.2 (by omega) o ho
    cases b with
    | false => exact ⟨_, hu.2.2.2.2 p o p2 Q2 e hr⟩
    | true =>
      obtain ⟨m1, m2, -⟩ := hm _ _ _ _ hr h1.2
      have m1 : nx p ≤ p2 := m1
      have m2 : p2 ≤ ts := m2
      obtain ⟨r, h3⟩ := hi p2 m2 (by omega) o ho
      exact ⟨_, hu.2.2.2.1 p o p2 Q2 r e hr h3⟩
  · exact ⟨_, hu.2.2.1 p o e⟩
theorem tot_k {s k l n : Nat} {sg : Int32 → Prop} {cd : Int32 → Int32} (hm : ∀ k p o r, Prs tk nx k p o r → MPp ts k p o r) (hu : chR tk nx (Prs tk nx) s k l sg cd) (hs : exR tk nx ts s n) (hll : exR tk nx ts l n) : exR tk nx ts k n := by
  intro p hp hpn o ho
  obtain ⟨⟨b, p2, Q2⟩, hr⟩ := hs p hp hpn o ho
  cases b with
  | false => exact ⟨_, hu.2.1 p o p2 Q2 hr⟩
  | true =>
    obtain ⟨m1, m2, -⟩ := hm _ _ _ _ hr hp
    have m1 : p ≤ p2 := m1
    have m2 : p2 ≤ ts := m2
    obtain ⟨r, h3⟩ := hll p2 m2 (by omega) o ho
    exact ⟨_, hu.1 p o p2 Q2 r hr h3⟩
theorem prs_tot (hn : ∀ p, p ≤ ts → p ≤ nx p ∧ nx p ≤ ts) (hl : ∀ p, p ≤ ts → ¬ endT (tk p) → p < nx p) (hb : ∀ p, 1000 ≤ tk p → 0 ≤ tk p - 1000) : ∀ n, exR tk nx ts 5 n ∧ exR tk nx ts 11 n ∧ exR tk nx ts 12 n ∧ exR tk nx ts 14 n ∧ exR tk nx ts 15 n := by
  have hm : ∀ k p o r, Prs tk nx k p o r → MPp ts k p o r := fun k p o r h => h _ (mp_clo hn hl hb)
  intro n
  induction n using Nat.strongRecOn with
  | ind n ih =>
    have lt : ∀ l, (∀ m, m < n → exR tk nx ts l m) → ∀ p, p ≤ ts → ts - p < n → ∀ o, o ≤ 5 → ∃ r, Prs tk nx l p o r := fun l h p hp hpn o ho => h (ts - p) hpn p hp (Nat.le_refl _) o ho
    have C := Prs_clo (tk := tk) (nx := nx)
    have e6 : exR tk nx ts 6 n := by
      intro p hp hpn o ho
      by_cases h1 : 1000 ≤ tk p
      · exact ⟨_, C.1.1 p o h1⟩
      by_cases h2 : tk p ≤ -1 ∧ -6 ≤ tk p
      · exact ⟨_, C.1.2.1 p o h2.1 h2.2⟩
      by_cases h3 : tk p = 40 ∧ o < 5
      · have q1 := hn p hp
        have q2 := hl p hp (by rw [h3.1]; unfold endT; decide)
        obtain ⟨⟨b, p2, Q2⟩, hr⟩ := lt 5 (fun m hm9 => (ih m hm9).1) (nx p) q1.2 (by omega) (o + 1) (by omega)
        cases b with
        | false => exact ⟨_, C.1.2.2.2.2.1 p o p2 Q2 h3.1 h3.2 hr⟩
        | true =>
          by_cases h4 : tk p2 = 41
          · exact ⟨_, C.1.2.2.1 p o p2 Q2 h3.1 h3.2 hr h4⟩
          · exact ⟨_, C.1.2.2.2.1 p o p2 Q2 h3.1 h3.2 hr h4⟩
      · exact ⟨_, C.1.2.2.2.2.2 p o h1 h2 h3⟩
    have e0 : exR tk nx ts 0 n := tot_un hn hl (by unfold endT; decide) C.2.1 e6
    have e11 : exR tk nx ts 11 n := tot_l hn hl hm (fun x z => by rw [z]; unfold endT; decide) C.2.2.1 e0 (lt 11 (fun m hm9 => (ih m hm9).2.1))
    have e1 : exR tk nx ts 1 n := tot_k hm C.2.2.1 e0 e11
    have e12 : exR tk nx ts 12 n := tot_l hn hl hm (fun x z => by rcases z with z | z <;> rw [z] <;> unfold endT <;> decide) C.2.2.2.1 e1 (lt 12 (fun m hm9 => (ih m hm9).2.2.1))
    have e2 : exR tk nx ts 2 n := tot_k hm C.2.2.2.1 e1 e12
    have e7 : exR tk nx ts 7 n := by
      intro p hp hpn o ho
      obtain ⟨⟨b, p1, Q1⟩, hr⟩ := e2 p hp hpn o ho
      cases b with
      | false => exact ⟨_, C.2.2.2.2.1.2.2.2 p o p1 Q1 hr⟩
      | true =>
        obtain ⟨m1, m2, -⟩ := hm _ _ _ _ hr hp
        have m1 : p ≤ p1 := m1
        have m2 : p1 ≤ ts := m2
        by_cases h : tk p1 = 60 ∨ tk p1 = 61
        · have q1 := hn p1 m2
          obtain ⟨⟨b2, p2, Q2⟩, hr2⟩ := e2 (nx p1) q1.2 (by omega) o ho
          cases b2 with
          | false => exact ⟨_, C.2.2.2.2.1.2.2.1 p o p1 Q1 p2 Q2 hr h hr2⟩
          | true => exact ⟨_, C.2.2.2.2.1.2.1 p o p1 Q1 p2 Q2 hr h hr2⟩
        · exact ⟨_, C.2.2.2.2.1.1 p o p1 Q1 hr h⟩
    have e3 : exR tk nx ts 3 n := tot_un hn hl (by unfold endT; decide) C.2.2.2.2.2.1 e7
    have e14 : exR tk nx ts 14 n := tot_l hn hl hm (fun x z => by rw [z]; unfold endT; decide) C.2.2.2.2.2.2.1 e3 (lt 14 (fun m hm9 => (ih m hm9).2.2.2.1))
    have e4 : exR tk nx ts 4 n := tot_k hm C.2.2.2.2.2.2.1 e3 e14
    have e15 : exR tk nx ts 15 n := tot_l hn hl hm (fun x z => by rw [z]; unfold endT; decide) C.2.2.2.2.2.2.2 e4 (lt 15 (fun m hm9 => (ih m hm9).2.2.2.2))
    exact ⟨tot_k hm C.2.2.2.2.2.2.2 e4 e15, e11, e12, e14, e15⟩
end
/-! what a number's token is -/
theorem nu_le {tb : Nat → Int32} {ts f : Nat} : ∀ m, m ≤ 4 → (∀ j, j < m → srF (byF tb ts (f + j)) = 1) → ∃ v, v < 10 ^ m ∧ nuF tb ts f m = nI v
  | 0, _, _ => ⟨0, by decide, rfl⟩
  | m + 1, hm, h => by
    obtain ⟨v, hv, e⟩ := nu_le m (by omega) (fun j hj => h j (by omega))
    have h1 := h m (by omega)
    have hb : 48 ≤ byF tb ts (f + m) ∧ byF tb ts (f + m) ≤ 57 := by
      unfold srF at h1
      split at h1
      · assumption
      · split at h1
        · exact absurd h1 (by decide)
        · split at h1
          · exact absurd h1 (by decide)
          · split at h1
            · exact absurd h1 (by decide)
            · exact absurd h1 (by decide)
    obtain ⟨c, hc, ec⟩ := nI_of2 (M := 57) (n := 57) (by decide) (fun z => absurd (Int32.le_trans hb.1 (Int32.le_of_lt z)) (by decide)) hb.2
    have hc48 : 48 ≤ c := by
      rw [ec] at hb
      exact (nI_leI (a := 48) (by omega) (by omega)).mp hb.1
    refine ⟨v * 10 + (c - 48), by rw [Nat.pow_succ]; omega, ?_⟩
    show nuF tb ts f m * 10 + byF tb ts (f + m) - 48 = _
    have hv4 : v < 10000 := Nat.lt_of_lt_of_le hv (Nat.pow_le_pow_right (by decide) (by omega) : 10 ^ m ≤ 10 ^ 4)
    rw [e, ec, show nI v * 10 = nI (v * 10) from pk_mul v 10, nI_add, show (48 : Int32) = nI 48 from rfl, pk_sub (by omega)]
    congr 1
    omega
