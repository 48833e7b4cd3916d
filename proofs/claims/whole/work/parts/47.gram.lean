/-! THE GRAMMAR as rules, closed under which a relation holds of what is read: kind (0 one, 1 term, 2 sum, 3 no, 4 all, 5 any, 6 atom, 7 comparison; 11, 12, 14, 15 the rest of a row), from where, how many open, what comes of it (whether it stands, where, which codes) -/
abbrev RES : Type := Bool × Nat × List Int32
abbrev REL : Type := Nat → Nat → Nat → RES → Prop
def itN (nx : Nat → Nat) : Nat → Nat → Nat
  | 0, p => p
  | j + 1, p => nx (itN nx j p)
def preR (Q : List Int32) (r : RES) : RES := (r.1, r.2.1, Q ++ r.2.2)
def cloR (r : RES) (k : Nat) (c : Int32) : RES := (r.1, r.2.1, r.2.2 ++ List.replicate k c)
/-- a row of parts of kind s with signs between -/
def chR (tk : Nat → Int32) (nx : Nat → Nat) (M : REL) (s k l : Nat) (sg : Int32 → Prop) (cd : Int32 → Int32) : Prop :=
  (∀ p o p1 Q1 r, M s p o (true, p1, Q1) → M l p1 o r → M k p o (preR Q1 r)) ∧
  (∀ p o p1 Q1, M s p o (false, p1, Q1) → M k p o (false, p1, Q1)) ∧
  (∀ p o, ¬ sg (tk p) → M l p o (true, p, [])) ∧
  (∀ p o p2 Q2 r, sg (tk p) → M s (nx p) o (true, p2, Q2) → M l p2 o r → M l p o (preR (Q2 ++ [cd (tk p)]) r)) ∧
  (∀ p o p2 Q2, sg (tk p) → M s (nx p) o (false, p2, Q2) → M l p o (false, p2, Q2))
/-- signs ahead of a part of kind s -/
def unR (tk : Nat → Int32) (nx : Nat → Nat) (M : REL) (s k : Nat) (sg cd : Int32) : Prop :=
  (∀ p o j r, (∀ i, i < j → tk (itN nx i p) = sg) → o + j ≤ 5 → ¬ tk (itN nx j p) = sg → M s (itN nx j p) (o + j) r → M k p o (cloR r j cd)) ∧
  (∀ p o j, (∀ i, i ≤ j → tk (itN nx i p) = sg) → o + j = 5 → M k p o (false, itN nx j p, []))
def atR (tk : Nat → Int32) (nx : Nat → Nat) (M : REL) : Prop :=
  (∀ p o, 1000 ≤ tk p → M 6 p o (true, nx p, [tk p - 1000])) ∧
  (∀ p o, tk p ≤ -1 → -6 ≤ tk p → M 6 p o (true, nx p, [tk p])) ∧
  (∀ p o p1 Q, tk p = 40 → o < 5 → M 5 (nx p) (o + 1) (true, p1, Q) → tk p1 = 41 → M 6 p o (true, nx p1, Q)) ∧
  (∀ p o p1 Q, tk p = 40 → o < 5 → M 5 (nx p) (o + 1) (true, p1, Q) → ¬ tk p1 = 41 → M 6 p o (false, p1, Q)) ∧
  (∀ p o p1 Q, tk p = 40 → o < 5 → M 5 (nx p) (o + 1) (false, p1, Q) → M 6 p o (false, p1, Q)) ∧
  (∀ p o, ¬ 1000 ≤ tk p → ¬ (tk p ≤ -1 ∧ -6 ≤ tk p) → ¬ (tk p = 40 ∧ o < 5) → M 6 p o (false, p, []))
def cmR (tk : Nat → Int32) (nx : Nat → Nat) (M : REL) : Prop :=
  (∀ p o p1 Q1, M 2 p o (true, p1, Q1) → ¬ (tk p1 = 60 ∨ tk p1 = 61) → M 7 p o (true, p1, Q1)) ∧
  (∀ p o p1 Q1 p2 Q2, M 2 p o (true, p1, Q1) → (tk p1 = 60 ∨ tk p1 = 61) → M 2 (nx p1) o (true, p2, Q2) → M 7 p o (true, p2, Q1 ++ (Q2 ++ [if tk p1 = 60 then -11 else -12]))) ∧
  (∀ p o p1 Q1 p2 Q2, M 2 p o (true, p1, Q1) → (tk p1 = 60 ∨ tk p1 = 61) → M 2 (nx p1) o (false, p2, Q2) → M 7 p o (false, p2, Q2)) ∧
  (∀ p o p1 Q1, M 2 p o (false, p1, Q1) → M 7 p o (false, p1, Q1))
def sgT (x : Int32) : Prop := x = 42
def sgS (x : Int32) : Prop := x = 43 ∨ x = 45
def sgA (x : Int32) : Prop := x = -10
def sgO (x : Int32) : Prop := x = -9
def cdS (x : Int32) : Int32 := if x = 43 then -13 else -14
def Clo (tk : Nat → Int32) (nx : Nat → Nat) (M : REL) : Prop :=
  atR tk nx M ∧ unR tk nx M 6 0 45 (-8) ∧ chR tk nx M 0 1 11 sgT (fun _ => -15) ∧ chR tk nx M 1 2 12 sgS cdS ∧ cmR tk nx M ∧ unR tk nx M 7 3 (-7) (-7) ∧ chR tk nx M 3 4 14 sgA (fun _ => -10) ∧ chR tk nx M 4 5 15 sgO (fun _ => -9)
def Prs (tk : Nat → Int32) (nx : Nat → Nat) : REL := fun k p o r => ∀ M : REL, Clo tk nx M → M k p o r
theorem chR_prs {tk : Nat → Int32} {nx : Nat → Nat} {s k l : Nat} {sg : Int32 → Prop} {cd : Int32 → Int32} (h : ∀ M : REL, Clo tk nx M → chR tk nx M s k l sg cd) : chR tk nx (Prs tk nx) s k l sg cd :=
  ⟨fun p o p1 Q1 r a b M c => (h M c).1 p o p1 Q1 r (a M c) (b M c), fun p o p1 Q1 a M c => (h M c).2.1 p o p1 Q1 (a M c), fun p o a M c => (h M c).2.2.1 p o a, fun p o p2 Q2 r a b d M c => (h M c).2.2.2.1 p o p2 Q2 r a (b M c) (d M c), fun p o p2 Q2 a b M c => (h M c).2.2.2.2 p o p2 Q2 a (b M c)⟩
theorem unR_prs {tk : Nat → Int32} {nx : Nat → Nat} {s k : Nat} {sg cd : Int32} (h : ∀ M : REL, Clo tk nx M → unR tk nx M s k sg cd) : unR tk nx (Prs tk nx) s k sg cd :=
  ⟨fun p o j r a b d e M c => (h M c).1 p o j r a b d (e M c), fun p o j a b M c => (h M c).2 p o j a b⟩
theorem Prs_clo {tk : Nat → Int32} {nx : Nat → Nat} : Clo tk nx (Prs tk nx) := by
  refine ⟨⟨fun p o a M c => c.1.1 p o a, fun p o a b M c => c.1.2.1 p o a b, fun p o p1 Q a b d e M c => c.1.2.2.1 p o p1 Q a b (d M c) e, fun p o p1 Q a b d e M c => c.1.2.2.2.1 p o p1 Q a b (d M c) e, fun p o p1 Q a b d M c => c.1.2.2.2.2.1 p o p1 Q a b (d M c), fun p o a b d M c => c.1.2.2.2.2.2 p o a b d⟩, ?_, ?_, ?_, ⟨fun p o p1 Q1 a b M c => c.2.2.2.2.1.1 p o p1 Q1 (a M c) b, fun p o p1 Q1 p2 Q2 a b d M c => c.2.2.2.2.1.2.1 p o p1 Q1 p2 Q2 (a M c) b (d M c), fun p o p1 Q1 p2 Q2 a b d M c => c.2.2.2.2.1.2.2.1 p o p1 Q1 p2 Q2 (a M c) b (d M c), fun p o p1 Q1 a M c => c.2.2.2.2.1.2.2.2 p o p1 Q1 (a M c)⟩, ?_, ?_, ?_⟩
  · exact unR_prs (fun M c => c.2.1)
  · exact chR_prs (fun M c => c.2.2.1)
  · exact chR_prs (fun M c => c.2.2.2.1)
  · exact unR_prs (fun M c => c.2.2.2.2.2.1)
  · exact chR_prs (fun M c => c.2.2.2.2.2.2.1)
  · exact chR_prs (fun M c => c.2.2.2.2.2.2.2)
/-! what the codes of a part do, wherever it stands -/
def okX (m : Nat) (Q : List Int32) : Prop := ∀ d, d + m ≤ 40 → ∀ xs, okF xs (d + 1) → okF (Q ++ xs) d
def okL (m : Nat) (Q : List Int32) : Prop := ∀ d, d + m ≤ 40 → ∀ xs, okF xs (d + 1) → okF (Q ++ xs) (d + 1)
def wtM (k o : Nat) : Nat := 1 + 5 * (5 - o) + (if k = 0 ∨ k = 6 then 0 else if k = 1 ∨ k = 11 then 1 else if k = 2 ∨ k = 12 then 2 else if k = 3 ∨ k = 7 then 3 else if k = 4 ∨ k = 14 then 4 else 5)
/-- where a part ends, how many codes it has, that its operands never want -/
def MPp (ts : Nat) : REL := fun k p o r => p ≤ ts → p ≤ r.2.1 ∧ r.2.1 ≤ ts ∧ (r.1 = true → r.2.2.length ≤ r.2.1 - p ∧ (k < 10 → okX (wtM k o) r.2.2) ∧ (10 ≤ k → okL (wtM k o) r.2.2))
theorem ok_push {x : Int32} {xs : List Int32} {d : Nat} (h : -6 ≤ x) (hd : d < 40) (q : okF xs (d + 1)) : okF (x :: xs) d := by
  unfold okF
  rw [if_pos h]
  exact ⟨hd, q⟩
theorem ok_one {x : Int32} {xs : List Int32} {d : Nat} (h : ¬ -6 ≤ x) (h2 : -8 ≤ x) (q : okF xs (d + 1)) : okF (x :: xs) (d + 1) := by
  unfold okF
  rw [if_neg h, if_pos h2]
  exact ⟨by omega, q⟩
theorem ok_two {x : Int32} {xs : List Int32} {d : Nat} (h : ¬ -6 ≤ x) (h2 : ¬ -8 ≤ x) (q : okF xs (d + 1)) : okF (x :: xs) (d + 2) := by
  unfold okF
  rw [if_neg h, if_neg h2]
  exact ⟨by omega, q⟩
theorem okX_one {x : Int32} {m : Nat} (h : -6 ≤ x) (hm : 1 ≤ m) : okX m [x] := fun d hd xs q => ok_push h (by omega) q
theorem okX_mono {m m' : Nat} {Q : List Int32} (h : okX m Q) (hm : m ≤ m') : okX m' Q := fun d hd xs q => h d (by omega) xs q
theorem ok_rep {x : Int32} (h : ¬ -6 ≤ x) (h2 : -8 ≤ x) {xs : List Int32} {d : Nat} (q : okF xs (d + 1)) : ∀ k, okF (List.replicate k x ++ xs) (d + 1)
  | 0 => q
  | k + 1 => by
    rw [List.replicate_succ]
    exact ok_one h h2 (ok_rep h h2 q k)
theorem itN_le {tk : Nat → Int32} {nx : Nat → Nat} {ts : Nat} (hn : ∀ p, p ≤ ts → p ≤ nx p ∧ nx p ≤ ts) (hl : ∀ p, p ≤ ts → ¬ endT (tk p) → p < nx p) {sg : Int32} (hs : ¬ endT sg) {p : Nat} (hp : p ≤ ts) : ∀ j, (∀ i, i < j → tk (itN nx i p) = sg) → p + j ≤ itN nx j p ∧ itN nx j p ≤ ts
  | 0, _ => ⟨Nat.le_refl _, hp⟩
  | j + 1, h => by
    have ih := itN_le hn hl hs hp j (fun i hi => h i (by omega))
    have h1 := hn _ ih.2
    have h2 := hl _ ih.2 (by rw [h j (by omega)]; exact hs)
    show p + (j + 1) ≤ nx (itN nx j p) ∧ nx (itN nx j p) ≤ ts
    omega
theorem mp_ch {tk : Nat → Int32} {nx : Nat → Nat} {ts s k l : Nat} {sg : Int32 → Prop} {cd : Int32 → Int32} (hn : ∀ p, p ≤ ts → p ≤ nx p ∧ nx p ≤ ts) (hl : ∀ p, p ≤ ts → ¬ endT (tk p) → p < nx p) (he : ∀ x, sg x → ¬ endT x) (hs : s < 10) (hk : k < 10) (hll : 10 ≤ l) (hw : ∀ o, wtM k o = wtM s o + 1 ∧ wtM l o = wtM k o) (hc : ∀ x, sg x → ¬ -6 ≤ cd x ∧ ¬ -8 ≤ cd x) : chR tk nx (MPp ts) s k l sg cd := by
  refine ⟨?_, ?_, ?_, ?_, ?_⟩
  · intro p o p1 Q1 r a b hp
    obtain ⟨a1, a2, a3⟩ := a hp
    obtain ⟨b1, b2, b3⟩ := b a2
    refine ⟨Nat.le_trans a1 b1, b2, fun ok => ?_⟩
    obtain ⟨a4, a5, -⟩ := a3 rfl
    obtain ⟨b4, -, b5⟩ := b3 ok
    have a4 : Q1.length ≤ p1 - p := a4
    have a1 : p ≤ p1 := a1
    have b1 : p1 ≤ r.2.1 := b1
    refine ⟨?_, fun _ => ?_, fun z => absurd hk (by omega)⟩
    · show (Q1 ++ r.2.2).length ≤ r.2.1 - p
      rw [List.length_append]
      omega
    · intro d hd xs q
      show okF ((Q1 ++ r.2.2) ++ xs) d
      rw [List.append_assoc]
      have := (hw o).1
      have h2 := (hw o).2
      exact a5 hs d (by omega) _ (b5 hll d (by omega) xs q)
  · intro p o p1 Q1 a hp
    obtain ⟨a1, a2, a3⟩ := a hp
    exact ⟨a1, a2, fun z => by cases z⟩
  · intro p o a hp
    exact ⟨Nat.le_refl _, hp, fun _ => ⟨Nat.zero_le _, fun z => absurd hll (by omega), fun _ d hd xs q => q⟩⟩
  · intro p o p2 Q2 r sgn a b hp
    have h1 := hn p hp
    have h2 := hl p hp (he _ sgn)
    obtain ⟨a1, a2, a3⟩ := a h1.2
    obtain ⟨b1, b2, b3⟩ := b a2
    have a1 : nx p ≤ p2 := a1
    have b1 : p2 ≤ r.2.1 := b1
    refine ⟨by show p ≤ r.2.1; omega, b2, fun ok => ?_⟩
    obtain ⟨a4, a5, -⟩ := a3 rfl
    obtain ⟨b4, -, b5⟩ := b3 ok
    have a4 : Q2.length ≤ p2 - nx p := a4
    refine ⟨?_, fun z => absurd hll (by omega), fun _ => ?_⟩
    · show ((Q2 ++ [cd (tk p)]) ++ r.2.2).length ≤ r.2.1 - p
      rw [List.length_append, List.length_append]
      simp only [List.length_cons, List.length_nil]
      omega
    · intro d hd xs q
      show okF (((Q2 ++ [cd (tk p)]) ++ r.2.2) ++ xs) (d + 1)
      rw [List.append_assoc, List.append_assoc]
      have w1 := (hw o).1
      have w2 := (hw o).2
      exact a5 hs (d + 1) (by omega) _ (ok_two (hc _ sgn).1 (hc _ sgn).2 (b5 hll d hd xs q))
  · intro p o p2 Q2 sgn a hp
    have h1 := hn p hp
    obtain ⟨a1, a2, a3⟩ := a h1.2
    have a1 : nx p ≤ p2 := a1
    exact ⟨by show p ≤ p2; omega, a2, fun z => by cases z⟩
theorem mp_un {tk : Nat → Int32} {nx : Nat → Nat} {ts s k : Nat} {sg cd : Int32} (hn : ∀ p, p ≤ ts → p ≤ nx p ∧ nx p ≤ ts) (hl : ∀ p, p ≤ ts → ¬ endT (tk p) → p < nx p) (he : ¬ endT sg) (hs : s < 10) (hk : k < 10) (hw : ∀ o j, wtM s (o + j) ≤ wtM k o) (hc : ¬ -6 ≤ cd ∧ -8 ≤ cd) : unR tk nx (MPp ts) s k sg cd := by
  refine ⟨?_, ?_⟩
  · intro p o j r h1 h2 h3 a hp
    have hj := itN_le hn hl he hp j h1
    obtain ⟨a1, a2, a3⟩ := a hj.2
    refine ⟨by show p ≤ r.2.1; omega, a2, fun ok => ?_⟩
    obtain ⟨a4, a5, -⟩ := a3 ok
    refine ⟨?_, fun _ => ?_, fun z => absurd hk (by omega)⟩
    · show (r.2.2 ++ List.replicate j cd).length ≤ r.2.1 - p
      rw [List.length_append, List.length_replicate]
      omega
    · intro d hd xs q
      show okF ((r.2.2 ++ List.replicate j cd) ++ xs) d
      rw [List.append_assoc]
      have := hw o j
      exact a5 hs d (by omega) _ (ok_rep hc.1 hc.2 q j)
  · intro p o j h1 h2 hp
    have hj := itN_le hn hl he hp j (fun i hi => h1 i (by omega))
    exact ⟨by show p ≤ itN nx j p; omega, hj.2, fun z => by cases z⟩
theorem mp_clo {tk : Nat → Int32} {nx : Nat → Nat} {ts : Nat} (hn : ∀ p, p ≤ ts → p ≤ nx p ∧ nx p ≤ ts) (hl : ∀ p, p ≤ ts → ¬ endT (tk p) → p < nx p) (hb : ∀ p, 1000 ≤ tk p → 0 ≤ tk p - 1000) : Clo tk nx (MPp ts) := by
  have e40 : ∀ x : Int32, x = 40 → ¬ endT x := fun x e z => by rw [e] at z; exact absurd z (by unfold endT; decide)
  refine ⟨⟨?_, ?_, ?_, ?_, ?_, ?_⟩, ?_, ?_, ?_, ⟨?_, ?_, ?_, ?_⟩, ?_, ?_, ?_⟩
  · intro p o h hp
    have h1 := hn p hp
    have h2 := hl p hp (fun z => by
      rcases z with z | z <;> rw [z] at h <;> exact absurd h (by decide))
    refine ⟨h1.1, h1.2, fun _ => ⟨by show 1 ≤ nx p - p; omega, fun _ => okX_one (Int32.le_trans (by decide) (hb p h)) (by unfold wtM; omega), fun z => absurd z (by decide)⟩⟩
  · intro p o h h0 hp
    have h1 := hn p hp
    have h2 := hl p hp (fun z => by
      rcases z with z | z <;> rw [z] at h <;> exact absurd h (by decide))
    refine ⟨h1.1, h1.2, fun _ => ⟨by show 1 ≤ nx p - p; omega, fun _ => okX_one h0 (by unfold wtM; omega), fun z => absurd z (by decide)⟩⟩
  · intro p o p1 Q h ho a h41 hp
    have h1 := hn p hp
    have h2 := hl p hp (e40 _ h)
    obtain ⟨a1, a2, a3⟩ := a h1.2
    have a1 : nx p ≤ p1 := a1
    have h3 := hn p1 a2
    obtain ⟨a4, a5, -⟩ := a3 rfl
    have a4 : Q.length ≤ p1 - nx p := a4
    refine ⟨by show p ≤ nx p1; omega, h3.2, fun _ => ⟨by show Q.length ≤ nx p1 - p; omega, fun _ => okX_mono (a5 (by decide)) ?_, fun z => absurd z (by decide)⟩⟩
    unfold wtM
    simp only [show ¬ ((5 : Nat) = 0 ∨ (5 : Nat) = 6) by decide, show ¬ ((5 : Nat) = 1 ∨ (5 : Nat) = 11) by decide, show ¬ ((5 : Nat) = 2 ∨ (5 : Nat) = 12) by decide, show ¬ ((5 : Nat) = 3 ∨ (5 : Nat) = 7) by decide, show ¬ ((5 : Nat) = 4 ∨ (5 : Nat) = 14) by decide, if_false, show ((6 : Nat) = 0 ∨ (6 : Nat) = 6) by decide, if_true]
    omega
  · intro p o p1 Q h ho a h41 hp
    have h1 := hn p hp
    obtain ⟨a1, a2, a3⟩ := a h1.2
    have a1 : nx p ≤ p1 := a1
    exact ⟨by show p ≤ p1; omega, a2, fun z => by cases z⟩
  · intro p o p1 Q h ho a hp
    have h1 := hn p hp
    obtain ⟨a1, a2, a3⟩ := a h1.2
    have a1 : nx p ≤ p1 := a1
    exact ⟨by show p ≤ p1; omega, a2, fun z => by cases z⟩
  · intro p o h h0 h4 hp
    exact ⟨Nat.le_refl _, hp, fun z => by cases z⟩
  · exact mp_un hn hl (by unfold endT; decide) (by decide) (by decide) (fun o j => by unfold wtM; simp; omega) (by decide)
  · exact mp_ch hn hl (fun x z => by rw [z]; unfold endT; decide) (by decide) (by decide) (by decide) (fun o => by unfold wtM; simp) (fun x _ => by decide)
  · exact mp_ch hn hl (fun x z => by rcases z with z | z <;> rw [z] <;> unfold endT <;> decide) (by decide) (by decide) (by decide) (fun o => by unfold wtM; simp) (fun x _ => by unfold cdS; split <;> decide)
  · intro p o p1 Q1 a h hp
    obtain ⟨a1, a2, a3⟩ := a hp
    refine ⟨a1, a2, fun _ => ⟨(a3 rfl).1, fun _ => okX_mono ((a3 rfl).2.1 (by decide)) (by unfold wtM; simp), fun z => absurd z (by decide)⟩⟩
  · intro p o p1 Q1 p2 Q2 a h b hp
    obtain ⟨a1, a2, a3⟩ := a hp
    have a1 : p ≤ p1 := a1
    have a2 : p1 ≤ ts := a2
    have h1 := hn p1 a2
    have h2 := hl p1 a2 (by rcases h with z | z <;> rw [z] <;> unfold endT <;> decide)
    obtain ⟨b1, b2, b3⟩ := b h1.2
    have b1 : nx p1 ≤ p2 := b1
    obtain ⟨a4, a5, -⟩ := a3 rfl
    obtain ⟨b4, b5, -⟩ := b3 rfl
    have a4 : Q1.length ≤ p1 - p := a4
    have b4 : Q2.length ≤ p2 - nx p1 := b4
    refine ⟨by show p ≤ p2; omega, b2, fun _ => ⟨?_, fun _ => ?_, fun z => absurd z (by decide)⟩⟩
    · show (Q1 ++ (Q2 ++ [if tk p1 = 60 then -11 else -12])).length ≤ p2 - p
      rw [List.length_append, List.length_append]
      simp only [List.length_cons, List.length_nil]
      omega
    · intro d hd xs q
      show okF ((Q1 ++ (Q2 ++ [if tk p1 = 60 then -11 else -12])) ++ xs) d
      rw [List.append_assoc, List.append_assoc]
      have e7 : wtM 7 o = wtM 2 o + 1 := by unfold wtM; simp
      refine a5 (by decide) d (by omega) _ (b5 (by decide) (d + 1) (by omega) _ ?_)
      split <;> exact ok_two (by decide) (by decide) q
  · intro p o p1 Q1 p2 Q2 a h b hp
    obtain ⟨a1, a2, a3⟩ := a hp
    have a1 : p ≤ p1 := a1
    have a2 : p1 ≤ ts := a2
    have h1 := hn p1 a2
    obtain ⟨b1, b2, b3⟩ := b h1.2
    have b1 : nx p1 ≤ p2 := b1
    exact ⟨by show p ≤ p2; omega, b2, fun z => by cases z⟩
  · intro p o p1 Q1 a hp
    obtain ⟨a1, a2, a3⟩ := a hp
    exact ⟨a1, a2, fun z => by cases z⟩
  · exact mp_un hn hl (by unfold endT; decide) (by decide) (by decide) (fun o j => by unfold wtM; simp; omega) (by decide)
  · exact mp_ch hn hl (fun x z => by rw [z]; unfold endT; decide) (by decide) (by decide) (by decide) (fun o => by unfold wtM; simp) (fun x _ => by decide)
  · exact mp_ch hn hl (fun x z => by rw [z]; unfold endT; decide) (by decide) (by decide) (by decide) (fun o => by unfold wtM; simp) (fun x _ => by decide)
