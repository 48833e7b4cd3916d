/-! BESIDE ONE ANOTHER -/
theorem CSh.cong {b : Nat} {Sh Sh' : HS} (h : CSh Sh b) (e : ∀ a, b ≤ a → a < b + 69 → Sh'.2 a = Sh.2 a) : CSh Sh' b := by
  obtain ⟨s0, s1, s2, s3, s4, s5, s6, s7, sT, sS, sA, sB, sC, sG⟩ := h
  have q : ∀ {a : Nat} {v : Nat × Nat}, Sh.2 a = v → b ≤ a → a < b + 69 → Sh'.2 a = v := fun h1 h2 h3 => (e _ h2 h3).trans h1
  exact ⟨q s0 (by omega) (by omega), q s1 (by omega) (by omega), q s2 (by omega) (by omega), q s3 (by omega) (by omega), q s4 (by omega) (by omega), q s5 (by omega) (by omega), q s6 (by omega) (by omega), q s7 (by omega) (by omega), fun t ht => ⟨q (sT t ht).1 (by omega) (by omega), q (sT t ht).2.1 (by omega) (by omega), q (sT t ht).2.2 (by omega) (by omega)⟩, fun s hs => ⟨q (sS s hs).1 (by omega) (by omega), q (sS s hs).2 (by omega) (by omega)⟩, ⟨q sA.1 (by omega) (by omega), q sA.2.1 (by omega) (by omega), fun i hi => q (sA.2.2 i hi) (by omega) (by omega)⟩, ⟨q sB.1 (by omega) (by omega), q sB.2.1 (by omega) (by omega), fun i hi => q (sB.2.2 i hi) (by omega) (by omega)⟩, ⟨q sC.1 (by omega) (by omega), q sC.2.1 (by omega) (by omega), fun i hi => q (sC.2.2 i hi) (by omega) (by omega)⟩, ⟨q sG.1 (by omega) (by omega), q sG.2.1 (by omega) (by omega), fun i hi => q (sG.2.2 i hi) (by omega) (by omega)⟩⟩
theorem CRf.cong {R R' : HR} {b : Nat} (h : CRf R b) (e : ∀ a k, b ≤ a → a < b + 69 → R' a k = R a k) : CRf R' b := by
  have q : ∀ {a k : Nat} {v : Option Nat}, R a k = v → b ≤ a → a < b + 69 → R' a k = v := fun h1 h2 h3 => (e _ _ h2 h3).trans h1
  obtain ⟨h1, h2, h3, h4, h5, h6, h7, h8, h9, h10, h11, h12, h13, h14, h15, h16, h17, h18, h19, h20⟩ := h
  exact ⟨q h1 (by omega) (by omega), q h2 (by omega) (by omega), q h3 (by omega) (by omega), q h4 (by omega) (by omega), q h5 (by omega) (by omega), q h6 (by omega) (by omega), q h7 (by omega) (by omega), q h8 (by omega) (by omega), q h9 (by omega) (by omega), q h10 (by omega) (by omega), q h11 (by omega) (by omega), q h12 (by omega) (by omega), fun t ht => q (h13 t ht) (by omega) (by omega), fun s hs => q (h14 s hs) (by omega) (by omega), fun t ht => ⟨q (h15 t ht).1 (by omega) (by omega), q (h15 t ht).2 (by omega) (by omega)⟩, fun s hs => q (h16 s hs) (by omega) (by omega), ⟨q h17.1 (by omega) (by omega), fun i hi => q (h17.2 i hi) (by omega) (by omega)⟩, ⟨q h18.1 (by omega) (by omega), fun i hi => q (h18.2 i hi) (by omega) (by omega)⟩, ⟨q h19.1 (by omega) (by omega), fun i hi => q (h19.2 i hi) (by omega) (by omega)⟩, ⟨q h20.1 (by omega) (by omega), q h20.2.1 (by omega) (by omega), fun r hr => q (h20.2.2 r hr) (by omega) (by omega)⟩⟩
theorem CI.cong {b : Nat} {Sh Sh' : HS} {I J : HI} {R R' : HR} {σ : SG} (h : CI b Sh I R σ) (eS : ∀ a, b ≤ a → a < b + 69 → Sh'.2 a = Sh.2 a) (e : ∀ a k, b ≤ a → a < b + 69 → J a k = I a k) (e2 : ∀ a k, b ≤ a → a < b + 69 → R' a k = R a k) : CI b Sh' J R' σ := by
  obtain ⟨h1, h2, h3, h4, h5, h6, h7⟩ := h
  have ck : ∀ {S : Nat} {x : Nat × SV × Nat}, CK b S I R (gTc σ) x → b ≤ S → S + 10 ≤ b + 69 → CK b S J R' (gTc σ) x := fun {S x} k hS hS2 => by
    obtain ⟨k1, k2, k3, k4, k5⟩ := k
    exact ⟨(e _ _ (by omega) (by omega)).trans k1, k2, ⟨fun i hi k hk => (e _ _ (by omega) (by omega)).trans (k3.1 i hi k hk), (e _ _ (by omega) (by omega)).trans k3.2.1, (e _ _ (by omega) (by omega)).trans k3.2.2⟩, (e2 _ _ (by omega) (by omega)).trans k4, k5⟩
  refine ⟨h1.cong eS, h2.cong e2, ?_, ck h4 (by omega) (by omega), ?_, ?_, ?_⟩
  · obtain ⟨a1, a2, a3, a4, a5⟩ := h3
    exact ⟨(e _ _ (by omega) (by omega)).trans a1, a2, a3, fun t ht => (a4 t ht).same (fun k hk => e _ _ (by omega) (by omega)) (fun k => e _ _ (by omega) (by omega)), fun t ht => (e _ _ (by omega) (by omega)).trans (a5 t ht)⟩
  · exact ⟨(e _ _ (by omega) (by omega)).trans h5.1, h5.2.1, fun j hj => (e _ _ (by omega) (by omega)).trans (h5.2.2 j hj)⟩
  · unfold CIm at *
    cases hi : gIm σ with
    | none =>
      rw [hi] at h6
      exact (e _ _ (by omega) (by omega)).trans h6
    | some x =>
      rw [hi] at h6
      exact ⟨(e _ _ (by omega) (by omega)).trans h6.1, ck h6.2 (by omega) (by omega)⟩
  · intro s hs
    obtain ⟨a1, a2, a3, a4⟩ := h7 s hs
    exact ⟨(e _ _ (by omega) (by omega)).trans a1, (e _ _ (by omega) (by omega)).trans a2, a3, fun j hj => (e _ _ (by omega) (by omega)).trans (a4 j hj)⟩
theorem MTx.cong {m t c : Nat} {I J : HI} {P : Nat → List Int32} (h : MTx m I t P c) (e : ∀ a k, m ≤ a → a < m + 18 → J a k = I a k) : MTx m J t P c := fun q hq => by
  obtain ⟨B, h1, h2, h3, h4, h5⟩ := h q hq
  exact ⟨B, (e _ _ (by omega) (by omega)).trans h1, (e _ _ (by omega) (by omega)).trans h2, h3, fun j x hx => ⟨(e _ _ (by omega) (by omega)).trans (h4 j x hx).1, (h4 j x hx).2⟩, h5⟩
theorem MI.cong {m : Nat} {Sh Sh' : HS} {I J : HI} {R R' : HR} {σ : SG} (h : MI m Sh I R σ) (eS : ∀ a, m ≤ a → a < m + 18 → Sh'.2 a = Sh.2 a) (e : ∀ a k, m ≤ a → a < m + 18 → J a k = I a k) (e2 : ∀ a k, m ≤ a → a < m + 18 → R' a k = R a k) : MI m Sh' J R' σ := by
  obtain ⟨a1, a2, a3, a4, a5, a6, ⟨c, c1, c2, c3⟩, a8, a9, aA⟩ := h
  have q : ∀ {a k : Nat} {v : Int32}, I a k = v → m ≤ a → a < m + 18 → J a k = v := fun h1 h2 h3 => (e _ _ h2 h3).trans h1
  refine ⟨?_, ?_, ⟨q a3.1 (by omega) (by omega), a3.2⟩, ⟨fun i hi k hk => q (a4.1 i hi k hk) (by omega) (by omega), q a4.2.1 (by omega) (by omega), q a4.2.2 (by omega) (by omega)⟩, ⟨q a5.1 (by omega) (by omega), a5.2⟩, ⟨q a6.1 (by omega) (by omega), a6.2⟩, ⟨c, q c1 (by omega) (by omega), c2, fun t ht => (c3 t ht).cong e⟩, ⟨q a8.1 (by omega) (by omega), a8.2.1, fun j hj => q (a8.2.2 j hj) (by omega) (by omega)⟩, a9.eq (e _ _ (by omega) (by omega)) (e _ _ (by omega) (by omega)) (fun k => e _ _ (by omega) (by omega)), aA.eq (fun a k z1 z2 => e a k (by omega) (by omega))⟩
  · have q : ∀ {a : Nat} {v : Nat × Nat}, Sh.2 a = v → m ≤ a → a < m + 18 → Sh'.2 a = v := fun h1 h2 h3 => (eS _ h2 h3).trans h1
    obtain ⟨z0, z1, z6, z7, z8, z9, z10, z11, z12, z13, z14, z15, z16, z17⟩ := a1
    exact ⟨q z0 (by omega) (by omega), fun k hk => q (z1 k hk) (by omega) (by omega), q z6 (by omega) (by omega), q z7 (by omega) (by omega), q z8 (by omega) (by omega), q z9 (by omega) (by omega), q z10 (by omega) (by omega), q z11 (by omega) (by omega), q z12 (by omega) (by omega), q z13 (by omega) (by omega), q z14 (by omega) (by omega), q z15 (by omega) (by omega), q z16 (by omega) (by omega), q z17 (by omega) (by omega)⟩
  · have q : ∀ {k : Nat} {v : Option Nat}, R m k = v → R' m k = v := fun h1 => (e2 _ _ (by omega) (by omega)).trans h1
    obtain ⟨y1, y6, y7, y8, y9, y10, y11, y12, y13, y14, y15, y16, y17⟩ := a2
    exact ⟨fun k hk => q (y1 k hk), q y6, q y7, q y8, q y9, q y10, q y11, q y12, q y13, q y14, q y15, q y16, q y17⟩
