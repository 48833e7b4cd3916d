/-! WHAT WOULD BE BEST, in numbers -/
theorem TH.put {b i k : Nat} {Sh : HS} {I : HI} {R : HR} {σ : SG} {v : SV} {x : Int32} (h : TH b Sh I R σ v) (hi : i < gN σ) (hn8 : gN σ ≤ 8) (hk : k < 5) : TH b Sh (u2 I (b + 44 + 2 + i) k x) R σ (upV v i k x) ∧ pvE b I (u2 I (b + 44 + 2 + i) k x) := by
  obtain ⟨⟨a1, a2, a3, a4, a5, a6, a7, a8, a9⟩, hs⟩ := h
  refine ⟨⟨⟨a1, a2, by rw [u2_ne (by omega)]; exact a3, a4, a5, a6, a7, a8.same (fun q hq => u2_ne (by omega)) (fun q => u2_ne (by omega)), a9⟩, fun j hj q hq => ?_, by rw [u2_ne (by omega)]; exact hs.2.1, by rw [u2_ne (by omega)]; exact hs.2.2⟩, fun a q hq => u2_ne (by unfold prv at hq; omega)⟩
  by_cases e : j = i ∧ q = k
  · obtain ⟨rfl, rfl⟩ := e
    rw [u2_same]
    unfold upV
    simp
  · rw [u2_ne (by omega), hs.1 j hj q hq]
    unfold upV
    simp [e]
theorem TH.moon {b : Nat} {Sh : HS} {I : HI} {R : HR} {σ : SG} {v : SV} {x : Int32} (h : TH b Sh I R σ v) (hn8 : gN σ ≤ 8) : TH b Sh (u2 I (b + 44) 2 x) R σ (v.1, x, v.2.2) ∧ pvE b I (u2 I (b + 44) 2 x) := by
  obtain ⟨⟨a1, a2, a3, a4, a5, a6, a7, a8, a9⟩, hs⟩ := h
  refine ⟨⟨⟨a1, a2, by rw [u2_ne (by omega)]; exact a3, a4, a5, a6, a7, a8.same (fun q hq => u2_ne (by omega)) (fun q => u2_ne (by omega)), a9⟩, fun j hj q hq => ?_, u2_same, by rw [u2_ne (by omega)]; exact hs.2.2⟩, fun a q hq => u2_ne (by unfold prv at hq; omega)⟩
  rw [u2_ne (by omega)]
  exact hs.1 j hj q hq
theorem TH.fr {b : Nat} {Sh : HS} {I J : HI} {R : HR} {σ : SG} {v u : SV} (h : TH b Sh I R σ v) (f : frS (b + 8 + 3 * gRu σ) (b + 44) I J) (hs : SR J (b + 44) (gN σ) u) : TH b Sh J R σ u := ⟨h.1.fr f, hs⟩
/-- the first so many from s on that is so -/
noncomputable def fsF (p : Nat → Prop) : Nat → Nat → Int32
  | 0, _ => -1
  | c + 1, s => by
    classical
    exact if p s then nI s else fsF p c (s + 1)
theorem fs_t {p : Nat → Prop} {c s : Nat} (h : p s) : fsF p (c + 1) s = nI s := by
  unfold fsF
  simp [h]
theorem fs_f {p : Nat → Prop} {c s : Nat} (h : ¬ p s) : fsF p (c + 1) s = fsF p c (s + 1) := by
  conv => lhs; unfold fsF
  simp [h]
/-- what every fort's numbers are -/
def WF (n : Nat) (v : SV) : Prop := ∀ i, i < n → (∃ a, a < 6 ∧ v.1 i 0 = nI a) ∧ (∃ a, a < 10 ∧ v.1 i 1 = nI a) ∧ (∃ a, a < 16 ∧ v.1 i 2 = nI a) ∧ (∃ a, a < 2 ∧ v.1 i 3 = nI a) ∧ ∃ a, a < 100 ∧ v.1 i 4 = nI a
noncomputable def keepsF (σ : SG) (f n : Int32) : Int32 := by
  classical
  exact match idF (gN σ) f with
    | none => -2
    | some i => if aheadP n then fsF (fun j => 0 < (passF (gP σ) (gN σ) (upV (gW σ) i 4 ((gW σ).1 i 4 + nI j)) n.toNatClampNeg).1 i 4) (100 - ((gW σ).1 i 4).toNatClampNeg) 0 else -2
noncomputable def bestG (σ : SG) (i k m : Nat) : Int32 × Int32 := fd (fun p x => if x.2 < (passF (gP σ) (gN σ) (upV (gW σ) i 2 (nI p)) k).1 i 4 then (nI p, (passF (gP σ) (gN σ) (upV (gW σ) i 2 (nI p)) k).1 i 4) else x) (0, -1) m
noncomputable def bestF (σ : SG) (f n w : Int32) : Int32 := by
  classical
  exact match idF (gN σ) f with
    | none => -2
    | some i => if aheadP n ∧ ansP w then (if w = 0 then (bestG σ i n.toNatClampNeg 16).1 else (bestG σ i n.toNatClampNeg 16).2) else -2
noncomputable def mattG (σ : SG) (i k m : Nat) : Int32 × Int32 := fd (fun o x => if o = i ∨ ¬ (gW σ).1 o 3 = (gW σ).1 i 3 then x else if (passF (gP σ) (gN σ) (upV (gW σ) o 4 0) k).1 i 4 < x.2 then (nI o, (passF (gP σ) (gN σ) (upV (gW σ) o 4 0) k).1 i 4) else x) (-1, (passF (gP σ) (gN σ) (gW σ) k).1 i 4) m
noncomputable def mattersF (σ : SG) (f n w : Int32) : Int32 := by
  classical
  exact match idF (gN σ) f with
    | none => -2
    | some i => if aheadP n ∧ ansP w then (if w = 0 then (mattG σ i n.toNatClampNeg (gN σ)).1 else (mattG σ i n.toNatClampNeg (gN σ)).2) else -2
noncomputable def wishG (σ : SG) (r : Int32) (k m : Nat) : Int32 × Int32 := fd (fun o x => if (gW σ).1 o 3 = r then x else if x.2 < valueF (gP σ) (gN σ) r (passF (gP σ) (gN σ) (upV (gW σ) o 4 0) k) then (nI o, valueF (gP σ) (gN σ) r (passF (gP σ) (gN σ) (upV (gW σ) o 4 0) k)) else x) (-1, valueF (gP σ) (gN σ) r (passF (gP σ) (gN σ) (gW σ) k)) m
noncomputable def wishF (σ : SG) (r n w : Int32) : Int32 := by
  classical
  exact if 0 ≤ r ∧ r < 2 ∧ aheadP n ∧ ansP w then (if w = 0 then (wishG σ r n.toNatClampNeg (gN σ)).1 else (wishG σ r n.toNatClampNeg (gN σ)).2) else -100000
noncomputable def gameF (σ : SG) (n w : Int32) : Int32 := by
  classical
  exact if 1 ≤ n ∧ n ≤ 3 ∧ ansP w then (if w = 0 then mvF (gP σ) (gN σ) n.toNatClampNeg (gW σ) else (ffF (gP σ) (gN σ) (mvF (gP σ) (gN σ) (n.toNatClampNeg - 1)) (gW σ) (gN σ)).2) else -100000
