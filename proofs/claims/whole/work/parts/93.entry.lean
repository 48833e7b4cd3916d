/-! WHAT HOLDS AT THE LAW'S ENTRY -/
def repK : List (String × Nat) := [("SandcastlesModel", 61), ("SandcastlesModel", 146), ("SandcastlesModel", 148), ("SandcastlesModel", 150), ("SandcastlesModel", 152), ("SandcastlesModel", 154), ("SandcastlesModel", 156), ("SandcastlesModel", 126), ("SandcastlesModel", 127), ("SandcastlesModel", 128), ("SandcastlesModel", 129), ("SandcastlesModel", 130), ("SandcastlesModel", 131), ("SandcastlesModel", 164)]
def tmK (i : Nat) : Term := Term.string (repK.getD i ("", 0)).1 (repK.getD i ("", 0)).2
def ENT : List Cond := flatC (Jvm.Cond.and given_1 narrow_1)
def stK : List Nat := [208, 333, 345, 356, 366, 373, 381, 271, 280, 289, 299, 310, 321, 389]
theorem en_x {k : Nat} {c : Cond} (h : ENT[k]? = some c) : c ∈ ENT := List.mem_of_getElem? h
theorem en_1a : ∀ i, i < 14 → ENT[stK.getD i 0 - 4]? = some (Cond.exactly (tmK i) "java/lang/String") := by decide +kernel
theorem en_2a : ∀ i, i < 14 → ENT[stK.getD i 0 - 3]? = some (Cond.eq (.field (tmK i) "java/lang/String" "coder" "B") (.int 0)) := by decide +kernel
theorem en_3a : ∀ i, i < 14 → ENT[stK.getD i 0 - 2]? = some (Cond.arrayOf (.field (tmK i) "java/lang/String" "value" "[B") .byte) := by decide +kernel
theorem en_4a : ∀ i, i < 14 → ENT[stK.getD i 0 - 1]? = some (Cond.eq (.length (.field (tmK i) "java/lang/String" "value" "[B")) (.int (Int32.ofNat (kTn i)))) := by decide +kernel
theorem en_5a : ∀ i, i < 14 → (ENT.drop (stK.getD i 0)).take (kTn i) = (List.range (kTn i)).map (fun j => Cond.eq (.elem (.field (tmK i) "java/lang/String" "value" "[B") (.int (Int32.ofNat j))) (.int ((kTb i).getD j 0))) := by decide +kernel
theorem en_1 (i : Nat) (h : i < 14) : Cond.exactly (tmK i) "java/lang/String" ∈ ENT := en_x (en_1a i h)
theorem en_2 (i : Nat) (h : i < 14) : Cond.eq (.field (tmK i) "java/lang/String" "coder" "B") (.int 0) ∈ ENT := en_x (en_2a i h)
theorem en_3 (i : Nat) (h : i < 14) : Cond.arrayOf (.field (tmK i) "java/lang/String" "value" "[B") .byte ∈ ENT := en_x (en_3a i h)
theorem en_4 (i : Nat) (h : i < 14) : Cond.eq (.length (.field (tmK i) "java/lang/String" "value" "[B")) (.int (Int32.ofNat (kTn i))) ∈ ENT := en_x (en_4a i h)
theorem en_5 (i : Nat) (h : i < 14) (j : Nat) (hj : j < kTn i) : Cond.eq (.elem (.field (tmK i) "java/lang/String" "value" "[B") (.int (Int32.ofNat j))) (.int ((kTb i).getD j 0)) ∈ ENT := by
  refine List.mem_of_mem_drop (i := stK.getD i 0) (List.mem_of_mem_take (i := kTn i) ?_)
  rw [en_5a i h]
  exact List.mem_map.mpr ⟨j, List.mem_range.mpr hj, rfl⟩
def pl6 : List Nat := [266, 340, 351, 361, 368, 376, 384, 275, 284, 294, 305, 316, 328, 0, 0, 0, 0, 0, 0, 0, 0, 0, 0, 0, 0, 0, 0]
theorem en_6a : ∀ n, n < 27 → (kRef.getD n ("", 0, "", 0)).2.2.2 < 14 ∧ (Term.string (kRef.getD n ("", 0, "", 0)).1 (kRef.getD n ("", 0, "", 0)).2.1 = tmK (kRef.getD n ("", 0, "", 0)).2.2.2 ∨ ENT[pl6.getD n 0]? = some (Cond.eq (Term.string (kRef.getD n ("", 0, "", 0)).1 (kRef.getD n ("", 0, "", 0)).2.1) (tmK (kRef.getD n ("", 0, "", 0)).2.2.2))) := by decide +kernel
theorem en_6 : ∀ r ∈ kRef, r.2.2.2 < 14 ∧ (Term.string r.1 r.2.1 = tmK r.2.2.2 ∨ Cond.eq (Term.string r.1 r.2.1) (tmK r.2.2.2) ∈ ENT) := fun r hr => by
  obtain ⟨n, hn, rfl⟩ := List.mem_iff_getElem.mp hr
  have h := en_6a n (show n < 27 from hn)
  have e : kRef.getD n ("", 0, "", 0) = kRef[n] := by
    rw [List.getD_eq_getElem?_getD, List.getElem?_eq_getElem hn]
    rfl
  rw [e] at h
  exact ⟨h.1, h.2.elim Or.inl (fun q => Or.inr (en_x q))⟩
theorem en_7 : ∀ r ∈ kRef, Cond.stringRef r.1 r.2.1 r.2.2.1 ∈ lw_tbl := by decide +kernel
theorem en_8 : Cond.eq (.static "java/lang/String" "COMPACT_STRINGS" "Z") (.int 1) ∈ ENT := en_x (k := 4) (by decide +kernel)
theorem en_9 : Cond.isRef (.static "jdk/internal/util/Preconditions" "SIOOBE_FORMATTER" "Ljava/util/function/BiFunction;") ∈ ENT := en_x (k := 5) (by decide +kernel)
def insB : Bool := vwCl.all fun q => decide (Cond.instantiable q.1 q.2.2 ∈ lw_tbl)
theorem insB_ok : insB = true := by decide +kernel
theorem kRef_14 {i : Nat} (hi : i < 14) : kTn i < 2 ^ 31 := by
  have := kTn_le i hi
  omega
section
variable {args : Array Value} {s : State}
theorem str_1 (hg : ∀ c ∈ ENT, c.before args s = true) {i : Nat} (hi : i < 14) : ∃ x : Nat × Nat, vk_S 1 [kTn i] [kTb i] (fun _ => x.1) (fun _ => x.2) (fun q => s.heap.size ≤ q) s s.heap ∧ (tmK i).eval args s none [] s = some (.ref x.1) := by
  obtain ⟨adK, adV, h1, h2⟩ := vk_Sof (args := args) (s := s) (N := 1) (tm := fun _ => tmK i) (len := [kTn i]) (byt := [kTb i]) (A := fun q => s.heap.size ≤ q) (fun j hj => by rw [show j = 0 by omega]; exact kRef_14 hi) (fun j hj => hg _ (en_1 i hi)) (fun j hj => hg _ (en_2 i hi)) (fun j hj => hg _ (en_3 i hi)) (fun j hj => by rw [show j = 0 by omega]; exact hg _ (en_4 i hi)) (fun j hj q hq => by
    rw [show j = 0 by omega] at hq ⊢
    exact hg _ (en_5 i hi q hq)) (fun a b ha hb hne => absurd (show a = b by omega) hne) (fun a ha => Nat.not_le.mpr ha)
  refine ⟨(adK 0, adV 0), ⟨fun j hj => ?_, fun a b ha hb _ => by omega⟩, h2 0 (by omega)⟩
  have := h1.1 0 (by omega)
  rw [show j = 0 by omega]
  exact this
theorem cls_1 (hts : ∀ w ∈ lw_tbl, w.before args s = true) (c : Nat) : ∃ x : ClassId × (Nat → Nat), ∀ q, vwCl[c]? = some q → u_Kn s q.1 q.2.1 q.2.2 x.1 x.2 := by
  cases hq : vwCl[c]? with
  | none => exact ⟨(0, fun _ => 0), fun q h => by cases h⟩
  | some q =>
    have hi : Cond.instantiable q.1 q.2.2 ∈ lw_tbl := by
      have h := insB_ok
      unfold insB at h
      have := List.all_eq_true.mp h q (List.mem_of_getElem? hq)
      simpa using this
    obtain ⟨cC, iS, h⟩ := u_known (ws := lw_tbl) hts (fun w hw => (List.mem_filter.mp ((cl_ok hq).1 w hw)).1) (hts _ hi)
    exact ⟨(cC, iS), fun q' h' => by cases h'; exact h⟩
theorem arr_o {E : String} (h : va_AO E s) : ∃ c : ClassId, ArrOfT s c (.object E) ∧ va_RA s c (.object E) := by
  obtain ⟨comp, c, k, h1, h2, h3, h4, h5⟩ := Cond.arrayOver_spec h
  exact ⟨c, fun n z => ⟨fun k h => (by cases h), k, h3, comp, h4⟩, k, comp, h3, h4, h1, h5⟩
theorem arr_i (h : (Cond.arrayClass .int).before args s = true) : ∃ c : ClassId, ArrOfT s c .int ∧ va_RA s c .int := by
  obtain ⟨c, k, comp, h1, h2, h3⟩ := Cond.arrayClass_spec h
  exact ⟨c, fun n z => ⟨fun k h => (by cases h), k, h2, comp, h3⟩, h1⟩
theorem arr_m (h : AOI s) : ∃ c : ClassId, ArrOfT s c (.array .int) ∧ va_RA s c (.array .int) := by
  obtain ⟨comp, c, k, co, h1, h2, h3, h4, h5⟩ := h.spec
  exact ⟨c, fun n z => ⟨fun k h => (by cases h), k, h3, co, h4⟩, h5⟩
theorem nest_on {w : Cond} (h : isNest w = true) : w.onTables = true := by
  cases w <;> first | rfl | cases h
theorem KS_start (hts : ∀ w ∈ lw_tbl, w.before args s = true) (hg : ∀ c ∈ ENT, c.before args s = true) : ∃ G : GG, gB G = s.heap.size ∧ KS G s := by
  have ha0 : va_AO RX0 s := va_AO.of (hts _ (List.mem_of_getElem? (i := 367) (by decide +kernel)))
  have ha6 : va_AO RX6 s := va_AO.of (hts _ (List.mem_of_getElem? (i := 144) (by decide +kernel)))
  have ha3 : va_AO RX3 s := va_AO.of (hts _ (List.mem_of_getElem? (i := 146) (by decide +kernel)))
  have ham : AOI s := show (Cond.arrayOver (.array .int)).before args s = true from (hts _ (List.mem_of_getElem? (i := 439) (by decide +kernel)))
  obtain ⟨c9, p9⟩ := arr_i (args := args) (hts _ (List.mem_filter.mp tw_ac.mem).1)
  obtain ⟨c10, p10⟩ := arr_o ha0
  obtain ⟨c11, p11⟩ := arr_o ha6
  obtain ⟨c12, p12⟩ := arr_o ha3
  obtain ⟨c13, p13⟩ := arr_m ham
  obtain ⟨f, hf⟩ := Classical.axiomOfChoice (fun c => cls_1 hts c)
  have hs : ∀ i : Nat, ∃ x : Nat × Nat, i < 14 → vk_S 1 [kTn i] [kTb i] (fun _ => x.1) (fun _ => x.2) (fun q => s.heap.size ≤ q) s s.heap ∧ (tmK i).eval args s none [] s = some (.ref x.1) := fun i => by
    by_cases hi : i < 14
    · obtain ⟨x, hx⟩ := str_1 hg hi
      exact ⟨x, fun _ => hx⟩
    · exact ⟨(0, 0), fun z => absurd z hi⟩
  obtain ⟨g, hgs⟩ := Classical.axiomOfChoice hs
  have hA : ∀ a : Nat, a < s.heap.size → ¬ s.heap.size ≤ a := fun a ha => Nat.not_le.mpr ha
  refine ⟨((fun c => (f c).1, fun c => (f c).2), (fun k => if k = 9 then c9 else if k = 10 then c10 else if k = 11 then c11 else if k = 12 then c12 else c13), s.heap.size, (fun i => (g i).1), fun i => (g i).2), rfl, ⟨fun c q hq => hf c q hq, fun k q hq => ?_⟩, fun w hw hn => va_Nw.of (nest_on hn) (hts w hw), fun r hr => ?_, ⟨fun i hi => (hgs i hi).1, ?_, ?_⟩, ha0, ha6, ha3, ham⟩
  · match k, hq with
    | 0, hq => cases hq; exact p9
    | 1, hq => cases hq; exact p10
    | 2, hq => cases hq; exact p11
    | 3, hq => cases hq; exact p12
    | 4, hq => cases hq; exact p13
    | k + 5, hq => simp [tysL] at hq
  · obtain ⟨h14, h⟩ := en_6 r hr
    refine vk_R.of (A := args) (hts _ (en_7 r hr)) ?_
    have he := (hgs _ h14).2
    rcases h with h | h
    · rw [h]; exact he
    · exact Cond.eq_refs (hg _ h) he rfl
  · exact va_Zof (args := args) (hts _ (List.mem_of_getElem? (i := 203) (by decide +kernel))) (hts _ (List.mem_of_getElem? (i := 78) (by decide +kernel))) (va_eqi (hg _ en_8)) hA
  · exact va_Zqof (args := args) (hts _ (List.mem_of_getElem? (i := 219) (by decide +kernel))) (hts _ (List.mem_of_getElem? (i := 80) (by decide +kernel))) (hg _ en_9) hA
end
