/-! THE ABSTRACT MACHINE'S WORLD: a heap of typed cells, read as two functions, ints and references -/
abbrev AH : Type := (Nat × (Nat → Nat × Nat)) × (Nat → Nat → Int32) × (Nat → Nat → Option Nat)
/-- the next address; a cell's kind and size (kinds 0 .. 8: the class of that number; 9: int[]; 10 .. 13: rows of references); ints; references -/
def hpZ (h : AH) : Nat := h.1.1
def hpS (h : AH) : Nat → Nat × Nat := h.1.2
def hpI (h : AH) : Nat → Nat → Int32 := h.2.1
def hpR (h : AH) : Nat → Nat → Option Nat := h.2.2
def u2 {α : Type} (f : Nat → Nat → α) (a k : Nat) (v : α) : Nat → Nat → α := fun a' k' => if a' = a ∧ k' = k then v else f a' k'
def iUp (h : AH) (a k : Nat) (v : Int32) : AH := (h.1, u2 h.2.1 a k v, h.2.2)
def rUp (h : AH) (a k : Nat) (v : Option Nat) : AH := (h.1, h.2.1, u2 h.2.2 a k v)
/-- a new cell, all 0 or null -/
def nUp (h : AH) (kd n : Nat) : AH := ((h.1.1 + 1, fun a => if a = h.1.1 then (kd, n) else h.1.2 a), (fun a k => if a = h.1.1 then 0 else h.2.1 a k), fun a k => if a = h.1.1 then none else h.2.2 a k)
theorem u2_same {α : Type} {f : Nat → Nat → α} {a k : Nat} {v : α} : u2 f a k v a k = v := by simp [u2]
theorem u2_ne {α : Type} {f : Nat → Nat → α} {a k a' k' : Nat} {v : α} (h : ¬ (a' = a ∧ k' = k)) : u2 f a k v a' k' = f a' k' := by simp [u2, h]
/-- the kit's contexts -/
abbrev GG : Type := va_G × (Nat → ClassId) × Nat × (Nat → Nat) × (Nat → Nat)
def gB (G : GG) : Nat := G.2.2.1
def gA (G : GG) : Nat → Prop := fun q => gB G ≤ q
def gK (G : GG) : Nat → Nat := G.2.2.2.1
def gV (G : GG) : Nat → Nat := G.2.2.2.2
def tyk : Nat → FieldType := fun k => match k with
  | 9 => .int
  | 10 => .object RX0
  | 11 => .object RX6
  | 12 => .object RX3
  | _ => .array .int
def tysL (cA : Nat → ClassId) : List (ClassId × FieldType) := [(cA 9, tyk 9), (cA 10, tyk 10), (cA 11, tyk 11), (cA 12, tyk 12), (cA 13, tyk 13)]
theorem tysL_at (cA : Nat → ClassId) {k : Nat} (h1 : 9 ≤ k) (h2 : k ≤ 13) : (tysL cA)[k - 9]? = some (cA k, tyk k) := by
  match k, h1, h2 with
  | 9, _, _ => rfl
  | 10, _, _ => rfl
  | 11, _, _ => rfl
  | 12, _, _ => rfl
  | 13, _, _ => rfl
  | k + 14, _, h => exact absurd h (by omega)
def slInt (ci k : Nat) : Bool := match vwCl[ci]? with
  | some q => (q.2.1 k).2.2.1 == "I" || (q.2.1 k).2.2.1 == "Z"
  | none => false
def slN (ci : Nat) : Nat := match vwCl[ci]? with
  | some q => q.2.2
  | none => 0
def enV (h : AH) (ci a k : Nat) : Value := if slInt ci k = true then .int (hpI h a k) else va_rf (hpR h a k)
def enO (h : AH) (ci a : Nat) : List Value := (List.range (slN ci)).map (enV h ci a)
def en (cA : Nat → ClassId) (h : AH) (a : Nat) : va_E :=
  if (hpS h a).1 < 9 then .inr ((hpS h a).1, enO h (hpS h a).1 a)
  else if (hpS h a).1 = 9 then .inl (cA 9, (hpS h a).2, .inl (hpI h a))
  else .inl (cA (hpS h a).1, (hpS h a).2, .inr (.inr (.inr (.inr (hpR h a)))))
def wsH (cA : Nat → ClassId) (b : Nat) (h : AH) : va_W := (List.range (hpZ h - b)).map fun q => (b + q, en cA h (b + q))
theorem wsH_get {cA : Nat → ClassId} {b a : Nat} {h : AH} (h1 : b ≤ a) (h2 : a < hpZ h) : (wsH cA b h)[a - b]? = some (a, en cA h a) := by
  unfold wsH
  rw [List.getElem?_map, List.getElem?_range (by omega)]
  simp only [Option.map_some]
  rw [show b + (a - b) = a by omega]
theorem wsH_of {cA : Nat → ClassId} {b k : Nat} {h : AH} {q : Nat × va_E} (hq : (wsH cA b h)[k]? = some q) : k < hpZ h - b ∧ q = (b + k, en cA h (b + k)) := by
  unfold wsH at hq
  have hk : k < hpZ h - b := by
    have := (List.getElem?_eq_some_iff.mp hq).1
    simpa using this
  rw [List.getElem?_map, List.getElem?_range hk] at hq
  simp only [Option.map_some, Option.some.injEq] at hq
  exact ⟨hk, hq.symm⟩
theorem wsH_D {cA : Nat → ClassId} {b : Nat} {h : AH} : va_D (fun q => b ≤ q) (wsH cA b h) := by
  refine ⟨fun i j p q hp hq e => ?_, fun k q hq => ?_⟩
  · obtain ⟨-, rfl⟩ := wsH_of hp
    obtain ⟨-, rfl⟩ := wsH_of hq
    have e : b + i = b + j := e
    omega
  · obtain ⟨-, rfl⟩ := wsH_of hq
    exact Nat.le_add_right _ _
theorem wsH_set {cA : Nat → ClassId} {b a : Nat} {h h' : AH} (h1 : b ≤ a) (h2 : a < hpZ h) (hz : hpZ h' = hpZ h) (ho : ∀ q, q ≠ a → en cA h' q = en cA h q) : (wsH cA b h).set (a - b) (a, en cA h' a) = wsH cA b h' := by
  apply List.ext_getElem?
  intro k
  by_cases hk : k = a - b
  · subst hk
    rw [List.getElem?_set_self (by unfold wsH; simp; omega), wsH_get h1 (by omega)]
  · rw [List.getElem?_set_ne (fun e => hk e.symm)]
    unfold wsH
    rw [List.getElem?_map, List.getElem?_map, hz]
    by_cases hl : k < hpZ h - b
    · rw [List.getElem?_range hl]
      simp only [Option.map_some]
      rw [ho (b + k) (by omega)]
    · rw [List.getElem?_eq_none (by simp; omega)]
      rfl
/-- the machine's heap is that of the abstract world, from the base on -/
def RelH (G : GG) (h : AH) (H : Heap) : Prop := (∀ a, (hpS h a).1 ≤ 13 → gB G ≤ a ∧ a < hpZ h) ∧ gB G ≤ hpZ h ∧ H.size = hpZ h ∧ va_P G.1 vwCl (wsH G.2.1 (gB G) h) H
/-- the Strings that the classes name: texts by number -/
def kTx : List (List Nat) := [[115, 116, 114, 105, 107, 101, 115, 32, 57, 32, 43, 32, 109, 111, 111, 110, 32, 45, 32, 112, 108, 97, 99, 101, 32, 45, 32, 115, 104, 101, 108, 116, 101, 114, 32, 59, 32, 114, 97, 105, 115, 101, 115, 32, 53, 32, 59, 32, 119, 111, 114, 116, 104, 32, 49, 48, 32, 59], [115, 116, 114, 105, 107, 101, 115], [114, 97, 105, 115, 101, 115], [119, 111, 114, 116, 104], [111, 114], [97, 110, 100], [110, 111, 116], [119, 97, 118, 101], [109, 111, 111, 110], [112, 108, 97, 99, 101], [110, 117, 109, 98, 101, 114], [104, 101, 105, 103, 104, 116], [115, 104, 101, 108, 116, 101, 114], [40, 41, 59, 43, 45, 42, 60, 61]]
def kTn (i : Nat) : Nat := (kTx.getD i []).length
def kTb (i : Nat) : List Int32 := (kTx.getD i []).map Int32.ofNat
/-- where they are named: class, place in its pool, text, number -/
def kRef : List (String × Nat × String × Nat) := [("Sandcastles", 41, "strikes 9 + moon - place - shelter ; raises 5 ; worth 10 ;", 0), ("Sandcastles$Tape", 42, "strikes", 1), ("Sandcastles$Tape", 48, "raises", 2), ("Sandcastles$Tape", 50, "worth", 3), ("Sandcastles$Tape", 52, "or", 4), ("Sandcastles$Tape", 56, "and", 5), ("Sandcastles$Tape", 58, "not", 6), ("Sandcastles$Tape", 60, "wave", 7), ("Sandcastles$Tape", 62, "moon", 8), ("Sandcastles$Tape", 64, "place", 9), ("Sandcastles$Tape", 66, "number", 10), ("Sandcastles$Tape", 68, "height", 11), ("Sandcastles$Tape", 70, "shelter", 12), ("SandcastlesModel", 61, "strikes 9 + moon - place - shelter ; raises 5 ; worth 10 ;", 0), ("SandcastlesModel", 126, "wave", 7), ("SandcastlesModel", 127, "moon", 8), ("SandcastlesModel", 128, "place", 9), ("SandcastlesModel", 129, "number", 10), ("SandcastlesModel", 130, "height", 11), ("SandcastlesModel", 131, "shelter", 12), ("SandcastlesModel", 146, "strikes", 1), ("SandcastlesModel", 148, "raises", 2), ("SandcastlesModel", 150, "worth", 3), ("SandcastlesModel", 152, "or", 4), ("SandcastlesModel", 154, "and", 5), ("SandcastlesModel", 156, "not", 6), ("SandcastlesModel", 164, "();+-*<=", 13)]
def isNest : Cond → Bool := fun w => match w with
  | .fieldLinkNest _ _ _ _ _ _ => true
  | .methodLinkNest _ _ _ _ => true
  | _ => false
def KStr (G : GG) (U : State) (H : Heap) : Prop := (∀ i, i < 14 → vk_S 1 [kTn i] [kTb i] (fun _ => gK G i) (fun _ => gV G i) (gA G) U H) ∧ va_Z "java/lang/String" "COMPACT_STRINGS" "Z" (.int 1) (gA G) U H ∧ va_Zq "jdk/internal/util/Preconditions" "SIOOBE_FORMATTER" "Ljava/util/function/BiFunction;" (gA G) U H
/-- the class of int[][] is there -/
def AOI (U : State) : Prop := (Cond.arrayOver (.array .int)).before #[] U = true
theorem AOI.spec {s : State} (h : AOI s) : ∃ comp c k co, s.vm.findClass (FieldType.array .int).toString = some comp ∧ (s.vm.classes.findIdx? fun (x : Class) => match x.kind with | .array component _ => component == comp | _ => false) = some c ∧ s.vm.classes[c]? = some k ∧ k.kind = .array co (.array .int) ∧ s.vm.findClass ("[" ++ (FieldType.array .int).toString) = some c := by
  unfold AOI Cond.before at h
  simp only [Cond.holds, Cond.value, beq_iff_eq] at h
  cases hc : s.vm.findClass (FieldType.array .int).toString with
  | none => simp [hc] at h
  | some comp =>
    simp only [hc, Option.bind_some, Option.bind_eq_some_iff, Option.map_eq_some_iff] at h
    obtain ⟨c, hi, k, hk, hb⟩ := h
    cases hkind : k.kind with
    | array component ty =>
      rw [hkind] at hb
      simp at hb
      exact ⟨comp, c, k, component, rfl, hi, hk, by rw [hkind, hb.1], hb.2⟩
    | _ => rw [hkind] at hb; simp at hb
theorem AOI.moved {u U : State} (hvm : u.vm.Alike U.vm) (h : AOI u) : AOI U := by
  obtain ⟨comp, c, k, co, h1, h2, h3, h4, h5⟩ := h.spec
  obtain ⟨k', hk', he⟩ := hvm.2.2 _ _ h3
  have hi : (U.vm.classes.findIdx? fun (x : Class) => match x.kind with | .array component _ => component == comp | _ => false) = some c := by
    have e3 : u.vm.bare = U.vm.bare := by first | exact hvm.bare_eq | exact hvm.bare_eq.symm
    have e1 := va_idx_bare u.vm comp
    have e2 := va_idx_bare U.vm comp
    rw [e3] at e1
    exact (e2.symm.trans e1).trans h2
  have hkind : k'.kind = .array co (.array .int) := by rw [he]; exact h4
  have f1 : U.vm.findClass (FieldType.array .int).toString = some comp := by rw [hvm.findClass]; exact h1
  have f2 : U.vm.findClass ("[" ++ (FieldType.array .int).toString) = some c := by rw [hvm.findClass]; exact h5
  unfold AOI Cond.before Cond.holds
  simp only [Cond.value]
  rw [f1, Option.bind_some]
  refine (congrArg (fun o : Option Nat => (o.bind (fun c => (U.vm.classes[c]?).map fun (k : Class) => match k.kind with | .array _ ty => decide (ty = FieldType.array .int) && decide (U.vm.findClass ("[" ++ (FieldType.array .int).toString) = some c) | _ => false) == some true)) hi).trans ?_
  simp [hk', hkind, f2]
/-- what holds at the start of every method -/
def KS (G : GG) (U : State) : Prop := va_K G.1 vwCl (tysL G.2.1) U ∧ (∀ w ∈ lw_tbl, isNest w = true → va_Nw w U) ∧ (∀ r ∈ kRef, vk_R r.1 r.2.1 r.2.2.1 (gK G r.2.2.2) U) ∧ KStr G U U.heap ∧ (va_AO RX0 U ∧ va_AO RX6 U ∧ va_AO RX3 U ∧ AOI U)
theorem KStr.kept {G : GG} {U : State} {H H1 : Heap} (h : KStr G U H) (hq : ∀ a : Nat, a < H.size → ¬ gA G a → H1[a]? = H[a]?) : KStr G U H1 := ⟨fun i hi => (h.1 i hi).kept hq, h.2.1.kept hq, h.2.2.kept hq⟩
theorem KStr.moved {G : GG} {u U : State} {H : Heap} (hvm : u.vm.Alike U.vm) (h : KStr G u H) : KStr G U H := ⟨fun i hi => (h.1 i hi).moved hvm, h.2.1.moved hvm, h.2.2.moved hvm⟩
theorem nest_warm {w : Cond} (hn : isNest w = true) {s U : State} (hW : s.WarmedH U.vm) (h : va_Nw w s) : va_Nw w U := by
  cases w <;> first | exact va_Nw.warmF hW h | exact va_Nw.warmM hW h | cases hn
theorem nest_same {w : Cond} (hn : isNest w = true) {u U : State} (hv : u.vm = U.vm) (h : va_Nw w u) : va_Nw w U := by
  cases w <;> first | exact va_Nw.same rfl hv h | cases hn
/-- from a method's start to that of one that it calls -/
theorem KS.warm {G : GG} {s U : State} (hW : s.WarmedH U.vm) (hq : ∀ a : Nat, a < s.heap.size → ¬ gA G a → U.heap[a]? = s.heap[a]?) (h : KS G s) : KS G U :=
  ⟨va_K.moved hW.alike h.1, fun w hw hn => nest_warm hn hW (h.2.1 w hw hn), fun r hr => (h.2.2.1 r hr).warm hW, (h.2.2.2.1.kept hq).moved hW.alike, va_AO.moved hW.alike h.2.2.2.2.1, va_AO.moved hW.alike h.2.2.2.2.2.1, va_AO.moved hW.alike h.2.2.2.2.2.2.1, AOI.moved hW.alike h.2.2.2.2.2.2.2⟩
theorem KS.same {G : GG} {u U : State} (hv : u.vm = U.vm) (hh : u.heap = U.heap) (h : KS G u) : KS G U := by
  have hA : u.vm.Alike U.vm := by rw [hv]; exact Vm.Alike.refl _
  exact ⟨va_K.moved hA h.1, fun w hw hn => nest_same hn hv (h.2.1 w hw hn), fun r hr => (h.2.2.1 r hr).same hv.symm, by rw [← hh]; exact h.2.2.2.1.moved hA, va_AO.moved hA h.2.2.2.2.1, va_AO.moved hA h.2.2.2.2.2.1, va_AO.moved hA h.2.2.2.2.2.2.1, AOI.moved hA h.2.2.2.2.2.2.2⟩
/-- the words that every contract asks for -/
def tblG : List Cond := lw_tbl.filter goodWord
def tw (w : Cond) : Prop := w ∈ lw_tbl ∧ goodWord w = true
theorem tw.mem {w : Cond} (h : tw w) : w ∈ tblG := List.mem_filter.mpr h
theorem tblG_good : GoodIn tblG tblG := fun w h => ⟨h, good_of_word (List.mem_filter.mp h).2⟩
def rmD (d mc ms : Nat) : Room := { frames := d, cells := mc, slots := ms, locals := 40 * d }
abbrev XK : Type := Room × (List Frame → Array Value → State → State → Prop) × (Array Value → State → Prop)
def Qd (G : GG) (Q : Option Value → AH → Prop) : Array Value → State → Outcome → State → Prop := fun _ st o t => (∃ v h', o = .returned v ∧ Q v h' ∧ RelH G h' t.heap) ∧ va_F (gA G) st t
def kM (G : GG) (d mc ms : Nat) (Q : Option Value → AH → Prop) : XK := (rmD d mc ms, fun below args s => MQ below (Qd G Q) args s mc ms (gA G), fun _ _ => True)
def Cx (G : GG) (K : XK) (y : MethodName) (cc : ByteArray) (L : Nat) (ret : Option FieldType) (p : Program) (s : State) (m : MethodId) (args : Array Value) (meth : Method) (c : Code) : Prop :=
  p.tables.exec = Jvm.exec ∧ c.code = cc ∧ c.maxLocals = L ∧ s.vm.findClass y.cls = some m.cls ∧ (∀ w ∈ tblG, w.before args s = true) ∧ meth.sig.returnType = ret ∧ meth.locks = false ∧ meth.name = y.name ∧ KS G s ∧ gB G ≤ s.heap.size ∧ K.2.2 args s
/-- THE JUDGEMENT: from this instruction on, with these locals, this stack and this world, the method comes to its end as K has it -/
def X (G : GG) (K : XK) (y : MethodName) (cc : ByteArray) (L : Nat) (ret : Option FieldType) (cs sl pc : Nat) (lv : List (Nat × Value)) (st : List Value) (h : AH) : Prop :=
  ∀ (p : Program) (l : Launch) (e : Env) (s : State) (m : MethodId) (args : Array Value) (below : List Frame) (meth : Method) (c : Code) (locs : List Loc) (H : Heap) (ls : Array Slot),
    Cx G K y cc L ret p s m args meth c → RelH G h H → va_S (gA G) s.heap H locs → lv_has ls L lv → W p l e K.1 s m args below meth c H locs cs sl (K.2.1 below args s) (F0 m pc ls st)
/-- a method's contract: from this world with these arguments it comes to an end with Q -/
def AM (G : GG) (d mc ms : Nat) (y : MethodName) (cc : ByteArray) (L : Nat) (ret : Option FieldType) (args : List Value) (h : AH) (Q : Option Value → AH → Prop) : Prop :=
  ∀ l : Launch, Met l y (Cond.code y cc L ret :: tblG) (rmD d mc ms) (va_Pc args (fun U => RelH G h U.heap ∧ KS G U)) (Qd G Q) mc ms (gA G)
theorem am_intro {G : GG} {d mc ms : Nat} {y : MethodName} {cc : ByteArray} {L : Nat} {ret : Option FieldType} {av : List Value} {h : AH} {Q : Option Value → AH → Prop} (hy : plainName y.cls = true) (hL : (lg_sl av).length ≤ L)
    (k : X G (kM G d mc ms Q) y cc L ret 0 0 0 (lv_args 0 av) [] h) : AM G d mc ms y cc L ret av h Q := by
  intro l
  refine Met.ofW (cc := cc) (maxL := L) (ret := ret) hy rfl ?_
  intro p e s m args below meth c s₁ B hml hv
  obtain ⟨rfl, hR, hK⟩ := hv
  have hts := atoms_spec (ws := Cond.code y cc L ret :: tblG) B.pre
  have hown := findClass_of_methodNamed B.named
  have hgb : gB G ≤ s.heap.size := by rw [hR.2.2.1]; exact hR.2.1
  have hl := lv_entry av (n := L) hL
  rw [lg_entry_eq]
  exact k p l e s m av.toArray below meth c [] s.heap _ ⟨B.exec, B.bytes, hml, hown, fun w hw => hts w (List.mem_cons_of_mem _ hw), B.returns, B.notSynchronized, (name_of_methodNamed B.named B.method).1, hK, hgb, trivial⟩ hR va_S.rf hl
