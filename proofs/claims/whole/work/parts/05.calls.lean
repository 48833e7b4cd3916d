/-! CALLS, ENDS, NEW CELLS -/
noncomputable def bI (P : Prop) : Int32 := by
  classical
  exact if P then 1 else 0
theorem bI_t {P : Prop} (h : P) : bI P = 1 := by
  unfold bI
  simp [h]
theorem bI_f {P : Prop} (h : ¬ P) : bI P = 0 := by
  unfold bI
  simp [h]
theorem bI_0 {P : Prop} : bI P = 0 ↔ ¬ P := by
  by_cases h : P
  · rw [bI_t h]
    exact ⟨fun e => absurd e (by decide), fun e => absurd h e⟩
  · rw [bI_f h]
    exact ⟨fun _ => h, fun _ => rfl⟩
theorem bI_nar (P : Prop) : narrow .boolean (.int (bI P)) = .int (bI P) := by
  by_cases h : P
  · rw [bI_t h]; rfl
  · rw [bI_f h]; rfl
def qi (Q : Int32 → AH → Prop) : Option Value → AH → Prop := fun v h => ∃ r : Int32, v = some (.int r) ∧ Q r h
def ql (Q : Int64 → AH → Prop) : Option Value → AH → Prop := fun v h => ∃ r : Int64, v = some (.long r) ∧ Q r h
def qv (Q : AH → Prop) : Option Value → AH → Prop := fun v h => v = none ∧ Q h
def qa (Q : Option Nat → AH → Prop) : Option Value → AH → Prop := fun v h => ∃ r : Option Nat, v = some (va_rf r) ∧ Q r h
section
variable {G : GG} {y : MethodName} {cc : ByteArray} {L : Nat} {ret : Option FieldType} {cs sl pc d mc ms : Nat} {lv : List (Nat × Value)} {h : AH}
theorem x_iret {Q : Int32 → AH → Prop} {x : Int32} (hd : decode cc pc = .ok (.ireturn, 1)) (hr : ret = some .int) (hc : cs ≤ mc) (hs : sl ≤ ms) (q : Q x h) : X G (kM G d mc ms (qi Q)) y cc L ret cs sl pc lv [.int x] h := by
  intro p l e s m args below meth c locs H ls C R S V
  have hlocks : meth.locks = false := C.2.2.2.2.2.2.1
  refine W.widen hc hs ?_
  exact W.iret C.1 C.2.1 (C.2.2.2.2.2.1.trans hr) (fun t ht hW => ⟨⟨_, h, rfl, ⟨x, rfl, q⟩, by rw [ht]; exact R⟩, S.F ht⟩) S.2.2 hd
theorem x_zret {Q : Int32 → AH → Prop} {x : Int32} {ty : FieldType} (hd : decode cc pc = .ok (.ireturn, 1)) (hr : ret = some ty) (hn : narrow ty (.int x) = .int x) (hc : cs ≤ mc) (hs : sl ≤ ms) (q : Q x h) : X G (kM G d mc ms (qi Q)) y cc L ret cs sl pc lv [.int x] h := by
  intro p l e s m args below meth c locs H ls C R S V
  have hlocks : meth.locks = false := C.2.2.2.2.2.2.1
  refine W.widen hc hs ?_
  exact W.zret C.1 C.2.1 (C.2.2.2.2.2.1.trans hr) hn (fun t ht hW => ⟨⟨_, h, rfl, ⟨x, rfl, q⟩, by rw [ht]; exact R⟩, S.F ht⟩) S.2.2 hd
theorem x_lret {Q : Int64 → AH → Prop} {x : Int64} (hd : decode cc pc = .ok (.lreturn, 1)) (hr : ret = some .long) (hc : cs ≤ mc) (hs : sl ≤ ms) (q : Q x h) : X G (kM G d mc ms (ql Q)) y cc L ret cs sl pc lv [.long x] h := by
  intro p l e s m args below meth c locs H ls C R S V
  have hlocks : meth.locks = false := C.2.2.2.2.2.2.1
  refine W.widen hc hs ?_
  exact W.lret C.1 C.2.1 (C.2.2.2.2.2.1.trans hr) (fun t ht hW => ⟨⟨_, h, rfl, ⟨x, rfl, q⟩, by rw [ht]; exact R⟩, S.F ht⟩) S.2.2 hd
theorem x_vret {Q : AH → Prop} (hd : decode cc pc = .ok (.return_, 1)) (hr : ret = none) (hc : cs ≤ mc) (hs : sl ≤ ms) (q : Q h) : X G (kM G d mc ms (qv Q)) y cc L ret cs sl pc lv [] h := by
  intro p l e s m args below meth c locs H ls C R S V
  have hlocks : meth.locks = false := C.2.2.2.2.2.2.1
  refine W.widen hc hs ?_
  exact W.vret C.1 C.2.1 (C.2.2.2.2.2.1.trans hr) (fun t ht hW => ⟨⟨_, h, rfl, ⟨rfl, q⟩, by rw [ht]; exact R⟩, S.F ht⟩) S.2.2 hd
theorem x_aret {Q : Option Nat → AH → Prop} {x : Nat} {rt : FieldType} (hd : decode cc pc = .ok (.areturn, 1)) (hr : ret = some rt) (hrt : (∃ n, rt = .object n) ∨ ∃ t, rt = .array t) (hc : cs ≤ mc) (hs : sl ≤ ms) (q : Q (some x) h) : X G (kM G d mc ms (qa Q)) y cc L ret cs sl pc lv [.ref x] h := by
  intro p l e s m args below meth c locs H ls C R S V
  have hlocks : meth.locks = false := C.2.2.2.2.2.2.1
  refine W.widen hc hs ?_
  exact W.aret C.1 C.2.1 (C.2.2.2.2.2.1.trans hr) hrt (Or.inr ⟨x, rfl⟩) (fun t ht hW => ⟨⟨_, h, rfl, ⟨some x, rfl, q⟩, by rw [ht]; exact R⟩, S.F ht⟩) S.2.2 hd
theorem x_aretN {Q : Option Nat → AH → Prop} {rt : FieldType} (hd : decode cc pc = .ok (.areturn, 1)) (hr : ret = some rt) (hrt : (∃ n, rt = .object n) ∨ ∃ t, rt = .array t) (hc : cs ≤ mc) (hs : sl ≤ ms) (q : Q none h) : X G (kM G d mc ms (qa Q)) y cc L ret cs sl pc lv [.null] h := by
  intro p l e s m args below meth c locs H ls C R S V
  have hlocks : meth.locks = false := C.2.2.2.2.2.2.1
  refine W.widen hc hs ?_
  exact W.aret C.1 C.2.1 (C.2.2.2.2.2.1.trans hr) hrt (Or.inl rfl) (fun t ht hW => ⟨⟨_, h, rfl, ⟨none, rfl, q⟩, by rw [ht]; exact R⟩, S.F ht⟩) S.2.2 hd
end
/-! what the tables say of a call -/
def CRc (y' : MethodName) (cc' : ByteArray) (L' : Nat) (ret' : Option FieldType) (n : Nat) : Prop := tw (Cond.code y' cc' L' ret') ∧ tw (Cond.initialized y'.cls) ∧ y'.cls ≠ "java/lang/invoke/MethodHandle" ∧ y'.cls ≠ "java/lang/invoke/VarHandle" ∧ (parseMethodDescriptor y'.desc).map (fun d => d.parameters.length) = some n
def crcB (y' : MethodName) (cc' : ByteArray) (L' : Nat) (ret' : Option FieldType) (n : Nat) : Bool := twB (Cond.code y' cc' L' ret') && twB (Cond.initialized y'.cls) && !decide (y'.cls = "java/lang/invoke/MethodHandle") && !decide (y'.cls = "java/lang/invoke/VarHandle") && decide ((parseMethodDescriptor y'.desc).map (fun d => d.parameters.length) = some n)
theorem CRc.of {y' : MethodName} {cc' : ByteArray} {L' : Nat} {ret' : Option FieldType} {n : Nat} (h : crcB y' cc' L' ret' n = true) : CRc y' cc' L' ret' n := by
  unfold crcB at h
  simp only [Bool.and_eq_true, decide_eq_true_eq, Bool.not_eq_true', decide_eq_false_iff_not] at h
  exact ⟨tw.of h.1.1.1.1, tw.of h.1.1.1.2, h.1.1.2, h.1.2, h.2⟩
def VC (own : String) (idx : Nat) (y' : MethodName) : Prop := (tw (Cond.methodLink own idx y') ∨ Cond.methodLinkNest own idx y' "Sandcastles" ∈ lw_tbl) ∧ tw (Cond.instanceMethod y') ∧ tw (Cond.selects y'.cls y' y')
def vcB (own : String) (idx : Nat) (y' : MethodName) : Bool := (twB (Cond.methodLink own idx y') || decide (Cond.methodLinkNest own idx y' "Sandcastles" ∈ lw_tbl)) && twB (Cond.instanceMethod y') && twB (Cond.selects y'.cls y' y')
theorem VC.of {own : String} {idx : Nat} {y' : MethodName} (h : vcB own idx y' = true) : VC own idx y' := by
  unfold vcB at h
  simp only [Bool.and_eq_true, Bool.or_eq_true, decide_eq_true_eq] at h
  exact ⟨h.1.1.elim (fun q => Or.inl (tw.of q)) Or.inr, tw.of h.1.2, tw.of h.2⟩
def SC (own : String) (idx : Nat) (y' : MethodName) : Prop := tw (Cond.methodLink own idx y') ∧ tw (Cond.static y')
theorem SC.of {own : String} {idx : Nat} {y' : MethodName} (h : (twB (Cond.methodLink own idx y') && twB (Cond.static y')) = true) : SC own idx y' := by
  simp only [Bool.and_eq_true] at h
  exact ⟨tw.of h.1, tw.of h.2⟩
def IC (own : String) (idx : Nat) (y' : MethodName) : Prop := (tw (Cond.methodLink own idx y') ∨ Cond.methodLinkNest own idx y' "Sandcastles" ∈ lw_tbl) ∧ tw (Cond.instanceMethod y') ∧ y'.name = "<init>"
def icB (own : String) (idx : Nat) (y' : MethodName) : Bool := (twB (Cond.methodLink own idx y') || decide (Cond.methodLinkNest own idx y' "Sandcastles" ∈ lw_tbl)) && twB (Cond.instanceMethod y') && decide (y'.name = "<init>")
theorem IC.of {own : String} {idx : Nat} {y' : MethodName} (h : icB own idx y' = true) : IC own idx y' := by
  unfold icB at h
  simp only [Bool.and_eq_true, Bool.or_eq_true, decide_eq_true_eq] at h
  exact ⟨h.1.1.elim (fun q => Or.inl (tw.of q)) Or.inr, tw.of h.1.2, h.2⟩
theorem good_code {y' : MethodName} {cc' : ByteArray} {L' : Nat} {ret' : Option FieldType} {n : Nat} (h : CRc y' cc' L' ret' n) : GoodIn tblG (Cond.code y' cc' L' ret' :: tblG) := by
  intro w hw
  rcases List.mem_cons.mp hw with e | e
  · rw [e]
    exact ⟨h.1.mem, good_of_word h.1.2⟩
  · exact tblG_good w e
theorem blind {G : GG} {h : AH} {av : List Value} : FrameBlind (va_Pc av (fun U => RelH G h U.heap ∧ KS G U)) := fun _ U g mk q => ⟨q.1, q.2.1, KS.same (u := U) rfl rfl q.2.2⟩
section
variable {G : GG} {K : XK} {y : MethodName} {cc : ByteArray} {L : Nat} {ret : Option FieldType} {cs sl pc : Nat} {lv : List (Nat × Value)} {st rest : List Value} {h : AH}
variable {p : Program} {l : Launch} {e : Env} {s : State} {m : MethodId} {args : Array Value} {below : List Frame} {meth : Method} {c : Code} {locs : List Loc} {H : Heap} {ls : Array Slot}
theorem x_behind {a : Array Value} {mc' ms' : Nat} {Q' : Option Value → AH → Prop} {st0 : List Value} (hr : va_Run p l e K.1 s m args below meth c H locs cs sl mc' ms' (F0 m pc ls st0) rest (Qd G Q' a) (gA G)) (C : Cx G K y cc L ret p s m args meth c) (S : va_S (gA G) s.heap H locs) (V : lv_has ls L lv)
    (k : ∀ v h', Q' v h' → X G K y cc L ret (cs + mc') (sl + ms') (pc + 3) lv (v.toList ++ rest) h') : W p l e K.1 s m args below meth c H locs cs sl (K.2.1 below args s) (F0 m pc ls st0) := by
  intro T hT X0
  obtain ⟨v, st₀, t, T', L', h0, X', hL, e1, e2, ⟨⟨v', h', hv, hq, hRel⟩, hz, hk⟩, stp⟩ := hr T hT X0
  cases hv
  rw [h0] at hz hk
  obtain ⟨t2, a1, b1⟩ := k v h' hq p l e s m args below meth c (locs ++ L') T'.heap ls C (by rw [e1]; exact hRel)
    ⟨Nat.le_trans S.1 (by rw [e1]; exact hz), fun q h1 h2 => by rw [e1, hk q (Nat.lt_of_lt_of_le h1 S.1) h2]; exact S.2.1 q h1 h2, fun q hq => by
      rcases List.mem_append.mp hq with w | w
      · exact S.2.2 q w
      · exact hL q w⟩ V T' rfl X'
  exact ⟨t2, stp t2 a1, b1⟩
theorem pre_of {av : List Value} (C : Cx G K y cc L ret p s m args meth c) (R : RelH G h H) (S : va_S (gA G) s.heap H locs) : ∀ U : State, U.heap = H → s.WarmedH U.vm → va_Pc av (fun U => RelH G h U.heap ∧ KS G U) av.toArray U :=
  fun U hU hW => ⟨rfl, by rw [hU]; exact R, KS.warm hW (fun a h1 h2 => by rw [hU]; exact S.2.1 a h1 h2) C.2.2.2.2.2.2.2.2.1⟩
end
theorem rm_ok {d d' mc ms mc' ms' L' : Nat} (h1 : d' + 1 ≤ d) (h2 : L' ≤ 21) : (rmD d' mc' ms').frames + 1 ≤ (rmD d mc ms).frames ∧ 8 + (L' + 11) + (rmD d' mc' ms').locals ≤ (rmD d mc ms).locals := by
  unfold rmD
  refine ⟨h1, ?_⟩
  show 8 + (L' + 11) + 40 * d' ≤ 40 * d
  omega
/-- the room that a call finds -/
def roomy (K : XK) (d' L' : Nat) : Prop := d' + 1 ≤ K.1.frames ∧ 8 + (L' + 11) + 40 * d' ≤ K.1.locals
theorem roomy_k {G : GG} {d mc ms d' L' : Nat} {Q : Option Value → AH → Prop} (h1 : d' + 1 ≤ d) (h2 : L' ≤ 21) : roomy (kM G d mc ms Q) d' L' := rm_ok (mc := mc) (ms := ms) (mc' := 0) (ms' := 0) h1 h2
section
variable {G : GG} {K : XK} {y : MethodName} {cc : ByteArray} {L : Nat} {ret : Option FieldType} {cs sl pc : Nat} {lv : List (Nat × Value)} {st : List Value} {h : AH}
theorem x_callV {y' : MethodName} {cc' : ByteArray} {L' n d' mc' ms' idx b ci nb : Nat} {ret' : Option FieldType} {As rest : List Value} {Q' : Option Value → AH → Prop} {r : vw_C} (hA : AM G d' mc' ms' y' cc' L' ret' (.ref b :: As) h Q') (hd : decode cc pc = .ok (.invokevirtual idx, 3)) (hc : CRc y' cc' L' ret' n) (hv : VC y.cls idx y') (hb : hpS h b = (ci, nb)) (hcl : vwCl[ci]? = some r) (hcy : r.1 = y'.cls) (hn : As.length = n) (hst : st = As.reverse ++ .ref b :: rest) (hW : (rest.map fun v => v.category).sum ≤ 8) (hroom : roomy K d' L') (hcs : cs + mc' ≤ K.1.cells) (hsl : sl + ms' ≤ K.1.slots)
    (k : ∀ v h', Q' v h' → X G K y cc L ret (cs + mc') (sl + ms') (pc + 3) lv (v.toList ++ rest) h') : X G K y cc L ret cs sl pc lv st h := by
  subst hst
  intro p l e s m args below meth c locs H ls C R S V
  have hts := C.2.2.2.2.1
  have hci := cl_lt hcl
  have hbl := R.1 b (by rw [hb]; show ci ≤ 13; omega)
  have hv0 := wsH_get (cA := G.2.1) hbl.1 hbl.2
  rw [en_obj hb hci] at hv0
  have hrecv := va_recv C.2.2.2.2.2.2.2.2.1.1 R.2.2.2 hcl hv0
  rw [hcy] at hrecv
  have hg : ({ F0 m pc ls (As.reverse ++ .ref b :: rest) with stack := [] } : JFrame).monitorRoom = 0 := rfl
  rcases hv.1 with hl | hl
  · refine x_behind (va_runV (As := As) (rest := rest) (b := b) (C := y'.cls) (index := idx) (n := n) ⟨C.1, C.2.1, rfl, C.2.2.2.1, hts⟩ (hA l) ⟨callB_of n hts (good_code hc) rfl rfl rfl (hts _ hc.2.1.mem) (hts _ hl.mem) ⟨hc.2.2.1, hc.2.2.2.1, hc.2.2.2.2⟩ hroom, hts _ hv.2.1.mem, hts _ hv.2.2.mem⟩ ⟨blind, hrecv, pre_of C R S⟩ rfl hn (V.1.trans C.2.2.1.symm) rfl (by show 2 * 0 + _ ≤ 8; omega) hd ⟨hcs, hsl⟩) C S V k
  · refine x_behind (va_runVN (host := "Sandcastles") (As := As) (rest := rest) (b := b) (C := y'.cls) (index := idx) (n := n) ⟨C.1, C.2.1, rfl, C.2.2.2.1, hts⟩ (hA l) ⟨va_cnB n hts (good_code hc) rfl rfl rfl (C.2.2.2.2.2.2.2.2.1.2.1 _ hl rfl) (hts _ hc.2.1.mem) ⟨hc.2.2.1, hc.2.2.2.1, hc.2.2.2.2⟩ hroom, hts _ hv.2.1.mem, hts _ hv.2.2.mem⟩ ⟨blind, hrecv, pre_of C R S⟩ rfl hn (V.1.trans C.2.2.1.symm) rfl (by show 2 * 0 + _ ≤ 8; omega) hd ⟨hcs, hsl⟩) C S V k
theorem x_callS {y' : MethodName} {cc' : ByteArray} {L' n d' mc' ms' idx : Nat} {ret' : Option FieldType} {As rest : List Value} {Q' : Option Value → AH → Prop} (hA : AM G d' mc' ms' y' cc' L' ret' As h Q') (hd : decode cc pc = .ok (.invokestatic idx, 3)) (hc : CRc y' cc' L' ret' n) (hv : SC y.cls idx y') (hn : As.length = n) (hst : st = As.reverse ++ rest) (hW : (rest.map fun v => v.category).sum ≤ 8) (hroom : roomy K d' L') (hcs : cs + mc' ≤ K.1.cells) (hsl : sl + ms' ≤ K.1.slots)
    (k : ∀ v h', Q' v h' → X G K y cc L ret (cs + mc') (sl + ms') (pc + 3) lv (v.toList ++ rest) h') : X G K y cc L ret cs sl pc lv st h := by
  subst hst
  intro p l e s m args below meth c locs H ls C R S V
  have hts := C.2.2.2.2.1
  exact x_behind (va_runS (As := As) (rest := rest) (index := idx) (n := n) ⟨C.1, C.2.1, rfl, C.2.2.2.1, hts⟩ (hA l) ⟨callB_of n hts (good_code hc) rfl rfl rfl (hts _ hc.2.1.mem) (hts _ hv.1.mem) ⟨hc.2.2.1, hc.2.2.2.1, hc.2.2.2.2⟩ hroom, hts _ hv.2.mem⟩ ⟨blind, pre_of C R S⟩ rfl hn (V.1.trans C.2.2.1.symm) rfl (by show 2 * 0 + _ ≤ 8; omega) hd ⟨hcs, hsl⟩) C S V k
theorem x_callI {y' : MethodName} {cc' : ByteArray} {L' n d' mc' ms' idx b : Nat} {As rest : List Value} {Q' : Option Value → AH → Prop} (hA : AM G d' mc' ms' y' cc' L' none (.ref b :: As) h Q') (hd : decode cc pc = .ok (.invokespecial idx, 3)) (hc : CRc y' cc' L' none n) (hv : IC y.cls idx y') (hn : As.length = n) (hst : st = As.reverse ++ .ref b :: rest) (hW : (rest.map fun v => v.category).sum ≤ 8) (hroom : roomy K d' L') (hcs : cs + mc' ≤ K.1.cells) (hsl : sl + ms' ≤ K.1.slots)
    (k : ∀ v h', Q' v h' → X G K y cc L ret (cs + mc') (sl + ms') (pc + 3) lv (v.toList ++ rest) h') : X G K y cc L ret cs sl pc lv st h := by
  subst hst
  intro p l e s m args below meth c locs H ls C R S V
  have hts := C.2.2.2.2.1
  rcases hv.1 with hl | hl
  · exact x_behind (va_runI (As := As) (rest := rest) (b := b) (index := idx) (n := n) ⟨C.1, C.2.1, rfl, C.2.2.2.1, hts⟩ (hA l) ⟨callB_of n hts (good_code hc) rfl rfl rfl (hts _ hc.2.1.mem) (hts _ hl.mem) ⟨hc.2.2.1, hc.2.2.2.1, hc.2.2.2.2⟩ hroom, hv.2.2, hts _ hv.2.1.mem⟩ ⟨blind, pre_of C R S⟩ rfl hn (V.1.trans C.2.2.1.symm) rfl (by show 2 * 0 + _ ≤ 8; omega) hd ⟨hcs, hsl⟩) C S V k
  · exact x_behind (va_runIN (host := "Sandcastles") (As := As) (rest := rest) (b := b) (index := idx) (n := n) ⟨C.1, C.2.1, rfl, C.2.2.2.1, hts⟩ (hA l) ⟨va_cnB n hts (good_code hc) rfl rfl rfl (C.2.2.2.2.2.2.2.2.1.2.1 _ hl rfl) (hts _ hc.2.1.mem) ⟨hc.2.2.1, hc.2.2.2.1, hc.2.2.2.2⟩ hroom, hv.2.2, hts _ hv.2.1.mem⟩ ⟨blind, pre_of C R S⟩ rfl hn (V.1.trans C.2.2.1.symm) rfl (by show 2 * 0 + _ ≤ 8; omega) hd ⟨hcs, hsl⟩) C S V k
end
