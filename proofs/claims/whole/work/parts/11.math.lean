/-! WHAT THE STRAND IS, IN NUMBERS: F i k: of fort i, 0 kind, 1 number, 2 place, 3 realm, 4 height -/
def dryF (nu wa : Int32) : Prop := wa - wa / (nu + 2) * (nu + 2) = 0
def mxI (a b : Int32) : Int32 := if a < b then b else a
def mnI (a b : Int32) : Int32 := if b < a then b else a
noncomputable def lossF (k nu v wa : Int32) : Int32 := by
  classical
  exact if k = 1 then v / 2 else if k = 2 then (if 0 < nu + 2 ∧ dryF nu wa then 0 else v) else if k = 3 then v / 2 + nu else if k = 4 then (if 0 < nu + 2 ∧ dryF nu wa then 0 else 2 * v) else if k = 5 then mxI 0 (v - nu) else v
noncomputable def riseF (k v : Int32) : Int32 := by
  classical
  exact if k = 1 ∨ k = 3 then v + 1 else if k = 2 then v / 2 else if k = 4 then v / 2 + 1 else v
def underF (k kd : Int32) : Prop := k = 0 ∨ k = kd ∨ (k = 1 ∧ kd = 3) ∨ (k = 2 ∧ kd = 4)
theorem tw_max : tw (Cond.code Lib.Math.max.name Lib.Math.max.code 2 (some .int)) := tw_at 532 (by decide +kernel) rfl
theorem tw_min : tw (Cond.code Lib.Math.min.name Lib.Math.min.code 2 (some .int)) := tw_at 535 (by decide +kernel) rfl
theorem tw_math : tw (Cond.initialized "java/lang/Math") := tw_at 86 (by decide +kernel) rfl
section
variable {G : GG} {K : XK} {y : MethodName} {cc : ByteArray} {L : Nat} {ret : Option FieldType} {cs sl pc : Nat} {lv : List (Nat × Value)} {st : List Value} {h : AH}
theorem x_mmax {a b : Int32} {idx : Nat} (hd : decode cc pc = .ok (.invokestatic idx, 3)) (hv : SC y.cls idx yJ9_max_7cf53) (hW : (st.map fun v => v.category).sum ≤ 8) (hroom : roomy K 0 2) (hcs : cs ≤ K.1.cells) (hsl : sl ≤ K.1.slots) (k : X G K y cc L ret cs sl (pc + 3) lv (.int (mxI a b) :: st) h) : X G K y cc L ret cs sl pc lv (.int b :: .int a :: st) h := by
  intro p l e s m args below meth c locs H ls C R S V
  have hts := C.2.2.2.2.1
  exact va_mmax C.1 C.2.1 (C.2.2.1.trans V.1.symm) C.2.2.2.1 (hts _ hv.1.mem) (hts _ hv.2.mem) (hts _ tw_math.mem) (hts _ tw_max.mem) hroom.1 (by have := hroom.2; omega) hcs hsl hd (k p l e s m args below meth c locs H ls C R S V)
theorem x_mmin {a b : Int32} {idx : Nat} (hd : decode cc pc = .ok (.invokestatic idx, 3)) (hv : SC y.cls idx yJ9_min_7cf53) (hW : (st.map fun v => v.category).sum ≤ 8) (hroom : roomy K 0 2) (hcs : cs ≤ K.1.cells) (hsl : sl ≤ K.1.slots) (k : X G K y cc L ret cs sl (pc + 3) lv (.int (mnI a b) :: st) h) : X G K y cc L ret cs sl pc lv (.int b :: .int a :: st) h := by
  intro p l e s m args below meth c locs H ls C R S V
  have hts := C.2.2.2.2.1
  exact va_mmin C.1 C.2.1 (C.2.2.1.trans V.1.symm) C.2.2.2.1 (hts _ hv.1.mem) (hts _ hv.2.mem) (hts _ tw_math.mem) (hts _ tw_min.mem) hroom.1 (by have := hroom.2; omega) hcs hsl hd (k p l e s m args below meth c locs H ls C R S V)
end
/-- who shelters a fort at p -/
noncomputable def shelF (F : Nat → Nat → Int32) (p : Int32) : Nat → Int32 := by
  classical
  exact fun n => fd (fun o r => if F o 2 < p ∧ 0 < F o 4 ∧ ¬ F o 0 = 2 then r + 1 else r) 0 n
