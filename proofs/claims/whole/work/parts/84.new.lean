/-! NEW CELLS -/
theorem nUp_S_same {h : AH} {kd n : Nat} : hpS (nUp h kd n) (hpZ h) = (kd, n) := if_pos rfl
theorem nUp_S_ne {h : AH} {kd n q : Nat} (hq : q ≠ hpZ h) : hpS (nUp h kd n) q = hpS h q := if_neg hq
theorem nUp_I_same {h : AH} {kd n : Nat} : hpI (nUp h kd n) (hpZ h) = fun _ => 0 := funext fun _ => if_pos rfl
theorem nUp_I_ne {h : AH} {kd n q : Nat} (hq : q ≠ hpZ h) : hpI (nUp h kd n) q = hpI h q := funext fun _ => if_neg hq
theorem nUp_R_same {h : AH} {kd n : Nat} : hpR (nUp h kd n) (hpZ h) = fun _ => none := funext fun _ => if_pos rfl
theorem nUp_R_ne {h : AH} {kd n q : Nat} (hq : q ≠ hpZ h) : hpR (nUp h kd n) q = hpR h q := funext fun _ => if_neg hq
theorem rel_fresh {G : GG} {h g : AH} {H H1 : Heap} {k : Nat} (R : RelH G h H) (hg : hpZ g = hpZ h + k) (hS : ∀ q, hpZ h + k ≤ q → hpS g q = hpS h q) (hq : ∀ q, q < hpZ h → hpS g q = hpS h q ∧ hpI g q = hpI h q ∧ hpR g q = hpR h q) (hz : H1.size = H.size + k) (ho : ∀ q : Nat, q < H.size → H1[q]? = H[q]?) (he : ∀ j, j < k → va_at G.1 vwCl (hpZ h + j, en G.2.1 g (hpZ h + j)) H1) : RelH G g H1 := by
  refine ⟨fun a ha => ?_, ?_, ?_, fun i q hi => ?_⟩
  · have hb := R.2.1
    rw [hg]
    by_cases e : a < hpZ h
    · rw [(hq a e).1] at ha
      have := R.1 a ha
      omega
    · by_cases e2 : hpZ h + k ≤ a
      · rw [hS a e2] at ha
        have := R.1 a ha
        omega
      · omega
  · have hb := R.2.1
    rw [hg]
    omega
  · rw [hz, R.2.2.1, hg]
  · obtain ⟨h1, rfl⟩ := wsH_of hi
    rw [hg] at h1
    have hb := R.2.1
    by_cases e : gB G + i < hpZ h
    · rw [en_other (hq _ e).1 (hq _ e).2.1 (hq _ e).2.2]
      exact (R.2.2.2 _ _ (wsH_get (cA := G.2.1) (Nat.le_add_right _ _) e)).kept (ho _ (by rw [R.2.2.1]; exact e))
    · have e3 : gB G + i = hpZ h + (gB G + i - hpZ h) := by omega
      rw [e3]
      exact he _ (by omega)
theorem rel_new {G : GG} {h : AH} {H H1 : Heap} {kd n : Nat} (R : RelH G h H) (hz : H1.size = hpZ h + 1) (ho : ∀ q : Nat, q < hpZ h → H1[q]? = H[q]?) (he : va_at G.1 vwCl (hpZ h, en G.2.1 (nUp h kd n) (hpZ h)) H1) : RelH G (nUp h kd n) H1 := by
  refine rel_fresh R (k := 1) rfl (fun q e => nUp_S_ne (by omega)) (fun q e => ⟨nUp_S_ne (by omega), nUp_I_ne (by omega), nUp_R_ne (by omega)⟩) (by rw [hz, R.2.2.1]) (fun q e => ho q (by rw [← R.2.2.1]; exact e)) (fun j hj => ?_)
  rw [show j = 0 by omega]
  exact he
def dfB (ci : Nat) : Bool := (List.range (slN ci)).all fun k => decide (defaultValue (tyAt ci k) = if slInt ci k = true then Value.int 0 else Value.null)
theorem dfB_all : (List.range 9).all dfB = true := by decide +kernel
section
variable {G : GG} {K : XK} {y : MethodName} {cc : ByteArray} {L : Nat} {ret : Option FieldType} {cs sl pc : Nat} {lv : List (Nat × Value)} {st : List Value} {h : AH}
theorem vS_new {A : Nat → Prop} {H0 H H1 : Heap} {locs : List Loc} {z k : Nat} (S : va_S A H0 H locs) (hz0 : H.size = z) (hz : H1.size = z + k) (ho : ∀ q : Nat, q < z → H1[q]? = H[q]?) : va_S A H0 H1 locs :=
  ⟨Nat.le_trans S.1 (by omega), fun x h1 h2 => (ho x (by have := S.1; omega)).trans (S.2.1 x h1 h2), S.2.2⟩
theorem nI_n0 {N : Nat} (hN : N ≤ 100000) : ¬ nI N < 0 := fun q => Int32.lt_irrefl (Int32.lt_of_lt_of_le q (nI_pos' (n := N) (by omega)))
theorem tw_ac : tw (Cond.arrayClass .int) := tw_at 120 (by decide +kernel) rfl
theorem x_newI {N : Nat} {i : Int32} (hd : decode cc pc = .ok (.newarray .int, 2)) (hi : i = nI N) (hN : N ≤ 100000) (hcs : cs + 1 ≤ K.1.cells) (hsl : sl + N ≤ K.1.slots) (kk : X G K y cc L ret (cs + 1) (sl + N) (pc + 2) lv (.ref (hpZ h) :: st) (nUp h 9 N)) : X G K y cc L ret cs sl pc lv (.int i :: st) h := by
  subst hi
  intro p l e s m args below meth c locs H ls C R S V
  have hK0 := C.2.2.2.2.2.2.2.2.1.1.2 0 _ rfl
  refine va_newaK (atype := .int) C.1 C.2.1 (C.2.2.2.2.1 _ tw_ac.mem) rfl hd rfl (nI_n0 hN) (nI_clamp (by omega)) (by show N * 4 ≤ _; omega) hcs hsl R.2.2.1 fun H1 cA e1 z1 o1 hA hn => ?_
  have hcA : cA = G.2.1 9 := Option.some.inj (hn.symm.trans hK0.2)
  subst hcA
  refine kk p l e s m args below meth c locs H1 ls C (rel_new R z1 o1 ?_) (vS_new S R.2.2.1 z1 o1) V
  rw [en_ints nUp_S_same]
  show H1[hpZ h]? = some (vp_cell _ _)
  rw [vp_cell_i, nUp_I_same]
  exact e1
theorem x_newQ {N idx kd : Nat} {E : String} {i : Int32} (hd : decode cc pc = .ok (.anewarray idx, 3)) (hl : tw (Cond.classLink y.cls idx E)) (hao : ∀ U, KS G U → va_AO E U) (hk : 10 ≤ kd) (hk2 : kd ≤ 13) (hty : tyk kd = .object E) (hi : i = nI N) (hN : N ≤ 100000) (hcs : cs + 1 ≤ K.1.cells) (hsl : sl + N ≤ K.1.slots) (kk : X G K y cc L ret (cs + 1) (sl + N) (pc + 3) lv (.ref (hpZ h) :: st) (nUp h kd N)) : X G K y cc L ret cs sl pc lv (.int i :: st) h := by
  subst hi
  intro p l e s m args below meth c locs H ls C R S V
  have hK0 := C.2.2.2.2.2.2.2.2.1.1.2 (kd - 9) _ (tysL_at G.2.1 (by omega) hk2)
  rw [hty] at hK0
  obtain ⟨kA', comp', k1, k2, k3, k4⟩ := hK0.2
  have hcl := nI_clamp (n := N) (by omega)
  refine W.anew C.1 C.2.1 C.2.2.2.1 (C.2.2.2.2.1 _ hl.mem) (va_AO.use (hao s C.2.2.2.2.2.2.2.2.1)) rfl hd rfl (nI_n0 hN) (by rw [hcl]; omega) hcs (by rw [hcl]; exact hsl) fun cA kA comp f1 f2 f3 f4 => ?_
  rw [hcl]
  generalize hH1 : H.push ({ cls := cA, slots := Array.replicate N .null, vm := .none } : Cell) = H1
  have z1 : H1.size = hpZ h + 1 := by rw [← hH1, Array.size_push, R.2.2.1]
  have e1 : H1[hpZ h]? = some (arrV cA N (fun _ => .null)) := by rw [← hH1, ← R.2.2.1, Array.getElem?_push_size, ← arrV_new]
  have o1 : ∀ q : Nat, q < hpZ h → H1[q]? = H[q]? := fun q hq => by rw [← hH1, Array.getElem?_push, if_neg (by rw [R.2.2.1]; exact Nat.ne_of_lt hq)]
  have hcA : cA = G.2.1 kd := Option.some.inj (f1.symm.trans k4)
  subst hcA
  have := kk p l e s m args below meth c locs H1 ls C (rel_new R z1 o1 (by
    rw [en_refs nUp_S_same hk]
    show H1[hpZ h]? = some (vp_cell _ _)
    rw [vp_cell_q, nUp_R_same]
    exact e1)) (vS_new S R.2.2.1 z1 o1) V
  rw [← R.2.2.1] at this
  exact this
theorem x_new {idx ci : Nat} {r : vw_C} (hd : decode cc pc = .ok (.new idx, 3)) (hr : vwCl[ci]? = some r) (hl : tw (Cond.classLink y.cls idx r.1)) (hins : tw (Cond.instantiable r.1 r.2.2)) (hini : tw (Cond.initialized r.1)) (hcs : cs + 1 ≤ K.1.cells) (hsl : sl + r.2.2 ≤ K.1.slots) (kk : X G K y cc L ret (cs + 1) (sl + r.2.2) (pc + 3) lv (.ref (hpZ h) :: st) (nUp h ci r.2.2)) : X G K y cc L ret cs sl pc lv st h := by
  intro p l e s m args below meth c locs H ls C R S V
  have hts := C.2.2.2.2.1
  have hKn := C.2.2.2.2.2.2.2.2.1.1.1 ci _ hr
  obtain ⟨hw, hty, hnn, hN⟩ := cl_ok hr
  refine W.newcK C.1 C.2.1 C.2.2.2.1 (hts _ hl.mem) (hts _ hins.mem) (hts _ hini.mem) rfl hd hcs hsl hKn.2.1 R.2.2.1 fun H1 kC hkC e1 z1 o1 => ?_
  refine kk p l e s m args below meth c locs H1 ls C (rel_new R z1 o1 ?_) (vS_new S R.2.2.1 z1 o1) V
  rw [en_obj nUp_S_same (cl_lt hr)]
  refine ⟨_, hr, (u_born (tyAt ci) hts hw hKn hkC e1 hty).to (fun k hk => ?_)⟩
  have hdf := List.all_eq_true.mp dfB_all ci (List.mem_range.mpr (cl_lt hr))
  unfold dfB at hdf
  simp only [List.all_eq_true, List.mem_range, decide_eq_true_eq] at hdf
  have hk2 : k < slN ci := by rw [hN]; exact hk
  refine (hdf k hk2).trans ?_
  show _ = (enO _ ci (hpZ h)).getD k .null
  unfold enO
  rw [List.getD_eq_getElem?_getD, List.getElem?_map, List.getElem?_range hk2]
  simp only [Option.map_some, Option.getD_some]
  unfold enV
  rw [nUp_I_same, nUp_R_same]
  rfl
theorem x_oinit {idx a : Nat} {rest : List Value} (hd : decode cc pc = .ok (.invokespecial idx, 3)) (hl : tw (Cond.methodLink y.cls idx Lib.objectInit)) (hw : (rest.map fun v => v.category).sum ≤ 8) (hf : 1 ≤ K.1.frames) (hlo : 20 ≤ K.1.locals) (kk : X G K y cc L ret cs sl (pc + 3) lv rest h) : X G K y cc L ret cs sl pc lv (.ref a :: rest) h := by
  intro p l e s m args below meth c locs H ls C R S V
  have hts := C.2.2.2.2.1
  refine W.objInit C.1 C.2.1 C.2.2.2.1 (hts _ hl.mem) (hts _ (tw_at 96 (by decide +kernel) rfl).mem) (hts _ (tw_at 97 (by decide +kernel) rfl).mem) rfl (V.1.trans C.2.2.1.symm) rfl hd hf (by show 2 * 0 + _ + 12 ≤ _; omega) ?_
  exact kk p l e s m args below meth c locs H ls C R S V
/-- a matrix of ints: three rows -/
def mUp (h : AH) : AH := ((hpZ h + 4, fun a => if a = hpZ h then (13, 3) else if hpZ h < a ∧ a < hpZ h + 4 then (9, 8) else hpS h a), (fun a k => if hpZ h ≤ a ∧ a < hpZ h + 4 then 0 else hpI h a k), fun a k => if a = hpZ h then (if k < 3 then some (hpZ h + 1 + k) else none) else if hpZ h ≤ a ∧ a < hpZ h + 4 then none else hpR h a k)
theorem outer_arr (c : ClassId) (N h0 : Nat) : ∀ i, Jvm.Free.Multi.outerC c N h0 i = arrV c N (fun j => if j < i then .ref (h0 + 1 + j) else .null)
  | 0 => by
    show ({ cls := c, slots := Array.replicate N .null, vm := .none } : Cell) = _
    rw [arrV_new]
    congr 1
  | i + 1 => by
    show (Jvm.Free.Multi.outerC c N h0 i).setSlot i (.ref (h0 + 1 + i)) = _
    rw [outer_arr c N h0 i, arrV_store]
    congr 1
    funext j
    unfold updV
    by_cases hj : j = i
    · rw [if_pos hj, if_pos (by omega), hj]
    · rw [if_neg hj]
      show (if j < i then Value.ref (h0 + 1 + j) else Value.null) = _
      by_cases hj2 : j < i
      · rw [if_pos hj2, if_pos (by omega)]
      · rw [if_neg hj2, if_neg (by omega)]
theorem x_multi {idx : Nat} {n k : Int32} (hd : decode cc pc = .ok (.multianewarray idx 2, 4)) (hl : tw (Cond.classLink y.cls idx "[[I")) (hn : n = 3) (hk : k = 8) (hcs : cs + 4 ≤ K.1.cells) (hsl : sl + 27 ≤ K.1.slots) (kk : X G K y cc L ret (cs + 4) (sl + 27) (pc + 4) lv (.ref (hpZ h) :: st) (mUp h)) : X G K y cc L ret cs sl pc lv (.int k :: .int n :: st) h := by
  subst hn
  subst hk
  intro p l e s m args below meth c locs H ls C R S V T hT X0
  have hts := C.2.2.2.2.1
  have hK := C.2.2.2.2.2.2.2.2.1
  obtain ⟨vm₁, cA, comp, hW, hfA, hfC, hO, hI, X1, step⟩ := X0.multianewarray2F C.1 C.2.2.2.1 (ty := .int) (hts _ hl.mem) hK.2.2.2.2.2.2.2 (hts _ tw_ac.mem) (g := F0 m pc ls (.int 8 :: .int 3 :: st)) rfl (by rw [C.2.1]; exact hd) rfl (by decide) (by decide) (by decide) (by decide) (by decide) rfl rfl hcs hsl
  have hA : cA = G.2.1 13 := Option.some.inj (hfA.symm.trans (hK.1.2 4 _ rfl).2)
  have hB : comp = G.2.1 9 := Option.some.inj (hfC.symm.trans (hK.1.2 0 _ rfl).2)
  subst hA
  subst hB
  have hs0 : (T.setVm vm₁).heap.size = hpZ h := by
    show T.heap.size = _
    rw [hT, R.2.2.1]
  obtain ⟨f1, f2, -, -⟩ := Jvm.Free.Multi.fill_facts (T.setVm vm₁) (G.2.1 13) (G.2.1 9) (3 : Int32).toNatClampNeg (8 : Int32).toNatClampNeg (defaultValue .int) (3 : Int32).toNatClampNeg
  have fo : ∀ q : Nat, q < hpZ h → (Jvm.Free.Multi.fill (T.setVm vm₁) (G.2.1 13) (G.2.1 9) (3 : Int32).toNatClampNeg (8 : Int32).toNatClampNeg (defaultValue .int) (3 : Int32).toNatClampNeg).heap[q]? = H[q]? := fun q hq => by
    rw [Jvm.Free.Multi.fill_old _ _ _ _ _ _ (by rw [hs0]; exact hq)]
    show T.heap[q]? = _
    rw [hT]
  have fi := fun j hj => Jvm.Free.Multi.fill_inner (T.setVm vm₁) (G.2.1 13) (G.2.1 9) (3 : Int32).toNatClampNeg (8 : Int32).toNatClampNeg (defaultValue .int) (3 : Int32).toNatClampNeg j hj
  rw [hs0] at f1 f2 fi
  generalize hF : Jvm.Free.Multi.fill (T.setVm vm₁) (G.2.1 13) (G.2.1 9) (3 : Int32).toNatClampNeg (8 : Int32).toNatClampNeg (defaultValue .int) (3 : Int32).toNatClampNeg = F at *
  have hz4 : F.heap.size = hpZ h + 4 := f1
  have hrel : RelH G (mUp h) F.heap := by
    refine rel_fresh R (k := 4) rfl (fun q e => ?_) (fun q e => ⟨?_, funext fun k => ?_, funext fun k => ?_⟩) (by rw [hz4, R.2.2.1]) (fun q e => fo q (by rw [← R.2.2.1]; exact e)) (fun j hj => ?_)
    · show (if q = hpZ h then _ else if hpZ h < q ∧ q < hpZ h + 4 then _ else _) = _
      rw [if_neg (by omega), if_neg (by omega)]
    · show (if q = hpZ h then _ else if hpZ h < q ∧ q < hpZ h + 4 then _ else _) = _
      rw [if_neg (by omega), if_neg (by omega)]
    · show (if hpZ h ≤ q ∧ q < hpZ h + 4 then _ else _) = _
      rw [if_neg (by omega)]
    · show (if q = hpZ h then _ else if hpZ h ≤ q ∧ q < hpZ h + 4 then _ else _) = _
      rw [if_neg (by omega), if_neg (by omega)]
    · by_cases e0 : j = 0
      · rw [e0, Nat.add_zero, en_refs (h := mUp h) (a := hpZ h) (kd := 13) (n := 3) (if_pos rfl) (by decide)]
        show F.heap[hpZ h]? = some (vp_cell _ _)
        rw [f2, vp_cell_q, outer_arr]
        congr 2
        funext k
        show _ = va_rf (if hpZ h = hpZ h then (if k < 3 then some (hpZ h + 1 + k) else none) else _)
        rw [if_pos rfl]
        by_cases hk : k < 3
        · rw [if_pos (show k < (3 : Int32).toNatClampNeg from hk), if_pos hk]; rfl
        · rw [if_neg (show ¬ k < (3 : Int32).toNatClampNeg from hk), if_neg hk]; rfl
      · rw [en_ints (h := mUp h) (a := hpZ h + j) (n := 8) (by
          show (if hpZ h + j = hpZ h then _ else if hpZ h < hpZ h + j ∧ hpZ h + j < hpZ h + 4 then _ else _) = _
          rw [if_neg (by omega), if_pos (by omega)])]
        show F.heap[hpZ h + j]? = some (vp_cell _ _)
        have := fi (j - 1) (show j - 1 < 3 by omega)
        rw [show hpZ h + 1 + (j - 1) = hpZ h + j by omega] at this
        rw [this, vp_cell_i]
        show some ({ cls := G.2.1 9, slots := Array.replicate 8 (.int 0), vm := .none } : Cell) = _
        rw [arrV_new]
        congr 2
        funext k
        show Value.int 0 = .int (if hpZ h ≤ hpZ h + j ∧ hpZ h + j < hpZ h + 4 then 0 else _)
        rw [if_pos (by omega)]
  obtain ⟨t, a1, b1⟩ := kk p l e s m args below meth c locs F.heap ls C hrel (vS_new S R.2.2.1 hz4 fo) V F rfl X1
  refine ⟨t, step t ?_, b1⟩
  have e0 : T.heap.size = hpZ h := by rw [hT, R.2.2.1]
  show Steps p.tables e below (F.setTop (F0 m (pc + 4) ls (.ref T.heap.size :: st))) t
  rw [e0]
  exact a1
end
