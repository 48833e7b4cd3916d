/-! FROM THE LAW'S ENTRY TO ITS END -/
theorem cl_7 : tw (Cond.classLink "SandcastlesLaw" 7 "Sandcastles") := (tw_at 90 (by decide +kernel) rfl)
theorem cl_10 : tw (Cond.classLink "SandcastlesLaw" 10 "SandcastlesModel") := (tw_at 821 (by decide +kernel) rfl)
theorem sgI_wi {P : Nat → List Int32} : WI (sgI P) := by
  have h := WI.text (res := (true, 58, P)) sg0_wi
  have e : textS sg0 (true, 58, P) = sgI P := by
    unfold textS
    rw [if_neg (show ¬ gTc sg0 = 6 by decide), if_pos rfl]
    rfl
  rw [e] at h
  exact h
set_option maxHeartbeats 4000000 in
set_option maxRecDepth 100000 in
theorem law_0 {G : GG} {b0 Ls n0 : Nat} {xs : Nat → Int32} {nm : String} (hL3 : Ls ≤ 3072) : X G (KL G b0 Ls xs) (yL nm) code 4 ret 0 0 0 [(0, .ref b0)] [] ((n0, fun _ => (14, 0)), (fun _ _ => 0), fun _ _ => none) := by
  obtain ⟨P, htx⟩ := tx_0
  refine x_new (ci := 7) dL_law_0 rfl cl_7 (tw_at 91 (by decide +kernel) rfl) (tw_at 73 (by decide +kernel) rfl) (Nat.le_of_ble_eq_true rfl) (Nat.le_of_ble_eq_true rfl) ?_
  obtain ⟨g1, e1⟩ : ∃ g : AH, g = nUp ((n0, fun _ => (14, 0)), (fun _ _ => 0), fun _ _ => none) 7 10 := ⟨_, rfl⟩
  refine x_eq (g := g1) e1.symm ?_
  show X G (KL G b0 Ls xs) (yL nm) code 4 ret (0 + 1) (0 + 10) 3 [(0, .ref b0)] [.ref n0] g1
  have z1 : g1.1.1 = n0 + 1 := by rw [e1]; rfl
  have z2 : g1.1.2 n0 = (7, 10) := by rw [e1]; exact if_pos rfl
  have z3 : ∀ k, g1.2.1 n0 k = 0 := fun k => by rw [e1]; exact if_pos rfl
  obtain ⟨Sh, I, R⟩ := g1
  refine x_dup dL_law_3 rfl ?_
  refine x_callI (k_cinit (G := G) (b := n0) htx z1 z2 z3) dL_law_4 crc_X7_init ic_L_9 rfl rfl (Nat.le_of_ble_eq_true rfl) ⟨Nat.le_of_ble_eq_true rfl, Nat.le_of_ble_eq_true rfl⟩ (Nat.le_of_ble_eq_true rfl) (Nat.le_of_ble_eq_true rfl) ?_
  rintro _ _ ⟨rfl, S1, I1, R1, rfl, hc, hz, hf⟩
  refine x_astore_n (lv' := [(1, .ref n0), (0, .ref b0)]) dL_law_7 rfl (by decide) rfl ?_
  refine x_new (ci := 8) dL_law_8 rfl cl_10 (tw_at 822 (by decide +kernel) rfl) (tw_at 85 (by decide +kernel) rfl) (Nat.le_of_ble_eq_true rfl) (Nat.le_of_ble_eq_true rfl) ?_
  rw [show hpZ (S1, I1, R1) = n0 + 69 from hz]
  obtain ⟨g2, e2⟩ : ∃ g : AH, g = nUp (S1, I1, R1) 8 35 := ⟨_, rfl⟩
  refine x_eq (g := g2) e2.symm ?_
  have w1 : g2.1.1 = n0 + 69 + 1 := by rw [e2]; exact congrArg (· + 1) hz
  have w2 : g2.1.2 (n0 + 69) = (8, 35) := by rw [e2]; exact if_pos hz.symm
  have w3 : ∀ k, g2.2.1 (n0 + 69) k = 0 := fun k => by rw [e2]; exact if_pos hz.symm
  have w4 : ∀ a, a < n0 + 69 → g2.1.2 a = S1.2 a ∧ ∀ k, g2.2.1 a k = I1 a k ∧ g2.2.2 a k = R1 a k := fun a ha => by
    have hne : ¬ a = S1.1 := by omega
    rw [e2]
    exact ⟨if_neg hne, fun k => ⟨if_neg hne, if_neg hne⟩⟩
  obtain ⟨Sh2, I2, R2⟩ := g2
  refine x_dup dL_law_11 rfl ?_
  refine x_callI (k_minit (G := G) (b := n0 + 69) htx w1 w2 w3) dL_law_12 crc_X8_init ic_L_12 rfl rfl (Nat.le_of_ble_eq_true rfl) ⟨Nat.le_of_ble_eq_true rfl, Nat.le_of_ble_eq_true rfl⟩ (Nat.le_of_ble_eq_true rfl) (Nat.le_of_ble_eq_true rfl) ?_
  rintro _ _ ⟨rfl, S3, I3, R3, rfl, hm, hz3, hf3⟩
  refine x_astore_n (lv' := [(2, .ref (n0 + 69)), (1, .ref n0), (0, .ref b0)]) dL_law_15 rfl (by decide) rfl ?_
  refine x_iconst (v := nI 0) dL_law_16 (by decide) ?_
  refine x_istore_n (lv' := [(3, .int (nI 0)), (2, .ref (n0 + 69)), (1, .ref n0), (0, .ref b0)]) dL_law_17 rfl (by decide) rfl ?_
  exact law_loop hL3 (Ls + 7) 0 (sgI P) I3 R3 (Nat.zero_le _) (by omega) (hc.cong (fun a h1 h2 => ((hf3 a (by omega)).1).trans (w4 a (by omega)).1) (fun a k h1 h2 => ((hf3 a (by omega)).2 k).1.trans ((w4 a (by omega)).2 k).1) (fun a k h1 h2 => ((hf3 a (by omega)).2 k).2.trans ((w4 a (by omega)).2 k).2)) hm sgI_wi
set_option maxHeartbeats 4000000 in
theorem whole_start {p : Program} {e : Env} {s : State} {m : MethodId} {below : List Frame} {meth : Method} {c : Code} (l : Launch) (hflags : l.flags = flags0) {b L : Nat} {xs : Nat → Int32} (hL : L ≤ 3072) (C0 : lw_At p s m meth c b L xs) : W p l e room_1 s m #[Value.ref b] below meth c s.heap [] 0 0 (lw_Z below #[Value.ref b] s) (entryFrame m ([Value.ref b] : List Value).toArray 4) := by
  obtain ⟨hx, hb, hr, hml, hown, hts, hX, hbl, hlocks, hgv⟩ := id C0
  have hg := flat_of_before _ hgv
  obtain ⟨G, hgb, hK⟩ := KS_start hts hg
  have hl := lv_entry ([.ref b]) (n := 4) (Nat.le_of_ble_eq_true rfl)
  rw [lg_entry_eq]
  generalize (lg_sl ([.ref b]) ++ List.replicate (4 - (lg_sl ([.ref b])).length) Slot.unset).toArray = ls at hl ⊢
  have hl : lv_has ls 4 [(0, .ref b)] := hl
  refine law_0 (G := G) (b0 := b) (Ls := L) (n0 := s.heap.size) (xs := xs) (nm := meth.name) hL p l e s m #[Value.ref b] below meth c [] s.heap ls ⟨hx, hb, hml, hown, fun w hw => hts w (List.mem_filter.mp hw).1, hr, hlocks, rfl, hK, Nat.le_of_eq hgb, rfl, hX, hbl, hgb⟩ ?_ va_S.rf hl
  refine ⟨fun a ha => absurd ha (show ¬ 14 ≤ 13 by decide), Nat.le_of_eq hgb, rfl, fun k q hq => ?_⟩
  have h := (wsH_of hq).1
  rw [hgb] at h
  exact absurd h (by
    show ¬ k < s.heap.size - s.heap.size
    omega)
set_option maxHeartbeats 4000000 in
theorem lw_walk (l : Launch) (hflags : l.flags = flags0) (b : Addr) (xs : List Int32) : MetFree l x (headSpec (Jvm.Cond.code x code maxLocals ret :: tables_1) room_1) (lw_P b xs) (fun _ _ _ _ _ => True) lw_Q := by
  refine MetFree.of_bodyS (code := code) (maxLocals := maxLocals) (ret := ret) (by decide) ?_ ?_
  · intro args s m h hn
    obtain ⟨meth, c, h1, h2, h3, h4, h5, h6, -, -⟩ := Cond.code_spec hn (atoms_spec (ws := Jvm.Cond.code x code maxLocals ret :: tables_1) h _ List.mem_cons_self)
    exact ⟨meth, c, h1, h2, h3, h4, h5, h6⟩
  · intro p e s m args below meth c s₁ B hml0 hP _
    obtain ⟨rfl, hx, hbd, hgv⟩ := hP
    obtain ⟨scr, harrAt, hlist, hof, hsmall⟩ := hx
    obtain ⟨hcb, hkn, -, -⟩ := State.arrayAt?_spec harrAt
    have hown : s.vm.findClass R_law = some m.cls := findClass_of_methodNamed B.named
    have hts0 : ∀ c ∈ (Jvm.Cond.code x code maxLocals ret :: tables_1), c.before #[Value.ref b] s = true := atoms_spec (ws := Jvm.Cond.code x code maxLocals ret :: tables_1) B.pre
    have hts : ∀ w ∈ lw_tbl, w.before #[Value.ref b] s = true := k2_hts_sels lw_privs (fun w hw => hts0 w (List.mem_cons_of_mem _ hw)) lw_privs_ok
    have hml : c.maxLocals = 4 := B.maxLocals_eq (hts0 _ List.mem_cons_self)
    have X₀ : Stand p l e room_1 s m #[Value.ref b] below meth c s₁ [] 0 0 := Stand.of_body B
    have hh0 : s₁.heap = s.heap := by rw [B.state]; rfl
    have hsz : scr.slots.size = xs.length := by rw [← Array.length_toList, hlist, List.length_map]
    have hval : ∀ j : Nat, j < xs.length → scr.slots[j]? = some (.int (xs.getD j 0)) := fun j hj => by
      rw [← Array.getElem?_toList, hlist]
      simp [hj]
    have hbl : b < s.heap.size := (Array.getElem?_eq_some_iff.mp hcb).1
    have hX : va_X b xs.length (fun j => xs.getD j 0) s s.heap := ⟨scr, hcb, hof, hkn, hsz, hval⟩
    have K : W p l e room_1 s m #[Value.ref b] below meth c s₁.heap [] 0 0 (lw_Z below #[Value.ref b] s) (entryFrame m ([Value.ref b] : List Value).toArray 4) := by
      rw [hh0]
      exact whole_start l hflags hbd ⟨B.exec, B.bytes, B.returns, hml, hown, hts, hX, hbl, B.notSynchronized, hgv⟩
    obtain ⟨t, a1, o, b1, b2, b3⟩ := K s₁ rfl X₀
    exact ⟨t, o, a1, b1, b2, b3⟩
theorem lw_pre_spec {args : Array Value} {s : State} (h : (Jvm.Cond.and given_1 narrow_1).before args s = true) (hr : rest_1_c.before args s = true) : ∃ (b : Addr) (xs : List Int32), lw_P b xs args s := by
  have hs := flat_of_before _ h
  have hq := flat_of_before _ hr
  have hc : (Cond.count 1).before args s = true := hs _ (by decide +kernel)
  have harr : (Cond.arrayOf (.arg 0) .int).before args s = true := hs _ (by decide +kernel)
  have hle : (Cond.le (.length (.arg 0)) (.int 3072)).before args s = true := hs _ (by decide +kernel)
  have hlen : (Cond.isInt (.length (.arg 0))).before args s = true := hq _ (by decide +kernel)
  have hall : (Cond.all (.arg 0) (.isInt (.elem (.arg 0) (.index 0)))).before args s = true := hq _ (by decide +kernel)
  obtain ⟨b, xs, hb, hx⟩ := State.ints_of_pre rfl harr hlen hall
  have hsm : xs.length < 2 ^ 31 := hx.choose_spec.2.2.2
  have hev : (Term.length (.arg 0)).eval args s none [] s = some (.int xs.length.toInt32) := hx.length_eval hb
  have hv := Cond.le_ints hev (show (Term.int 3072).eval args s none [] s = some (.int 3072) from rfl)
  have hd : xs.length.toInt32 ≤ 3072 := by
    simpa [Cond.before, Cond.holds, hv] using hle
  have hN : xs.length ≤ 3072 := (Int32.ofNat_le_ofNat hsm (by decide)).mp (show Int32.ofNat xs.length ≤ Int32.ofNat 3072 from hd)
  exact ⟨b, xs, Cond.one_arg hc (show args[0]? = some (.ref b) from hb), hx, hN, h⟩
theorem lw_comes (l : Launch) (hflags : l.flags = flags0) : Comes l x (Jvm.Cond.code x code maxLocals ret :: tables_1) room_1 (fun tb e args s => Calls_1 tb e args s ∧ rest_1 tb e args s ∧ Pre_1 tb e args s)
    (fun _ _ args s o t => lw_Q args s o t) := by
  intro p e ha hc hk s m args below hf hfit hheap happ hpre
  obtain ⟨b, xs, hP⟩ := lw_pre_spec hpre.2.2 hpre.2.1
  obtain ⟨k, o, h1, h2, h3, hQ⟩ := lw_walk l hflags b xs p e ha hc hk s m args below hf ((Spec.applies_iff_loose hf).mp happ).1 hP trivial
  exact ⟨k, o, h1, h2, h3, hQ⟩
theorem lw_frame {s t : State} {o : Outcome} {args : Array Value} (h : Framed s o t [] 600000 7302250) :
    Framed s o t (fieldLocs frame_1_writes args s ++ arrayLocs frame_1_arrays args s ++ staticLocs frame_1_statics s) 600000 7302250 := h
theorem lw_limb (L : Cond) (hL : ∀ (args : Array Value) (s t : State), L.after args s (.returned (some (.int 1))) t = true) :
    ArmFor flags0 classFile x code maxLocals ret World_1 tables_1 room_1 Calls_1 rest_1 Pre_1
      (fun tb e a s o t => postC L tb e a s o t ∧ Framed s o t (fieldLocs frame_1_writes a s ++ arrayLocs frame_1_arrays a s ++ staticLocs frame_1_statics s) 600000 7302250) := by
  intro l hflags _ _ p e ha hc hk s m args below hf hfit hheap happ hpre
  obtain ⟨k, o, h1, h2, h3, rfl, hF⟩ := lw_comes l hflags p e ha hc hk s m args below hf hfit hheap happ hpre
  exact ⟨k, _, h1, h2, h3, hL args s _, lw_frame hF⟩
theorem i_vc : Claimed_1_1 ∧ Claimed_1_2 := ⟨lw_limb limb_1_1 (fun args s t => by simp [limb_1_1, Cond.after, Cond.holds, Cond.value]), lw_limb limb_1_2 (fun args s t => Cond.after_iff.mpr (by
  first | (rw [show limb_1_2 = Cond.eq .result (.int 1) from rfl, Cond.eq_ints (x := 1) (y := 1) rfl rfl]; simp; done) | (simp [limb_1_2, Cond.value, Term.eval]; done)))⟩
