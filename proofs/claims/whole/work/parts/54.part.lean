/-- a part of a text: its word, an E, its end -/
def Prt (tb : Nat → Int32) (ts : Nat) (w : Int32) (p : Nat) (r : RES) : Prop := (¬ tkF tb ts p = w ∧ r = (false, p, [])) ∨ (tkF tb ts p = w ∧ ∃ r1 : RES, Prs (tkF tb ts) (nxF tb ts) 5 (nxF tb ts p) 0 r1 ∧ ((r1.1 = false ∧ r = (false, r1.2.1, [])) ∨ (r1.1 = true ∧ ¬ tkF tb ts r1.2.1 = 59 ∧ r = (false, r1.2.1, [])) ∨ (r1.1 = true ∧ tkF tb ts r1.2.1 = 59 ∧ r = (true, nxF tb ts r1.2.1, r1.2.2))))
theorem prt_ex {tb : Nat → Int32} {ts p : Nat} {w : Int32} (hp : p ≤ ts) : ∃ r, Prt tb ts w p r := by
  by_cases h : tkF tb ts p = w
  · have hn := nx_le (tb := tb) hp
    obtain ⟨r1, h1⟩ := (prs_tot (tk := tkF tb ts) (nx := nxF tb ts) (ts := ts) (fun _ q => nx_le q) (fun _ q e => nx_lt q e) tk_num0 ts).1 (nxF tb ts p) hn.2 (by omega) 0 (by omega)
    cases hb : r1.1 with
    | false => exact ⟨_, Or.inr ⟨h, r1, h1, Or.inl ⟨hb, rfl⟩⟩⟩
    | true =>
      by_cases h2 : tkF tb ts r1.2.1 = 59
      · exact ⟨_, Or.inr ⟨h, r1, h1, Or.inr (Or.inr ⟨hb, h2, rfl⟩)⟩⟩
      · exact ⟨_, Or.inr ⟨h, r1, h1, Or.inr (Or.inl ⟨hb, h2, rfl⟩)⟩⟩
  · exact ⟨_, Or.inl ⟨h, rfl⟩⟩
theorem prs_ma {tb : Nat → Int32} {ts k p o : Nat} {r : RES} (h : Prs (tkF tb ts) (nxF tb ts) k p o r) : MA tb ts k p o r := h _ MA_clo
theorem prt_mp {tb : Nat → Int32} {ts p : Nat} {w : Int32} {r : RES} (h : Prt tb ts w p r) (hp : p ≤ ts) : r.2.1 ≤ ts ∧ (r.1 = true → p ≤ r.2.1 ∧ r.2.2.length ≤ r.2.1 - p ∧ okX 31 r.2.2) := by
  rcases h with ⟨h1, rfl⟩ | ⟨h1, r1, h2, h3⟩
  · exact ⟨hp, fun z => by cases z⟩
  · have hn := nx_le (tb := tb) hp
    obtain ⟨m1, m2, m3⟩ := (prs_ma h2).1 hn.2
    rcases h3 with ⟨h4, rfl⟩ | ⟨h4, h5, rfl⟩ | ⟨h4, h5, rfl⟩
    · exact ⟨m2, fun z => by cases z⟩
    · exact ⟨m2, fun z => by cases z⟩
    · have hn2 := nx_le (tb := tb) m2
      obtain ⟨m4, m5, -⟩ := m3 h4
      refine ⟨hn2.2, fun _ => ⟨by show p ≤ nxF tb ts r1.2.1; omega, by show r1.2.2.length ≤ nxF tb ts r1.2.1 - p; omega, ?_⟩⟩
      exact m5 (by decide)
/-- what a whole text comes to -/
def txR (tb : Nat → Int32) (ts : Nat) (res : Bool × Nat × (Nat → List Int32)) : Prop := ∃ r0 r1 r2 : RES, Prt tb ts 3 0 r0 ∧ Prt tb ts 4 r0.2.1 r1 ∧ Prt tb ts 5 r1.2.1 r2 ∧ ((r0.1 = false ∧ res = (false, r0.2.1, fun _ => [])) ∨ (r0.1 = true ∧ r1.1 = false ∧ res = (false, r1.2.1, fun _ => [])) ∨ (r0.1 = true ∧ r1.1 = true ∧ r2.1 = false ∧ res = (false, r2.2.1, fun _ => [])) ∨ (r0.1 = true ∧ r1.1 = true ∧ r2.1 = true ∧ ¬ tkF tb ts r2.2.1 = 1 ∧ res = (false, r2.2.1, fun _ => [])) ∨ (r0.1 = true ∧ r1.1 = true ∧ r2.1 = true ∧ tkF tb ts r2.2.1 = 1 ∧ res = (true, r2.2.1, fun i => if i = 0 then r0.2.2 else if i = 1 then r1.2.2 else r2.2.2)))
theorem tx_ex (tb : Nat → Int32) (ts : Nat) : ∃ res, txR tb ts res := by
  obtain ⟨r0, h0⟩ := prt_ex (tb := tb) (ts := ts) (w := 3) (Nat.zero_le _)
  obtain ⟨r1, h1⟩ := prt_ex (tb := tb) (ts := ts) (w := 4) (prt_mp h0 (Nat.zero_le _)).1
  obtain ⟨r2, h2⟩ := prt_ex (tb := tb) (ts := ts) (w := 5) (prt_mp h1 (prt_mp h0 (Nat.zero_le _)).1).1
  cases b0 : r0.1 with
  | false => exact ⟨_, r0, r1, r2, h0, h1, h2, Or.inl ⟨b0, rfl⟩⟩
  | true =>
    cases b1 : r1.1 with
    | false => exact ⟨_, r0, r1, r2, h0, h1, h2, Or.inr (Or.inl ⟨b0, b1, rfl⟩)⟩
    | true =>
      cases b2 : r2.1 with
      | false => exact ⟨_, r0, r1, r2, h0, h1, h2, Or.inr (Or.inr (Or.inl ⟨b0, b1, b2, rfl⟩))⟩
      | true =>
        by_cases e : tkF tb ts r2.2.1 = 1
        · exact ⟨_, r0, r1, r2, h0, h1, h2, Or.inr (Or.inr (Or.inr (Or.inr ⟨b0, b1, b2, e, rfl⟩)))⟩
        · exact ⟨_, r0, r1, r2, h0, h1, h2, Or.inr (Or.inr (Or.inr (Or.inl ⟨b0, b1, b2, e, rfl⟩)))⟩
theorem okX_ok {Q : List Int32} (h : okX 31 Q) : okF Q 0 := by
  have := h 0 (by decide) [] rfl
  rw [List.append_nil] at this
  exact this

set_option maxHeartbeats 4000000 in
set_option maxRecDepth 100000 in
theorem k_partA {G : GG} {Sh : HS} {R : HR} {b t K ts : Nat} {tb : Nat → Int32} (rc : RC b t Sh R) {k p : Nat} {C : List Int32} {J : HI} (hg : GS tb ts b t K k p 0 C J) (hC : C.length ≤ p) {w : Int32} (hw : ¬ endT w) (h1 : ¬ tkF tb ts p = w) : AM G 39 0 0 yX2_readPart cX2_readPart 3 none [.ref (b + 5), .int w, .ref (b + 8 + 3 * t)] (Sh, J, R) (qv (PQ tb ts b t K Sh R J (false, p, []) 0 C)) := by
  obtain ⟨_, z1, z2, z3, z4, z5, _, _, zz, _⟩ := rc.1
  have zT := zz t rc.2.2
  obtain ⟨_, _, _, _, _, _, _, _, w1, w2, w3, w0, _, _, wW, _⟩ := rc.2.1
  have wT := wW t rc.2.2
  have t6 := rc.2.2
  have hrd : rdE b t J J := rdE.rf
  have hps := hg.ps
  have h160 := hg.2.2.2.2.2.2.2.2.2.2
  have hle := nx_le (tb := tb) hps
  refine am_intro (by decide) (Nat.le_of_ble_eq_true rfl) ?_
  refine x_aload_n dX2_readPart_0 0 rfl rfl ?_
  refine x_iload_n dX2_readPart_1 1 rfl rfl ?_
  refine x_callV (k_expectB (G := G) rc hg (w := w) h1) dX2_readPart_2 crc_X2_expect vc_2_52 z5 rfl rfl rfl rfl (Nat.le_of_ble_eq_true rfl) (roomy_k (by omega) (by decide)) (Nat.le_refl _) (Nat.le_refl _) ?_
  rintro _ _ ⟨rfl, J1, rfl, hf2, e_J1⟩
  have hrd := hrd.tr e_J1
  refine x_aload_n dX2_readPart_5 0 rfl rfl ?_
  refine x_aload_n dX2_readPart_6 2 rfl rfl ?_
  refine x_callV (k_EF (G := G) (K := K) rc hf2) dX2_readPart_7 crc_X2_readE vc_2_55 z5 rfl rfl rfl rfl (Nat.le_of_ble_eq_true rfl) (roomy_k (by omega) (by decide)) (Nat.le_refl _) (Nat.le_refl _) ?_
  rintro _ _ ⟨rfl, J3, rfl, hf4, e_J3⟩
  have hrd := hrd.tr e_J3
  refine x_aload_n dX2_readPart_10 0 rfl rfl ?_
  refine x_bipush (v := 59) dX2_readPart_11 (by decide) ?_
  refine x_callV (k_expectF (G := G) (K := K) rc hf4 (w := 59) (by unfold endT; decide)) dX2_readPart_13 crc_X2_expect vc_2_52 z5 rfl rfl rfl rfl (Nat.le_of_ble_eq_true rfl) (roomy_k (by omega) (by decide)) (Nat.le_refl _) (Nat.le_refl _) ?_
  rintro _ _ ⟨rfl, J6, rfl, hf7, e_J6⟩
  have hrd := hrd.tr e_J6
  refine x_vret dX2_readPart_16 rfl (Nat.le_refl _) (Nat.le_refl _) ?_
  exact PQ.no hf7 hrd

set_option maxHeartbeats 4000000 in
set_option maxRecDepth 100000 in
theorem k_partB {G : GG} {Sh : HS} {R : HR} {b t K ts : Nat} {tb : Nat → Int32} (rc : RC b t Sh R) {k p : Nat} {C : List Int32} {J : HI} (hg : GS tb ts b t K k p 0 C J) (hC : C.length ≤ p) {w : Int32} (hw : ¬ endT w) (h1 : tkF tb ts p = w) {p1 : Nat} {Q1 : List Int32} (a : MA tb ts 5 (nxF tb ts p) 0 (false, p1, Q1)) : AM G 39 0 0 yX2_readPart cX2_readPart 3 none [.ref (b + 5), .int w, .ref (b + 8 + 3 * t)] (Sh, J, R) (qv (PQ tb ts b t K Sh R J (false, p1, []) 0 C)) := by
  obtain ⟨_, z1, z2, z3, z4, z5, _, _, zz, _⟩ := rc.1
  have zT := zz t rc.2.2
  obtain ⟨_, _, _, _, _, _, _, _, w1, w2, w3, w0, _, _, wW, _⟩ := rc.2.1
  have wT := wW t rc.2.2
  have t6 := rc.2.2
  have hrd : rdE b t J J := rdE.rf
  have hps := hg.ps
  have h160 := hg.2.2.2.2.2.2.2.2.2.2
  have hle := nx_le (tb := tb) hps
  refine am_intro (by decide) (Nat.le_of_ble_eq_true rfl) ?_
  refine x_aload_n dX2_readPart_0 0 rfl rfl ?_
  refine x_iload_n dX2_readPart_1 1 rfl rfl ?_
  refine x_callV (k_expectA (G := G) rc hg (w := w) h1 hw) dX2_readPart_2 crc_X2_expect vc_2_52 z5 rfl rfl rfl rfl (Nat.le_of_ble_eq_true rfl) (roomy_k (by omega) (by decide)) (Nat.le_refl _) (Nat.le_refl _) ?_
  rintro _ _ ⟨rfl, J8, rfl, hg9, e_J8⟩
  have hrd := hrd.tr e_J8
  refine x_aload_n dX2_readPart_5 0 rfl rfl ?_
  refine x_aload_n dX2_readPart_6 2 rfl rfl ?_
  refine x_callV (a.2 G Sh R b t K _ C J8 rc hg9 (by first | omega | (simp; omega))) dX2_readPart_7 crc_X2_readE vc_2_55 z5 rfl rfl rfl rfl (Nat.le_of_ble_eq_true rfl) (roomy_k (by omega) (by decide)) (Nat.le_refl _) (Nat.le_refl _) ?_
  rintro _ _ ⟨rfl, J10, rfl, e_J10, (⟨z9, _⟩ | ⟨_, hf11⟩)⟩
  · cases z9
  · have hrd := hrd.tr e_J10
    refine x_aload_n dX2_readPart_10 0 rfl rfl ?_
    refine x_bipush (v := 59) dX2_readPart_11 (by decide) ?_
    refine x_callV (k_expectF (G := G) (K := K) rc hf11 (w := 59) (by unfold endT; decide)) dX2_readPart_13 crc_X2_expect vc_2_52 z5 rfl rfl rfl rfl (Nat.le_of_ble_eq_true rfl) (roomy_k (by omega) (by decide)) (Nat.le_refl _) (Nat.le_refl _) ?_
    rintro _ _ ⟨rfl, J13, rfl, hf14, e_J13⟩
    have hrd := hrd.tr e_J13
    refine x_vret dX2_readPart_16 rfl (Nat.le_refl _) (Nat.le_refl _) ?_
    exact PQ.no hf14 hrd

set_option maxHeartbeats 4000000 in
set_option maxRecDepth 100000 in
theorem k_partC {G : GG} {Sh : HS} {R : HR} {b t K ts : Nat} {tb : Nat → Int32} (rc : RC b t Sh R) {k p : Nat} {C : List Int32} {J : HI} (hg : GS tb ts b t K k p 0 C J) (hC : C.length ≤ p) {w : Int32} (hw : ¬ endT w) (h1 : tkF tb ts p = w) {p1 : Nat} {Q1 : List Int32} (a : MA tb ts 5 (nxF tb ts p) 0 (true, p1, Q1)) (h59 : ¬ tkF tb ts p1 = 59) : AM G 39 0 0 yX2_readPart cX2_readPart 3 none [.ref (b + 5), .int w, .ref (b + 8 + 3 * t)] (Sh, J, R) (qv (PQ tb ts b t K Sh R J (false, p1, []) 0 C)) := by
  obtain ⟨_, z1, z2, z3, z4, z5, _, _, zz, _⟩ := rc.1
  have zT := zz t rc.2.2
  obtain ⟨_, _, _, _, _, _, _, _, w1, w2, w3, w0, _, _, wW, _⟩ := rc.2.1
  have wT := wW t rc.2.2
  have t6 := rc.2.2
  have hrd : rdE b t J J := rdE.rf
  have hps := hg.ps
  have h160 := hg.2.2.2.2.2.2.2.2.2.2
  have hle := nx_le (tb := tb) hps
  refine am_intro (by decide) (Nat.le_of_ble_eq_true rfl) ?_
  refine x_aload_n dX2_readPart_0 0 rfl rfl ?_
  refine x_iload_n dX2_readPart_1 1 rfl rfl ?_
  refine x_callV (k_expectA (G := G) rc hg (w := w) h1 hw) dX2_readPart_2 crc_X2_expect vc_2_52 z5 rfl rfl rfl rfl (Nat.le_of_ble_eq_true rfl) (roomy_k (by omega) (by decide)) (Nat.le_refl _) (Nat.le_refl _) ?_
  rintro _ _ ⟨rfl, J15, rfl, hg16, e_J15⟩
  have hrd := hrd.tr e_J15
  refine x_aload_n dX2_readPart_5 0 rfl rfl ?_
  refine x_aload_n dX2_readPart_6 2 rfl rfl ?_
  refine x_callV (a.2 G Sh R b t K _ C J15 rc hg16 (by first | omega | (simp; omega))) dX2_readPart_7 crc_X2_readE vc_2_55 z5 rfl rfl rfl rfl (Nat.le_of_ble_eq_true rfl) (roomy_k (by omega) (by decide)) (Nat.le_refl _) (Nat.le_refl _) ?_
  rintro _ _ ⟨rfl, J17, rfl, e_J17, (⟨_, k_J17, hg18⟩ | ⟨z9, _⟩)⟩
  · have hrd := hrd.tr e_J17
    have hp_p1 : p1 ≤ ts := hg18.ps
    have hm_p1 : (nxF tb ts p) ≤ p1 := (a.1 (by omega)).1
    have hq_p1 : Q1.length ≤ p1 - (nxF tb ts p) := ((a.1 (by omega)).2.2 rfl).1
    refine x_aload_n dX2_readPart_10 0 rfl rfl ?_
    refine x_bipush (v := 59) dX2_readPart_11 (by decide) ?_
    refine x_callV (k_expectB (G := G) rc hg18 (w := 59) h59) dX2_readPart_13 crc_X2_expect vc_2_52 z5 rfl rfl rfl rfl (Nat.le_of_ble_eq_true rfl) (roomy_k (by omega) (by decide)) (Nat.le_refl _) (Nat.le_refl _) ?_
    rintro _ _ ⟨rfl, J19, rfl, hf20, e_J19⟩
    have hrd := hrd.tr e_J19
    refine x_vret dX2_readPart_16 rfl (Nat.le_refl _) (Nat.le_refl _) ?_
    exact PQ.no hf20 hrd
  · cases z9

set_option maxHeartbeats 4000000 in
set_option maxRecDepth 100000 in
theorem k_partD {G : GG} {Sh : HS} {R : HR} {b t K ts : Nat} {tb : Nat → Int32} (rc : RC b t Sh R) {k p : Nat} {C : List Int32} {J : HI} (hg : GS tb ts b t K k p 0 C J) (hC : C.length ≤ p) {w : Int32} (hw : ¬ endT w) (h1 : tkF tb ts p = w) {p1 : Nat} {Q1 : List Int32} (a : MA tb ts 5 (nxF tb ts p) 0 (true, p1, Q1)) (h59 : tkF tb ts p1 = 59) : AM G 39 0 0 yX2_readPart cX2_readPart 3 none [.ref (b + 5), .int w, .ref (b + 8 + 3 * t)] (Sh, J, R) (qv (PQ tb ts b t K Sh R J (true, nxF tb ts p1, Q1) 0 C)) := by
  obtain ⟨_, z1, z2, z3, z4, z5, _, _, zz, _⟩ := rc.1
  have zT := zz t rc.2.2
  obtain ⟨_, _, _, _, _, _, _, _, w1, w2, w3, w0, _, _, wW, _⟩ := rc.2.1
  have wT := wW t rc.2.2
  have t6 := rc.2.2
  have hrd : rdE b t J J := rdE.rf
  have hps := hg.ps
  have h160 := hg.2.2.2.2.2.2.2.2.2.2
  have hle := nx_le (tb := tb) hps
  refine am_intro (by decide) (Nat.le_of_ble_eq_true rfl) ?_
  refine x_aload_n dX2_readPart_0 0 rfl rfl ?_
  refine x_iload_n dX2_readPart_1 1 rfl rfl ?_
  refine x_callV (k_expectA (G := G) rc hg (w := w) h1 hw) dX2_readPart_2 crc_X2_expect vc_2_52 z5 rfl rfl rfl rfl (Nat.le_of_ble_eq_true rfl) (roomy_k (by omega) (by decide)) (Nat.le_refl _) (Nat.le_refl _) ?_
  rintro _ _ ⟨rfl, J21, rfl, hg22, e_J21⟩
  have hrd := hrd.tr e_J21
  refine x_aload_n dX2_readPart_5 0 rfl rfl ?_
  refine x_aload_n dX2_readPart_6 2 rfl rfl ?_
  refine x_callV (a.2 G Sh R b t K _ C J21 rc hg22 (by first | omega | (simp; omega))) dX2_readPart_7 crc_X2_readE vc_2_55 z5 rfl rfl rfl rfl (Nat.le_of_ble_eq_true rfl) (roomy_k (by omega) (by decide)) (Nat.le_refl _) (Nat.le_refl _) ?_
  rintro _ _ ⟨rfl, J23, rfl, e_J23, (⟨_, k_J23, hg24⟩ | ⟨z9, _⟩)⟩
  · have hrd := hrd.tr e_J23
    have hp_p1 : p1 ≤ ts := hg24.ps
    have hm_p1 : (nxF tb ts p) ≤ p1 := (a.1 (by omega)).1
    have hq_p1 : Q1.length ≤ p1 - (nxF tb ts p) := ((a.1 (by omega)).2.2 rfl).1
    refine x_aload_n dX2_readPart_10 0 rfl rfl ?_
    refine x_bipush (v := 59) dX2_readPart_11 (by decide) ?_
    refine x_callV (k_expectA (G := G) rc hg24 (w := 59) h59 (by unfold endT; decide)) dX2_readPart_13 crc_X2_expect vc_2_52 z5 rfl rfl rfl rfl (Nat.le_of_ble_eq_true rfl) (roomy_k (by omega) (by decide)) (Nat.le_refl _) (Nat.le_refl _) ?_
    rintro _ _ ⟨rfl, J25, rfl, hg26, e_J25⟩
    have hrd := hrd.tr e_J25
    refine x_vret dX2_readPart_16 rfl (Nat.le_refl _) (Nat.le_refl _) ?_
    exact PQ.ok hg26 hrd (by simp)
  · cases z9

theorem k_part {G : GG} {Sh : HS} {R : HR} {b t K ts : Nat} {tb : Nat → Int32} (rc : RC b t Sh R) {k p : Nat} {C : List Int32} {J : HI} (hg : GS tb ts b t K k p 0 C J) (hC : C.length ≤ p) {w : Int32} (hw : ¬ endT w) {r : RES} (h : Prt tb ts w p r) : AM G 39 0 0 yX2_readPart cX2_readPart 3 none [.ref (b + 5), .int w, .ref (b + 8 + 3 * t)] (Sh, J, R) (qv (PQ tb ts b t K Sh R J r 0 C)) := by
  rcases h with ⟨h1, rfl⟩ | ⟨h1, ⟨b1, p1, Q1⟩, h2, h3⟩
  · exact k_partA rc hg hC hw h1
  · have a := prs_ma h2
    rcases h3 with ⟨h4, rfl⟩ | ⟨h4, h5, rfl⟩ | ⟨h4, h5, rfl⟩
    · have h4 : b1 = false := h4
      subst h4
      exact k_partB rc hg hC hw h1 a
    · have h4 : b1 = true := h4
      subst h4
      exact k_partC rc hg hC hw h1 a h5
    · have h4 : b1 = true := h4
      subst h4
      exact k_partD rc hg hC hw h1 a h5

