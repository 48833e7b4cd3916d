theorem PQ.pre {tb : Nat → Int32} {ts b t K o : Nat} {Sh : HS} {R : HR} {J : HI} {r : RES} {C Q : List Int32} {g : AH} (h : PQ tb ts b t K Sh R J r o (C ++ Q) g) : PQ tb ts b t K Sh R J (preR Q r) o C g := by
  obtain ⟨J2, h1, h2, h3⟩ := h
  refine ⟨J2, h1, h2, ?_⟩
  unfold preR
  rw [← List.append_assoc]
  exact h3
theorem it_le {tb : Nat → Int32} {ts : Nat} {sg : Int32} (hs : ¬ endT sg) {p : Nat} (hp : p ≤ ts) (j : Nat) (h : ∀ i, i < j → tkF tb ts (itN (nxF tb ts) i p) = sg) : p + j ≤ itN (nxF tb ts) j p ∧ itN (nxF tb ts) j p ≤ ts := itN_le (fun _ q => nx_le q) (fun _ q e => nx_lt q e) hs hp j h

set_option maxHeartbeats 4000000 in
set_option maxRecDepth 100000 in
theorem r_O1 {tb : Nat → Int32} {ts : Nat} {p o j : Nat} {r : RES} (h1 : ∀ i, i < j → tkF tb ts (itN (nxF tb ts) i p) = 45) (h2 : o + j ≤ 5) (h3 : ¬ tkF tb ts (itN (nxF tb ts) j p) = 45) (a : MA tb ts 6 (itN (nxF tb ts) j p) (o + j) r) : cAM tb ts yX2_readOne cX2_readOne 3 (6 * (5 - o) + 3) p o (cloR r j (-8)) := by
  intro G Sh R b t K k C J rc hg hC
  obtain ⟨_, z1, z2, z3, z4, z5, _, _, zz, _⟩ := rc.1
  have zT := zz t rc.2.2
  obtain ⟨_, _, _, _, _, _, _, _, w1, w2, w3, w0, _, _, wW, _⟩ := rc.2.1
  have wT := wW t rc.2.2
  have t6 := rc.2.2
  have hrd : rdE b t J J := rdE.rf
  have hps := hg.ps
  have h160 := hg.2.2.2.2.2.2.2.2.2.2
  refine am_intro (by decide) (Nat.le_of_ble_eq_true rfl) ?_
  refine x_aload_n dX2_readOne_0 0 rfl rfl ?_
  refine x_bipush (v := 45) dX2_readOne_1 (by decide) ?_
  refine x_callV (k_openA (G := G) rc hg (j := j) (sg := 45) (by unfold endT; decide) h1 h2 h3) dX2_readOne_3 crc_X2_openAll vc_2_71 z5 rfl rfl rfl rfl (Nat.le_of_ble_eq_true rfl) (roomy_k (by omega) (by decide)) (Nat.le_refl _) (Nat.le_refl _) ?_
  rintro _ _ ⟨_, rfl, rfl, J1, rfl, hg2, e_J1⟩
  have hrd := hrd.tr e_J1
  refine x_istore_n (lv' := [(2, .int (nI j)), (0, .ref (b + 5)), (1, .ref (b + 8 + 3 * t))]) dX2_readOne_6 rfl (by decide) rfl ?_
  have hit := it_le (sg := 45) (by unfold endT; decide) hps j h1
  exact a.2 G Sh R b t K _ j o _ C J1 _ rc hg2 (by omega) rfl h2 (by omega) (fun g q => PQ.tr q hrd)

set_option maxHeartbeats 4000000 in
set_option maxRecDepth 100000 in
theorem r_O2 {tb : Nat → Int32} {ts : Nat} {p o j : Nat} (h1 : ∀ i, i ≤ j → tkF tb ts (itN (nxF tb ts) i p) = 45) (h2 : o + j = 5) : cAM tb ts yX2_readOne cX2_readOne 3 (6 * (5 - o) + 3) p o (false, itN (nxF tb ts) j p, []) := by
  intro G Sh R b t K k C J rc hg hC
  obtain ⟨_, z1, z2, z3, z4, z5, _, _, zz, _⟩ := rc.1
  have zT := zz t rc.2.2
  obtain ⟨_, _, _, _, _, _, _, _, w1, w2, w3, w0, _, _, wW, _⟩ := rc.2.1
  have wT := wW t rc.2.2
  have t6 := rc.2.2
  have hrd : rdE b t J J := rdE.rf
  have hps := hg.ps
  have h160 := hg.2.2.2.2.2.2.2.2.2.2
  refine am_intro (by decide) (Nat.le_of_ble_eq_true rfl) ?_
  refine x_aload_n dX2_readOne_0 0 rfl rfl ?_
  refine x_bipush (v := 45) dX2_readOne_1 (by decide) ?_
  refine x_callV (k_openB (G := G) rc hg (j := j) (sg := 45) (by unfold endT; decide) h1 h2) dX2_readOne_3 crc_X2_openAll vc_2_71 z5 rfl rfl rfl rfl (Nat.le_of_ble_eq_true rfl) (roomy_k (by omega) (by decide)) (Nat.le_refl _) (Nat.le_refl _) ?_
  rintro _ _ ⟨_, rfl, rfl, J3, rfl, hf4, e_J3⟩
  have hrd := hrd.tr e_J3
  refine x_istore_n (lv' := [(2, .int (nI j)), (0, .ref (b + 5)), (1, .ref (b + 8 + 3 * t))]) dX2_readOne_6 rfl (by decide) rfl ?_
  exact k_oneF7 (K := K) rc hf4 hrd (by omega) (by omega) (fun J2 q1 q2 => PQ.no q1 q2)

set_option maxHeartbeats 4000000 in
set_option maxRecDepth 100000 in
theorem r_N1 {tb : Nat → Int32} {ts : Nat} {p o j : Nat} {r : RES} (h1 : ∀ i, i < j → tkF tb ts (itN (nxF tb ts) i p) = (-7)) (h2 : o + j ≤ 5) (h3 : ¬ tkF tb ts (itN (nxF tb ts) j p) = (-7)) (a : MA tb ts 7 (itN (nxF tb ts) j p) (o + j) r) : cAM tb ts yX2_readNot cX2_readNot 4 (6 * (5 - o) + 6) p o (cloR r j (-7)) := by
  intro G Sh R b t K k C J rc hg hC
  obtain ⟨_, z1, z2, z3, z4, z5, _, _, zz, _⟩ := rc.1
  have zT := zz t rc.2.2
  obtain ⟨_, _, _, _, _, _, _, _, w1, w2, w3, w0, _, _, wW, _⟩ := rc.2.1
  have wT := wW t rc.2.2
  have t6 := rc.2.2
  have hrd : rdE b t J J := rdE.rf
  have hps := hg.ps
  have h160 := hg.2.2.2.2.2.2.2.2.2.2
  refine am_intro (by decide) (Nat.le_of_ble_eq_true rfl) ?_
  refine x_aload_n dX2_readNot_0 0 rfl rfl ?_
  refine x_bipush (v := (-7)) dX2_readNot_1 (by decide) ?_
  refine x_callV (k_openA (G := G) rc hg (j := j) (sg := (-7)) (by unfold endT; decide) h1 h2 h3) dX2_readNot_3 crc_X2_openAll vc_2_71 z5 rfl rfl rfl rfl (Nat.le_of_ble_eq_true rfl) (roomy_k (by omega) (by decide)) (Nat.le_refl _) (Nat.le_refl _) ?_
  rintro _ _ ⟨_, rfl, rfl, J5, rfl, hg6, e_J5⟩
  have hrd := hrd.tr e_J5
  refine x_istore_n (lv' := [(2, .int (nI j)), (0, .ref (b + 5)), (1, .ref (b + 8 + 3 * t))]) dX2_readNot_6 rfl (by decide) rfl ?_
  have hit := it_le (sg := (-7)) (by unfold endT; decide) hps j h1
  exact a.2 G Sh R b t K _ j o _ C J5 _ rc hg6 (by omega) rfl h2 (by omega) (fun g q => PQ.tr q hrd)

set_option maxHeartbeats 4000000 in
set_option maxRecDepth 100000 in
theorem r_N2 {tb : Nat → Int32} {ts : Nat} {p o j : Nat} (h1 : ∀ i, i ≤ j → tkF tb ts (itN (nxF tb ts) i p) = (-7)) (h2 : o + j = 5) : cAM tb ts yX2_readNot cX2_readNot 4 (6 * (5 - o) + 6) p o (false, itN (nxF tb ts) j p, []) := by
  intro G Sh R b t K k C J rc hg hC
  obtain ⟨_, z1, z2, z3, z4, z5, _, _, zz, _⟩ := rc.1
  have zT := zz t rc.2.2
  obtain ⟨_, _, _, _, _, _, _, _, w1, w2, w3, w0, _, _, wW, _⟩ := rc.2.1
  have wT := wW t rc.2.2
  have t6 := rc.2.2
  have hrd : rdE b t J J := rdE.rf
  have hps := hg.ps
  have h160 := hg.2.2.2.2.2.2.2.2.2.2
  refine am_intro (by decide) (Nat.le_of_ble_eq_true rfl) ?_
  refine x_aload_n dX2_readNot_0 0 rfl rfl ?_
  refine x_bipush (v := (-7)) dX2_readNot_1 (by decide) ?_
  refine x_callV (k_openB (G := G) rc hg (j := j) (sg := (-7)) (by unfold endT; decide) h1 h2) dX2_readNot_3 crc_X2_openAll vc_2_71 z5 rfl rfl rfl rfl (Nat.le_of_ble_eq_true rfl) (roomy_k (by omega) (by decide)) (Nat.le_refl _) (Nat.le_refl _) ?_
  rintro _ _ ⟨_, rfl, rfl, J7, rfl, hf8, e_J7⟩
  have hrd := hrd.tr e_J7
  refine x_istore_n (lv' := [(2, .int (nI j)), (0, .ref (b + 5)), (1, .ref (b + 8 + 3 * t))]) dX2_readNot_6 rfl (by decide) rfl ?_
  exact k_notF7 (K := K) rc hf8 hrd (by omega) (by omega) (fun J2 q1 q2 => PQ.no q1 q2)

set_option maxHeartbeats 4000000 in
set_option maxRecDepth 100000 in
theorem r_C1 {tb : Nat → Int32} {ts : Nat} {p o p1 p2 : Nat} {Q1 Q2 : List Int32} (a : MA tb ts 2 p o (true, p1, Q1)) (h : ¬ (tkF tb ts p1 = 60 ∨ tkF tb ts p1 = 61)) : cUN tb ts yX2_readNot cX2_readNot 4 (6 * (5 - o) + 6) (-7) p o (true, p1, Q1) := by
  intro G Sh R b t K k m o0 d' C J Q rc hg hC ho ho5 hd hQ
  obtain ⟨_, z1, z2, z3, z4, z5, _, _, zz, _⟩ := rc.1
  have zT := zz t rc.2.2
  obtain ⟨_, _, _, _, _, _, _, _, w1, w2, w3, w0, _, _, wW, _⟩ := rc.2.1
  have wT := wW t rc.2.2
  have t6 := rc.2.2
  have hrd : rdE b t J J := rdE.rf
  have hps := hg.ps
  have h160 := hg.2.2.2.2.2.2.2.2.2.2
  refine x_aload_n dX2_readNot_7 1 rfl rfl ?_
  refine x_aload_n dX2_readNot_8 2 rfl rfl ?_
  refine x_callV (a.2 G Sh R b t K _ C J rc hg (by first | omega | (simp; omega))) dX2_readNot_9 crc_X2_readSum vc_2_75 z5 rfl rfl rfl rfl (Nat.le_of_ble_eq_true rfl) (roomy_k (by omega) (by decide)) (Nat.le_refl _) (Nat.le_refl _) ?_
  rintro _ _ ⟨rfl, J9, rfl, e_J9, (⟨_, k_J9, hg10⟩ | ⟨z9, _⟩)⟩
  · have hrd := hrd.tr e_J9
    have hp_p1 : p1 ≤ ts := hg10.ps
    have hm_p1 : p ≤ p1 := (a.1 (by omega)).1
    have hq_p1 : Q1.length ≤ p1 - p := ((a.1 (by omega)).2.2 rfl).1
    refine x_aload_n dX2_readNot_12 1 rfl rfl ?_
    refine x_gI (v := tkF tb ts p1) dX2_readNot_13 fl_2_46 rfl z5 hg10.2.1 ?_
    refine x_bipush (v := 60) dX2_readNot_16 (by decide) ?_
    refine x_icmp_eq (tgt := 30) dX2_readNot_18 (by decide) (fun c_18 => False.elim (h (Or.inl c_18))) (fun c_18 => ?_)
    refine x_aload_n dX2_readNot_21 1 rfl rfl ?_
    refine x_gI (v := tkF tb ts p1) dX2_readNot_22 fl_2_46 rfl z5 hg10.2.1 ?_
    refine x_bipush (v := 61) dX2_readNot_25 (by decide) ?_
    refine x_icmp_ne (tgt := 67) dX2_readNot_27 (by decide) (fun c_27 => ?_) (fun c_27 => False.elim (h (Or.inr c_27)))
    refine x_aload_n dX2_readNot_67 1 rfl rfl ?_
    refine x_iload_n dX2_readNot_68 0 rfl rfl ?_
    refine x_bipush (v := (-7)) dX2_readNot_69 (by decide) ?_
    refine x_aload_n dX2_readNot_71 2 rfl rfl ?_
    refine x_callV (k_closeA (G := G) (o := o0) (m0 := m) (x := (-7)) rc (by rw [← ho]; exact hg10) (by simp; omega) (by omega)) dX2_readNot_72 crc_X2_closeAll vc_2_78 z5 rfl rfl rfl rfl (Nat.le_of_ble_eq_true rfl) (roomy_k (by omega) (by decide)) (Nat.le_refl _) (Nat.le_refl _) ?_
    rintro _ _ ⟨rfl, J11, rfl, hg12, e_J11⟩
    have hrd := hrd.tr e_J11
    refine x_vret dX2_readNot_75 rfl (Nat.le_refl _) (Nat.le_refl _) ?_
    exact hQ _ (PQ.ok hg12 hrd (by simp [cloR, preR, List.append_assoc]))
  · cases z9

set_option maxHeartbeats 4000000 in
set_option maxRecDepth 100000 in
theorem r_C2 {tb : Nat → Int32} {ts : Nat} {p o p1 p2 : Nat} {Q1 Q2 : List Int32} (a : MA tb ts 2 p o (true, p1, Q1)) (h : tkF tb ts p1 = 60 ∨ tkF tb ts p1 = 61) (b9 : MA tb ts 2 (nxF tb ts p1) o (true, p2, Q2)) : cUN tb ts yX2_readNot cX2_readNot 4 (6 * (5 - o) + 6) (-7) p o (true, p2, Q1 ++ (Q2 ++ [if tkF tb ts p1 = 60 then -11 else -12])) := by
  intro G Sh R b t K k m o0 d' C J Q rc hg hC ho ho5 hd hQ
  obtain ⟨_, z1, z2, z3, z4, z5, _, _, zz, _⟩ := rc.1
  have zT := zz t rc.2.2
  obtain ⟨_, _, _, _, _, _, _, _, w1, w2, w3, w0, _, _, wW, _⟩ := rc.2.1
  have wT := wW t rc.2.2
  have t6 := rc.2.2
  have hrd : rdE b t J J := rdE.rf
  have hps := hg.ps
  have h160 := hg.2.2.2.2.2.2.2.2.2.2
  refine x_aload_n dX2_readNot_7 1 rfl rfl ?_
  refine x_aload_n dX2_readNot_8 2 rfl rfl ?_
  refine x_callV (a.2 G Sh R b t K _ C J rc hg (by first | omega | (simp; omega))) dX2_readNot_9 crc_X2_readSum vc_2_75 z5 rfl rfl rfl rfl (Nat.le_of_ble_eq_true rfl) (roomy_k (by omega) (by decide)) (Nat.le_refl _) (Nat.le_refl _) ?_
  rintro _ _ ⟨rfl, J13, rfl, e_J13, (⟨_, k_J13, hg14⟩ | ⟨z9, _⟩)⟩
  · have hrd := hrd.tr e_J13
    have hp_p1 : p1 ≤ ts := hg14.ps
    have hm_p1 : p ≤ p1 := (a.1 (by omega)).1
    have hq_p1 : Q1.length ≤ p1 - p := ((a.1 (by omega)).2.2 rfl).1
    have hnt : ¬ endT (tkF tb ts p1) := by rcases h with z | z <;> rw [z] <;> unfold endT <;> decide
    have hlt := nx_lt (tb := tb) hp_p1 hnt
    have hle := nx_le (tb := tb) hp_p1
    refine x_aload_n dX2_readNot_12 1 rfl rfl ?_
    refine x_gI (v := tkF tb ts p1) dX2_readNot_13 fl_2_46 rfl z5 hg14.2.1 ?_
    refine x_bipush (v := 60) dX2_readNot_16 (by decide) ?_
    refine x_icmp_eq (tgt := 30) dX2_readNot_18 (by decide) (fun c_18 => ?_) (fun c_18 => ?_)
    · refine x_aload_n dX2_readNot_30 1 rfl rfl ?_
      refine x_gI (v := tkF tb ts p1) dX2_readNot_31 fl_2_46 rfl z5 hg14.2.1 ?_
      refine x_bipush (v := 60) dX2_readNot_34 (by decide) ?_
      refine x_icmp_ne (tgt := 44) dX2_readNot_36 (by decide) (fun c_36 => False.elim (c_36 c_18)) (fun c_36 => ?_)
      refine x_bipush (v := (-11)) dX2_readNot_39 (by decide) ?_
      refine x_goto (tgt := 46) dX2_readNot_41 (by decide) ?_
      refine x_istore_n (lv' := [(3, .int (-11)), (2, .int (nI m)), (0, .ref (b + 5)), (1, .ref (b + 8 + 3 * t))]) dX2_readNot_46 rfl (by decide) rfl ?_
      refine x_aload_n dX2_readNot_47 2 rfl rfl ?_
      refine x_aload_n dX2_readNot_48 2 rfl rfl ?_
      refine x_gI (v := nI k_J13) dX2_readNot_49 fl_2_62 rfl z5 hg14.1 ?_
      refine x_iconst (v := nI 1) dX2_readNot_52 (by decide) ?_
      refine x_iadd dX2_readNot_53 ?_
      refine x_vali (nI_add k_J13 1) ?_
      refine x_callV (k_goTo (G := G) (tb := tb) (ts := ts) (K := K) rc (J := J13) (n := k_J13 + 1) (by have := hg14.le; have := hg14.2.2.2.2.2.2.1.1; have := hg14.lt hnt; omega)) dX2_readNot_54 crc_X2_goTo vc_2_32 z5 rfl rfl rfl rfl (Nat.le_of_ble_eq_true rfl) (roomy_k (by omega) (by decide)) (Nat.le_refl _) (Nat.le_refl _) ?_
      rintro _ _ ⟨rfl, eg9⟩
      obtain ⟨J15, e_J15⟩ : ∃ z : HI, z = u2 (u2 J13 (b + 5) 1 (nI (k_J13 + 1))) (b + 5) 2 (J13 (b + 3) (k_J13 + 1)) := ⟨_, rfl⟩
      rw [← e_J15] at eg9
      subst eg9
      have hg16' := GS.next hg14 hnt e_J15
      have hg16 := hg16'.1
      have hrd := hrd.tr hg16'.2
      refine x_aload_n dX2_readNot_57 2 rfl rfl ?_
      refine x_aload_n dX2_readNot_58 3 rfl rfl ?_
      refine x_callV (b9.2 G Sh R b t K _ (C ++ Q1) J15 rc hg16 (by first | omega | (simp; omega))) dX2_readNot_59 crc_X2_readSum vc_2_75 z5 rfl rfl rfl rfl (Nat.le_of_ble_eq_true rfl) (roomy_k (by omega) (by decide)) (Nat.le_refl _) (Nat.le_refl _) ?_
      rintro _ _ ⟨rfl, J17, rfl, e_J17, (⟨_, k_J17, hg18⟩ | ⟨z9, _⟩)⟩
      · have hrd := hrd.tr e_J17
        have hp_p2 : p2 ≤ ts := hg18.ps
        have hm_p2 : (nxF tb ts p1) ≤ p2 := (b9.1 (by omega)).1
        have hq_p2 : Q2.length ≤ p2 - (nxF tb ts p1) := ((b9.1 (by omega)).2.2 rfl).1
        refine x_aload_n dX2_readNot_62 3 rfl rfl ?_
        refine x_iload_n dX2_readNot_63 0 rfl rfl ?_
        refine x_callV (k_add1 (G := G) rc hg18 (by simp; omega) (c := (-11))) dX2_readNot_64 crc_X6_add vc_2_65 zT.1 rfl rfl rfl rfl (Nat.le_of_ble_eq_true rfl) (roomy_k (by omega) (by decide)) (Nat.le_refl _) (Nat.le_refl _) ?_
        rintro _ _ ⟨rfl, J19, rfl, hg20, e_J19⟩
        have hrd := hrd.tr e_J19
        refine x_aload_n dX2_readNot_67 2 rfl rfl ?_
        refine x_iload_n dX2_readNot_68 1 rfl rfl ?_
        refine x_bipush (v := (-7)) dX2_readNot_69 (by decide) ?_
        refine x_aload_n dX2_readNot_71 3 rfl rfl ?_
        refine x_callV (k_closeA (G := G) (o := o0) (m0 := m) (x := (-7)) rc (by rw [← ho]; exact hg20) (by simp; omega) (by omega)) dX2_readNot_72 crc_X2_closeAll vc_2_78 z5 rfl rfl rfl rfl (Nat.le_of_ble_eq_true rfl) (roomy_k (by omega) (by decide)) (Nat.le_refl _) (Nat.le_refl _) ?_
        rintro _ _ ⟨rfl, J21, rfl, hg22, e_J21⟩
        have hrd := hrd.tr e_J21
        refine x_vret dX2_readNot_75 rfl (Nat.le_refl _) (Nat.le_refl _) ?_
        exact hQ _ (PQ.ok hg22 hrd (by simp [c_18, cloR, preR, List.append_assoc]))
      · cases z9
    · refine x_aload_n dX2_readNot_21 1 rfl rfl ?_
      refine x_gI (v := tkF tb ts p1) dX2_readNot_22 fl_2_46 rfl z5 hg14.2.1 ?_
      refine x_bipush (v := 61) dX2_readNot_25 (by decide) ?_
      refine x_icmp_ne (tgt := 67) dX2_readNot_27 (by decide) (fun c_27 => False.elim (h.elim c_18 c_27)) (fun c_27 => ?_)
      refine x_aload_n dX2_readNot_30 1 rfl rfl ?_
      refine x_gI (v := tkF tb ts p1) dX2_readNot_31 fl_2_46 rfl z5 hg14.2.1 ?_
      refine x_bipush (v := 60) dX2_readNot_34 (by decide) ?_
      refine x_icmp_ne (tgt := 44) dX2_readNot_36 (by decide) (fun c_36 => ?_) (fun c_36 => False.elim (c_18 c_36))
      refine x_bipush (v := (-12)) dX2_readNot_44 (by decide) ?_
      refine x_istore_n (lv' := [(3, .int (-12)), (2, .int (nI m)), (0, .ref (b + 5)), (1, .ref (b + 8 + 3 * t))]) dX2_readNot_46 rfl (by decide) rfl ?_
      refine x_aload_n dX2_readNot_47 2 rfl rfl ?_
      refine x_aload_n dX2_readNot_48 2 rfl rfl ?_
      refine x_gI (v := nI k_J13) dX2_readNot_49 fl_2_62 rfl z5 hg14.1 ?_
      refine x_iconst (v := nI 1) dX2_readNot_52 (by decide) ?_
      refine x_iadd dX2_readNot_53 ?_
      refine x_vali (nI_add k_J13 1) ?_
      refine x_callV (k_goTo (G := G) (tb := tb) (ts := ts) (K := K) rc (J := J13) (n := k_J13 + 1) (by have := hg14.le; have := hg14.2.2.2.2.2.2.1.1; have := hg14.lt hnt; omega)) dX2_readNot_54 crc_X2_goTo vc_2_32 z5 rfl rfl rfl rfl (Nat.le_of_ble_eq_true rfl) (roomy_k (by omega) (by decide)) (Nat.le_refl _) (Nat.le_refl _) ?_
      rintro _ _ ⟨rfl, eg9⟩
      obtain ⟨J23, e_J23⟩ : ∃ z : HI, z = u2 (u2 J13 (b + 5) 1 (nI (k_J13 + 1))) (b + 5) 2 (J13 (b + 3) (k_J13 + 1)) := ⟨_, rfl⟩
      rw [← e_J23] at eg9
      subst eg9
      have hg24' := GS.next hg14 hnt e_J23
      have hg24 := hg24'.1
      have hrd := hrd.tr hg24'.2
      refine x_aload_n dX2_readNot_57 2 rfl rfl ?_
      refine x_aload_n dX2_readNot_58 3 rfl rfl ?_
      refine x_callV (b9.2 G Sh R b t K _ (C ++ Q1) J23 rc hg24 (by first | omega | (simp; omega))) dX2_readNot_59 crc_X2_readSum vc_2_75 z5 rfl rfl rfl rfl (Nat.le_of_ble_eq_true rfl) (roomy_k (by omega) (by decide)) (Nat.le_refl _) (Nat.le_refl _) ?_
      rintro _ _ ⟨rfl, J25, rfl, e_J25, (⟨_, k_J25, hg26⟩ | ⟨z9, _⟩)⟩
      · have hrd := hrd.tr e_J25
        have hp_p2 : p2 ≤ ts := hg26.ps
        have hm_p2 : (nxF tb ts p1) ≤ p2 := (b9.1 (by omega)).1
        have hq_p2 : Q2.length ≤ p2 - (nxF tb ts p1) := ((b9.1 (by omega)).2.2 rfl).1
        refine x_aload_n dX2_readNot_62 3 rfl rfl ?_
        refine x_iload_n dX2_readNot_63 0 rfl rfl ?_
        refine x_callV (k_add1 (G := G) rc hg26 (by simp; omega) (c := (-12))) dX2_readNot_64 crc_X6_add vc_2_65 zT.1 rfl rfl rfl rfl (Nat.le_of_ble_eq_true rfl) (roomy_k (by omega) (by decide)) (Nat.le_refl _) (Nat.le_refl _) ?_
        rintro _ _ ⟨rfl, J27, rfl, hg28, e_J27⟩
        have hrd := hrd.tr e_J27
        refine x_aload_n dX2_readNot_67 2 rfl rfl ?_
        refine x_iload_n dX2_readNot_68 1 rfl rfl ?_
        refine x_bipush (v := (-7)) dX2_readNot_69 (by decide) ?_
        refine x_aload_n dX2_readNot_71 3 rfl rfl ?_
        refine x_callV (k_closeA (G := G) (o := o0) (m0 := m) (x := (-7)) rc (by rw [← ho]; exact hg28) (by simp; omega) (by omega)) dX2_readNot_72 crc_X2_closeAll vc_2_78 z5 rfl rfl rfl rfl (Nat.le_of_ble_eq_true rfl) (roomy_k (by omega) (by decide)) (Nat.le_refl _) (Nat.le_refl _) ?_
        rintro _ _ ⟨rfl, J29, rfl, hg30, e_J29⟩
        have hrd := hrd.tr e_J29
        refine x_vret dX2_readNot_75 rfl (Nat.le_refl _) (Nat.le_refl _) ?_
        exact hQ _ (PQ.ok hg30 hrd (by simp [c_18, cloR, preR, List.append_assoc]))
      · cases z9
  · cases z9

set_option maxHeartbeats 4000000 in
set_option maxRecDepth 100000 in
theorem r_C3 {tb : Nat → Int32} {ts : Nat} {p o p1 p2 : Nat} {Q1 Q2 : List Int32} (a : MA tb ts 2 p o (true, p1, Q1)) (h : tkF tb ts p1 = 60 ∨ tkF tb ts p1 = 61) (b9 : MA tb ts 2 (nxF tb ts p1) o (false, p2, Q2)) : cUN tb ts yX2_readNot cX2_readNot 4 (6 * (5 - o) + 6) (-7) p o (false, p2, Q2) := by
  intro G Sh R b t K k m o0 d' C J Q rc hg hC ho ho5 hd hQ
  obtain ⟨_, z1, z2, z3, z4, z5, _, _, zz, _⟩ := rc.1
  have zT := zz t rc.2.2
  obtain ⟨_, _, _, _, _, _, _, _, w1, w2, w3, w0, _, _, wW, _⟩ := rc.2.1
  have wT := wW t rc.2.2
  have t6 := rc.2.2
  have hrd : rdE b t J J := rdE.rf
  have hps := hg.ps
  have h160 := hg.2.2.2.2.2.2.2.2.2.2
  refine x_aload_n dX2_readNot_7 1 rfl rfl ?_
  refine x_aload_n dX2_readNot_8 2 rfl rfl ?_
  refine x_callV (a.2 G Sh R b t K _ C J rc hg (by first | omega | (simp; omega))) dX2_readNot_9 crc_X2_readSum vc_2_75 z5 rfl rfl rfl rfl (Nat.le_of_ble_eq_true rfl) (roomy_k (by omega) (by decide)) (Nat.le_refl _) (Nat.le_refl _) ?_
  rintro _ _ ⟨rfl, J31, rfl, e_J31, (⟨_, k_J31, hg32⟩ | ⟨z9, _⟩)⟩
  · have hrd := hrd.tr e_J31
    have hp_p1 : p1 ≤ ts := hg32.ps
    have hm_p1 : p ≤ p1 := (a.1 (by omega)).1
    have hq_p1 : Q1.length ≤ p1 - p := ((a.1 (by omega)).2.2 rfl).1
    have hnt : ¬ endT (tkF tb ts p1) := by rcases h with z | z <;> rw [z] <;> unfold endT <;> decide
    have hlt := nx_lt (tb := tb) hp_p1 hnt
    have hle := nx_le (tb := tb) hp_p1
    refine x_aload_n dX2_readNot_12 1 rfl rfl ?_
    refine x_gI (v := tkF tb ts p1) dX2_readNot_13 fl_2_46 rfl z5 hg32.2.1 ?_
    refine x_bipush (v := 60) dX2_readNot_16 (by decide) ?_
    refine x_icmp_eq (tgt := 30) dX2_readNot_18 (by decide) (fun c_18 => ?_) (fun c_18 => ?_)
    · refine x_aload_n dX2_readNot_30 1 rfl rfl ?_
      refine x_gI (v := tkF tb ts p1) dX2_readNot_31 fl_2_46 rfl z5 hg32.2.1 ?_
      refine x_bipush (v := 60) dX2_readNot_34 (by decide) ?_
      refine x_icmp_ne (tgt := 44) dX2_readNot_36 (by decide) (fun c_36 => False.elim (c_36 c_18)) (fun c_36 => ?_)
      refine x_bipush (v := (-11)) dX2_readNot_39 (by decide) ?_
      refine x_goto (tgt := 46) dX2_readNot_41 (by decide) ?_
      refine x_istore_n (lv' := [(3, .int (-11)), (2, .int (nI m)), (0, .ref (b + 5)), (1, .ref (b + 8 + 3 * t))]) dX2_readNot_46 rfl (by decide) rfl ?_
      refine x_aload_n dX2_readNot_47 2 rfl rfl ?_
      refine x_aload_n dX2_readNot_48 2 rfl rfl ?_
      refine x_gI (v := nI k_J31) dX2_readNot_49 fl_2_62 rfl z5 hg32.1 ?_
      refine x_iconst (v := nI 1) dX2_readNot_52 (by decide) ?_
      refine x_iadd dX2_readNot_53 ?_
      refine x_vali (nI_add k_J31 1) ?_
      refine x_callV (k_goTo (G := G) (tb := tb) (ts := ts) (K := K) rc (J := J31) (n := k_J31 + 1) (by have := hg32.le; have := hg32.2.2.2.2.2.2.1.1; have := hg32.lt hnt; omega)) dX2_readNot_54 crc_X2_goTo vc_2_32 z5 rfl rfl rfl rfl (Nat.le_of_ble_eq_true rfl) (roomy_k (by omega) (by decide)) (Nat.le_refl _) (Nat.le_refl _) ?_
      rintro _ _ ⟨rfl, eg9⟩
      obtain ⟨J33, e_J33⟩ : ∃ z : HI, z = u2 (u2 J31 (b + 5) 1 (nI (k_J31 + 1))) (b + 5) 2 (J31 (b + 3) (k_J31 + 1)) := ⟨_, rfl⟩
      rw [← e_J33] at eg9
      subst eg9
      have hg34' := GS.next hg32 hnt e_J33
      have hg34 := hg34'.1
      have hrd := hrd.tr hg34'.2
      refine x_aload_n dX2_readNot_57 2 rfl rfl ?_
      refine x_aload_n dX2_readNot_58 3 rfl rfl ?_
      refine x_callV (b9.2 G Sh R b t K _ (C ++ Q1) J33 rc hg34 (by first | omega | (simp; omega))) dX2_readNot_59 crc_X2_readSum vc_2_75 z5 rfl rfl rfl rfl (Nat.le_of_ble_eq_true rfl) (roomy_k (by omega) (by decide)) (Nat.le_refl _) (Nat.le_refl _) ?_
      rintro _ _ ⟨rfl, J35, rfl, e_J35, (⟨z9, _⟩ | ⟨_, hf36⟩)⟩
      · cases z9
      · have hrd := hrd.tr e_J35
        refine x_aload_n dX2_readNot_62 3 rfl rfl ?_
        refine x_iload_n dX2_readNot_63 0 rfl rfl ?_
        refine x_callV (k_addF (G := G) (K := K) (tb := tb) (ts := ts) rc (J := J35) (c := (-11))) dX2_readNot_64 crc_X6_add vc_2_65 zT.1 rfl rfl rfl rfl (Nat.le_of_ble_eq_true rfl) (roomy_k (by omega) (by decide)) (Nat.le_refl _) (Nat.le_refl _) ?_
        rintro _ _ ⟨rfl, J37, rfl, q_J37, e_J37⟩
        have hg38 := FS.up hf36 (fun k _ => q_J37 k)
        have hrd := hrd.tr e_J37
        refine x_aload_n dX2_readNot_67 2 rfl rfl ?_
        refine x_iload_n dX2_readNot_68 1 rfl rfl ?_
        refine x_bipush (v := (-7)) dX2_readNot_69 (by decide) ?_
        refine x_aload_n dX2_readNot_71 3 rfl rfl ?_
        refine x_callV (k_closeF (G := G) (K := K) rc hg38 (m0 := m) (x := (-7)) (by omega)) dX2_readNot_72 crc_X2_closeAll vc_2_78 z5 rfl rfl rfl rfl (Nat.le_of_ble_eq_true rfl) (roomy_k (by omega) (by decide)) (Nat.le_refl _) (Nat.le_refl _) ?_
        rintro _ _ ⟨rfl, J39, rfl, hf40, e_J39⟩
        have hrd := hrd.tr e_J39
        refine x_vret dX2_readNot_75 rfl (Nat.le_refl _) (Nat.le_refl _) ?_
        exact hQ _ (PQ.no hf40 hrd)
    · refine x_aload_n dX2_readNot_21 1 rfl rfl ?_
      refine x_gI (v := tkF tb ts p1) dX2_readNot_22 fl_2_46 rfl z5 hg32.2.1 ?_
      refine x_bipush (v := 61) dX2_readNot_25 (by decide) ?_
      refine x_icmp_ne (tgt := 67) dX2_readNot_27 (by decide) (fun c_27 => False.elim (h.elim c_18 c_27)) (fun c_27 => ?_)
      refine x_aload_n dX2_readNot_30 1 rfl rfl ?_
      refine x_gI (v := tkF tb ts p1) dX2_readNot_31 fl_2_46 rfl z5 hg32.2.1 ?_
      refine x_bipush (v := 60) dX2_readNot_34 (by decide) ?_
      refine x_icmp_ne (tgt := 44) dX2_readNot_36 (by decide) (fun c_36 => ?_) (fun c_36 => False.elim (c_18 c_36))
      refine x_bipush (v := (-12)) dX2_readNot_44 (by decide) ?_
      refine x_istore_n (lv' := [(3, .int (-12)), (2, .int (nI m)), (0, .ref (b + 5)), (1, .ref (b + 8 + 3 * t))]) dX2_readNot_46 rfl (by decide) rfl ?_
      refine x_aload_n dX2_readNot_47 2 rfl rfl ?_
      refine x_aload_n dX2_readNot_48 2 rfl rfl ?_
      refine x_gI (v := nI k_J31) dX2_readNot_49 fl_2_62 rfl z5 hg32.1 ?_
      refine x_iconst (v := nI 1) dX2_readNot_52 (by decide) ?_
      refine x_iadd dX2_readNot_53 ?_
      refine x_vali (nI_add k_J31 1) ?_
      refine x_callV (k_goTo (G := G) (tb := tb) (ts := ts) (K := K) rc (J := J31) (n := k_J31 + 1) (by have := hg32.le; have := hg32.2.2.2.2.2.2.1.1; have := hg32.lt hnt; omega)) dX2_readNot_54 crc_X2_goTo vc_2_32 z5 rfl rfl rfl rfl (Nat.le_of_ble_eq_true rfl) (roomy_k (by omega) (by decide)) (Nat.le_refl _) (Nat.le_refl _) ?_
      rintro _ _ ⟨rfl, eg9⟩
      obtain ⟨J41, e_J41⟩ : ∃ z : HI, z = u2 (u2 J31 (b + 5) 1 (nI (k_J31 + 1))) (b + 5) 2 (J31 (b + 3) (k_J31 + 1)) := ⟨_, rfl⟩
      rw [← e_J41] at eg9
      subst eg9
      have hg42' := GS.next hg32 hnt e_J41
      have hg42 := hg42'.1
      have hrd := hrd.tr hg42'.2
      refine x_aload_n dX2_readNot_57 2 rfl rfl ?_
      refine x_aload_n dX2_readNot_58 3 rfl rfl ?_
      refine x_callV (b9.2 G Sh R b t K _ (C ++ Q1) J41 rc hg42 (by first | omega | (simp; omega))) dX2_readNot_59 crc_X2_readSum vc_2_75 z5 rfl rfl rfl rfl (Nat.le_of_ble_eq_true rfl) (roomy_k (by omega) (by decide)) (Nat.le_refl _) (Nat.le_refl _) ?_
      rintro _ _ ⟨rfl, J43, rfl, e_J43, (⟨z9, _⟩ | ⟨_, hf44⟩)⟩
      · cases z9
      · have hrd := hrd.tr e_J43
        refine x_aload_n dX2_readNot_62 3 rfl rfl ?_
        refine x_iload_n dX2_readNot_63 0 rfl rfl ?_
        refine x_callV (k_addF (G := G) (K := K) (tb := tb) (ts := ts) rc (J := J43) (c := (-12))) dX2_readNot_64 crc_X6_add vc_2_65 zT.1 rfl rfl rfl rfl (Nat.le_of_ble_eq_true rfl) (roomy_k (by omega) (by decide)) (Nat.le_refl _) (Nat.le_refl _) ?_
        rintro _ _ ⟨rfl, J45, rfl, q_J45, e_J45⟩
        have hg46 := FS.up hf44 (fun k _ => q_J45 k)
        have hrd := hrd.tr e_J45
        refine x_aload_n dX2_readNot_67 2 rfl rfl ?_
        refine x_iload_n dX2_readNot_68 1 rfl rfl ?_
        refine x_bipush (v := (-7)) dX2_readNot_69 (by decide) ?_
        refine x_aload_n dX2_readNot_71 3 rfl rfl ?_
        refine x_callV (k_closeF (G := G) (K := K) rc hg46 (m0 := m) (x := (-7)) (by omega)) dX2_readNot_72 crc_X2_closeAll vc_2_78 z5 rfl rfl rfl rfl (Nat.le_of_ble_eq_true rfl) (roomy_k (by omega) (by decide)) (Nat.le_refl _) (Nat.le_refl _) ?_
        rintro _ _ ⟨rfl, J47, rfl, hf48, e_J47⟩
        have hrd := hrd.tr e_J47
        refine x_vret dX2_readNot_75 rfl (Nat.le_refl _) (Nat.le_refl _) ?_
        exact hQ _ (PQ.no hf48 hrd)
  · cases z9

set_option maxHeartbeats 4000000 in
set_option maxRecDepth 100000 in
theorem r_C4 {tb : Nat → Int32} {ts : Nat} {p o p1 p2 : Nat} {Q1 Q2 : List Int32} (a : MA tb ts 2 p o (false, p1, Q1)) : cUN tb ts yX2_readNot cX2_readNot 4 (6 * (5 - o) + 6) (-7) p o (false, p1, Q1) := by
  intro G Sh R b t K k m o0 d' C J Q rc hg hC ho ho5 hd hQ
  obtain ⟨_, z1, z2, z3, z4, z5, _, _, zz, _⟩ := rc.1
  have zT := zz t rc.2.2
  obtain ⟨_, _, _, _, _, _, _, _, w1, w2, w3, w0, _, _, wW, _⟩ := rc.2.1
  have wT := wW t rc.2.2
  have t6 := rc.2.2
  have hrd : rdE b t J J := rdE.rf
  have hps := hg.ps
  have h160 := hg.2.2.2.2.2.2.2.2.2.2
  refine x_aload_n dX2_readNot_7 1 rfl rfl ?_
  refine x_aload_n dX2_readNot_8 2 rfl rfl ?_
  refine x_callV (a.2 G Sh R b t K _ C J rc hg (by first | omega | (simp; omega))) dX2_readNot_9 crc_X2_readSum vc_2_75 z5 rfl rfl rfl rfl (Nat.le_of_ble_eq_true rfl) (roomy_k (by omega) (by decide)) (Nat.le_refl _) (Nat.le_refl _) ?_
  rintro _ _ ⟨rfl, J49, rfl, e_J49, (⟨z9, _⟩ | ⟨_, hf50⟩)⟩
  · cases z9
  · have hrd := hrd.tr e_J49
    refine x_aload_n dX2_readNot_12 1 rfl rfl ?_
    refine x_gI (v := 2) dX2_readNot_13 fl_2_46 rfl z5 hf50.1 ?_
    refine x_bipush (v := 60) dX2_readNot_16 (by decide) ?_
    refine x_icmp_eq (tgt := 30) dX2_readNot_18 (by decide) (fun c_18 => False.elim (absurd c_18 (by decide))) (fun c_18 => ?_)
    refine x_aload_n dX2_readNot_21 1 rfl rfl ?_
    refine x_gI (v := 2) dX2_readNot_22 fl_2_46 rfl z5 hf50.1 ?_
    refine x_bipush (v := 61) dX2_readNot_25 (by decide) ?_
    refine x_icmp_ne (tgt := 67) dX2_readNot_27 (by decide) (fun c_27 => ?_) (fun c_27 => False.elim (absurd c_27 (by decide)))
    refine x_aload_n dX2_readNot_67 1 rfl rfl ?_
    refine x_iload_n dX2_readNot_68 0 rfl rfl ?_
    refine x_bipush (v := (-7)) dX2_readNot_69 (by decide) ?_
    refine x_aload_n dX2_readNot_71 2 rfl rfl ?_
    refine x_callV (k_closeF (G := G) (K := K) rc hf50 (m0 := m) (x := (-7)) (by omega)) dX2_readNot_72 crc_X2_closeAll vc_2_78 z5 rfl rfl rfl rfl (Nat.le_of_ble_eq_true rfl) (roomy_k (by omega) (by decide)) (Nat.le_refl _) (Nat.le_refl _) ?_
    rintro _ _ ⟨rfl, J51, rfl, hf52, e_J51⟩
    have hrd := hrd.tr e_J51
    refine x_vret dX2_readNot_75 rfl (Nat.le_refl _) (Nat.le_refl _) ?_
    exact hQ _ (PQ.no hf52 hrd)

set_option maxHeartbeats 4000000 in
set_option maxRecDepth 100000 in
theorem r_T1 {tb : Nat → Int32} {ts : Nat} {p o p1 : Nat} {Q1 : List Int32} {r : RES} (a : MA tb ts 0 p o (true, p1, Q1)) (a2 : MA tb ts 11 p1 o r) : cAM tb ts yX2_readTerm cX2_readTerm 3 (6 * (5 - o) + 4) p o (preR Q1 r) := by
  intro G Sh R b t K k C J rc hg hC
  obtain ⟨_, z1, z2, z3, z4, z5, _, _, zz, _⟩ := rc.1
  have zT := zz t rc.2.2
  obtain ⟨_, _, _, _, _, _, _, _, w1, w2, w3, w0, _, _, wW, _⟩ := rc.2.1
  have wT := wW t rc.2.2
  have t6 := rc.2.2
  have hrd : rdE b t J J := rdE.rf
  have hps := hg.ps
  have h160 := hg.2.2.2.2.2.2.2.2.2.2
  refine am_intro (by decide) (Nat.le_of_ble_eq_true rfl) ?_
  refine x_aload_n dX2_readTerm_0 0 rfl rfl ?_
  refine x_aload_n dX2_readTerm_1 1 rfl rfl ?_
  refine x_callV (a.2 G Sh R b t K _ C J rc hg (by first | omega | (simp; omega))) dX2_readTerm_2 crc_X2_readOne vc_2_85 z5 rfl rfl rfl rfl (Nat.le_of_ble_eq_true rfl) (roomy_k (by omega) (by decide)) (Nat.le_refl _) (Nat.le_refl _) ?_
  rintro _ _ ⟨rfl, J53, rfl, e_J53, (⟨_, k_J53, hg54⟩ | ⟨z9, _⟩)⟩
  · have hrd := hrd.tr e_J53
    have hp_p1 : p1 ≤ ts := hg54.ps
    have hm_p1 : p ≤ p1 := (a.1 (by omega)).1
    have hq_p1 : Q1.length ≤ p1 - p := ((a.1 (by omega)).2.2 rfl).1
    refine x_iconst (v := nI 0) dX2_readTerm_5 (by decide) ?_
    refine x_istore_n (lv' := [(2, .int (nI 0)), (0, .ref (b + 5)), (1, .ref (b + 8 + 3 * t))]) dX2_readTerm_6 rfl (by decide) rfl ?_
    exact a2.2 G Sh R b t K _ 0 _ (C ++ Q1) J53 _ rc hg54 (by simp; omega) (Nat.zero_le _) (Nat.le_refl _) (fun g q => (q.tr hrd).pre)
  · cases z9

set_option maxHeartbeats 4000000 in
set_option maxRecDepth 100000 in
theorem r_T2 {tb : Nat → Int32} {ts : Nat} {p o p1 : Nat} {Q1 : List Int32} (a : MA tb ts 0 p o (false, p1, Q1)) : cAM tb ts yX2_readTerm cX2_readTerm 3 (6 * (5 - o) + 4) p o (false, p1, Q1) := by
  intro G Sh R b t K k C J rc hg hC
  obtain ⟨_, z1, z2, z3, z4, z5, _, _, zz, _⟩ := rc.1
  have zT := zz t rc.2.2
  obtain ⟨_, _, _, _, _, _, _, _, w1, w2, w3, w0, _, _, wW, _⟩ := rc.2.1
  have wT := wW t rc.2.2
  have t6 := rc.2.2
  have hrd : rdE b t J J := rdE.rf
  have hps := hg.ps
  have h160 := hg.2.2.2.2.2.2.2.2.2.2
  refine am_intro (by decide) (Nat.le_of_ble_eq_true rfl) ?_
  refine x_aload_n dX2_readTerm_0 0 rfl rfl ?_
  refine x_aload_n dX2_readTerm_1 1 rfl rfl ?_
  refine x_callV (a.2 G Sh R b t K _ C J rc hg (by first | omega | (simp; omega))) dX2_readTerm_2 crc_X2_readOne vc_2_85 z5 rfl rfl rfl rfl (Nat.le_of_ble_eq_true rfl) (roomy_k (by omega) (by decide)) (Nat.le_refl _) (Nat.le_refl _) ?_
  rintro _ _ ⟨rfl, J55, rfl, e_J55, (⟨z9, _⟩ | ⟨_, hf56⟩)⟩
  · cases z9
  · have hrd := hrd.tr e_J55
    refine x_iconst (v := nI 0) dX2_readTerm_5 (by decide) ?_
    refine x_istore_n (lv' := [(2, .int (nI 0)), (0, .ref (b + 5)), (1, .ref (b + 8 + 3 * t))]) dX2_readTerm_6 rfl (by decide) rfl ?_
    exact k_TermH (K := K) rc hf56 (i := 0) (by omega) (PQ.no hf56 hrd)

set_option maxHeartbeats 4000000 in
set_option maxRecDepth 100000 in
theorem r_T3 {tb : Nat → Int32} {ts : Nat} {p o : Nat} (h : ¬ sgT (tkF tb ts p)) : cLP tb ts yX2_readTerm cX2_readTerm 3 (6 * (5 - o) + 4) p o (true, p, []) := by
  intro G Sh R b t K k i d' C J Q rc hg hC hi hd hQ
  obtain ⟨_, z1, z2, z3, z4, z5, _, _, zz, _⟩ := rc.1
  have zT := zz t rc.2.2
  obtain ⟨_, _, _, _, _, _, _, _, w1, w2, w3, w0, _, _, wW, _⟩ := rc.2.1
  have wT := wW t rc.2.2
  have t6 := rc.2.2
  have hrd : rdE b t J J := rdE.rf
  have hps := hg.ps
  have h160 := hg.2.2.2.2.2.2.2.2.2.2
  refine x_iload_n dX2_readTerm_7 0 rfl rfl ?_
  refine x_sipush (v := 160) dX2_readTerm_8 (by decide) ?_
  refine x_icmp_ge (tgt := 50) dX2_readTerm_11 (by decide) (fun c_11 => ?_) (fun c_11 => ?_)
  · have c_11 : 160 ≤ i := (nI_leI (a := 160) (b := i) (by omega) (by omega)).mp c_11
    refine x_vret dX2_readTerm_50 rfl (Nat.le_refl _) (Nat.le_refl _) ?_
    exact hQ _ (PQ.ok hg rdE.rf (List.append_nil C).symm)
  · have c_11 : ¬ 160 ≤ i := fun zz9 => c_11 ((nI_leI (a := 160) (b := i) (by omega) (by omega)).mpr zz9)
    refine x_aload_n dX2_readTerm_14 1 rfl rfl ?_
    refine x_gI (v := tkF tb ts p) dX2_readTerm_15 fl_2_46 rfl z5 hg.2.1 ?_
    refine x_bipush (v := 42) dX2_readTerm_18 (by decide) ?_
    refine x_icmp_ne (tgt := 50) dX2_readTerm_20 (by decide) (fun c_20 => ?_) (fun c_20 => False.elim (h c_20))
    refine x_vret dX2_readTerm_50 rfl (Nat.le_refl _) (Nat.le_refl _) ?_
    exact hQ _ (PQ.ok hg rdE.rf (List.append_nil C).symm)

set_option maxHeartbeats 4000000 in
set_option maxRecDepth 100000 in
theorem r_T4 {tb : Nat → Int32} {ts : Nat} {p o p1 : Nat} {Q1 : List Int32} {r : RES} (h : sgT (tkF tb ts p)) (a : MA tb ts 0 (nxF tb ts p) o (true, p1, Q1)) (a2 : MA tb ts 11 p1 o r) : cLP tb ts yX2_readTerm cX2_readTerm 3 (6 * (5 - o) + 4) p o (preR (Q1 ++ [(-15)]) r) := by
  intro G Sh R b t K k i d' C J Q rc hg hC hi hd hQ
  obtain ⟨_, z1, z2, z3, z4, z5, _, _, zz, _⟩ := rc.1
  have zT := zz t rc.2.2
  obtain ⟨_, _, _, _, _, _, _, _, w1, w2, w3, w0, _, _, wW, _⟩ := rc.2.1
  have wT := wW t rc.2.2
  have t6 := rc.2.2
  have hrd : rdE b t J J := rdE.rf
  have hps := hg.ps
  have h160 := hg.2.2.2.2.2.2.2.2.2.2
  have hnt : ¬ endT (tkF tb ts p) := by rw [h]; unfold endT; decide
  have hlt := nx_lt (tb := tb) hps hnt
  have hle := nx_le (tb := tb) hps
  refine x_iload_n dX2_readTerm_7 0 rfl rfl ?_
  refine x_sipush (v := 160) dX2_readTerm_8 (by decide) ?_
  refine x_icmp_ge (tgt := 50) dX2_readTerm_11 (by decide) (fun c_11 => False.elim (absurd ((nI_leI (a := 160) (b := i) (by omega) (by omega)).mp c_11) (by omega))) (fun c_11 => ?_)
  refine x_aload_n dX2_readTerm_14 1 rfl rfl ?_
  refine x_gI (v := tkF tb ts p) dX2_readTerm_15 fl_2_46 rfl z5 hg.2.1 ?_
  refine x_bipush (v := 42) dX2_readTerm_18 (by decide) ?_
  refine x_icmp_ne (tgt := 50) dX2_readTerm_20 (by decide) (fun c_20 => False.elim (c_20 h)) (fun c_20 => ?_)
  refine x_aload_n dX2_readTerm_23 1 rfl rfl ?_
  refine x_aload_n dX2_readTerm_24 1 rfl rfl ?_
  refine x_gI (v := nI k) dX2_readTerm_25 fl_2_62 rfl z5 hg.1 ?_
  refine x_iconst (v := nI 1) dX2_readTerm_28 (by decide) ?_
  refine x_iadd dX2_readTerm_29 ?_
  refine x_vali (nI_add k 1) ?_
  refine x_callV (k_goTo (G := G) (tb := tb) (ts := ts) (K := K) rc (J := J) (n := k + 1) (by have := hg.le; have := hg.2.2.2.2.2.2.1.1; have := hg.lt hnt; omega)) dX2_readTerm_30 crc_X2_goTo vc_2_32 z5 rfl rfl rfl rfl (Nat.le_of_ble_eq_true rfl) (roomy_k (by omega) (by decide)) (Nat.le_refl _) (Nat.le_refl _) ?_
  rintro _ _ ⟨rfl, eg9⟩
  obtain ⟨J57, e_J57⟩ : ∃ z : HI, z = u2 (u2 J (b + 5) 1 (nI (k + 1))) (b + 5) 2 (J (b + 3) (k + 1)) := ⟨_, rfl⟩
  rw [← e_J57] at eg9
  subst eg9
  have hg58' := GS.next hg hnt e_J57
  have hg58 := hg58'.1
  have hrd := hrd.tr hg58'.2
  refine x_aload_n dX2_readTerm_33 1 rfl rfl ?_
  refine x_aload_n dX2_readTerm_34 2 rfl rfl ?_
  refine x_callV (a.2 G Sh R b t K _ C J57 rc hg58 (by first | omega | (simp; omega))) dX2_readTerm_35 crc_X2_readOne vc_2_85 z5 rfl rfl rfl rfl (Nat.le_of_ble_eq_true rfl) (roomy_k (by omega) (by decide)) (Nat.le_refl _) (Nat.le_refl _) ?_
  rintro _ _ ⟨rfl, J59, rfl, e_J59, (⟨_, k_J59, hg60⟩ | ⟨z9, _⟩)⟩
  · have hrd := hrd.tr e_J59
    have hp_p1 : p1 ≤ ts := hg60.ps
    have hm_p1 : (nxF tb ts p) ≤ p1 := (a.1 (by omega)).1
    have hq_p1 : Q1.length ≤ p1 - (nxF tb ts p) := ((a.1 (by omega)).2.2 rfl).1
    refine x_aload_n dX2_readTerm_38 2 rfl rfl ?_
    refine x_bipush (v := (-15)) dX2_readTerm_39 (by decide) ?_
    refine x_callV (k_add1 (G := G) rc hg60 (by simp; omega) (c := (-15))) dX2_readTerm_41 crc_X6_add vc_2_65 zT.1 rfl rfl rfl rfl (Nat.le_of_ble_eq_true rfl) (roomy_k (by omega) (by decide)) (Nat.le_refl _) (Nat.le_refl _) ?_
    rintro _ _ ⟨rfl, J61, rfl, hg62, e_J61⟩
    have hrd := hrd.tr e_J61
    refine x_iinc (v := nI (i + 1)) (lv' := [(2, .int (nI (i + 1))), (0, .ref (b + 5)), (1, .ref (b + 8 + 3 * t))]) dX2_readTerm_44 0 rfl (nI_1 i) (by decide) rfl ?_
    refine x_goto (tgt := 7) dX2_readTerm_47 (by decide) ?_
    refine x_sub [0, 1, 2] rfl ?_
    exact a2.2 G Sh R b t K _ (i + 1) d' ((C ++ Q1) ++ [(-15)]) J61 Q rc hg62 (by simp; omega) (by omega) hd (fun g q => hQ g (PQ.pre (by rw [← List.append_assoc]; exact q.tr hrd)))
  · cases z9

set_option maxHeartbeats 4000000 in
set_option maxRecDepth 100000 in
theorem r_T5 {tb : Nat → Int32} {ts : Nat} {p o p1 : Nat} {Q1 : List Int32} (h : sgT (tkF tb ts p)) (a : MA tb ts 0 (nxF tb ts p) o (false, p1, Q1)) : cLP tb ts yX2_readTerm cX2_readTerm 3 (6 * (5 - o) + 4) p o (false, p1, Q1) := by
  intro G Sh R b t K k i d' C J Q rc hg hC hi hd hQ
  obtain ⟨_, z1, z2, z3, z4, z5, _, _, zz, _⟩ := rc.1
  have zT := zz t rc.2.2
  obtain ⟨_, _, _, _, _, _, _, _, w1, w2, w3, w0, _, _, wW, _⟩ := rc.2.1
  have wT := wW t rc.2.2
  have t6 := rc.2.2
  have hrd : rdE b t J J := rdE.rf
  have hps := hg.ps
  have h160 := hg.2.2.2.2.2.2.2.2.2.2
  have hnt : ¬ endT (tkF tb ts p) := by rw [h]; unfold endT; decide
  have hlt := nx_lt (tb := tb) hps hnt
  have hle := nx_le (tb := tb) hps
  refine x_iload_n dX2_readTerm_7 0 rfl rfl ?_
  refine x_sipush (v := 160) dX2_readTerm_8 (by decide) ?_
  refine x_icmp_ge (tgt := 50) dX2_readTerm_11 (by decide) (fun c_11 => False.elim (absurd ((nI_leI (a := 160) (b := i) (by omega) (by omega)).mp c_11) (by omega))) (fun c_11 => ?_)
  refine x_aload_n dX2_readTerm_14 1 rfl rfl ?_
  refine x_gI (v := tkF tb ts p) dX2_readTerm_15 fl_2_46 rfl z5 hg.2.1 ?_
  refine x_bipush (v := 42) dX2_readTerm_18 (by decide) ?_
  refine x_icmp_ne (tgt := 50) dX2_readTerm_20 (by decide) (fun c_20 => False.elim (c_20 h)) (fun c_20 => ?_)
  refine x_aload_n dX2_readTerm_23 1 rfl rfl ?_
  refine x_aload_n dX2_readTerm_24 1 rfl rfl ?_
  refine x_gI (v := nI k) dX2_readTerm_25 fl_2_62 rfl z5 hg.1 ?_
  refine x_iconst (v := nI 1) dX2_readTerm_28 (by decide) ?_
  refine x_iadd dX2_readTerm_29 ?_
  refine x_vali (nI_add k 1) ?_
  refine x_callV (k_goTo (G := G) (tb := tb) (ts := ts) (K := K) rc (J := J) (n := k + 1) (by have := hg.le; have := hg.2.2.2.2.2.2.1.1; have := hg.lt hnt; omega)) dX2_readTerm_30 crc_X2_goTo vc_2_32 z5 rfl rfl rfl rfl (Nat.le_of_ble_eq_true rfl) (roomy_k (by omega) (by decide)) (Nat.le_refl _) (Nat.le_refl _) ?_
  rintro _ _ ⟨rfl, eg9⟩
  obtain ⟨J63, e_J63⟩ : ∃ z : HI, z = u2 (u2 J (b + 5) 1 (nI (k + 1))) (b + 5) 2 (J (b + 3) (k + 1)) := ⟨_, rfl⟩
  rw [← e_J63] at eg9
  subst eg9
  have hg64' := GS.next hg hnt e_J63
  have hg64 := hg64'.1
  have hrd := hrd.tr hg64'.2
  refine x_aload_n dX2_readTerm_33 1 rfl rfl ?_
  refine x_aload_n dX2_readTerm_34 2 rfl rfl ?_
  refine x_callV (a.2 G Sh R b t K _ C J63 rc hg64 (by first | omega | (simp; omega))) dX2_readTerm_35 crc_X2_readOne vc_2_85 z5 rfl rfl rfl rfl (Nat.le_of_ble_eq_true rfl) (roomy_k (by omega) (by decide)) (Nat.le_refl _) (Nat.le_refl _) ?_
  rintro _ _ ⟨rfl, J65, rfl, e_J65, (⟨z9, _⟩ | ⟨_, hf66⟩)⟩
  · cases z9
  · have hrd := hrd.tr e_J65
    refine x_aload_n dX2_readTerm_38 2 rfl rfl ?_
    refine x_bipush (v := (-15)) dX2_readTerm_39 (by decide) ?_
    refine x_callV (k_addF (G := G) (K := K) (tb := tb) (ts := ts) rc (J := J65) (c := (-15))) dX2_readTerm_41 crc_X6_add vc_2_65 zT.1 rfl rfl rfl rfl (Nat.le_of_ble_eq_true rfl) (roomy_k (by omega) (by decide)) (Nat.le_refl _) (Nat.le_refl _) ?_
    rintro _ _ ⟨rfl, J67, rfl, q_J67, e_J67⟩
    have hg68 := FS.up hf66 (fun k _ => q_J67 k)
    have hrd := hrd.tr e_J67
    refine x_iinc (v := nI (i + 1)) (lv' := [(2, .int (nI (i + 1))), (0, .ref (b + 5)), (1, .ref (b + 8 + 3 * t))]) dX2_readTerm_44 0 rfl (nI_1 i) (by decide) rfl ?_
    refine x_goto (tgt := 7) dX2_readTerm_47 (by decide) ?_
    refine x_sub [0, 1, 2] rfl ?_
    exact k_TermH (K := K) rc hg68 (i := i + 1) (by omega) (hQ _ (PQ.no hg68 hrd))

set_option maxHeartbeats 4000000 in
set_option maxRecDepth 100000 in
theorem r_S1 {tb : Nat → Int32} {ts : Nat} {p o p1 : Nat} {Q1 : List Int32} {r : RES} (a : MA tb ts 1 p o (true, p1, Q1)) (a2 : MA tb ts 12 p1 o r) : cAM tb ts yX2_readSum cX2_readSum 4 (6 * (5 - o) + 5) p o (preR Q1 r) := by
  intro G Sh R b t K k C J rc hg hC
  obtain ⟨_, z1, z2, z3, z4, z5, _, _, zz, _⟩ := rc.1
  have zT := zz t rc.2.2
  obtain ⟨_, _, _, _, _, _, _, _, w1, w2, w3, w0, _, _, wW, _⟩ := rc.2.1
  have wT := wW t rc.2.2
  have t6 := rc.2.2
  have hrd : rdE b t J J := rdE.rf
  have hps := hg.ps
  have h160 := hg.2.2.2.2.2.2.2.2.2.2
  refine am_intro (by decide) (Nat.le_of_ble_eq_true rfl) ?_
  refine x_aload_n dX2_readSum_0 0 rfl rfl ?_
  refine x_aload_n dX2_readSum_1 1 rfl rfl ?_
  refine x_callV (a.2 G Sh R b t K _ C J rc hg (by first | omega | (simp; omega))) dX2_readSum_2 crc_X2_readTerm vc_2_82 z5 rfl rfl rfl rfl (Nat.le_of_ble_eq_true rfl) (roomy_k (by omega) (by decide)) (Nat.le_refl _) (Nat.le_refl _) ?_
  rintro _ _ ⟨rfl, J69, rfl, e_J69, (⟨_, k_J69, hg70⟩ | ⟨z9, _⟩)⟩
  · have hrd := hrd.tr e_J69
    have hp_p1 : p1 ≤ ts := hg70.ps
    have hm_p1 : p ≤ p1 := (a.1 (by omega)).1
    have hq_p1 : Q1.length ≤ p1 - p := ((a.1 (by omega)).2.2 rfl).1
    refine x_iconst (v := nI 0) dX2_readSum_5 (by decide) ?_
    refine x_istore_n (lv' := [(2, .int (nI 0)), (0, .ref (b + 5)), (1, .ref (b + 8 + 3 * t))]) dX2_readSum_6 rfl (by decide) rfl ?_
    exact a2.2 G Sh R b t K _ 0 _ (C ++ Q1) J69 _ rc hg70 (by simp; omega) (Nat.zero_le _) (Nat.le_refl _) (fun g q => (q.tr hrd).pre)
  · cases z9

set_option maxHeartbeats 4000000 in
set_option maxRecDepth 100000 in
theorem r_S2 {tb : Nat → Int32} {ts : Nat} {p o p1 : Nat} {Q1 : List Int32} (a : MA tb ts 1 p o (false, p1, Q1)) : cAM tb ts yX2_readSum cX2_readSum 4 (6 * (5 - o) + 5) p o (false, p1, Q1) := by
  intro G Sh R b t K k C J rc hg hC
  obtain ⟨_, z1, z2, z3, z4, z5, _, _, zz, _⟩ := rc.1
  have zT := zz t rc.2.2
  obtain ⟨_, _, _, _, _, _, _, _, w1, w2, w3, w0, _, _, wW, _⟩ := rc.2.1
  have wT := wW t rc.2.2
  have t6 := rc.2.2
  have hrd : rdE b t J J := rdE.rf
  have hps := hg.ps
  have h160 := hg.2.2.2.2.2.2.2.2.2.2
  refine am_intro (by decide) (Nat.le_of_ble_eq_true rfl) ?_
  refine x_aload_n dX2_readSum_0 0 rfl rfl ?_
  refine x_aload_n dX2_readSum_1 1 rfl rfl ?_
  refine x_callV (a.2 G Sh R b t K _ C J rc hg (by first | omega | (simp; omega))) dX2_readSum_2 crc_X2_readTerm vc_2_82 z5 rfl rfl rfl rfl (Nat.le_of_ble_eq_true rfl) (roomy_k (by omega) (by decide)) (Nat.le_refl _) (Nat.le_refl _) ?_
  rintro _ _ ⟨rfl, J71, rfl, e_J71, (⟨z9, _⟩ | ⟨_, hf72⟩)⟩
  · cases z9
  · have hrd := hrd.tr e_J71
    refine x_iconst (v := nI 0) dX2_readSum_5 (by decide) ?_
    refine x_istore_n (lv' := [(2, .int (nI 0)), (0, .ref (b + 5)), (1, .ref (b + 8 + 3 * t))]) dX2_readSum_6 rfl (by decide) rfl ?_
    exact k_SumH (K := K) rc hf72 (i := 0) (by omega) (PQ.no hf72 hrd)

set_option maxHeartbeats 4000000 in
set_option maxRecDepth 100000 in
theorem r_S3 {tb : Nat → Int32} {ts : Nat} {p o : Nat} (h : ¬ sgS (tkF tb ts p)) : cLP tb ts yX2_readSum cX2_readSum 4 (6 * (5 - o) + 5) p o (true, p, []) := by
  intro G Sh R b t K k i d' C J Q rc hg hC hi hd hQ
  obtain ⟨_, z1, z2, z3, z4, z5, _, _, zz, _⟩ := rc.1
  have zT := zz t rc.2.2
  obtain ⟨_, _, _, _, _, _, _, _, w1, w2, w3, w0, _, _, wW, _⟩ := rc.2.1
  have wT := wW t rc.2.2
  have t6 := rc.2.2
  have hrd : rdE b t J J := rdE.rf
  have hps := hg.ps
  have h160 := hg.2.2.2.2.2.2.2.2.2.2
  refine x_iload_n dX2_readSum_7 0 rfl rfl ?_
  refine x_sipush (v := 160) dX2_readSum_8 (by decide) ?_
  refine x_icmp_ge (tgt := 75) dX2_readSum_11 (by decide) (fun c_11 => ?_) (fun c_11 => ?_)
  · have c_11 : 160 ≤ i := (nI_leI (a := 160) (b := i) (by omega) (by omega)).mp c_11
    refine x_vret dX2_readSum_75 rfl (Nat.le_refl _) (Nat.le_refl _) ?_
    exact hQ _ (PQ.ok hg rdE.rf (List.append_nil C).symm)
  · have c_11 : ¬ 160 ≤ i := fun zz9 => c_11 ((nI_leI (a := 160) (b := i) (by omega) (by omega)).mpr zz9)
    refine x_aload_n dX2_readSum_14 1 rfl rfl ?_
    refine x_gI (v := tkF tb ts p) dX2_readSum_15 fl_2_46 rfl z5 hg.2.1 ?_
    refine x_bipush (v := 43) dX2_readSum_18 (by decide) ?_
    refine x_icmp_eq (tgt := 32) dX2_readSum_20 (by decide) (fun c_20 => False.elim (h (Or.inl c_20))) (fun c_20 => ?_)
    refine x_aload_n dX2_readSum_23 1 rfl rfl ?_
    refine x_gI (v := tkF tb ts p) dX2_readSum_24 fl_2_46 rfl z5 hg.2.1 ?_
    refine x_bipush (v := 45) dX2_readSum_27 (by decide) ?_
    refine x_icmp_ne (tgt := 75) dX2_readSum_29 (by decide) (fun c_29 => ?_) (fun c_29 => False.elim (h (Or.inr c_29)))
    refine x_vret dX2_readSum_75 rfl (Nat.le_refl _) (Nat.le_refl _) ?_
    exact hQ _ (PQ.ok hg rdE.rf (List.append_nil C).symm)

set_option maxHeartbeats 4000000 in
set_option maxRecDepth 100000 in
theorem r_S4 {tb : Nat → Int32} {ts : Nat} {p o p1 : Nat} {Q1 : List Int32} {r : RES} (h : sgS (tkF tb ts p)) (a : MA tb ts 1 (nxF tb ts p) o (true, p1, Q1)) (a2 : MA tb ts 12 p1 o r) : cLP tb ts yX2_readSum cX2_readSum 4 (6 * (5 - o) + 5) p o (preR (Q1 ++ [(cdS (tkF tb ts p))]) r) := by
  intro G Sh R b t K k i d' C J Q rc hg hC hi hd hQ
  obtain ⟨_, z1, z2, z3, z4, z5, _, _, zz, _⟩ := rc.1
  have zT := zz t rc.2.2
  obtain ⟨_, _, _, _, _, _, _, _, w1, w2, w3, w0, _, _, wW, _⟩ := rc.2.1
  have wT := wW t rc.2.2
  have t6 := rc.2.2
  have hrd : rdE b t J J := rdE.rf
  have hps := hg.ps
  have h160 := hg.2.2.2.2.2.2.2.2.2.2
  have hnt : ¬ endT (tkF tb ts p) := by rcases h with z | z <;> rw [z] <;> unfold endT <;> decide
  have hlt := nx_lt (tb := tb) hps hnt
  have hle := nx_le (tb := tb) hps
  refine x_iload_n dX2_readSum_7 0 rfl rfl ?_
  refine x_sipush (v := 160) dX2_readSum_8 (by decide) ?_
  refine x_icmp_ge (tgt := 75) dX2_readSum_11 (by decide) (fun c_11 => False.elim (absurd ((nI_leI (a := 160) (b := i) (by omega) (by omega)).mp c_11) (by omega))) (fun c_11 => ?_)
  refine x_aload_n dX2_readSum_14 1 rfl rfl ?_
  refine x_gI (v := tkF tb ts p) dX2_readSum_15 fl_2_46 rfl z5 hg.2.1 ?_
  refine x_bipush (v := 43) dX2_readSum_18 (by decide) ?_
  refine x_icmp_eq (tgt := 32) dX2_readSum_20 (by decide) (fun c_20 => ?_) (fun c_20 => ?_)
  · refine x_aload_n dX2_readSum_32 1 rfl rfl ?_
    refine x_gI (v := tkF tb ts p) dX2_readSum_33 fl_2_46 rfl z5 hg.2.1 ?_
    refine x_bipush (v := 43) dX2_readSum_36 (by decide) ?_
    refine x_icmp_ne (tgt := 46) dX2_readSum_38 (by decide) (fun c_38 => False.elim (c_38 c_20)) (fun c_38 => ?_)
    refine x_bipush (v := (-13)) dX2_readSum_41 (by decide) ?_
    refine x_goto (tgt := 48) dX2_readSum_43 (by decide) ?_
    refine x_istore_n (lv' := [(3, .int (-13)), (2, .int (nI i)), (0, .ref (b + 5)), (1, .ref (b + 8 + 3 * t))]) dX2_readSum_48 rfl (by decide) rfl ?_
    refine x_aload_n dX2_readSum_49 2 rfl rfl ?_
    refine x_aload_n dX2_readSum_50 2 rfl rfl ?_
    refine x_gI (v := nI k) dX2_readSum_51 fl_2_62 rfl z5 hg.1 ?_
    refine x_iconst (v := nI 1) dX2_readSum_54 (by decide) ?_
    refine x_iadd dX2_readSum_55 ?_
    refine x_vali (nI_add k 1) ?_
    refine x_callV (k_goTo (G := G) (tb := tb) (ts := ts) (K := K) rc (J := J) (n := k + 1) (by have := hg.le; have := hg.2.2.2.2.2.2.1.1; have := hg.lt hnt; omega)) dX2_readSum_56 crc_X2_goTo vc_2_32 z5 rfl rfl rfl rfl (Nat.le_of_ble_eq_true rfl) (roomy_k (by omega) (by decide)) (Nat.le_refl _) (Nat.le_refl _) ?_
    rintro _ _ ⟨rfl, eg9⟩
    obtain ⟨J73, e_J73⟩ : ∃ z : HI, z = u2 (u2 J (b + 5) 1 (nI (k + 1))) (b + 5) 2 (J (b + 3) (k + 1)) := ⟨_, rfl⟩
    rw [← e_J73] at eg9
    subst eg9
    have hg74' := GS.next hg hnt e_J73
    have hg74 := hg74'.1
    have hrd := hrd.tr hg74'.2
    refine x_aload_n dX2_readSum_59 2 rfl rfl ?_
    refine x_aload_n dX2_readSum_60 3 rfl rfl ?_
    refine x_callV (a.2 G Sh R b t K _ C J73 rc hg74 (by first | omega | (simp; omega))) dX2_readSum_61 crc_X2_readTerm vc_2_82 z5 rfl rfl rfl rfl (Nat.le_of_ble_eq_true rfl) (roomy_k (by omega) (by decide)) (Nat.le_refl _) (Nat.le_refl _) ?_
    rintro _ _ ⟨rfl, J75, rfl, e_J75, (⟨_, k_J75, hg76⟩ | ⟨z9, _⟩)⟩
    · have hrd := hrd.tr e_J75
      have hp_p1 : p1 ≤ ts := hg76.ps
      have hm_p1 : (nxF tb ts p) ≤ p1 := (a.1 (by omega)).1
      have hq_p1 : Q1.length ≤ p1 - (nxF tb ts p) := ((a.1 (by omega)).2.2 rfl).1
      refine x_aload_n dX2_readSum_64 3 rfl rfl ?_
      refine x_iload_n dX2_readSum_65 0 rfl rfl ?_
      refine x_callV (k_add1 (G := G) rc hg76 (by simp; omega) (c := (-13))) dX2_readSum_66 crc_X6_add vc_2_65 zT.1 rfl rfl rfl rfl (Nat.le_of_ble_eq_true rfl) (roomy_k (by omega) (by decide)) (Nat.le_refl _) (Nat.le_refl _) ?_
      rintro _ _ ⟨rfl, J77, rfl, hg78, e_J77⟩
      have hrd := hrd.tr e_J77
      refine x_iinc (v := nI (i + 1)) (lv' := [(2, .int (nI (i + 1))), (3, .int (-13)), (0, .ref (b + 5)), (1, .ref (b + 8 + 3 * t))]) dX2_readSum_69 1 rfl (nI_1 i) (by decide) rfl ?_
      refine x_goto (tgt := 7) dX2_readSum_72 (by decide) ?_
      refine x_sub [0, 2, 3] rfl ?_
      have ecd : cdS (tkF tb ts p) = (-13) := by unfold cdS; rw [if_pos c_20]
      rw [ecd] at hQ
      exact a2.2 G Sh R b t K _ (i + 1) d' ((C ++ Q1) ++ [(-13)]) J77 Q rc hg78 (by simp; omega) (by omega) hd (fun g q => hQ g (PQ.pre (by rw [← List.append_assoc]; exact q.tr hrd)))
    · cases z9
  · refine x_aload_n dX2_readSum_23 1 rfl rfl ?_
    refine x_gI (v := tkF tb ts p) dX2_readSum_24 fl_2_46 rfl z5 hg.2.1 ?_
    refine x_bipush (v := 45) dX2_readSum_27 (by decide) ?_
    refine x_icmp_ne (tgt := 75) dX2_readSum_29 (by decide) (fun c_29 => False.elim (h.elim c_20 c_29)) (fun c_29 => ?_)
    refine x_aload_n dX2_readSum_32 1 rfl rfl ?_
    refine x_gI (v := tkF tb ts p) dX2_readSum_33 fl_2_46 rfl z5 hg.2.1 ?_
    refine x_bipush (v := 43) dX2_readSum_36 (by decide) ?_
    refine x_icmp_ne (tgt := 46) dX2_readSum_38 (by decide) (fun c_38 => ?_) (fun c_38 => False.elim (c_20 c_38))
    refine x_bipush (v := (-14)) dX2_readSum_46 (by decide) ?_
    refine x_istore_n (lv' := [(3, .int (-14)), (2, .int (nI i)), (0, .ref (b + 5)), (1, .ref (b + 8 + 3 * t))]) dX2_readSum_48 rfl (by decide) rfl ?_
    refine x_aload_n dX2_readSum_49 2 rfl rfl ?_
    refine x_aload_n dX2_readSum_50 2 rfl rfl ?_
    refine x_gI (v := nI k) dX2_readSum_51 fl_2_62 rfl z5 hg.1 ?_
    refine x_iconst (v := nI 1) dX2_readSum_54 (by decide) ?_
    refine x_iadd dX2_readSum_55 ?_
    refine x_vali (nI_add k 1) ?_
    refine x_callV (k_goTo (G := G) (tb := tb) (ts := ts) (K := K) rc (J := J) (n := k + 1) (by have := hg.le; have := hg.2.2.2.2.2.2.1.1; have := hg.lt hnt; omega)) dX2_readSum_56 crc_X2_goTo vc_2_32 z5 rfl rfl rfl rfl (Nat.le_of_ble_eq_true rfl) (roomy_k (by omega) (by decide)) (Nat.le_refl _) (Nat.le_refl _) ?_
    rintro _ _ ⟨rfl, eg9⟩
    obtain ⟨J79, e_J79⟩ : ∃ z : HI, z = u2 (u2 J (b + 5) 1 (nI (k + 1))) (b + 5) 2 (J (b + 3) (k + 1)) := ⟨_, rfl⟩
    rw [← e_J79] at eg9
    subst eg9
    have hg80' := GS.next hg hnt e_J79
    have hg80 := hg80'.1
    have hrd := hrd.tr hg80'.2
    refine x_aload_n dX2_readSum_59 2 rfl rfl ?_
    refine x_aload_n dX2_readSum_60 3 rfl rfl ?_
    refine x_callV (a.2 G Sh R b t K _ C J79 rc hg80 (by first | omega | (simp; omega))) dX2_readSum_61 crc_X2_readTerm vc_2_82 z5 rfl rfl rfl rfl (Nat.le_of_ble_eq_true rfl) (roomy_k (by omega) (by decide)) (Nat.le_refl _) (Nat.le_refl _) ?_
    rintro _ _ ⟨rfl, J81, rfl, e_J81, (⟨_, k_J81, hg82⟩ | ⟨z9, _⟩)⟩
    · have hrd := hrd.tr e_J81
      have hp_p1 : p1 ≤ ts := hg82.ps
      have hm_p1 : (nxF tb ts p) ≤ p1 := (a.1 (by omega)).1
      have hq_p1 : Q1.length ≤ p1 - (nxF tb ts p) := ((a.1 (by omega)).2.2 rfl).1
      refine x_aload_n dX2_readSum_64 3 rfl rfl ?_
      refine x_iload_n dX2_readSum_65 0 rfl rfl ?_
      refine x_callV (k_add1 (G := G) rc hg82 (by simp; omega) (c := (-14))) dX2_readSum_66 crc_X6_add vc_2_65 zT.1 rfl rfl rfl rfl (Nat.le_of_ble_eq_true rfl) (roomy_k (by omega) (by decide)) (Nat.le_refl _) (Nat.le_refl _) ?_
      rintro _ _ ⟨rfl, J83, rfl, hg84, e_J83⟩
      have hrd := hrd.tr e_J83
      refine x_iinc (v := nI (i + 1)) (lv' := [(2, .int (nI (i + 1))), (3, .int (-14)), (0, .ref (b + 5)), (1, .ref (b + 8 + 3 * t))]) dX2_readSum_69 1 rfl (nI_1 i) (by decide) rfl ?_
      refine x_goto (tgt := 7) dX2_readSum_72 (by decide) ?_
      refine x_sub [0, 2, 3] rfl ?_
      have ecd : cdS (tkF tb ts p) = (-14) := by unfold cdS; rw [if_neg c_20]
      rw [ecd] at hQ
      exact a2.2 G Sh R b t K _ (i + 1) d' ((C ++ Q1) ++ [(-14)]) J83 Q rc hg84 (by simp; omega) (by omega) hd (fun g q => hQ g (PQ.pre (by rw [← List.append_assoc]; exact q.tr hrd)))
    · cases z9

set_option maxHeartbeats 4000000 in
set_option maxRecDepth 100000 in
theorem r_S5 {tb : Nat → Int32} {ts : Nat} {p o p1 : Nat} {Q1 : List Int32} (h : sgS (tkF tb ts p)) (a : MA tb ts 1 (nxF tb ts p) o (false, p1, Q1)) : cLP tb ts yX2_readSum cX2_readSum 4 (6 * (5 - o) + 5) p o (false, p1, Q1) := by
  intro G Sh R b t K k i d' C J Q rc hg hC hi hd hQ
  obtain ⟨_, z1, z2, z3, z4, z5, _, _, zz, _⟩ := rc.1
  have zT := zz t rc.2.2
  obtain ⟨_, _, _, _, _, _, _, _, w1, w2, w3, w0, _, _, wW, _⟩ := rc.2.1
  have wT := wW t rc.2.2
  have t6 := rc.2.2
  have hrd : rdE b t J J := rdE.rf
  have hps := hg.ps
  have h160 := hg.2.2.2.2.2.2.2.2.2.2
  have hnt : ¬ endT (tkF tb ts p) := by rcases h with z | z <;> rw [z] <;> unfold endT <;> decide
  have hlt := nx_lt (tb := tb) hps hnt
  have hle := nx_le (tb := tb) hps
  refine x_iload_n dX2_readSum_7 0 rfl rfl ?_
  refine x_sipush (v := 160) dX2_readSum_8 (by decide) ?_
  refine x_icmp_ge (tgt := 75) dX2_readSum_11 (by decide) (fun c_11 => False.elim (absurd ((nI_leI (a := 160) (b := i) (by omega) (by omega)).mp c_11) (by omega))) (fun c_11 => ?_)
  refine x_aload_n dX2_readSum_14 1 rfl rfl ?_
  refine x_gI (v := tkF tb ts p) dX2_readSum_15 fl_2_46 rfl z5 hg.2.1 ?_
  refine x_bipush (v := 43) dX2_readSum_18 (by decide) ?_
  refine x_icmp_eq (tgt := 32) dX2_readSum_20 (by decide) (fun c_20 => ?_) (fun c_20 => ?_)
  · refine x_aload_n dX2_readSum_32 1 rfl rfl ?_
    refine x_gI (v := tkF tb ts p) dX2_readSum_33 fl_2_46 rfl z5 hg.2.1 ?_
    refine x_bipush (v := 43) dX2_readSum_36 (by decide) ?_
    refine x_icmp_ne (tgt := 46) dX2_readSum_38 (by decide) (fun c_38 => False.elim (c_38 c_20)) (fun c_38 => ?_)
    refine x_bipush (v := (-13)) dX2_readSum_41 (by decide) ?_
    refine x_goto (tgt := 48) dX2_readSum_43 (by decide) ?_
    refine x_istore_n (lv' := [(3, .int (-13)), (2, .int (nI i)), (0, .ref (b + 5)), (1, .ref (b + 8 + 3 * t))]) dX2_readSum_48 rfl (by decide) rfl ?_
    refine x_aload_n dX2_readSum_49 2 rfl rfl ?_
    refine x_aload_n dX2_readSum_50 2 rfl rfl ?_
    refine x_gI (v := nI k) dX2_readSum_51 fl_2_62 rfl z5 hg.1 ?_
    refine x_iconst (v := nI 1) dX2_readSum_54 (by decide) ?_
    refine x_iadd dX2_readSum_55 ?_
    refine x_vali (nI_add k 1) ?_
    refine x_callV (k_goTo (G := G) (tb := tb) (ts := ts) (K := K) rc (J := J) (n := k + 1) (by have := hg.le; have := hg.2.2.2.2.2.2.1.1; have := hg.lt hnt; omega)) dX2_readSum_56 crc_X2_goTo vc_2_32 z5 rfl rfl rfl rfl (Nat.le_of_ble_eq_true rfl) (roomy_k (by omega) (by decide)) (Nat.le_refl _) (Nat.le_refl _) ?_
    rintro _ _ ⟨rfl, eg9⟩
    obtain ⟨J85, e_J85⟩ : ∃ z : HI, z = u2 (u2 J (b + 5) 1 (nI (k + 1))) (b + 5) 2 (J (b + 3) (k + 1)) := ⟨_, rfl⟩
    rw [← e_J85] at eg9
    subst eg9
    have hg86' := GS.next hg hnt e_J85
    have hg86 := hg86'.1
    have hrd := hrd.tr hg86'.2
    refine x_aload_n dX2_readSum_59 2 rfl rfl ?_
    refine x_aload_n dX2_readSum_60 3 rfl rfl ?_
    refine x_callV (a.2 G Sh R b t K _ C J85 rc hg86 (by first | omega | (simp; omega))) dX2_readSum_61 crc_X2_readTerm vc_2_82 z5 rfl rfl rfl rfl (Nat.le_of_ble_eq_true rfl) (roomy_k (by omega) (by decide)) (Nat.le_refl _) (Nat.le_refl _) ?_
    rintro _ _ ⟨rfl, J87, rfl, e_J87, (⟨z9, _⟩ | ⟨_, hf88⟩)⟩
    · cases z9
    · have hrd := hrd.tr e_J87
      refine x_aload_n dX2_readSum_64 3 rfl rfl ?_
      refine x_iload_n dX2_readSum_65 0 rfl rfl ?_
      refine x_callV (k_addF (G := G) (K := K) (tb := tb) (ts := ts) rc (J := J87) (c := (-13))) dX2_readSum_66 crc_X6_add vc_2_65 zT.1 rfl rfl rfl rfl (Nat.le_of_ble_eq_true rfl) (roomy_k (by omega) (by decide)) (Nat.le_refl _) (Nat.le_refl _) ?_
      rintro _ _ ⟨rfl, J89, rfl, q_J89, e_J89⟩
      have hg90 := FS.up hf88 (fun k _ => q_J89 k)
      have hrd := hrd.tr e_J89
      refine x_iinc (v := nI (i + 1)) (lv' := [(2, .int (nI (i + 1))), (3, .int (-13)), (0, .ref (b + 5)), (1, .ref (b + 8 + 3 * t))]) dX2_readSum_69 1 rfl (nI_1 i) (by decide) rfl ?_
      refine x_goto (tgt := 7) dX2_readSum_72 (by decide) ?_
      refine x_sub [0, 2, 3] rfl ?_
      exact k_SumH (K := K) rc hg90 (i := i + 1) (by omega) (hQ _ (PQ.no hg90 hrd))
  · refine x_aload_n dX2_readSum_23 1 rfl rfl ?_
    refine x_gI (v := tkF tb ts p) dX2_readSum_24 fl_2_46 rfl z5 hg.2.1 ?_
    refine x_bipush (v := 45) dX2_readSum_27 (by decide) ?_
    refine x_icmp_ne (tgt := 75) dX2_readSum_29 (by decide) (fun c_29 => False.elim (h.elim c_20 c_29)) (fun c_29 => ?_)
    refine x_aload_n dX2_readSum_32 1 rfl rfl ?_
    refine x_gI (v := tkF tb ts p) dX2_readSum_33 fl_2_46 rfl z5 hg.2.1 ?_
    refine x_bipush (v := 43) dX2_readSum_36 (by decide) ?_
    refine x_icmp_ne (tgt := 46) dX2_readSum_38 (by decide) (fun c_38 => ?_) (fun c_38 => False.elim (c_20 c_38))
    refine x_bipush (v := (-14)) dX2_readSum_46 (by decide) ?_
    refine x_istore_n (lv' := [(3, .int (-14)), (2, .int (nI i)), (0, .ref (b + 5)), (1, .ref (b + 8 + 3 * t))]) dX2_readSum_48 rfl (by decide) rfl ?_
    refine x_aload_n dX2_readSum_49 2 rfl rfl ?_
    refine x_aload_n dX2_readSum_50 2 rfl rfl ?_
    refine x_gI (v := nI k) dX2_readSum_51 fl_2_62 rfl z5 hg.1 ?_
    refine x_iconst (v := nI 1) dX2_readSum_54 (by decide) ?_
    refine x_iadd dX2_readSum_55 ?_
    refine x_vali (nI_add k 1) ?_
    refine x_callV (k_goTo (G := G) (tb := tb) (ts := ts) (K := K) rc (J := J) (n := k + 1) (by have := hg.le; have := hg.2.2.2.2.2.2.1.1; have := hg.lt hnt; omega)) dX2_readSum_56 crc_X2_goTo vc_2_32 z5 rfl rfl rfl rfl (Nat.le_of_ble_eq_true rfl) (roomy_k (by omega) (by decide)) (Nat.le_refl _) (Nat.le_refl _) ?_
    rintro _ _ ⟨rfl, eg9⟩
    obtain ⟨J91, e_J91⟩ : ∃ z : HI, z = u2 (u2 J (b + 5) 1 (nI (k + 1))) (b + 5) 2 (J (b + 3) (k + 1)) := ⟨_, rfl⟩
    rw [← e_J91] at eg9
    subst eg9
    have hg92' := GS.next hg hnt e_J91
    have hg92 := hg92'.1
    have hrd := hrd.tr hg92'.2
    refine x_aload_n dX2_readSum_59 2 rfl rfl ?_
    refine x_aload_n dX2_readSum_60 3 rfl rfl ?_
    refine x_callV (a.2 G Sh R b t K _ C J91 rc hg92 (by first | omega | (simp; omega))) dX2_readSum_61 crc_X2_readTerm vc_2_82 z5 rfl rfl rfl rfl (Nat.le_of_ble_eq_true rfl) (roomy_k (by omega) (by decide)) (Nat.le_refl _) (Nat.le_refl _) ?_
    rintro _ _ ⟨rfl, J93, rfl, e_J93, (⟨z9, _⟩ | ⟨_, hf94⟩)⟩
    · cases z9
    · have hrd := hrd.tr e_J93
      refine x_aload_n dX2_readSum_64 3 rfl rfl ?_
      refine x_iload_n dX2_readSum_65 0 rfl rfl ?_
      refine x_callV (k_addF (G := G) (K := K) (tb := tb) (ts := ts) rc (J := J93) (c := (-14))) dX2_readSum_66 crc_X6_add vc_2_65 zT.1 rfl rfl rfl rfl (Nat.le_of_ble_eq_true rfl) (roomy_k (by omega) (by decide)) (Nat.le_refl _) (Nat.le_refl _) ?_
      rintro _ _ ⟨rfl, J95, rfl, q_J95, e_J95⟩
      have hg96 := FS.up hf94 (fun k _ => q_J95 k)
      have hrd := hrd.tr e_J95
      refine x_iinc (v := nI (i + 1)) (lv' := [(2, .int (nI (i + 1))), (3, .int (-14)), (0, .ref (b + 5)), (1, .ref (b + 8 + 3 * t))]) dX2_readSum_69 1 rfl (nI_1 i) (by decide) rfl ?_
      refine x_goto (tgt := 7) dX2_readSum_72 (by decide) ?_
      refine x_sub [0, 2, 3] rfl ?_
      exact k_SumH (K := K) rc hg96 (i := i + 1) (by omega) (hQ _ (PQ.no hg96 hrd))

set_option maxHeartbeats 4000000 in
set_option maxRecDepth 100000 in
theorem r_A1_ {tb : Nat → Int32} {ts : Nat} {p o p1 : Nat} {Q1 : List Int32} {r : RES} (a : MA tb ts 3 p o (true, p1, Q1)) (a2 : MA tb ts 14 p1 o r) : cAM tb ts yX2_readAnd cX2_readAnd 3 (6 * (5 - o) + 7) p o (preR Q1 r) := by
  intro G Sh R b t K k C J rc hg hC
  obtain ⟨_, z1, z2, z3, z4, z5, _, _, zz, _⟩ := rc.1
  have zT := zz t rc.2.2
  obtain ⟨_, _, _, _, _, _, _, _, w1, w2, w3, w0, _, _, wW, _⟩ := rc.2.1
  have wT := wW t rc.2.2
  have t6 := rc.2.2
  have hrd : rdE b t J J := rdE.rf
  have hps := hg.ps
  have h160 := hg.2.2.2.2.2.2.2.2.2.2
  refine am_intro (by decide) (Nat.le_of_ble_eq_true rfl) ?_
  refine x_aload_n dX2_readAnd_0 0 rfl rfl ?_
  refine x_aload_n dX2_readAnd_1 1 rfl rfl ?_
  refine x_callV (a.2 G Sh R b t K _ C J rc hg (by first | omega | (simp; omega))) dX2_readAnd_2 crc_X2_readNot vc_2_68 z5 rfl rfl rfl rfl (Nat.le_of_ble_eq_true rfl) (roomy_k (by omega) (by decide)) (Nat.le_refl _) (Nat.le_refl _) ?_
  rintro _ _ ⟨rfl, J97, rfl, e_J97, (⟨_, k_J97, hg98⟩ | ⟨z9, _⟩)⟩
  · have hrd := hrd.tr e_J97
    have hp_p1 : p1 ≤ ts := hg98.ps
    have hm_p1 : p ≤ p1 := (a.1 (by omega)).1
    have hq_p1 : Q1.length ≤ p1 - p := ((a.1 (by omega)).2.2 rfl).1
    refine x_iconst (v := nI 0) dX2_readAnd_5 (by decide) ?_
    refine x_istore_n (lv' := [(2, .int (nI 0)), (0, .ref (b + 5)), (1, .ref (b + 8 + 3 * t))]) dX2_readAnd_6 rfl (by decide) rfl ?_
    exact a2.2 G Sh R b t K _ 0 _ (C ++ Q1) J97 _ rc hg98 (by simp; omega) (Nat.zero_le _) (Nat.le_refl _) (fun g q => (q.tr hrd).pre)
  · cases z9

set_option maxHeartbeats 4000000 in
set_option maxRecDepth 100000 in
theorem r_A2_ {tb : Nat → Int32} {ts : Nat} {p o p1 : Nat} {Q1 : List Int32} (a : MA tb ts 3 p o (false, p1, Q1)) : cAM tb ts yX2_readAnd cX2_readAnd 3 (6 * (5 - o) + 7) p o (false, p1, Q1) := by
  intro G Sh R b t K k C J rc hg hC
  obtain ⟨_, z1, z2, z3, z4, z5, _, _, zz, _⟩ := rc.1
  have zT := zz t rc.2.2
  obtain ⟨_, _, _, _, _, _, _, _, w1, w2, w3, w0, _, _, wW, _⟩ := rc.2.1
  have wT := wW t rc.2.2
  have t6 := rc.2.2
  have hrd : rdE b t J J := rdE.rf
  have hps := hg.ps
  have h160 := hg.2.2.2.2.2.2.2.2.2.2
  refine am_intro (by decide) (Nat.le_of_ble_eq_true rfl) ?_
  refine x_aload_n dX2_readAnd_0 0 rfl rfl ?_
  refine x_aload_n dX2_readAnd_1 1 rfl rfl ?_
  refine x_callV (a.2 G Sh R b t K _ C J rc hg (by first | omega | (simp; omega))) dX2_readAnd_2 crc_X2_readNot vc_2_68 z5 rfl rfl rfl rfl (Nat.le_of_ble_eq_true rfl) (roomy_k (by omega) (by decide)) (Nat.le_refl _) (Nat.le_refl _) ?_
  rintro _ _ ⟨rfl, J99, rfl, e_J99, (⟨z9, _⟩ | ⟨_, hf100⟩)⟩
  · cases z9
  · have hrd := hrd.tr e_J99
    refine x_iconst (v := nI 0) dX2_readAnd_5 (by decide) ?_
    refine x_istore_n (lv' := [(2, .int (nI 0)), (0, .ref (b + 5)), (1, .ref (b + 8 + 3 * t))]) dX2_readAnd_6 rfl (by decide) rfl ?_
    exact k_AndH (K := K) rc hf100 (i := 0) (by omega) (PQ.no hf100 hrd)

set_option maxHeartbeats 4000000 in
set_option maxRecDepth 100000 in
theorem r_A3_ {tb : Nat → Int32} {ts : Nat} {p o : Nat} (h : ¬ sgA (tkF tb ts p)) : cLP tb ts yX2_readAnd cX2_readAnd 3 (6 * (5 - o) + 7) p o (true, p, []) := by
  intro G Sh R b t K k i d' C J Q rc hg hC hi hd hQ
  obtain ⟨_, z1, z2, z3, z4, z5, _, _, zz, _⟩ := rc.1
  have zT := zz t rc.2.2
  obtain ⟨_, _, _, _, _, _, _, _, w1, w2, w3, w0, _, _, wW, _⟩ := rc.2.1
  have wT := wW t rc.2.2
  have t6 := rc.2.2
  have hrd : rdE b t J J := rdE.rf
  have hps := hg.ps
  have h160 := hg.2.2.2.2.2.2.2.2.2.2
  refine x_iload_n dX2_readAnd_7 0 rfl rfl ?_
  refine x_sipush (v := 160) dX2_readAnd_8 (by decide) ?_
  refine x_icmp_ge (tgt := 50) dX2_readAnd_11 (by decide) (fun c_11 => ?_) (fun c_11 => ?_)
  · have c_11 : 160 ≤ i := (nI_leI (a := 160) (b := i) (by omega) (by omega)).mp c_11
    refine x_vret dX2_readAnd_50 rfl (Nat.le_refl _) (Nat.le_refl _) ?_
    exact hQ _ (PQ.ok hg rdE.rf (List.append_nil C).symm)
  · have c_11 : ¬ 160 ≤ i := fun zz9 => c_11 ((nI_leI (a := 160) (b := i) (by omega) (by omega)).mpr zz9)
    refine x_aload_n dX2_readAnd_14 1 rfl rfl ?_
    refine x_gI (v := tkF tb ts p) dX2_readAnd_15 fl_2_46 rfl z5 hg.2.1 ?_
    refine x_bipush (v := (-10)) dX2_readAnd_18 (by decide) ?_
    refine x_icmp_ne (tgt := 50) dX2_readAnd_20 (by decide) (fun c_20 => ?_) (fun c_20 => False.elim (h c_20))
    refine x_vret dX2_readAnd_50 rfl (Nat.le_refl _) (Nat.le_refl _) ?_
    exact hQ _ (PQ.ok hg rdE.rf (List.append_nil C).symm)

set_option maxHeartbeats 4000000 in
set_option maxRecDepth 100000 in
theorem r_A4_ {tb : Nat → Int32} {ts : Nat} {p o p1 : Nat} {Q1 : List Int32} {r : RES} (h : sgA (tkF tb ts p)) (a : MA tb ts 3 (nxF tb ts p) o (true, p1, Q1)) (a2 : MA tb ts 14 p1 o r) : cLP tb ts yX2_readAnd cX2_readAnd 3 (6 * (5 - o) + 7) p o (preR (Q1 ++ [(-10)]) r) := by
  intro G Sh R b t K k i d' C J Q rc hg hC hi hd hQ
  obtain ⟨_, z1, z2, z3, z4, z5, _, _, zz, _⟩ := rc.1
  have zT := zz t rc.2.2
  obtain ⟨_, _, _, _, _, _, _, _, w1, w2, w3, w0, _, _, wW, _⟩ := rc.2.1
  have wT := wW t rc.2.2
  have t6 := rc.2.2
  have hrd : rdE b t J J := rdE.rf
  have hps := hg.ps
  have h160 := hg.2.2.2.2.2.2.2.2.2.2
  have hnt : ¬ endT (tkF tb ts p) := by rw [h]; unfold endT; decide
  have hlt := nx_lt (tb := tb) hps hnt
  have hle := nx_le (tb := tb) hps
  refine x_iload_n dX2_readAnd_7 0 rfl rfl ?_
  refine x_sipush (v := 160) dX2_readAnd_8 (by decide) ?_
  refine x_icmp_ge (tgt := 50) dX2_readAnd_11 (by decide) (fun c_11 => False.elim (absurd ((nI_leI (a := 160) (b := i) (by omega) (by omega)).mp c_11) (by omega))) (fun c_11 => ?_)
  refine x_aload_n dX2_readAnd_14 1 rfl rfl ?_
  refine x_gI (v := tkF tb ts p) dX2_readAnd_15 fl_2_46 rfl z5 hg.2.1 ?_
  refine x_bipush (v := (-10)) dX2_readAnd_18 (by decide) ?_
  refine x_icmp_ne (tgt := 50) dX2_readAnd_20 (by decide) (fun c_20 => False.elim (c_20 h)) (fun c_20 => ?_)
  refine x_aload_n dX2_readAnd_23 1 rfl rfl ?_
  refine x_aload_n dX2_readAnd_24 1 rfl rfl ?_
  refine x_gI (v := nI k) dX2_readAnd_25 fl_2_62 rfl z5 hg.1 ?_
  refine x_iconst (v := nI 1) dX2_readAnd_28 (by decide) ?_
  refine x_iadd dX2_readAnd_29 ?_
  refine x_vali (nI_add k 1) ?_
  refine x_callV (k_goTo (G := G) (tb := tb) (ts := ts) (K := K) rc (J := J) (n := k + 1) (by have := hg.le; have := hg.2.2.2.2.2.2.1.1; have := hg.lt hnt; omega)) dX2_readAnd_30 crc_X2_goTo vc_2_32 z5 rfl rfl rfl rfl (Nat.le_of_ble_eq_true rfl) (roomy_k (by omega) (by decide)) (Nat.le_refl _) (Nat.le_refl _) ?_
  rintro _ _ ⟨rfl, eg9⟩
  obtain ⟨J101, e_J101⟩ : ∃ z : HI, z = u2 (u2 J (b + 5) 1 (nI (k + 1))) (b + 5) 2 (J (b + 3) (k + 1)) := ⟨_, rfl⟩
  rw [← e_J101] at eg9
  subst eg9
  have hg102' := GS.next hg hnt e_J101
  have hg102 := hg102'.1
  have hrd := hrd.tr hg102'.2
  refine x_aload_n dX2_readAnd_33 1 rfl rfl ?_
  refine x_aload_n dX2_readAnd_34 2 rfl rfl ?_
  refine x_callV (a.2 G Sh R b t K _ C J101 rc hg102 (by first | omega | (simp; omega))) dX2_readAnd_35 crc_X2_readNot vc_2_68 z5 rfl rfl rfl rfl (Nat.le_of_ble_eq_true rfl) (roomy_k (by omega) (by decide)) (Nat.le_refl _) (Nat.le_refl _) ?_
  rintro _ _ ⟨rfl, J103, rfl, e_J103, (⟨_, k_J103, hg104⟩ | ⟨z9, _⟩)⟩
  · have hrd := hrd.tr e_J103
    have hp_p1 : p1 ≤ ts := hg104.ps
    have hm_p1 : (nxF tb ts p) ≤ p1 := (a.1 (by omega)).1
    have hq_p1 : Q1.length ≤ p1 - (nxF tb ts p) := ((a.1 (by omega)).2.2 rfl).1
    refine x_aload_n dX2_readAnd_38 2 rfl rfl ?_
    refine x_bipush (v := (-10)) dX2_readAnd_39 (by decide) ?_
    refine x_callV (k_add1 (G := G) rc hg104 (by simp; omega) (c := (-10))) dX2_readAnd_41 crc_X6_add vc_2_65 zT.1 rfl rfl rfl rfl (Nat.le_of_ble_eq_true rfl) (roomy_k (by omega) (by decide)) (Nat.le_refl _) (Nat.le_refl _) ?_
    rintro _ _ ⟨rfl, J105, rfl, hg106, e_J105⟩
    have hrd := hrd.tr e_J105
    refine x_iinc (v := nI (i + 1)) (lv' := [(2, .int (nI (i + 1))), (0, .ref (b + 5)), (1, .ref (b + 8 + 3 * t))]) dX2_readAnd_44 0 rfl (nI_1 i) (by decide) rfl ?_
    refine x_goto (tgt := 7) dX2_readAnd_47 (by decide) ?_
    refine x_sub [0, 1, 2] rfl ?_
    exact a2.2 G Sh R b t K _ (i + 1) d' ((C ++ Q1) ++ [(-10)]) J105 Q rc hg106 (by simp; omega) (by omega) hd (fun g q => hQ g (PQ.pre (by rw [← List.append_assoc]; exact q.tr hrd)))
  · cases z9

set_option maxHeartbeats 4000000 in
set_option maxRecDepth 100000 in
theorem r_A5_ {tb : Nat → Int32} {ts : Nat} {p o p1 : Nat} {Q1 : List Int32} (h : sgA (tkF tb ts p)) (a : MA tb ts 3 (nxF tb ts p) o (false, p1, Q1)) : cLP tb ts yX2_readAnd cX2_readAnd 3 (6 * (5 - o) + 7) p o (false, p1, Q1) := by
  intro G Sh R b t K k i d' C J Q rc hg hC hi hd hQ
  obtain ⟨_, z1, z2, z3, z4, z5, _, _, zz, _⟩ := rc.1
  have zT := zz t rc.2.2
  obtain ⟨_, _, _, _, _, _, _, _, w1, w2, w3, w0, _, _, wW, _⟩ := rc.2.1
  have wT := wW t rc.2.2
  have t6 := rc.2.2
  have hrd : rdE b t J J := rdE.rf
  have hps := hg.ps
  have h160 := hg.2.2.2.2.2.2.2.2.2.2
  have hnt : ¬ endT (tkF tb ts p) := by rw [h]; unfold endT; decide
  have hlt := nx_lt (tb := tb) hps hnt
  have hle := nx_le (tb := tb) hps
  refine x_iload_n dX2_readAnd_7 0 rfl rfl ?_
  refine x_sipush (v := 160) dX2_readAnd_8 (by decide) ?_
  refine x_icmp_ge (tgt := 50) dX2_readAnd_11 (by decide) (fun c_11 => False.elim (absurd ((nI_leI (a := 160) (b := i) (by omega) (by omega)).mp c_11) (by omega))) (fun c_11 => ?_)
  refine x_aload_n dX2_readAnd_14 1 rfl rfl ?_
  refine x_gI (v := tkF tb ts p) dX2_readAnd_15 fl_2_46 rfl z5 hg.2.1 ?_
  refine x_bipush (v := (-10)) dX2_readAnd_18 (by decide) ?_
  refine x_icmp_ne (tgt := 50) dX2_readAnd_20 (by decide) (fun c_20 => False.elim (c_20 h)) (fun c_20 => ?_)
  refine x_aload_n dX2_readAnd_23 1 rfl rfl ?_
  refine x_aload_n dX2_readAnd_24 1 rfl rfl ?_
  refine x_gI (v := nI k) dX2_readAnd_25 fl_2_62 rfl z5 hg.1 ?_
  refine x_iconst (v := nI 1) dX2_readAnd_28 (by decide) ?_
  refine x_iadd dX2_readAnd_29 ?_
  refine x_vali (nI_add k 1) ?_
  refine x_callV (k_goTo (G := G) (tb := tb) (ts := ts) (K := K) rc (J := J) (n := k + 1) (by have := hg.le; have := hg.2.2.2.2.2.2.1.1; have := hg.lt hnt; omega)) dX2_readAnd_30 crc_X2_goTo vc_2_32 z5 rfl rfl rfl rfl (Nat.le_of_ble_eq_true rfl) (roomy_k (by omega) (by decide)) (Nat.le_refl _) (Nat.le_refl _) ?_
  rintro _ _ ⟨rfl, eg9⟩
  obtain ⟨J107, e_J107⟩ : ∃ z : HI, z = u2 (u2 J (b + 5) 1 (nI (k + 1))) (b + 5) 2 (J (b + 3) (k + 1)) := ⟨_, rfl⟩
  rw [← e_J107] at eg9
  subst eg9
  have hg108' := GS.next hg hnt e_J107
  have hg108 := hg108'.1
  have hrd := hrd.tr hg108'.2
  refine x_aload_n dX2_readAnd_33 1 rfl rfl ?_
  refine x_aload_n dX2_readAnd_34 2 rfl rfl ?_
  refine x_callV (a.2 G Sh R b t K _ C J107 rc hg108 (by first | omega | (simp; omega))) dX2_readAnd_35 crc_X2_readNot vc_2_68 z5 rfl rfl rfl rfl (Nat.le_of_ble_eq_true rfl) (roomy_k (by omega) (by decide)) (Nat.le_refl _) (Nat.le_refl _) ?_
  rintro _ _ ⟨rfl, J109, rfl, e_J109, (⟨z9, _⟩ | ⟨_, hf110⟩)⟩
  · cases z9
  · have hrd := hrd.tr e_J109
    refine x_aload_n dX2_readAnd_38 2 rfl rfl ?_
    refine x_bipush (v := (-10)) dX2_readAnd_39 (by decide) ?_
    refine x_callV (k_addF (G := G) (K := K) (tb := tb) (ts := ts) rc (J := J109) (c := (-10))) dX2_readAnd_41 crc_X6_add vc_2_65 zT.1 rfl rfl rfl rfl (Nat.le_of_ble_eq_true rfl) (roomy_k (by omega) (by decide)) (Nat.le_refl _) (Nat.le_refl _) ?_
    rintro _ _ ⟨rfl, J111, rfl, q_J111, e_J111⟩
    have hg112 := FS.up hf110 (fun k _ => q_J111 k)
    have hrd := hrd.tr e_J111
    refine x_iinc (v := nI (i + 1)) (lv' := [(2, .int (nI (i + 1))), (0, .ref (b + 5)), (1, .ref (b + 8 + 3 * t))]) dX2_readAnd_44 0 rfl (nI_1 i) (by decide) rfl ?_
    refine x_goto (tgt := 7) dX2_readAnd_47 (by decide) ?_
    refine x_sub [0, 1, 2] rfl ?_
    exact k_AndH (K := K) rc hg112 (i := i + 1) (by omega) (hQ _ (PQ.no hg112 hrd))

set_option maxHeartbeats 4000000 in
set_option maxRecDepth 100000 in
theorem r_E1 {tb : Nat → Int32} {ts : Nat} {p o p1 : Nat} {Q1 : List Int32} {r : RES} (a : MA tb ts 4 p o (true, p1, Q1)) (a2 : MA tb ts 15 p1 o r) : cAM tb ts yX2_readE cX2_readE 3 (6 * (5 - o) + 8) p o (preR Q1 r) := by
  intro G Sh R b t K k C J rc hg hC
  obtain ⟨_, z1, z2, z3, z4, z5, _, _, zz, _⟩ := rc.1
  have zT := zz t rc.2.2
  obtain ⟨_, _, _, _, _, _, _, _, w1, w2, w3, w0, _, _, wW, _⟩ := rc.2.1
  have wT := wW t rc.2.2
  have t6 := rc.2.2
  have hrd : rdE b t J J := rdE.rf
  have hps := hg.ps
  have h160 := hg.2.2.2.2.2.2.2.2.2.2
  refine am_intro (by decide) (Nat.le_of_ble_eq_true rfl) ?_
  refine x_aload_n dX2_readE_0 0 rfl rfl ?_
  refine x_aload_n dX2_readE_1 1 rfl rfl ?_
  refine x_callV (a.2 G Sh R b t K _ C J rc hg (by first | omega | (simp; omega))) dX2_readE_2 crc_X2_readAnd vc_2_59 z5 rfl rfl rfl rfl (Nat.le_of_ble_eq_true rfl) (roomy_k (by omega) (by decide)) (Nat.le_refl _) (Nat.le_refl _) ?_
  rintro _ _ ⟨rfl, J113, rfl, e_J113, (⟨_, k_J113, hg114⟩ | ⟨z9, _⟩)⟩
  · have hrd := hrd.tr e_J113
    have hp_p1 : p1 ≤ ts := hg114.ps
    have hm_p1 : p ≤ p1 := (a.1 (by omega)).1
    have hq_p1 : Q1.length ≤ p1 - p := ((a.1 (by omega)).2.2 rfl).1
    refine x_iconst (v := nI 0) dX2_readE_5 (by decide) ?_
    refine x_istore_n (lv' := [(2, .int (nI 0)), (0, .ref (b + 5)), (1, .ref (b + 8 + 3 * t))]) dX2_readE_6 rfl (by decide) rfl ?_
    exact a2.2 G Sh R b t K _ 0 _ (C ++ Q1) J113 _ rc hg114 (by simp; omega) (Nat.zero_le _) (Nat.le_refl _) (fun g q => (q.tr hrd).pre)
  · cases z9

set_option maxHeartbeats 4000000 in
set_option maxRecDepth 100000 in
theorem r_E2 {tb : Nat → Int32} {ts : Nat} {p o p1 : Nat} {Q1 : List Int32} (a : MA tb ts 4 p o (false, p1, Q1)) : cAM tb ts yX2_readE cX2_readE 3 (6 * (5 - o) + 8) p o (false, p1, Q1) := by
  intro G Sh R b t K k C J rc hg hC
  obtain ⟨_, z1, z2, z3, z4, z5, _, _, zz, _⟩ := rc.1
  have zT := zz t rc.2.2
  obtain ⟨_, _, _, _, _, _, _, _, w1, w2, w3, w0, _, _, wW, _⟩ := rc.2.1
  have wT := wW t rc.2.2
  have t6 := rc.2.2
  have hrd : rdE b t J J := rdE.rf
  have hps := hg.ps
  have h160 := hg.2.2.2.2.2.2.2.2.2.2
  refine am_intro (by decide) (Nat.le_of_ble_eq_true rfl) ?_
  refine x_aload_n dX2_readE_0 0 rfl rfl ?_
  refine x_aload_n dX2_readE_1 1 rfl rfl ?_
  refine x_callV (a.2 G Sh R b t K _ C J rc hg (by first | omega | (simp; omega))) dX2_readE_2 crc_X2_readAnd vc_2_59 z5 rfl rfl rfl rfl (Nat.le_of_ble_eq_true rfl) (roomy_k (by omega) (by decide)) (Nat.le_refl _) (Nat.le_refl _) ?_
  rintro _ _ ⟨rfl, J115, rfl, e_J115, (⟨z9, _⟩ | ⟨_, hf116⟩)⟩
  · cases z9
  · have hrd := hrd.tr e_J115
    refine x_iconst (v := nI 0) dX2_readE_5 (by decide) ?_
    refine x_istore_n (lv' := [(2, .int (nI 0)), (0, .ref (b + 5)), (1, .ref (b + 8 + 3 * t))]) dX2_readE_6 rfl (by decide) rfl ?_
    exact k_EH (K := K) rc hf116 (i := 0) (by omega) (PQ.no hf116 hrd)

set_option maxHeartbeats 4000000 in
set_option maxRecDepth 100000 in
theorem r_E3 {tb : Nat → Int32} {ts : Nat} {p o : Nat} (h : ¬ sgO (tkF tb ts p)) : cLP tb ts yX2_readE cX2_readE 3 (6 * (5 - o) + 8) p o (true, p, []) := by
  intro G Sh R b t K k i d' C J Q rc hg hC hi hd hQ
  obtain ⟨_, z1, z2, z3, z4, z5, _, _, zz, _⟩ := rc.1
  have zT := zz t rc.2.2
  obtain ⟨_, _, _, _, _, _, _, _, w1, w2, w3, w0, _, _, wW, _⟩ := rc.2.1
  have wT := wW t rc.2.2
  have t6 := rc.2.2
  have hrd : rdE b t J J := rdE.rf
  have hps := hg.ps
  have h160 := hg.2.2.2.2.2.2.2.2.2.2
  refine x_iload_n dX2_readE_7 0 rfl rfl ?_
  refine x_sipush (v := 160) dX2_readE_8 (by decide) ?_
  refine x_icmp_ge (tgt := 50) dX2_readE_11 (by decide) (fun c_11 => ?_) (fun c_11 => ?_)
  · have c_11 : 160 ≤ i := (nI_leI (a := 160) (b := i) (by omega) (by omega)).mp c_11
    refine x_vret dX2_readE_50 rfl (Nat.le_refl _) (Nat.le_refl _) ?_
    exact hQ _ (PQ.ok hg rdE.rf (List.append_nil C).symm)
  · have c_11 : ¬ 160 ≤ i := fun zz9 => c_11 ((nI_leI (a := 160) (b := i) (by omega) (by omega)).mpr zz9)
    refine x_aload_n dX2_readE_14 1 rfl rfl ?_
    refine x_gI (v := tkF tb ts p) dX2_readE_15 fl_2_46 rfl z5 hg.2.1 ?_
    refine x_bipush (v := (-9)) dX2_readE_18 (by decide) ?_
    refine x_icmp_ne (tgt := 50) dX2_readE_20 (by decide) (fun c_20 => ?_) (fun c_20 => False.elim (h c_20))
    refine x_vret dX2_readE_50 rfl (Nat.le_refl _) (Nat.le_refl _) ?_
    exact hQ _ (PQ.ok hg rdE.rf (List.append_nil C).symm)

set_option maxHeartbeats 4000000 in
set_option maxRecDepth 100000 in
theorem r_E4 {tb : Nat → Int32} {ts : Nat} {p o p1 : Nat} {Q1 : List Int32} {r : RES} (h : sgO (tkF tb ts p)) (a : MA tb ts 4 (nxF tb ts p) o (true, p1, Q1)) (a2 : MA tb ts 15 p1 o r) : cLP tb ts yX2_readE cX2_readE 3 (6 * (5 - o) + 8) p o (preR (Q1 ++ [(-9)]) r) := by
  intro G Sh R b t K k i d' C J Q rc hg hC hi hd hQ
  obtain ⟨_, z1, z2, z3, z4, z5, _, _, zz, _⟩ := rc.1
  have zT := zz t rc.2.2
  obtain ⟨_, _, _, _, _, _, _, _, w1, w2, w3, w0, _, _, wW, _⟩ := rc.2.1
  have wT := wW t rc.2.2
  have t6 := rc.2.2
  have hrd : rdE b t J J := rdE.rf
  have hps := hg.ps
  have h160 := hg.2.2.2.2.2.2.2.2.2.2
  have hnt : ¬ endT (tkF tb ts p) := by rw [h]; unfold endT; decide
  have hlt := nx_lt (tb := tb) hps hnt
  have hle := nx_le (tb := tb) hps
  refine x_iload_n dX2_readE_7 0 rfl rfl ?_
  refine x_sipush (v := 160) dX2_readE_8 (by decide) ?_
  refine x_icmp_ge (tgt := 50) dX2_readE_11 (by decide) (fun c_11 => False.elim (absurd ((nI_leI (a := 160) (b := i) (by omega) (by omega)).mp c_11) (by omega))) (fun c_11 => ?_)
  refine x_aload_n dX2_readE_14 1 rfl rfl ?_
  refine x_gI (v := tkF tb ts p) dX2_readE_15 fl_2_46 rfl z5 hg.2.1 ?_
  refine x_bipush (v := (-9)) dX2_readE_18 (by decide) ?_
  refine x_icmp_ne (tgt := 50) dX2_readE_20 (by decide) (fun c_20 => False.elim (c_20 h)) (fun c_20 => ?_)
  refine x_aload_n dX2_readE_23 1 rfl rfl ?_
  refine x_aload_n dX2_readE_24 1 rfl rfl ?_
  refine x_gI (v := nI k) dX2_readE_25 fl_2_62 rfl z5 hg.1 ?_
  refine x_iconst (v := nI 1) dX2_readE_28 (by decide) ?_
  refine x_iadd dX2_readE_29 ?_
  refine x_vali (nI_add k 1) ?_
  refine x_callV (k_goTo (G := G) (tb := tb) (ts := ts) (K := K) rc (J := J) (n := k + 1) (by have := hg.le; have := hg.2.2.2.2.2.2.1.1; have := hg.lt hnt; omega)) dX2_readE_30 crc_X2_goTo vc_2_32 z5 rfl rfl rfl rfl (Nat.le_of_ble_eq_true rfl) (roomy_k (by omega) (by decide)) (Nat.le_refl _) (Nat.le_refl _) ?_
  rintro _ _ ⟨rfl, eg9⟩
  obtain ⟨J117, e_J117⟩ : ∃ z : HI, z = u2 (u2 J (b + 5) 1 (nI (k + 1))) (b + 5) 2 (J (b + 3) (k + 1)) := ⟨_, rfl⟩
  rw [← e_J117] at eg9
  subst eg9
  have hg118' := GS.next hg hnt e_J117
  have hg118 := hg118'.1
  have hrd := hrd.tr hg118'.2
  refine x_aload_n dX2_readE_33 1 rfl rfl ?_
  refine x_aload_n dX2_readE_34 2 rfl rfl ?_
  refine x_callV (a.2 G Sh R b t K _ C J117 rc hg118 (by first | omega | (simp; omega))) dX2_readE_35 crc_X2_readAnd vc_2_59 z5 rfl rfl rfl rfl (Nat.le_of_ble_eq_true rfl) (roomy_k (by omega) (by decide)) (Nat.le_refl _) (Nat.le_refl _) ?_
  rintro _ _ ⟨rfl, J119, rfl, e_J119, (⟨_, k_J119, hg120⟩ | ⟨z9, _⟩)⟩
  · have hrd := hrd.tr e_J119
    have hp_p1 : p1 ≤ ts := hg120.ps
    have hm_p1 : (nxF tb ts p) ≤ p1 := (a.1 (by omega)).1
    have hq_p1 : Q1.length ≤ p1 - (nxF tb ts p) := ((a.1 (by omega)).2.2 rfl).1
    refine x_aload_n dX2_readE_38 2 rfl rfl ?_
    refine x_bipush (v := (-9)) dX2_readE_39 (by decide) ?_
    refine x_callV (k_add1 (G := G) rc hg120 (by simp; omega) (c := (-9))) dX2_readE_41 crc_X6_add vc_2_65 zT.1 rfl rfl rfl rfl (Nat.le_of_ble_eq_true rfl) (roomy_k (by omega) (by decide)) (Nat.le_refl _) (Nat.le_refl _) ?_
    rintro _ _ ⟨rfl, J121, rfl, hg122, e_J121⟩
    have hrd := hrd.tr e_J121
    refine x_iinc (v := nI (i + 1)) (lv' := [(2, .int (nI (i + 1))), (0, .ref (b + 5)), (1, .ref (b + 8 + 3 * t))]) dX2_readE_44 0 rfl (nI_1 i) (by decide) rfl ?_
    refine x_goto (tgt := 7) dX2_readE_47 (by decide) ?_
    refine x_sub [0, 1, 2] rfl ?_
    exact a2.2 G Sh R b t K _ (i + 1) d' ((C ++ Q1) ++ [(-9)]) J121 Q rc hg122 (by simp; omega) (by omega) hd (fun g q => hQ g (PQ.pre (by rw [← List.append_assoc]; exact q.tr hrd)))
  · cases z9

set_option maxHeartbeats 4000000 in
set_option maxRecDepth 100000 in
theorem r_E5 {tb : Nat → Int32} {ts : Nat} {p o p1 : Nat} {Q1 : List Int32} (h : sgO (tkF tb ts p)) (a : MA tb ts 4 (nxF tb ts p) o (false, p1, Q1)) : cLP tb ts yX2_readE cX2_readE 3 (6 * (5 - o) + 8) p o (false, p1, Q1) := by
  intro G Sh R b t K k i d' C J Q rc hg hC hi hd hQ
  obtain ⟨_, z1, z2, z3, z4, z5, _, _, zz, _⟩ := rc.1
  have zT := zz t rc.2.2
  obtain ⟨_, _, _, _, _, _, _, _, w1, w2, w3, w0, _, _, wW, _⟩ := rc.2.1
  have wT := wW t rc.2.2
  have t6 := rc.2.2
  have hrd : rdE b t J J := rdE.rf
  have hps := hg.ps
  have h160 := hg.2.2.2.2.2.2.2.2.2.2
  have hnt : ¬ endT (tkF tb ts p) := by rw [h]; unfold endT; decide
  have hlt := nx_lt (tb := tb) hps hnt
  have hle := nx_le (tb := tb) hps
  refine x_iload_n dX2_readE_7 0 rfl rfl ?_
  refine x_sipush (v := 160) dX2_readE_8 (by decide) ?_
  refine x_icmp_ge (tgt := 50) dX2_readE_11 (by decide) (fun c_11 => False.elim (absurd ((nI_leI (a := 160) (b := i) (by omega) (by omega)).mp c_11) (by omega))) (fun c_11 => ?_)
  refine x_aload_n dX2_readE_14 1 rfl rfl ?_
  refine x_gI (v := tkF tb ts p) dX2_readE_15 fl_2_46 rfl z5 hg.2.1 ?_
  refine x_bipush (v := (-9)) dX2_readE_18 (by decide) ?_
  refine x_icmp_ne (tgt := 50) dX2_readE_20 (by decide) (fun c_20 => False.elim (c_20 h)) (fun c_20 => ?_)
  refine x_aload_n dX2_readE_23 1 rfl rfl ?_
  refine x_aload_n dX2_readE_24 1 rfl rfl ?_
  refine x_gI (v := nI k) dX2_readE_25 fl_2_62 rfl z5 hg.1 ?_
  refine x_iconst (v := nI 1) dX2_readE_28 (by decide) ?_
  refine x_iadd dX2_readE_29 ?_
  refine x_vali (nI_add k 1) ?_
  refine x_callV (k_goTo (G := G) (tb := tb) (ts := ts) (K := K) rc (J := J) (n := k + 1) (by have := hg.le; have := hg.2.2.2.2.2.2.1.1; have := hg.lt hnt; omega)) dX2_readE_30 crc_X2_goTo vc_2_32 z5 rfl rfl rfl rfl (Nat.le_of_ble_eq_true rfl) (roomy_k (by omega) (by decide)) (Nat.le_refl _) (Nat.le_refl _) ?_
  rintro _ _ ⟨rfl, eg9⟩
  obtain ⟨J123, e_J123⟩ : ∃ z : HI, z = u2 (u2 J (b + 5) 1 (nI (k + 1))) (b + 5) 2 (J (b + 3) (k + 1)) := ⟨_, rfl⟩
  rw [← e_J123] at eg9
  subst eg9
  have hg124' := GS.next hg hnt e_J123
  have hg124 := hg124'.1
  have hrd := hrd.tr hg124'.2
  refine x_aload_n dX2_readE_33 1 rfl rfl ?_
  refine x_aload_n dX2_readE_34 2 rfl rfl ?_
  refine x_callV (a.2 G Sh R b t K _ C J123 rc hg124 (by first | omega | (simp; omega))) dX2_readE_35 crc_X2_readAnd vc_2_59 z5 rfl rfl rfl rfl (Nat.le_of_ble_eq_true rfl) (roomy_k (by omega) (by decide)) (Nat.le_refl _) (Nat.le_refl _) ?_
  rintro _ _ ⟨rfl, J125, rfl, e_J125, (⟨z9, _⟩ | ⟨_, hf126⟩)⟩
  · cases z9
  · have hrd := hrd.tr e_J125
    refine x_aload_n dX2_readE_38 2 rfl rfl ?_
    refine x_bipush (v := (-9)) dX2_readE_39 (by decide) ?_
    refine x_callV (k_addF (G := G) (K := K) (tb := tb) (ts := ts) rc (J := J125) (c := (-9))) dX2_readE_41 crc_X6_add vc_2_65 zT.1 rfl rfl rfl rfl (Nat.le_of_ble_eq_true rfl) (roomy_k (by omega) (by decide)) (Nat.le_refl _) (Nat.le_refl _) ?_
    rintro _ _ ⟨rfl, J127, rfl, q_J127, e_J127⟩
    have hg128 := FS.up hf126 (fun k _ => q_J127 k)
    have hrd := hrd.tr e_J127
    refine x_iinc (v := nI (i + 1)) (lv' := [(2, .int (nI (i + 1))), (0, .ref (b + 5)), (1, .ref (b + 8 + 3 * t))]) dX2_readE_44 0 rfl (nI_1 i) (by decide) rfl ?_
    refine x_goto (tgt := 7) dX2_readE_47 (by decide) ?_
    refine x_sub [0, 1, 2] rfl ?_
    exact k_EH (K := K) rc hg128 (i := i + 1) (by omega) (hQ _ (PQ.no hg128 hrd))

theorem MA_clo {tb : Nat → Int32} {ts : Nat} : Clo (tkF tb ts) (nxF tb ts) (MA tb ts) := by
  have P := mp_clo (tk := tkF tb ts) (nx := nxF tb ts) (ts := ts) (fun _ q => nx_le q) (fun _ q e => nx_lt q e) tk_num0
  obtain ⟨⟨A1, A2, A3, A4, A5, A6⟩, ⟨O1, O2⟩, ⟨T1, T2, T3, T4, T5⟩, ⟨S1, S2, S3, S4, S5⟩, ⟨C1, C2, C3, C4⟩, ⟨N1, N2⟩, ⟨B1, B2, B3, B4, B5⟩, ⟨E1, E2, E3, E4, E5⟩⟩ := P
  refine ⟨⟨?_, ?_, ?_, ?_, ?_, ?_⟩, ⟨?_, ?_⟩, ⟨?_, ?_, ?_, ?_, ?_⟩, ⟨?_, ?_, ?_, ?_, ?_⟩, ⟨?_, ?_, ?_, ?_⟩, ⟨?_, ?_⟩, ⟨?_, ?_, ?_, ?_, ?_⟩, ⟨?_, ?_, ?_, ?_, ?_⟩⟩
  · exact fun p o h => ⟨A1 p o h, r_A1 h⟩
  · exact fun p o h h0 => ⟨A2 p o h h0, r_A2 h h0⟩
  · exact fun p o p1 Q h h4 a e => ⟨A3 p o p1 Q h h4 a.1 e, r_A3 h h4 a e⟩
  · exact fun p o p1 Q h h4 a e => ⟨A4 p o p1 Q h h4 a.1 e, r_A4 h h4 a e⟩
  · exact fun p o p1 Q h h4 a => ⟨A5 p o p1 Q h h4 a.1, r_A5 h h4 a⟩
  · exact fun p o h h0 h4 => ⟨A6 p o h h0 h4, r_A6 h h0 h4⟩
  · exact fun p o j r h1 h2 h3 a => ⟨O1 p o j r h1 h2 h3 a.1, r_O1 h1 h2 h3 a⟩
  · exact fun p o j h1 h2 => ⟨O2 p o j h1 h2, r_O2 h1 h2⟩
  · exact fun p o p1 Q1 r a c => ⟨T1 p o p1 Q1 r a.1 c.1, r_T1 a c⟩
  · exact fun p o p1 Q1 a => ⟨T2 p o p1 Q1 a.1, r_T2 a⟩
  · exact fun p o h => ⟨T3 p o h, r_T3 h⟩
  · exact fun p o p1 Q1 r h a c => ⟨T4 p o p1 Q1 r h a.1 c.1, r_T4 h a c⟩
  · exact fun p o p1 Q1 h a => ⟨T5 p o p1 Q1 h a.1, r_T5 h a⟩
  · exact fun p o p1 Q1 r a c => ⟨S1 p o p1 Q1 r a.1 c.1, r_S1 a c⟩
  · exact fun p o p1 Q1 a => ⟨S2 p o p1 Q1 a.1, r_S2 a⟩
  · exact fun p o h => ⟨S3 p o h, r_S3 h⟩
  · exact fun p o p1 Q1 r h a c => ⟨S4 p o p1 Q1 r h a.1 c.1, r_S4 h a c⟩
  · exact fun p o p1 Q1 h a => ⟨S5 p o p1 Q1 h a.1, r_S5 h a⟩
  · exact fun p o p1 Q1 a h => ⟨C1 p o p1 Q1 a.1 h, r_C1 (p2 := 0) (Q2 := []) a h⟩
  · exact fun p o p1 Q1 p2 Q2 a h c => ⟨C2 p o p1 Q1 p2 Q2 a.1 h c.1, r_C2 a h c⟩
  · exact fun p o p1 Q1 p2 Q2 a h c => ⟨C3 p o p1 Q1 p2 Q2 a.1 h c.1, r_C3 a h c⟩
  · exact fun p o p1 Q1 a => ⟨C4 p o p1 Q1 a.1, r_C4 (p2 := 0) (Q2 := []) a⟩
  · exact fun p o j r h1 h2 h3 a => ⟨N1 p o j r h1 h2 h3 a.1, r_N1 h1 h2 h3 a⟩
  · exact fun p o j h1 h2 => ⟨N2 p o j h1 h2, r_N2 h1 h2⟩
  · exact fun p o p1 Q1 r a c => ⟨B1 p o p1 Q1 r a.1 c.1, r_A1_ a c⟩
  · exact fun p o p1 Q1 a => ⟨B2 p o p1 Q1 a.1, r_A2_ a⟩
  · exact fun p o h => ⟨B3 p o h, r_A3_ h⟩
  · exact fun p o p1 Q1 r h a c => ⟨B4 p o p1 Q1 r h a.1 c.1, r_A4_ h a c⟩
  · exact fun p o p1 Q1 h a => ⟨B5 p o p1 Q1 h a.1, r_A5_ h a⟩
  · exact fun p o p1 Q1 r a c => ⟨E1 p o p1 Q1 r a.1 c.1, r_E1 a c⟩
  · exact fun p o p1 Q1 a => ⟨E2 p o p1 Q1 a.1, r_E2 a⟩
  · exact fun p o h => ⟨E3 p o h, r_E3 h⟩
  · exact fun p o p1 Q1 r h a c => ⟨E4 p o p1 Q1 r h a.1 c.1, r_E4 h a c⟩
  · exact fun p o p1 Q1 h a => ⟨E5 p o p1 Q1 h a.1, r_E5 h a⟩

