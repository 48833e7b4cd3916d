set_option maxHeartbeats 4000000 in
set_option maxRecDepth 100000 in
theorem k_oneF7 {G : GG} {Sh : HS} {R : HR} {b t K ts : Nat} {tb : Nat → Int32} (rc : RC b t Sh R) {f m d : Nat} {I0 J : HI} (hf : FS tb ts b t f J) (hrd : rdE b t I0 J) (hm : m < 1000) (hd : 3 ≤ d) {Q : AH → Prop} (hQ : ∀ J2 : HI, FS tb ts b t f J2 → rdE b t I0 J2 → Q (Sh, J2, R)) : X G (kM G d 0 0 (qv Q)) yX2_readOne cX2_readOne 3 none 0 0 7 [(2, .int (nI m)), (0, .ref (b + 5)), (1, .ref (b + 8 + 3 * t))] [] (Sh, J, R) := by
  obtain ⟨_, z1, z2, z3, z4, z5, _, _, zz, _⟩ := rc.1
  have zT := zz t rc.2.2
  obtain ⟨_, _, _, _, _, _, _, _, w1, w2, w3, w0, _, _, wW, _⟩ := rc.2.1
  have wT := wW t rc.2.2
  have t6 := rc.2.2
  refine x_aload_n dX2_readOne_7 1 rfl rfl ?_
  refine x_gI (v := 2) dX2_readOne_8 fl_2_46 rfl z5 hf.1 ?_
  refine x_sipush (v := 1000) dX2_readOne_11 (by decide) ?_
  refine x_icmp_lt (tgt := 42) dX2_readOne_14 (by decide) (fun c_14 => ?_) (fun c_14 => False.elim (c_14 (by decide)))
  refine x_aload_n dX2_readOne_42 1 rfl rfl ?_
  refine x_gI (v := 2) dX2_readOne_43 fl_2_46 rfl z5 hf.1 ?_
  refine x_iconst (v := (-1)) dX2_readOne_46 (by decide) ?_
  refine x_icmp_gt (tgt := 80) dX2_readOne_47 (by decide) (fun c_47 => ?_) (fun c_47 => False.elim (c_47 (by decide)))
  refine x_aload_n dX2_readOne_80 1 rfl rfl ?_
  refine x_gI (v := 2) dX2_readOne_81 fl_2_46 rfl z5 hf.1 ?_
  refine x_bipush (v := 40) dX2_readOne_84 (by decide) ?_
  refine x_icmp_ne (tgt := 141) dX2_readOne_86 (by decide) (fun c_86 => ?_) (fun c_86 => False.elim (absurd c_86 (by decide)))
  refine x_aload_n dX2_readOne_141 1 rfl rfl ?_
  refine x_callV (k_failF (G := G) (K := K) rc hf) dX2_readOne_142 crc_X2_fail vc_2_49 z5 rfl rfl rfl rfl (Nat.le_of_ble_eq_true rfl) (roomy_k (by omega) (by decide)) (Nat.le_refl _) (Nat.le_refl _) ?_
  rintro _ _ ⟨rfl, J1, rfl, hf2, e_J1⟩
  have hrd := hrd.tr e_J1
  refine x_aload_n dX2_readOne_145 1 rfl rfl ?_
  refine x_iload_n dX2_readOne_146 0 rfl rfl ?_
  refine x_bipush (v := (-8)) dX2_readOne_147 (by decide) ?_
  refine x_aload_n dX2_readOne_149 2 rfl rfl ?_
  refine x_callV (k_closeF (G := G) (K := K) rc hf2 (m0 := m) (x := (-8)) (by omega)) dX2_readOne_150 crc_X2_closeAll vc_2_78 z5 rfl rfl rfl rfl (Nat.le_of_ble_eq_true rfl) (roomy_k (by omega) (by decide)) (Nat.le_refl _) (Nat.le_refl _) ?_
  rintro _ _ ⟨rfl, J3, rfl, hf4, e_J3⟩
  have hrd := hrd.tr e_J3
  refine x_vret dX2_readOne_153 rfl (Nat.le_refl _) (Nat.le_refl _) ?_
  exact hQ J3 hf4 hrd

set_option maxHeartbeats 4000000 in
set_option maxRecDepth 100000 in
theorem k_oneF {G : GG} {Sh : HS} {R : HR} {b t K ts : Nat} {tb : Nat → Int32} (rc : RC b t Sh R) {f : Nat} {J : HI} (hf : FS tb ts b t f J) : AM G 3 0 0 yX2_readOne cX2_readOne 3 none [.ref (b + 5), .ref (b + 8 + 3 * t)] (Sh, J, R) (qv fun g => ∃ J2 : HI, g = (Sh, J2, R) ∧ FS tb ts b t f J2 ∧ rdE b t J J2) := by
  obtain ⟨_, z1, z2, z3, z4, z5, _, _, zz, _⟩ := rc.1
  have zT := zz t rc.2.2
  obtain ⟨_, _, _, _, _, _, _, _, w1, w2, w3, w0, _, _, wW, _⟩ := rc.2.1
  have wT := wW t rc.2.2
  have t6 := rc.2.2
  have hrd : rdE b t J J := rdE.rf
  refine am_intro (by decide) (Nat.le_of_ble_eq_true rfl) ?_
  refine x_aload_n dX2_readOne_0 0 rfl rfl ?_
  refine x_bipush (v := 45) dX2_readOne_1 (by decide) ?_
  refine x_callV (k_openC (G := G) (K := K) rc hf (sg := 45) (by unfold endT; decide)) dX2_readOne_3 crc_X2_openAll vc_2_71 z5 rfl rfl rfl rfl (Nat.le_of_ble_eq_true rfl) (roomy_k (by omega) (by decide)) (Nat.le_refl _) (Nat.le_refl _) ?_
  rintro _ _ ⟨_, rfl, rfl, J5, rfl, hf6, e_J5⟩
  have hrd := hrd.tr e_J5
  refine x_istore_n (lv' := [(2, .int (nI 0)), (0, .ref (b + 5)), (1, .ref (b + 8 + 3 * t))]) dX2_readOne_6 rfl (by decide) rfl ?_
  exact k_oneF7 (K := K) rc hf6 hrd (by omega) (by omega) (fun J2 q1 q2 => ⟨J2, rfl, q1, q2⟩)

set_option maxHeartbeats 4000000 in
set_option maxRecDepth 100000 in
theorem k_TermH {G : GG} {Sh : HS} {R : HR} {b t K ts : Nat} {tb : Nat → Int32} (rc : RC b t Sh R) {f i d : Nat} {J : HI} (hf : FS tb ts b t f J) (hi : i < 1000) {Q : AH → Prop} (hQ : Q (Sh, J, R)) : X G (kM G d 0 0 (qv Q)) yX2_readTerm cX2_readTerm 3 none 0 0 7 [(2, .int (nI i)), (0, .ref (b + 5)), (1, .ref (b + 8 + 3 * t))] [] (Sh, J, R) := by
  obtain ⟨_, z1, z2, z3, z4, z5, _, _, zz, _⟩ := rc.1
  have zT := zz t rc.2.2
  obtain ⟨_, _, _, _, _, _, _, _, w1, w2, w3, w0, _, _, wW, _⟩ := rc.2.1
  have wT := wW t rc.2.2
  have t6 := rc.2.2
  refine x_iload_n dX2_readTerm_7 0 rfl rfl ?_
  refine x_sipush (v := 160) dX2_readTerm_8 (by decide) ?_
  refine x_icmp_ge (tgt := 50) dX2_readTerm_11 (by decide) (fun c_11 => ?_) (fun c_11 => ?_)
  · have c_11 : 160 ≤ i := (nI_leI (a := 160) (b := i) (by omega) (by omega)).mp c_11
    refine x_vret dX2_readTerm_50 rfl (Nat.le_refl _) (Nat.le_refl _) ?_
    exact hQ
  · have c_11 : ¬ 160 ≤ i := fun zz9 => c_11 ((nI_leI (a := 160) (b := i) (by omega) (by omega)).mpr zz9)
    refine x_aload_n dX2_readTerm_14 1 rfl rfl ?_
    refine x_gI (v := 2) dX2_readTerm_15 fl_2_46 rfl z5 hf.1 ?_
    refine x_bipush (v := 42) dX2_readTerm_18 (by decide) ?_
    refine x_icmp_ne (tgt := 50) dX2_readTerm_20 (by decide) (fun c_20 => ?_) (fun c_20 => False.elim (absurd c_20 (by decide)))
    refine x_vret dX2_readTerm_50 rfl (Nat.le_refl _) (Nat.le_refl _) ?_
    exact hQ

set_option maxHeartbeats 4000000 in
set_option maxRecDepth 100000 in
theorem k_TermF {G : GG} {Sh : HS} {R : HR} {b t K ts : Nat} {tb : Nat → Int32} (rc : RC b t Sh R) {f : Nat} {J : HI} (hf : FS tb ts b t f J) : AM G 4 0 0 yX2_readTerm cX2_readTerm 3 none [.ref (b + 5), .ref (b + 8 + 3 * t)] (Sh, J, R) (qv fun g => ∃ J2 : HI, g = (Sh, J2, R) ∧ FS tb ts b t f J2 ∧ rdE b t J J2) := by
  obtain ⟨_, z1, z2, z3, z4, z5, _, _, zz, _⟩ := rc.1
  have zT := zz t rc.2.2
  obtain ⟨_, _, _, _, _, _, _, _, w1, w2, w3, w0, _, _, wW, _⟩ := rc.2.1
  have wT := wW t rc.2.2
  have t6 := rc.2.2
  have hrd : rdE b t J J := rdE.rf
  refine am_intro (by decide) (Nat.le_of_ble_eq_true rfl) ?_
  refine x_aload_n dX2_readTerm_0 0 rfl rfl ?_
  refine x_aload_n dX2_readTerm_1 1 rfl rfl ?_
  refine x_callV (k_oneF (G := G) (K := K) rc hf) dX2_readTerm_2 crc_X2_readOne vc_2_85 z5 rfl rfl rfl rfl (Nat.le_of_ble_eq_true rfl) (roomy_k (by omega) (by decide)) (Nat.le_refl _) (Nat.le_refl _) ?_
  rintro _ _ ⟨rfl, J7, rfl, hf8, e_J7⟩
  have hrd := hrd.tr e_J7
  refine x_iconst (v := nI 0) dX2_readTerm_5 (by decide) ?_
  refine x_istore_n (lv' := [(2, .int (nI 0)), (0, .ref (b + 5)), (1, .ref (b + 8 + 3 * t))]) dX2_readTerm_6 rfl (by decide) rfl ?_
  exact k_TermH (K := K) rc hf8 (i := 0) (by omega) ⟨J7, rfl, hf8, hrd⟩

set_option maxHeartbeats 4000000 in
set_option maxRecDepth 100000 in
theorem k_SumH {G : GG} {Sh : HS} {R : HR} {b t K ts : Nat} {tb : Nat → Int32} (rc : RC b t Sh R) {f i d : Nat} {J : HI} (hf : FS tb ts b t f J) (hi : i < 1000) {Q : AH → Prop} (hQ : Q (Sh, J, R)) : X G (kM G d 0 0 (qv Q)) yX2_readSum cX2_readSum 4 none 0 0 7 [(2, .int (nI i)), (0, .ref (b + 5)), (1, .ref (b + 8 + 3 * t))] [] (Sh, J, R) := by
  obtain ⟨_, z1, z2, z3, z4, z5, _, _, zz, _⟩ := rc.1
  have zT := zz t rc.2.2
  obtain ⟨_, _, _, _, _, _, _, _, w1, w2, w3, w0, _, _, wW, _⟩ := rc.2.1
  have wT := wW t rc.2.2
  have t6 := rc.2.2
  refine x_iload_n dX2_readSum_7 0 rfl rfl ?_
  refine x_sipush (v := 160) dX2_readSum_8 (by decide) ?_
  refine x_icmp_ge (tgt := 75) dX2_readSum_11 (by decide) (fun c_11 => ?_) (fun c_11 => ?_)
  · have c_11 : 160 ≤ i := (nI_leI (a := 160) (b := i) (by omega) (by omega)).mp c_11
    refine x_vret dX2_readSum_75 rfl (Nat.le_refl _) (Nat.le_refl _) ?_
    exact hQ
  · have c_11 : ¬ 160 ≤ i := fun zz9 => c_11 ((nI_leI (a := 160) (b := i) (by omega) (by omega)).mpr zz9)
    refine x_aload_n dX2_readSum_14 1 rfl rfl ?_
    refine x_gI (v := 2) dX2_readSum_15 fl_2_46 rfl z5 hf.1 ?_
    refine x_bipush (v := 43) dX2_readSum_18 (by decide) ?_
    refine x_icmp_eq (tgt := 32) dX2_readSum_20 (by decide) (fun c_20 => False.elim (absurd c_20 (by decide))) (fun c_20 => ?_)
    refine x_aload_n dX2_readSum_23 1 rfl rfl ?_
    refine x_gI (v := 2) dX2_readSum_24 fl_2_46 rfl z5 hf.1 ?_
    refine x_bipush (v := 45) dX2_readSum_27 (by decide) ?_
    refine x_icmp_ne (tgt := 75) dX2_readSum_29 (by decide) (fun c_29 => ?_) (fun c_29 => False.elim (absurd c_29 (by decide)))
    refine x_vret dX2_readSum_75 rfl (Nat.le_refl _) (Nat.le_refl _) ?_
    exact hQ

set_option maxHeartbeats 4000000 in
set_option maxRecDepth 100000 in
theorem k_SumF {G : GG} {Sh : HS} {R : HR} {b t K ts : Nat} {tb : Nat → Int32} (rc : RC b t Sh R) {f : Nat} {J : HI} (hf : FS tb ts b t f J) : AM G 5 0 0 yX2_readSum cX2_readSum 4 none [.ref (b + 5), .ref (b + 8 + 3 * t)] (Sh, J, R) (qv fun g => ∃ J2 : HI, g = (Sh, J2, R) ∧ FS tb ts b t f J2 ∧ rdE b t J J2) := by
  obtain ⟨_, z1, z2, z3, z4, z5, _, _, zz, _⟩ := rc.1
  have zT := zz t rc.2.2
  obtain ⟨_, _, _, _, _, _, _, _, w1, w2, w3, w0, _, _, wW, _⟩ := rc.2.1
  have wT := wW t rc.2.2
  have t6 := rc.2.2
  have hrd : rdE b t J J := rdE.rf
  refine am_intro (by decide) (Nat.le_of_ble_eq_true rfl) ?_
  refine x_aload_n dX2_readSum_0 0 rfl rfl ?_
  refine x_aload_n dX2_readSum_1 1 rfl rfl ?_
  refine x_callV (k_TermF (G := G) (K := K) rc hf) dX2_readSum_2 crc_X2_readTerm vc_2_82 z5 rfl rfl rfl rfl (Nat.le_of_ble_eq_true rfl) (roomy_k (by omega) (by decide)) (Nat.le_refl _) (Nat.le_refl _) ?_
  rintro _ _ ⟨rfl, J9, rfl, hf10, e_J9⟩
  have hrd := hrd.tr e_J9
  refine x_iconst (v := nI 0) dX2_readSum_5 (by decide) ?_
  refine x_istore_n (lv' := [(2, .int (nI 0)), (0, .ref (b + 5)), (1, .ref (b + 8 + 3 * t))]) dX2_readSum_6 rfl (by decide) rfl ?_
  exact k_SumH (K := K) rc hf10 (i := 0) (by omega) ⟨J9, rfl, hf10, hrd⟩

set_option maxHeartbeats 4000000 in
set_option maxRecDepth 100000 in
theorem k_notF7 {G : GG} {Sh : HS} {R : HR} {b t K ts : Nat} {tb : Nat → Int32} (rc : RC b t Sh R) {f m d : Nat} {I0 J : HI} (hf : FS tb ts b t f J) (hrd : rdE b t I0 J) (hm : m < 1000) (hd : 6 ≤ d) {Q : AH → Prop} (hQ : ∀ J2 : HI, FS tb ts b t f J2 → rdE b t I0 J2 → Q (Sh, J2, R)) : X G (kM G d 0 0 (qv Q)) yX2_readNot cX2_readNot 4 none 0 0 7 [(2, .int (nI m)), (0, .ref (b + 5)), (1, .ref (b + 8 + 3 * t))] [] (Sh, J, R) := by
  obtain ⟨_, z1, z2, z3, z4, z5, _, _, zz, _⟩ := rc.1
  have zT := zz t rc.2.2
  obtain ⟨_, _, _, _, _, _, _, _, w1, w2, w3, w0, _, _, wW, _⟩ := rc.2.1
  have wT := wW t rc.2.2
  have t6 := rc.2.2
  refine x_aload_n dX2_readNot_7 1 rfl rfl ?_
  refine x_aload_n dX2_readNot_8 2 rfl rfl ?_
  refine x_callV (k_SumF (G := G) (K := K) rc hf) dX2_readNot_9 crc_X2_readSum vc_2_75 z5 rfl rfl rfl rfl (Nat.le_of_ble_eq_true rfl) (roomy_k (by omega) (by decide)) (Nat.le_refl _) (Nat.le_refl _) ?_
  rintro _ _ ⟨rfl, J11, rfl, hf12, e_J11⟩
  have hrd := hrd.tr e_J11
  refine x_aload_n dX2_readNot_12 1 rfl rfl ?_
  refine x_gI (v := 2) dX2_readNot_13 fl_2_46 rfl z5 hf12.1 ?_
  refine x_bipush (v := 60) dX2_readNot_16 (by decide) ?_
  refine x_icmp_eq (tgt := 30) dX2_readNot_18 (by decide) (fun c_18 => False.elim (absurd c_18 (by decide))) (fun c_18 => ?_)
  refine x_aload_n dX2_readNot_21 1 rfl rfl ?_
  refine x_gI (v := 2) dX2_readNot_22 fl_2_46 rfl z5 hf12.1 ?_
  refine x_bipush (v := 61) dX2_readNot_25 (by decide) ?_
  refine x_icmp_ne (tgt := 67) dX2_readNot_27 (by decide) (fun c_27 => ?_) (fun c_27 => False.elim (absurd c_27 (by decide)))
  refine x_aload_n dX2_readNot_67 1 rfl rfl ?_
  refine x_iload_n dX2_readNot_68 0 rfl rfl ?_
  refine x_bipush (v := (-7)) dX2_readNot_69 (by decide) ?_
  refine x_aload_n dX2_readNot_71 2 rfl rfl ?_
  refine x_callV (k_closeF (G := G) (K := K) rc hf12 (m0 := m) (x := (-7)) (by omega)) dX2_readNot_72 crc_X2_closeAll vc_2_78 z5 rfl rfl rfl rfl (Nat.le_of_ble_eq_true rfl) (roomy_k (by omega) (by decide)) (Nat.le_refl _) (Nat.le_refl _) ?_
  rintro _ _ ⟨rfl, J13, rfl, hf14, e_J13⟩
  have hrd := hrd.tr e_J13
  refine x_vret dX2_readNot_75 rfl (Nat.le_refl _) (Nat.le_refl _) ?_
  exact hQ J13 hf14 hrd

set_option maxHeartbeats 4000000 in
set_option maxRecDepth 100000 in
theorem k_NotF {G : GG} {Sh : HS} {R : HR} {b t K ts : Nat} {tb : Nat → Int32} (rc : RC b t Sh R) {f : Nat} {J : HI} (hf : FS tb ts b t f J) : AM G 6 0 0 yX2_readNot cX2_readNot 4 none [.ref (b + 5), .ref (b + 8 + 3 * t)] (Sh, J, R) (qv fun g => ∃ J2 : HI, g = (Sh, J2, R) ∧ FS tb ts b t f J2 ∧ rdE b t J J2) := by
  obtain ⟨_, z1, z2, z3, z4, z5, _, _, zz, _⟩ := rc.1
  have zT := zz t rc.2.2
  obtain ⟨_, _, _, _, _, _, _, _, w1, w2, w3, w0, _, _, wW, _⟩ := rc.2.1
  have wT := wW t rc.2.2
  have t6 := rc.2.2
  have hrd : rdE b t J J := rdE.rf
  refine am_intro (by decide) (Nat.le_of_ble_eq_true rfl) ?_
  refine x_aload_n dX2_readNot_0 0 rfl rfl ?_
  refine x_bipush (v := (-7)) dX2_readNot_1 (by decide) ?_
  refine x_callV (k_openC (G := G) (K := K) rc hf (sg := (-7)) (by unfold endT; decide)) dX2_readNot_3 crc_X2_openAll vc_2_71 z5 rfl rfl rfl rfl (Nat.le_of_ble_eq_true rfl) (roomy_k (by omega) (by decide)) (Nat.le_refl _) (Nat.le_refl _) ?_
  rintro _ _ ⟨_, rfl, rfl, J15, rfl, hf16, e_J15⟩
  have hrd := hrd.tr e_J15
  refine x_istore_n (lv' := [(2, .int (nI 0)), (0, .ref (b + 5)), (1, .ref (b + 8 + 3 * t))]) dX2_readNot_6 rfl (by decide) rfl ?_
  exact k_notF7 (K := K) rc hf16 hrd (by omega) (by omega) (fun J2 q1 q2 => ⟨J2, rfl, q1, q2⟩)

set_option maxHeartbeats 4000000 in
set_option maxRecDepth 100000 in
theorem k_AndH {G : GG} {Sh : HS} {R : HR} {b t K ts : Nat} {tb : Nat → Int32} (rc : RC b t Sh R) {f i d : Nat} {J : HI} (hf : FS tb ts b t f J) (hi : i < 1000) {Q : AH → Prop} (hQ : Q (Sh, J, R)) : X G (kM G d 0 0 (qv Q)) yX2_readAnd cX2_readAnd 3 none 0 0 7 [(2, .int (nI i)), (0, .ref (b + 5)), (1, .ref (b + 8 + 3 * t))] [] (Sh, J, R) := by
  obtain ⟨_, z1, z2, z3, z4, z5, _, _, zz, _⟩ := rc.1
  have zT := zz t rc.2.2
  obtain ⟨_, _, _, _, _, _, _, _, w1, w2, w3, w0, _, _, wW, _⟩ := rc.2.1
  have wT := wW t rc.2.2
  have t6 := rc.2.2
  refine x_iload_n dX2_readAnd_7 0 rfl rfl ?_
  refine x_sipush (v := 160) dX2_readAnd_8 (by decide) ?_
  refine x_icmp_ge (tgt := 50) dX2_readAnd_11 (by decide) (fun c_11 => ?_) (fun c_11 => ?_)
  · have c_11 : 160 ≤ i := (nI_leI (a := 160) (b := i) (by omega) (by omega)).mp c_11
    refine x_vret dX2_readAnd_50 rfl (Nat.le_refl _) (Nat.le_refl _) ?_
    exact hQ
  · have c_11 : ¬ 160 ≤ i := fun zz9 => c_11 ((nI_leI (a := 160) (b := i) (by omega) (by omega)).mpr zz9)
    refine x_aload_n dX2_readAnd_14 1 rfl rfl ?_
    refine x_gI (v := 2) dX2_readAnd_15 fl_2_46 rfl z5 hf.1 ?_
    refine x_bipush (v := (-10)) dX2_readAnd_18 (by decide) ?_
    refine x_icmp_ne (tgt := 50) dX2_readAnd_20 (by decide) (fun c_20 => ?_) (fun c_20 => False.elim (absurd c_20 (by decide)))
    refine x_vret dX2_readAnd_50 rfl (Nat.le_refl _) (Nat.le_refl _) ?_
    exact hQ

set_option maxHeartbeats 4000000 in
set_option maxRecDepth 100000 in
theorem k_AndF {G : GG} {Sh : HS} {R : HR} {b t K ts : Nat} {tb : Nat → Int32} (rc : RC b t Sh R) {f : Nat} {J : HI} (hf : FS tb ts b t f J) : AM G 7 0 0 yX2_readAnd cX2_readAnd 3 none [.ref (b + 5), .ref (b + 8 + 3 * t)] (Sh, J, R) (qv fun g => ∃ J2 : HI, g = (Sh, J2, R) ∧ FS tb ts b t f J2 ∧ rdE b t J J2) := by
  obtain ⟨_, z1, z2, z3, z4, z5, _, _, zz, _⟩ := rc.1
  have zT := zz t rc.2.2
  obtain ⟨_, _, _, _, _, _, _, _, w1, w2, w3, w0, _, _, wW, _⟩ := rc.2.1
  have wT := wW t rc.2.2
  have t6 := rc.2.2
  have hrd : rdE b t J J := rdE.rf
  refine am_intro (by decide) (Nat.le_of_ble_eq_true rfl) ?_
  refine x_aload_n dX2_readAnd_0 0 rfl rfl ?_
  refine x_aload_n dX2_readAnd_1 1 rfl rfl ?_
  refine x_callV (k_NotF (G := G) (K := K) rc hf) dX2_readAnd_2 crc_X2_readNot vc_2_68 z5 rfl rfl rfl rfl (Nat.le_of_ble_eq_true rfl) (roomy_k (by omega) (by decide)) (Nat.le_refl _) (Nat.le_refl _) ?_
  rintro _ _ ⟨rfl, J17, rfl, hf18, e_J17⟩
  have hrd := hrd.tr e_J17
  refine x_iconst (v := nI 0) dX2_readAnd_5 (by decide) ?_
  refine x_istore_n (lv' := [(2, .int (nI 0)), (0, .ref (b + 5)), (1, .ref (b + 8 + 3 * t))]) dX2_readAnd_6 rfl (by decide) rfl ?_
  exact k_AndH (K := K) rc hf18 (i := 0) (by omega) ⟨J17, rfl, hf18, hrd⟩

set_option maxHeartbeats 4000000 in
set_option maxRecDepth 100000 in
theorem k_EH {G : GG} {Sh : HS} {R : HR} {b t K ts : Nat} {tb : Nat → Int32} (rc : RC b t Sh R) {f i d : Nat} {J : HI} (hf : FS tb ts b t f J) (hi : i < 1000) {Q : AH → Prop} (hQ : Q (Sh, J, R)) : X G (kM G d 0 0 (qv Q)) yX2_readE cX2_readE 3 none 0 0 7 [(2, .int (nI i)), (0, .ref (b + 5)), (1, .ref (b + 8 + 3 * t))] [] (Sh, J, R) := by
  obtain ⟨_, z1, z2, z3, z4, z5, _, _, zz, _⟩ := rc.1
  have zT := zz t rc.2.2
  obtain ⟨_, _, _, _, _, _, _, _, w1, w2, w3, w0, _, _, wW, _⟩ := rc.2.1
  have wT := wW t rc.2.2
  have t6 := rc.2.2
  refine x_iload_n dX2_readE_7 0 rfl rfl ?_
  refine x_sipush (v := 160) dX2_readE_8 (by decide) ?_
  refine x_icmp_ge (tgt := 50) dX2_readE_11 (by decide) (fun c_11 => ?_) (fun c_11 => ?_)
  · have c_11 : 160 ≤ i := (nI_leI (a := 160) (b := i) (by omega) (by omega)).mp c_11
    refine x_vret dX2_readE_50 rfl (Nat.le_refl _) (Nat.le_refl _) ?_
    exact hQ
  · have c_11 : ¬ 160 ≤ i := fun zz9 => c_11 ((nI_leI (a := 160) (b := i) (by omega) (by omega)).mpr zz9)
    refine x_aload_n dX2_readE_14 1 rfl rfl ?_
    refine x_gI (v := 2) dX2_readE_15 fl_2_46 rfl z5 hf.1 ?_
    refine x_bipush (v := (-9)) dX2_readE_18 (by decide) ?_
    refine x_icmp_ne (tgt := 50) dX2_readE_20 (by decide) (fun c_20 => ?_) (fun c_20 => False.elim (absurd c_20 (by decide)))
    refine x_vret dX2_readE_50 rfl (Nat.le_refl _) (Nat.le_refl _) ?_
    exact hQ

set_option maxHeartbeats 4000000 in
set_option maxRecDepth 100000 in
theorem k_EF {G : GG} {Sh : HS} {R : HR} {b t K ts : Nat} {tb : Nat → Int32} (rc : RC b t Sh R) {f : Nat} {J : HI} (hf : FS tb ts b t f J) : AM G 8 0 0 yX2_readE cX2_readE 3 none [.ref (b + 5), .ref (b + 8 + 3 * t)] (Sh, J, R) (qv fun g => ∃ J2 : HI, g = (Sh, J2, R) ∧ FS tb ts b t f J2 ∧ rdE b t J J2) := by
  obtain ⟨_, z1, z2, z3, z4, z5, _, _, zz, _⟩ := rc.1
  have zT := zz t rc.2.2
  obtain ⟨_, _, _, _, _, _, _, _, w1, w2, w3, w0, _, _, wW, _⟩ := rc.2.1
  have wT := wW t rc.2.2
  have t6 := rc.2.2
  have hrd : rdE b t J J := rdE.rf
  refine am_intro (by decide) (Nat.le_of_ble_eq_true rfl) ?_
  refine x_aload_n dX2_readE_0 0 rfl rfl ?_
  refine x_aload_n dX2_readE_1 1 rfl rfl ?_
  refine x_callV (k_AndF (G := G) (K := K) rc hf) dX2_readE_2 crc_X2_readAnd vc_2_59 z5 rfl rfl rfl rfl (Nat.le_of_ble_eq_true rfl) (roomy_k (by omega) (by decide)) (Nat.le_refl _) (Nat.le_refl _) ?_
  rintro _ _ ⟨rfl, J19, rfl, hf20, e_J19⟩
  have hrd := hrd.tr e_J19
  refine x_iconst (v := nI 0) dX2_readE_5 (by decide) ?_
  refine x_istore_n (lv' := [(2, .int (nI 0)), (0, .ref (b + 5)), (1, .ref (b + 8 + 3 * t))]) dX2_readE_6 rfl (by decide) rfl ?_
  exact k_EH (K := K) rc hf20 (i := 0) (by omega) ⟨J19, rfl, hf20, hrd⟩

set_option maxHeartbeats 4000000 in
set_option maxRecDepth 100000 in
theorem k_partF {G : GG} {Sh : HS} {R : HR} {b t K ts : Nat} {tb : Nat → Int32} (rc : RC b t Sh R) {f : Nat} {J : HI} (hf : FS tb ts b t f J) {w : Int32} (hw : ¬ endT w) : AM G 9 0 0 yX2_readPart cX2_readPart 3 none [.ref (b + 5), .int w, .ref (b + 8 + 3 * t)] (Sh, J, R) (qv fun g => ∃ J2 : HI, g = (Sh, J2, R) ∧ FS tb ts b t f J2 ∧ rdE b t J J2) := by
  obtain ⟨_, z1, z2, z3, z4, z5, _, _, zz, _⟩ := rc.1
  have zT := zz t rc.2.2
  obtain ⟨_, _, _, _, _, _, _, _, w1, w2, w3, w0, _, _, wW, _⟩ := rc.2.1
  have wT := wW t rc.2.2
  have t6 := rc.2.2
  have hrd : rdE b t J J := rdE.rf
  refine am_intro (by decide) (Nat.le_of_ble_eq_true rfl) ?_
  refine x_aload_n dX2_readPart_0 0 rfl rfl ?_
  refine x_iload_n dX2_readPart_1 1 rfl rfl ?_
  refine x_callV (k_expectF (G := G) (K := K) rc hf (w := w) hw) dX2_readPart_2 crc_X2_expect vc_2_52 z5 rfl rfl rfl rfl (Nat.le_of_ble_eq_true rfl) (roomy_k (by omega) (by decide)) (Nat.le_refl _) (Nat.le_refl _) ?_
  rintro _ _ ⟨rfl, J21, rfl, hf22, e_J21⟩
  have hrd := hrd.tr e_J21
  refine x_aload_n dX2_readPart_5 0 rfl rfl ?_
  refine x_aload_n dX2_readPart_6 2 rfl rfl ?_
  refine x_callV (k_EF (G := G) (K := K) rc hf22) dX2_readPart_7 crc_X2_readE vc_2_55 z5 rfl rfl rfl rfl (Nat.le_of_ble_eq_true rfl) (roomy_k (by omega) (by decide)) (Nat.le_refl _) (Nat.le_refl _) ?_
  rintro _ _ ⟨rfl, J23, rfl, hf24, e_J23⟩
  have hrd := hrd.tr e_J23
  refine x_aload_n dX2_readPart_10 0 rfl rfl ?_
  refine x_bipush (v := 59) dX2_readPart_11 (by decide) ?_
  refine x_callV (k_expectF (G := G) (K := K) rc hf24 (w := 59) (by unfold endT; decide)) dX2_readPart_13 crc_X2_expect vc_2_52 z5 rfl rfl rfl rfl (Nat.le_of_ble_eq_true rfl) (roomy_k (by omega) (by decide)) (Nat.le_refl _) (Nat.le_refl _) ?_
  rintro _ _ ⟨rfl, J25, rfl, hf26, e_J25⟩
  have hrd := hrd.tr e_J25
  refine x_vret dX2_readPart_16 rfl (Nat.le_refl _) (Nat.le_refl _) ?_
  exact ⟨J25, rfl, hf26, hrd⟩

