/-- what reading a part comes to: on from there with its codes, or its fault -/
def PQ (tb : Nat → Int32) (ts b t K : Nat) (Sh : HS) (R : HR) (J : HI) (r : RES) (o : Nat) (C : List Int32) : AH → Prop := fun g => ∃ J2 : HI, g = (Sh, J2, R) ∧ rdE b t J J2 ∧ ((r.1 = true ∧ ∃ k, GS tb ts b t K k r.2.1 o (C ++ r.2.2) J2) ∨ (r.1 = false ∧ FS tb ts b t r.2.1 J2))
theorem PQ.tr {tb : Nat → Int32} {ts b t K o : Nat} {Sh : HS} {R : HR} {J J2 : HI} {r : RES} {C : List Int32} {g : AH} (h : PQ tb ts b t K Sh R J2 r o C g) (e : rdE b t J J2) : PQ tb ts b t K Sh R J r o C g := by
  obtain ⟨J3, h1, h2, h3⟩ := h
  exact ⟨J3, h1, e.tr h2, h3⟩
theorem PQ.ok {tb : Nat → Int32} {ts b t K o k p : Nat} {Sh : HS} {R : HR} {J J2 : HI} {C C2 Q : List Int32} (h : GS tb ts b t K k p o C2 J2) (e : rdE b t J J2) (hC : C2 = C ++ Q) : PQ tb ts b t K Sh R J (true, p, Q) o C (Sh, J2, R) := ⟨J2, rfl, e, Or.inl ⟨rfl, k, by rw [← hC]; exact h⟩⟩
theorem PQ.no {tb : Nat → Int32} {ts b t K o p : Nat} {Sh : HS} {R : HR} {J J2 : HI} {C Q : List Int32} (h : FS tb ts b t p J2) (e : rdE b t J J2) : PQ tb ts b t K Sh R J (false, p, Q) o C (Sh, J2, R) := ⟨J2, rfl, e, Or.inr ⟨rfl, h⟩⟩
/-- the contract of a whole method -/
def cAM (tb : Nat → Int32) (ts : Nat) (y : MethodName) (cc : ByteArray) (L d p o : Nat) (r : RES) : Prop := ∀ (G : GG) (Sh : HS) (R : HR) (b t K k : Nat) (C : List Int32) (J : HI), RC b t Sh R → GS tb ts b t K k p o C J → C.length ≤ p → AM G d 0 0 y cc L none [.ref (b + 5), .ref (b + 8 + 3 * t)] (Sh, J, R) (qv (PQ tb ts b t K Sh R J r o C))
/-- that of a row's rest -/
def cLP (tb : Nat → Int32) (ts : Nat) (y : MethodName) (cc : ByteArray) (L d p o : Nat) (r : RES) : Prop := ∀ (G : GG) (Sh : HS) (R : HR) (b t K k i d' : Nat) (C : List Int32) (J : HI) (Q : AH → Prop), RC b t Sh R → GS tb ts b t K k p o C J → C.length ≤ p → i ≤ p → d ≤ d' → (∀ g, PQ tb ts b t K Sh R J r o C g → Q g) → X G (kM G d' 0 0 (qv Q)) y cc L none 0 0 7 [(2, .int (nI i)), (0, .ref (b + 5)), (1, .ref (b + 8 + 3 * t))] [] (Sh, J, R)
/-- that of a method behind its signs -/
def cUN (tb : Nat → Int32) (ts : Nat) (y : MethodName) (cc : ByteArray) (L d : Nat) (cd : Int32) (p o : Nat) (r : RES) : Prop := ∀ (G : GG) (Sh : HS) (R : HR) (b t K k m o0 d' : Nat) (C : List Int32) (J : HI) (Q : AH → Prop), RC b t Sh R → GS tb ts b t K k p o C J → C.length + m ≤ p → o = o0 + m → o ≤ 5 → d ≤ d' → (∀ g, PQ tb ts b t K Sh R J (cloR r m cd) o0 C g → Q g) → X G (kM G d' 0 0 (qv Q)) y cc L none 0 0 7 [(2, .int (nI m)), (0, .ref (b + 5)), (1, .ref (b + 8 + 3 * t))] [] (Sh, J, R)
def MCc (tb : Nat → Int32) (ts : Nat) : REL := fun k p o r => match k with
  | 0 => cAM tb ts yX2_readOne cX2_readOne 3 (6 * (5 - o) + 3) p o r
  | 1 => cAM tb ts yX2_readTerm cX2_readTerm 3 (6 * (5 - o) + 4) p o r
  | 2 => cAM tb ts yX2_readSum cX2_readSum 4 (6 * (5 - o) + 5) p o r
  | 3 => cAM tb ts yX2_readNot cX2_readNot 4 (6 * (5 - o) + 6) p o r
  | 4 => cAM tb ts yX2_readAnd cX2_readAnd 3 (6 * (5 - o) + 7) p o r
  | 5 => cAM tb ts yX2_readE cX2_readE 3 (6 * (5 - o) + 8) p o r
  | 6 => cUN tb ts yX2_readOne cX2_readOne 3 (6 * (5 - o) + 3) (-8) p o r
  | 7 => cUN tb ts yX2_readNot cX2_readNot 4 (6 * (5 - o) + 6) (-7) p o r
  | 11 => cLP tb ts yX2_readTerm cX2_readTerm 3 (6 * (5 - o) + 4) p o r
  | 12 => cLP tb ts yX2_readSum cX2_readSum 4 (6 * (5 - o) + 5) p o r
  | 14 => cLP tb ts yX2_readAnd cX2_readAnd 3 (6 * (5 - o) + 7) p o r
  | 15 => cLP tb ts yX2_readE cX2_readE 3 (6 * (5 - o) + 8) p o r
  | _ => True
/-- all of it -/
def MA (tb : Nat → Int32) (ts : Nat) : REL := fun k p o r => MPp ts k p o r ∧ MCc tb ts k p o r

set_option maxHeartbeats 4000000 in
set_option maxRecDepth 100000 in
theorem r_A1 {tb : Nat → Int32} {ts : Nat} {p o : Nat} (h : 1000 ≤ tkF tb ts p) : cUN tb ts yX2_readOne cX2_readOne 3 (6 * (5 - o) + 3) (-8) p o (true, nxF tb ts p, [tkF tb ts p - 1000]) := by
  intro G Sh R b t K k m o0 d' C J Q rc hg hC ho ho5 hd hQ
  obtain ⟨_, z1, z2, z3, z4, z5, _, _, zz, _⟩ := rc.1
  have zT := zz t rc.2.2
  obtain ⟨_, _, _, _, _, _, _, _, w1, w2, w3, w0, _, _, wW, _⟩ := rc.2.1
  have wT := wW t rc.2.2
  have t6 := rc.2.2
  have hrd : rdE b t J J := rdE.rf
  have hps := hg.ps
  have h160 := hg.2.2.2.2.2.2.2.2.2.2
  have hnt : ¬ endT (tkF tb ts p) := fun z => by rcases z with z | z <;> rw [z] at h <;> exact absurd h (by decide)
  have hlt := nx_lt hps hnt
  have hle := nx_le (tb := tb) hps
  refine x_aload_n dX2_readOne_7 1 rfl rfl ?_
  refine x_gI (v := tkF tb ts p) dX2_readOne_8 fl_2_46 rfl z5 hg.2.1 ?_
  refine x_sipush (v := 1000) dX2_readOne_11 (by decide) ?_
  refine x_icmp_lt (tgt := 42) dX2_readOne_14 (by decide) (fun c_14 => False.elim (absurd h (Int32.not_le.mpr c_14))) (fun c_14 => ?_)
  refine x_aload_n dX2_readOne_17 2 rfl rfl ?_
  refine x_aload_n dX2_readOne_18 1 rfl rfl ?_
  refine x_gI (v := tkF tb ts p) dX2_readOne_19 fl_2_46 rfl z5 hg.2.1 ?_
  refine x_sipush (v := 1000) dX2_readOne_22 (by decide) ?_
  refine x_isub dX2_readOne_25 ?_
  refine x_callV (k_add1 (G := G) rc hg (by omega) (c := (tkF tb ts p) - 1000)) dX2_readOne_26 crc_X6_add vc_2_65 zT.1 rfl rfl rfl rfl (Nat.le_of_ble_eq_true rfl) (roomy_k (by omega) (by decide)) (Nat.le_refl _) (Nat.le_refl _) ?_
  rintro _ _ ⟨rfl, J1, rfl, hg2, e_J1⟩
  have hrd := hrd.tr e_J1
  refine x_aload_n dX2_readOne_29 1 rfl rfl ?_
  refine x_aload_n dX2_readOne_30 1 rfl rfl ?_
  refine x_gI (v := nI k) dX2_readOne_31 fl_2_62 rfl z5 hg2.1 ?_
  refine x_iconst (v := nI 1) dX2_readOne_34 (by decide) ?_
  refine x_iadd dX2_readOne_35 ?_
  refine x_vali (nI_add k 1) ?_
  refine x_callV (k_goTo (G := G) (tb := tb) (ts := ts) (K := K) rc (J := J1) (n := k + 1) (by have := hg2.le; have := hg2.2.2.2.2.2.2.1.1; have := hg2.lt hnt; omega)) dX2_readOne_36 crc_X2_goTo vc_2_32 z5 rfl rfl rfl rfl (Nat.le_of_ble_eq_true rfl) (roomy_k (by omega) (by decide)) (Nat.le_refl _) (Nat.le_refl _) ?_
  rintro _ _ ⟨rfl, eg9⟩
  obtain ⟨J3, e_J3⟩ : ∃ z : HI, z = u2 (u2 J1 (b + 5) 1 (nI (k + 1))) (b + 5) 2 (J1 (b + 3) (k + 1)) := ⟨_, rfl⟩
  rw [← e_J3] at eg9
  subst eg9
  have hg4' := GS.next hg2 hnt e_J3
  have hg4 := hg4'.1
  have hrd := hrd.tr hg4'.2
  refine x_goto (tgt := 145) dX2_readOne_39 (by decide) ?_
  refine x_aload_n dX2_readOne_145 1 rfl rfl ?_
  refine x_iload_n dX2_readOne_146 0 rfl rfl ?_
  refine x_bipush (v := (-8)) dX2_readOne_147 (by decide) ?_
  refine x_aload_n dX2_readOne_149 2 rfl rfl ?_
  refine x_callV (k_closeA (G := G) (o := o0) (m0 := m) (x := (-8)) rc (by rw [← ho]; exact hg4) (by simp; omega) (by omega)) dX2_readOne_150 crc_X2_closeAll vc_2_78 z5 rfl rfl rfl rfl (Nat.le_of_ble_eq_true rfl) (roomy_k (by omega) (by decide)) (Nat.le_refl _) (Nat.le_refl _) ?_
  rintro _ _ ⟨rfl, J5, rfl, hg6, e_J5⟩
  have hrd := hrd.tr e_J5
  refine x_vret dX2_readOne_153 rfl (Nat.le_refl _) (Nat.le_refl _) ?_
  exact hQ _ (PQ.ok hg6 hrd (by simp [cloR, preR, List.append_assoc]))

set_option maxHeartbeats 4000000 in
set_option maxRecDepth 100000 in
theorem r_A2 {tb : Nat → Int32} {ts : Nat} {p o : Nat} (h : tkF tb ts p ≤ -1) (h0 : -6 ≤ tkF tb ts p) : cUN tb ts yX2_readOne cX2_readOne 3 (6 * (5 - o) + 3) (-8) p o (true, nxF tb ts p, [tkF tb ts p]) := by
  intro G Sh R b t K k m o0 d' C J Q rc hg hC ho ho5 hd hQ
  obtain ⟨_, z1, z2, z3, z4, z5, _, _, zz, _⟩ := rc.1
  have zT := zz t rc.2.2
  obtain ⟨_, _, _, _, _, _, _, _, w1, w2, w3, w0, _, _, wW, _⟩ := rc.2.1
  have wT := wW t rc.2.2
  have t6 := rc.2.2
  have hrd : rdE b t J J := rdE.rf
  have hps := hg.ps
  have h160 := hg.2.2.2.2.2.2.2.2.2.2
  have hnt : ¬ endT (tkF tb ts p) := fun z => by rcases z with z | z <;> rw [z] at h <;> exact absurd h (by decide)
  have hlt := nx_lt hps hnt
  have hle := nx_le (tb := tb) hps
  refine x_aload_n dX2_readOne_7 1 rfl rfl ?_
  refine x_gI (v := tkF tb ts p) dX2_readOne_8 fl_2_46 rfl z5 hg.2.1 ?_
  refine x_sipush (v := 1000) dX2_readOne_11 (by decide) ?_
  refine x_icmp_lt (tgt := 42) dX2_readOne_14 (by decide) (fun c_14 => ?_) (fun c_14 => False.elim (c_14 (Int32.lt_of_le_of_lt h (by decide))))
  refine x_aload_n dX2_readOne_42 1 rfl rfl ?_
  refine x_gI (v := tkF tb ts p) dX2_readOne_43 fl_2_46 rfl z5 hg.2.1 ?_
  refine x_iconst (v := (-1)) dX2_readOne_46 (by decide) ?_
  refine x_icmp_gt (tgt := 80) dX2_readOne_47 (by decide) (fun c_47 => False.elim (absurd h (Int32.not_le.mpr c_47))) (fun c_47 => ?_)
  refine x_aload_n dX2_readOne_50 1 rfl rfl ?_
  refine x_gI (v := tkF tb ts p) dX2_readOne_51 fl_2_46 rfl z5 hg.2.1 ?_
  refine x_bipush (v := (-6)) dX2_readOne_54 (by decide) ?_
  refine x_icmp_lt (tgt := 80) dX2_readOne_56 (by decide) (fun c_56 => False.elim (absurd h0 (Int32.not_le.mpr c_56))) (fun c_56 => ?_)
  refine x_aload_n dX2_readOne_59 2 rfl rfl ?_
  refine x_aload_n dX2_readOne_60 1 rfl rfl ?_
  refine x_gI (v := tkF tb ts p) dX2_readOne_61 fl_2_46 rfl z5 hg.2.1 ?_
  refine x_callV (k_add1 (G := G) rc hg (by omega) (c := tkF tb ts p)) dX2_readOne_64 crc_X6_add vc_2_65 zT.1 rfl rfl rfl rfl (Nat.le_of_ble_eq_true rfl) (roomy_k (by omega) (by decide)) (Nat.le_refl _) (Nat.le_refl _) ?_
  rintro _ _ ⟨rfl, J7, rfl, hg8, e_J7⟩
  have hrd := hrd.tr e_J7
  refine x_aload_n dX2_readOne_67 1 rfl rfl ?_
  refine x_aload_n dX2_readOne_68 1 rfl rfl ?_
  refine x_gI (v := nI k) dX2_readOne_69 fl_2_62 rfl z5 hg8.1 ?_
  refine x_iconst (v := nI 1) dX2_readOne_72 (by decide) ?_
  refine x_iadd dX2_readOne_73 ?_
  refine x_vali (nI_add k 1) ?_
  refine x_callV (k_goTo (G := G) (tb := tb) (ts := ts) (K := K) rc (J := J7) (n := k + 1) (by have := hg8.le; have := hg8.2.2.2.2.2.2.1.1; have := hg8.lt hnt; omega)) dX2_readOne_74 crc_X2_goTo vc_2_32 z5 rfl rfl rfl rfl (Nat.le_of_ble_eq_true rfl) (roomy_k (by omega) (by decide)) (Nat.le_refl _) (Nat.le_refl _) ?_
  rintro _ _ ⟨rfl, eg9⟩
  obtain ⟨J9, e_J9⟩ : ∃ z : HI, z = u2 (u2 J7 (b + 5) 1 (nI (k + 1))) (b + 5) 2 (J7 (b + 3) (k + 1)) := ⟨_, rfl⟩
  rw [← e_J9] at eg9
  subst eg9
  have hg10' := GS.next hg8 hnt e_J9
  have hg10 := hg10'.1
  have hrd := hrd.tr hg10'.2
  refine x_goto (tgt := 145) dX2_readOne_77 (by decide) ?_
  refine x_aload_n dX2_readOne_145 1 rfl rfl ?_
  refine x_iload_n dX2_readOne_146 0 rfl rfl ?_
  refine x_bipush (v := (-8)) dX2_readOne_147 (by decide) ?_
  refine x_aload_n dX2_readOne_149 2 rfl rfl ?_
  refine x_callV (k_closeA (G := G) (o := o0) (m0 := m) (x := (-8)) rc (by rw [← ho]; exact hg10) (by simp; omega) (by omega)) dX2_readOne_150 crc_X2_closeAll vc_2_78 z5 rfl rfl rfl rfl (Nat.le_of_ble_eq_true rfl) (roomy_k (by omega) (by decide)) (Nat.le_refl _) (Nat.le_refl _) ?_
  rintro _ _ ⟨rfl, J11, rfl, hg12, e_J11⟩
  have hrd := hrd.tr e_J11
  refine x_vret dX2_readOne_153 rfl (Nat.le_refl _) (Nat.le_refl _) ?_
  exact hQ _ (PQ.ok hg12 hrd (by simp [cloR, preR, List.append_assoc]))

set_option maxHeartbeats 4000000 in
set_option maxRecDepth 100000 in
theorem r_A3 {tb : Nat → Int32} {ts : Nat} {p o p1 : Nat} {Q1 : List Int32} (h : tkF tb ts p = 40) (ho4 : o < 5) (a : MA tb ts 5 (nxF tb ts p) (o + 1) (true, p1, Q1)) (h41 : tkF tb ts p1 = 41) : cUN tb ts yX2_readOne cX2_readOne 3 (6 * (5 - o) + 3) (-8) p o (true, nxF tb ts p1, Q1) := by
  intro G Sh R b t K k m o0 d' C J Q rc hg hC ho ho5 hd hQ
  obtain ⟨_, z1, z2, z3, z4, z5, _, _, zz, _⟩ := rc.1
  have zT := zz t rc.2.2
  obtain ⟨_, _, _, _, _, _, _, _, w1, w2, w3, w0, _, _, wW, _⟩ := rc.2.1
  have wT := wW t rc.2.2
  have t6 := rc.2.2
  have hrd : rdE b t J J := rdE.rf
  have hps := hg.ps
  have h160 := hg.2.2.2.2.2.2.2.2.2.2
  have hnt : ¬ endT (tkF tb ts p) := by rw [h]; unfold endT; decide
  have hlt := nx_lt hps hnt
  have hle := nx_le (tb := tb) hps
  refine x_aload_n dX2_readOne_7 1 rfl rfl ?_
  refine x_gI (v := tkF tb ts p) dX2_readOne_8 fl_2_46 rfl z5 hg.2.1 ?_
  refine x_sipush (v := 1000) dX2_readOne_11 (by decide) ?_
  refine x_icmp_lt (tgt := 42) dX2_readOne_14 (by decide) (fun c_14 => ?_) (fun c_14 => False.elim (c_14 (by rw [h]; decide)))
  refine x_aload_n dX2_readOne_42 1 rfl rfl ?_
  refine x_gI (v := tkF tb ts p) dX2_readOne_43 fl_2_46 rfl z5 hg.2.1 ?_
  refine x_iconst (v := (-1)) dX2_readOne_46 (by decide) ?_
  refine x_icmp_gt (tgt := 80) dX2_readOne_47 (by decide) (fun c_47 => ?_) (fun c_47 => False.elim (c_47 (by rw [h]; decide)))
  refine x_aload_n dX2_readOne_80 1 rfl rfl ?_
  refine x_gI (v := tkF tb ts p) dX2_readOne_81 fl_2_46 rfl z5 hg.2.1 ?_
  refine x_bipush (v := 40) dX2_readOne_84 (by decide) ?_
  refine x_icmp_ne (tgt := 141) dX2_readOne_86 (by decide) (fun c_86 => False.elim (c_86 h)) (fun c_86 => ?_)
  refine x_aload_n dX2_readOne_89 1 rfl rfl ?_
  refine x_gI (v := nI o) dX2_readOne_90 fl_2_25 rfl z5 hg.2.2.1 ?_
  refine x_iconst (v := 5) dX2_readOne_93 (by decide) ?_
  refine x_icmp_ge (tgt := 141) dX2_readOne_94 (by decide) (fun c_94 => False.elim (absurd ((nI_leI (a := 5) (b := o) (by omega) (by omega)).mp c_94) (by omega))) (fun c_94 => ?_)
  refine x_aload_n dX2_readOne_97 1 rfl rfl ?_
  refine x_dup dX2_readOne_98 rfl ?_
  refine x_gI (v := nI o) dX2_readOne_99 fl_2_25 rfl z5 hg.2.2.1 ?_
  refine x_iconst (v := nI 1) dX2_readOne_102 (by decide) ?_
  refine x_iadd dX2_readOne_103 ?_
  refine x_vali (nI_add o 1) ?_
  refine x_pI dX2_readOne_104 fl_2_25 rfl rfl rfl z5 (fun Iq1 e_Iq1 => ?_)
  have hg13' := GS.opn (o' := o + 1) hg (J' := Iq1) e_Iq1
  have hg13 := hg13'.1
  have hrd := hrd.tr hg13'.2
  refine x_aload_n dX2_readOne_107 1 rfl rfl ?_
  refine x_aload_n dX2_readOne_108 1 rfl rfl ?_
  refine x_gI (v := nI k) dX2_readOne_109 fl_2_62 rfl z5 hg13.1 ?_
  refine x_iconst (v := nI 1) dX2_readOne_112 (by decide) ?_
  refine x_iadd dX2_readOne_113 ?_
  refine x_vali (nI_add k 1) ?_
  refine x_callV (k_goTo (G := G) (tb := tb) (ts := ts) (K := K) rc (J := Iq1) (n := k + 1) (by have := hg13.le; have := hg13.2.2.2.2.2.2.1.1; have := hg13.lt hnt; omega)) dX2_readOne_114 crc_X2_goTo vc_2_32 z5 rfl rfl rfl rfl (Nat.le_of_ble_eq_true rfl) (roomy_k (by omega) (by decide)) (Nat.le_refl _) (Nat.le_refl _) ?_
  rintro _ _ ⟨rfl, eg9⟩
  obtain ⟨J14, e_J14⟩ : ∃ z : HI, z = u2 (u2 Iq1 (b + 5) 1 (nI (k + 1))) (b + 5) 2 (Iq1 (b + 3) (k + 1)) := ⟨_, rfl⟩
  rw [← e_J14] at eg9
  subst eg9
  have hg15' := GS.next hg13 hnt e_J14
  have hg15 := hg15'.1
  have hrd := hrd.tr hg15'.2
  refine x_aload_n dX2_readOne_117 1 rfl rfl ?_
  refine x_aload_n dX2_readOne_118 2 rfl rfl ?_
  refine x_callV (a.2 G Sh R b t K _ C J14 rc hg15 (by omega)) dX2_readOne_119 crc_X2_readE vc_2_55 z5 rfl rfl rfl rfl (Nat.le_of_ble_eq_true rfl) (roomy_k (by omega) (by decide)) (Nat.le_refl _) (Nat.le_refl _) ?_
  rintro _ _ ⟨rfl, J16, rfl, e_J16, (⟨_, k_J16, hg17⟩ | ⟨z9, _⟩)⟩
  · have hrd := hrd.tr e_J16
    have hp1 : p1 ≤ ts := hg17.ps
    have hm1 := (a.1 (by omega)).1
    have hq1 := ((a.1 (by omega)).2.2 rfl).1
    have hm1 : nxF tb ts p ≤ p1 := hm1
    have hq1 : Q1.length ≤ p1 - nxF tb ts p := hq1
    refine x_aload_n dX2_readOne_122 1 rfl rfl ?_
    refine x_bipush (v := 41) dX2_readOne_123 (by decide) ?_
    refine x_callV (k_expectA (G := G) rc hg17 (w := 41) h41 (by unfold endT; decide)) dX2_readOne_125 crc_X2_expect vc_2_52 z5 rfl rfl rfl rfl (Nat.le_of_ble_eq_true rfl) (roomy_k (by omega) (by decide)) (Nat.le_refl _) (Nat.le_refl _) ?_
    rintro _ _ ⟨rfl, J18, rfl, hg19, e_J18⟩
    have hrd := hrd.tr e_J18
    refine x_aload_n dX2_readOne_128 1 rfl rfl ?_
    refine x_dup dX2_readOne_129 rfl ?_
    refine x_gI (v := nI (o + 1)) dX2_readOne_130 fl_2_25 rfl z5 hg19.2.2.1 ?_
    refine x_iconst (v := nI 1) dX2_readOne_133 (by decide) ?_
    refine x_isub dX2_readOne_134 ?_
    refine x_vali (nI_pred o) ?_
    refine x_pI dX2_readOne_135 fl_2_25 rfl rfl rfl z5 (fun Iq2 e_Iq2 => ?_)
    have hg20' := GS.opn (o' := o) hg19 (J' := Iq2) e_Iq2
    have hg20 := hg20'.1
    have hrd := hrd.tr hg20'.2
    have hnx1 := nx_le (tb := tb) hp1
    have hnt1 : ¬ endT (tkF tb ts p1) := by rw [h41]; unfold endT; decide
    refine x_goto (tgt := 145) dX2_readOne_138 (by decide) ?_
    refine x_aload_n dX2_readOne_145 1 rfl rfl ?_
    refine x_iload_n dX2_readOne_146 0 rfl rfl ?_
    refine x_bipush (v := (-8)) dX2_readOne_147 (by decide) ?_
    refine x_aload_n dX2_readOne_149 2 rfl rfl ?_
    refine x_callV (k_closeA (G := G) (o := o0) (m0 := m) (x := (-8)) rc (by rw [← ho]; exact hg20) (by simp; omega) (by omega)) dX2_readOne_150 crc_X2_closeAll vc_2_78 z5 rfl rfl rfl rfl (Nat.le_of_ble_eq_true rfl) (roomy_k (by omega) (by decide)) (Nat.le_refl _) (Nat.le_refl _) ?_
    rintro _ _ ⟨rfl, J21, rfl, hg22, e_J21⟩
    have hrd := hrd.tr e_J21
    refine x_vret dX2_readOne_153 rfl (Nat.le_refl _) (Nat.le_refl _) ?_
    exact hQ _ (PQ.ok hg22 hrd (by simp [cloR, preR, List.append_assoc]))
  · cases z9

set_option maxHeartbeats 4000000 in
set_option maxRecDepth 100000 in
theorem r_A4 {tb : Nat → Int32} {ts : Nat} {p o p1 : Nat} {Q1 : List Int32} (h : tkF tb ts p = 40) (ho4 : o < 5) (a : MA tb ts 5 (nxF tb ts p) (o + 1) (true, p1, Q1)) (h41 : ¬ tkF tb ts p1 = 41) : cUN tb ts yX2_readOne cX2_readOne 3 (6 * (5 - o) + 3) (-8) p o (false, p1, Q1) := by
  intro G Sh R b t K k m o0 d' C J Q rc hg hC ho ho5 hd hQ
  obtain ⟨_, z1, z2, z3, z4, z5, _, _, zz, _⟩ := rc.1
  have zT := zz t rc.2.2
  obtain ⟨_, _, _, _, _, _, _, _, w1, w2, w3, w0, _, _, wW, _⟩ := rc.2.1
  have wT := wW t rc.2.2
  have t6 := rc.2.2
  have hrd : rdE b t J J := rdE.rf
  have hps := hg.ps
  have h160 := hg.2.2.2.2.2.2.2.2.2.2
  have hnt : ¬ endT (tkF tb ts p) := by rw [h]; unfold endT; decide
  have hlt := nx_lt hps hnt
  have hle := nx_le (tb := tb) hps
  refine x_aload_n dX2_readOne_7 1 rfl rfl ?_
  refine x_gI (v := tkF tb ts p) dX2_readOne_8 fl_2_46 rfl z5 hg.2.1 ?_
  refine x_sipush (v := 1000) dX2_readOne_11 (by decide) ?_
  refine x_icmp_lt (tgt := 42) dX2_readOne_14 (by decide) (fun c_14 => ?_) (fun c_14 => False.elim (c_14 (by rw [h]; decide)))
  refine x_aload_n dX2_readOne_42 1 rfl rfl ?_
  refine x_gI (v := tkF tb ts p) dX2_readOne_43 fl_2_46 rfl z5 hg.2.1 ?_
  refine x_iconst (v := (-1)) dX2_readOne_46 (by decide) ?_
  refine x_icmp_gt (tgt := 80) dX2_readOne_47 (by decide) (fun c_47 => ?_) (fun c_47 => False.elim (c_47 (by rw [h]; decide)))
  refine x_aload_n dX2_readOne_80 1 rfl rfl ?_
  refine x_gI (v := tkF tb ts p) dX2_readOne_81 fl_2_46 rfl z5 hg.2.1 ?_
  refine x_bipush (v := 40) dX2_readOne_84 (by decide) ?_
  refine x_icmp_ne (tgt := 141) dX2_readOne_86 (by decide) (fun c_86 => False.elim (c_86 h)) (fun c_86 => ?_)
  refine x_aload_n dX2_readOne_89 1 rfl rfl ?_
  refine x_gI (v := nI o) dX2_readOne_90 fl_2_25 rfl z5 hg.2.2.1 ?_
  refine x_iconst (v := 5) dX2_readOne_93 (by decide) ?_
  refine x_icmp_ge (tgt := 141) dX2_readOne_94 (by decide) (fun c_94 => False.elim (absurd ((nI_leI (a := 5) (b := o) (by omega) (by omega)).mp c_94) (by omega))) (fun c_94 => ?_)
  refine x_aload_n dX2_readOne_97 1 rfl rfl ?_
  refine x_dup dX2_readOne_98 rfl ?_
  refine x_gI (v := nI o) dX2_readOne_99 fl_2_25 rfl z5 hg.2.2.1 ?_
  refine x_iconst (v := nI 1) dX2_readOne_102 (by decide) ?_
  refine x_iadd dX2_readOne_103 ?_
  refine x_vali (nI_add o 1) ?_
  refine x_pI dX2_readOne_104 fl_2_25 rfl rfl rfl z5 (fun Iq1 e_Iq1 => ?_)
  have hg23' := GS.opn (o' := o + 1) hg (J' := Iq1) e_Iq1
  have hg23 := hg23'.1
  have hrd := hrd.tr hg23'.2
  refine x_aload_n dX2_readOne_107 1 rfl rfl ?_
  refine x_aload_n dX2_readOne_108 1 rfl rfl ?_
  refine x_gI (v := nI k) dX2_readOne_109 fl_2_62 rfl z5 hg23.1 ?_
  refine x_iconst (v := nI 1) dX2_readOne_112 (by decide) ?_
  refine x_iadd dX2_readOne_113 ?_
  refine x_vali (nI_add k 1) ?_
  refine x_callV (k_goTo (G := G) (tb := tb) (ts := ts) (K := K) rc (J := Iq1) (n := k + 1) (by have := hg23.le; have := hg23.2.2.2.2.2.2.1.1; have := hg23.lt hnt; omega)) dX2_readOne_114 crc_X2_goTo vc_2_32 z5 rfl rfl rfl rfl (Nat.le_of_ble_eq_true rfl) (roomy_k (by omega) (by decide)) (Nat.le_refl _) (Nat.le_refl _) ?_
  rintro _ _ ⟨rfl, eg9⟩
  obtain ⟨J24, e_J24⟩ : ∃ z : HI, z = u2 (u2 Iq1 (b + 5) 1 (nI (k + 1))) (b + 5) 2 (Iq1 (b + 3) (k + 1)) := ⟨_, rfl⟩
  rw [← e_J24] at eg9
  subst eg9
  have hg25' := GS.next hg23 hnt e_J24
  have hg25 := hg25'.1
  have hrd := hrd.tr hg25'.2
  refine x_aload_n dX2_readOne_117 1 rfl rfl ?_
  refine x_aload_n dX2_readOne_118 2 rfl rfl ?_
  refine x_callV (a.2 G Sh R b t K _ C J24 rc hg25 (by omega)) dX2_readOne_119 crc_X2_readE vc_2_55 z5 rfl rfl rfl rfl (Nat.le_of_ble_eq_true rfl) (roomy_k (by omega) (by decide)) (Nat.le_refl _) (Nat.le_refl _) ?_
  rintro _ _ ⟨rfl, J26, rfl, e_J26, (⟨_, k_J26, hg27⟩ | ⟨z9, _⟩)⟩
  · have hrd := hrd.tr e_J26
    have hp1 : p1 ≤ ts := hg27.ps
    have hm1 := (a.1 (by omega)).1
    have hq1 := ((a.1 (by omega)).2.2 rfl).1
    have hm1 : nxF tb ts p ≤ p1 := hm1
    have hq1 : Q1.length ≤ p1 - nxF tb ts p := hq1
    refine x_aload_n dX2_readOne_122 1 rfl rfl ?_
    refine x_bipush (v := 41) dX2_readOne_123 (by decide) ?_
    refine x_callV (k_expectB (G := G) rc hg27 (w := 41) h41) dX2_readOne_125 crc_X2_expect vc_2_52 z5 rfl rfl rfl rfl (Nat.le_of_ble_eq_true rfl) (roomy_k (by omega) (by decide)) (Nat.le_refl _) (Nat.le_refl _) ?_
    rintro _ _ ⟨rfl, J28, rfl, hf29, e_J28⟩
    have hrd := hrd.tr e_J28
    refine x_aload_n dX2_readOne_128 1 rfl rfl ?_
    refine x_dup dX2_readOne_129 rfl ?_
    refine x_gI (v := J28 (b + 5) 3) dX2_readOne_130 fl_2_25 rfl z5 rfl ?_
    refine x_iconst (v := nI 1) dX2_readOne_133 (by decide) ?_
    refine x_isub dX2_readOne_134 ?_
    refine x_pI dX2_readOne_135 fl_2_25 rfl rfl rfl z5 (fun Iq2 e_Iq2 => ?_)
    have hf30 := FS.up hf29 (J' := Iq2) (fun q hq => by rw [e_Iq2, u2_ne (by omega)])
    have hrd := hrd.tr (J2 := Iq2) (fun a q q1 q2 q3 => by rw [e_Iq2, u2_ne (by omega)])
    refine x_goto (tgt := 145) dX2_readOne_138 (by decide) ?_
    refine x_aload_n dX2_readOne_145 1 rfl rfl ?_
    refine x_iload_n dX2_readOne_146 0 rfl rfl ?_
    refine x_bipush (v := (-8)) dX2_readOne_147 (by decide) ?_
    refine x_aload_n dX2_readOne_149 2 rfl rfl ?_
    refine x_callV (k_closeF (G := G) (K := K) rc hf30 (m0 := m) (x := (-8)) (by omega)) dX2_readOne_150 crc_X2_closeAll vc_2_78 z5 rfl rfl rfl rfl (Nat.le_of_ble_eq_true rfl) (roomy_k (by omega) (by decide)) (Nat.le_refl _) (Nat.le_refl _) ?_
    rintro _ _ ⟨rfl, J31, rfl, hf32, e_J31⟩
    have hrd := hrd.tr e_J31
    refine x_vret dX2_readOne_153 rfl (Nat.le_refl _) (Nat.le_refl _) ?_
    exact hQ _ (PQ.no hf32 hrd)
  · cases z9

set_option maxHeartbeats 4000000 in
set_option maxRecDepth 100000 in
theorem r_A5 {tb : Nat → Int32} {ts : Nat} {p o p1 : Nat} {Q1 : List Int32} (h : tkF tb ts p = 40) (ho4 : o < 5) (a : MA tb ts 5 (nxF tb ts p) (o + 1) (false, p1, Q1)) : cUN tb ts yX2_readOne cX2_readOne 3 (6 * (5 - o) + 3) (-8) p o (false, p1, Q1) := by
  intro G Sh R b t K k m o0 d' C J Q rc hg hC ho ho5 hd hQ
  obtain ⟨_, z1, z2, z3, z4, z5, _, _, zz, _⟩ := rc.1
  have zT := zz t rc.2.2
  obtain ⟨_, _, _, _, _, _, _, _, w1, w2, w3, w0, _, _, wW, _⟩ := rc.2.1
  have wT := wW t rc.2.2
  have t6 := rc.2.2
  have hrd : rdE b t J J := rdE.rf
  have hps := hg.ps
  have h160 := hg.2.2.2.2.2.2.2.2.2.2
  have hnt : ¬ endT (tkF tb ts p) := by rw [h]; unfold endT; decide
  have hlt := nx_lt hps hnt
  have hle := nx_le (tb := tb) hps
  refine x_aload_n dX2_readOne_7 1 rfl rfl ?_
  refine x_gI (v := tkF tb ts p) dX2_readOne_8 fl_2_46 rfl z5 hg.2.1 ?_
  refine x_sipush (v := 1000) dX2_readOne_11 (by decide) ?_
  refine x_icmp_lt (tgt := 42) dX2_readOne_14 (by decide) (fun c_14 => ?_) (fun c_14 => False.elim (c_14 (by rw [h]; decide)))
  refine x_aload_n dX2_readOne_42 1 rfl rfl ?_
  refine x_gI (v := tkF tb ts p) dX2_readOne_43 fl_2_46 rfl z5 hg.2.1 ?_
  refine x_iconst (v := (-1)) dX2_readOne_46 (by decide) ?_
  refine x_icmp_gt (tgt := 80) dX2_readOne_47 (by decide) (fun c_47 => ?_) (fun c_47 => False.elim (c_47 (by rw [h]; decide)))
  refine x_aload_n dX2_readOne_80 1 rfl rfl ?_
  refine x_gI (v := tkF tb ts p) dX2_readOne_81 fl_2_46 rfl z5 hg.2.1 ?_
  refine x_bipush (v := 40) dX2_readOne_84 (by decide) ?_
  refine x_icmp_ne (tgt := 141) dX2_readOne_86 (by decide) (fun c_86 => False.elim (c_86 h)) (fun c_86 => ?_)
  refine x_aload_n dX2_readOne_89 1 rfl rfl ?_
  refine x_gI (v := nI o) dX2_readOne_90 fl_2_25 rfl z5 hg.2.2.1 ?_
  refine x_iconst (v := 5) dX2_readOne_93 (by decide) ?_
  refine x_icmp_ge (tgt := 141) dX2_readOne_94 (by decide) (fun c_94 => False.elim (absurd ((nI_leI (a := 5) (b := o) (by omega) (by omega)).mp c_94) (by omega))) (fun c_94 => ?_)
  refine x_aload_n dX2_readOne_97 1 rfl rfl ?_
  refine x_dup dX2_readOne_98 rfl ?_
  refine x_gI (v := nI o) dX2_readOne_99 fl_2_25 rfl z5 hg.2.2.1 ?_
  refine x_iconst (v := nI 1) dX2_readOne_102 (by decide) ?_
  refine x_iadd dX2_readOne_103 ?_
  refine x_vali (nI_add o 1) ?_
  refine x_pI dX2_readOne_104 fl_2_25 rfl rfl rfl z5 (fun Iq1 e_Iq1 => ?_)
  have hg33' := GS.opn (o' := o + 1) hg (J' := Iq1) e_Iq1
  have hg33 := hg33'.1
  have hrd := hrd.tr hg33'.2
  refine x_aload_n dX2_readOne_107 1 rfl rfl ?_
  refine x_aload_n dX2_readOne_108 1 rfl rfl ?_
  refine x_gI (v := nI k) dX2_readOne_109 fl_2_62 rfl z5 hg33.1 ?_
  refine x_iconst (v := nI 1) dX2_readOne_112 (by decide) ?_
  refine x_iadd dX2_readOne_113 ?_
  refine x_vali (nI_add k 1) ?_
  refine x_callV (k_goTo (G := G) (tb := tb) (ts := ts) (K := K) rc (J := Iq1) (n := k + 1) (by have := hg33.le; have := hg33.2.2.2.2.2.2.1.1; have := hg33.lt hnt; omega)) dX2_readOne_114 crc_X2_goTo vc_2_32 z5 rfl rfl rfl rfl (Nat.le_of_ble_eq_true rfl) (roomy_k (by omega) (by decide)) (Nat.le_refl _) (Nat.le_refl _) ?_
  rintro _ _ ⟨rfl, eg9⟩
  obtain ⟨J34, e_J34⟩ : ∃ z : HI, z = u2 (u2 Iq1 (b + 5) 1 (nI (k + 1))) (b + 5) 2 (Iq1 (b + 3) (k + 1)) := ⟨_, rfl⟩
  rw [← e_J34] at eg9
  subst eg9
  have hg35' := GS.next hg33 hnt e_J34
  have hg35 := hg35'.1
  have hrd := hrd.tr hg35'.2
  refine x_aload_n dX2_readOne_117 1 rfl rfl ?_
  refine x_aload_n dX2_readOne_118 2 rfl rfl ?_
  refine x_callV (a.2 G Sh R b t K _ C J34 rc hg35 (by omega)) dX2_readOne_119 crc_X2_readE vc_2_55 z5 rfl rfl rfl rfl (Nat.le_of_ble_eq_true rfl) (roomy_k (by omega) (by decide)) (Nat.le_refl _) (Nat.le_refl _) ?_
  rintro _ _ ⟨rfl, J36, rfl, e_J36, (⟨z9, _⟩ | ⟨_, hg37⟩)⟩
  · cases z9
  · have hrd := hrd.tr e_J36
    refine x_aload_n dX2_readOne_122 1 rfl rfl ?_
    refine x_bipush (v := 41) dX2_readOne_123 (by decide) ?_
    refine x_callV (k_expectF (G := G) (K := K) rc hg37 (w := 41) (by unfold endT; decide)) dX2_readOne_125 crc_X2_expect vc_2_52 z5 rfl rfl rfl rfl (Nat.le_of_ble_eq_true rfl) (roomy_k (by omega) (by decide)) (Nat.le_refl _) (Nat.le_refl _) ?_
    rintro _ _ ⟨rfl, J39, rfl, hf40, e_J39⟩
    have hrd := hrd.tr e_J39
    refine x_aload_n dX2_readOne_128 1 rfl rfl ?_
    refine x_dup dX2_readOne_129 rfl ?_
    refine x_gI (v := J39 (b + 5) 3) dX2_readOne_130 fl_2_25 rfl z5 rfl ?_
    refine x_iconst (v := nI 1) dX2_readOne_133 (by decide) ?_
    refine x_isub dX2_readOne_134 ?_
    refine x_pI dX2_readOne_135 fl_2_25 rfl rfl rfl z5 (fun Iq2 e_Iq2 => ?_)
    have hf41 := FS.up hf40 (J' := Iq2) (fun q hq => by rw [e_Iq2, u2_ne (by omega)])
    have hrd := hrd.tr (J2 := Iq2) (fun a q q1 q2 q3 => by rw [e_Iq2, u2_ne (by omega)])
    refine x_goto (tgt := 145) dX2_readOne_138 (by decide) ?_
    refine x_aload_n dX2_readOne_145 1 rfl rfl ?_
    refine x_iload_n dX2_readOne_146 0 rfl rfl ?_
    refine x_bipush (v := (-8)) dX2_readOne_147 (by decide) ?_
    refine x_aload_n dX2_readOne_149 2 rfl rfl ?_
    refine x_callV (k_closeF (G := G) (K := K) rc hf41 (m0 := m) (x := (-8)) (by omega)) dX2_readOne_150 crc_X2_closeAll vc_2_78 z5 rfl rfl rfl rfl (Nat.le_of_ble_eq_true rfl) (roomy_k (by omega) (by decide)) (Nat.le_refl _) (Nat.le_refl _) ?_
    rintro _ _ ⟨rfl, J42, rfl, hf43, e_J42⟩
    have hrd := hrd.tr e_J42
    refine x_vret dX2_readOne_153 rfl (Nat.le_refl _) (Nat.le_refl _) ?_
    exact hQ _ (PQ.no hf43 hrd)

set_option maxHeartbeats 4000000 in
set_option maxRecDepth 100000 in
theorem r_A6 {tb : Nat → Int32} {ts : Nat} {p o : Nat} (h : ¬ 1000 ≤ tkF tb ts p) (h0 : ¬ (tkF tb ts p ≤ -1 ∧ -6 ≤ tkF tb ts p)) (h4 : ¬ (tkF tb ts p = 40 ∧ o < 5)) : cUN tb ts yX2_readOne cX2_readOne 3 (6 * (5 - o) + 3) (-8) p o (false, p, []) := by
  intro G Sh R b t K k m o0 d' C J Q rc hg hC ho ho5 hd hQ
  obtain ⟨_, z1, z2, z3, z4, z5, _, _, zz, _⟩ := rc.1
  have zT := zz t rc.2.2
  obtain ⟨_, _, _, _, _, _, _, _, w1, w2, w3, w0, _, _, wW, _⟩ := rc.2.1
  have wT := wW t rc.2.2
  have t6 := rc.2.2
  have hrd : rdE b t J J := rdE.rf
  have hps := hg.ps
  have h160 := hg.2.2.2.2.2.2.2.2.2.2
  refine x_aload_n dX2_readOne_7 1 rfl rfl ?_
  refine x_gI (v := tkF tb ts p) dX2_readOne_8 fl_2_46 rfl z5 hg.2.1 ?_
  refine x_sipush (v := 1000) dX2_readOne_11 (by decide) ?_
  refine x_icmp_lt (tgt := 42) dX2_readOne_14 (by decide) (fun c_14 => ?_) (fun c_14 => False.elim (h (Int32.not_lt.mp c_14)))
  refine x_aload_n dX2_readOne_42 1 rfl rfl ?_
  refine x_gI (v := tkF tb ts p) dX2_readOne_43 fl_2_46 rfl z5 hg.2.1 ?_
  refine x_iconst (v := (-1)) dX2_readOne_46 (by decide) ?_
  refine x_icmp_gt (tgt := 80) dX2_readOne_47 (by decide) (fun c_47 => ?_) (fun c_47 => ?_)
  · refine x_aload_n dX2_readOne_80 1 rfl rfl ?_
    refine x_gI (v := tkF tb ts p) dX2_readOne_81 fl_2_46 rfl z5 hg.2.1 ?_
    refine x_bipush (v := 40) dX2_readOne_84 (by decide) ?_
    refine x_icmp_ne (tgt := 141) dX2_readOne_86 (by decide) (fun c_86 => ?_) (fun c_86 => ?_)
    · refine x_aload_n dX2_readOne_141 1 rfl rfl ?_
      refine x_callV (k_fail (G := G) rc hg) dX2_readOne_142 crc_X2_fail vc_2_49 z5 rfl rfl rfl rfl (Nat.le_of_ble_eq_true rfl) (roomy_k (by omega) (by decide)) (Nat.le_refl _) (Nat.le_refl _) ?_
      rintro _ _ ⟨rfl, J44, rfl, hf45, e_J44⟩
      have hrd := hrd.tr e_J44
      refine x_aload_n dX2_readOne_145 1 rfl rfl ?_
      refine x_iload_n dX2_readOne_146 0 rfl rfl ?_
      refine x_bipush (v := (-8)) dX2_readOne_147 (by decide) ?_
      refine x_aload_n dX2_readOne_149 2 rfl rfl ?_
      refine x_callV (k_closeF (G := G) (K := K) rc hf45 (m0 := m) (x := (-8)) (by omega)) dX2_readOne_150 crc_X2_closeAll vc_2_78 z5 rfl rfl rfl rfl (Nat.le_of_ble_eq_true rfl) (roomy_k (by omega) (by decide)) (Nat.le_refl _) (Nat.le_refl _) ?_
      rintro _ _ ⟨rfl, J46, rfl, hf47, e_J46⟩
      have hrd := hrd.tr e_J46
      refine x_vret dX2_readOne_153 rfl (Nat.le_refl _) (Nat.le_refl _) ?_
      exact hQ _ (PQ.no hf47 hrd)
    · refine x_aload_n dX2_readOne_89 1 rfl rfl ?_
      refine x_gI (v := nI o) dX2_readOne_90 fl_2_25 rfl z5 hg.2.2.1 ?_
      refine x_iconst (v := 5) dX2_readOne_93 (by decide) ?_
      refine x_icmp_ge (tgt := 141) dX2_readOne_94 (by decide) (fun c_94 => ?_) (fun c_94 => False.elim (h4 ⟨c_86, by apply Classical.byContradiction; intro z; exact c_94 ((nI_leI (a := 5) (b := o) (by omega) (by omega)).mpr (by omega))⟩))
      refine x_aload_n dX2_readOne_141 1 rfl rfl ?_
      refine x_callV (k_fail (G := G) rc hg) dX2_readOne_142 crc_X2_fail vc_2_49 z5 rfl rfl rfl rfl (Nat.le_of_ble_eq_true rfl) (roomy_k (by omega) (by decide)) (Nat.le_refl _) (Nat.le_refl _) ?_
      rintro _ _ ⟨rfl, J48, rfl, hf49, e_J48⟩
      have hrd := hrd.tr e_J48
      refine x_aload_n dX2_readOne_145 1 rfl rfl ?_
      refine x_iload_n dX2_readOne_146 0 rfl rfl ?_
      refine x_bipush (v := (-8)) dX2_readOne_147 (by decide) ?_
      refine x_aload_n dX2_readOne_149 2 rfl rfl ?_
      refine x_callV (k_closeF (G := G) (K := K) rc hf49 (m0 := m) (x := (-8)) (by omega)) dX2_readOne_150 crc_X2_closeAll vc_2_78 z5 rfl rfl rfl rfl (Nat.le_of_ble_eq_true rfl) (roomy_k (by omega) (by decide)) (Nat.le_refl _) (Nat.le_refl _) ?_
      rintro _ _ ⟨rfl, J50, rfl, hf51, e_J50⟩
      have hrd := hrd.tr e_J50
      refine x_vret dX2_readOne_153 rfl (Nat.le_refl _) (Nat.le_refl _) ?_
      exact hQ _ (PQ.no hf51 hrd)
  · refine x_aload_n dX2_readOne_50 1 rfl rfl ?_
    refine x_gI (v := tkF tb ts p) dX2_readOne_51 fl_2_46 rfl z5 hg.2.1 ?_
    refine x_bipush (v := (-6)) dX2_readOne_54 (by decide) ?_
    refine x_icmp_lt (tgt := 80) dX2_readOne_56 (by decide) (fun c_56 => ?_) (fun c_56 => False.elim (h0 ⟨Int32.not_lt.mp c_47, Int32.not_lt.mp c_56⟩))
    refine x_aload_n dX2_readOne_80 1 rfl rfl ?_
    refine x_gI (v := tkF tb ts p) dX2_readOne_81 fl_2_46 rfl z5 hg.2.1 ?_
    refine x_bipush (v := 40) dX2_readOne_84 (by decide) ?_
    refine x_icmp_ne (tgt := 141) dX2_readOne_86 (by decide) (fun c_86 => ?_) (fun c_86 => ?_)
    · refine x_aload_n dX2_readOne_141 1 rfl rfl ?_
      refine x_callV (k_fail (G := G) rc hg) dX2_readOne_142 crc_X2_fail vc_2_49 z5 rfl rfl rfl rfl (Nat.le_of_ble_eq_true rfl) (roomy_k (by omega) (by decide)) (Nat.le_refl _) (Nat.le_refl _) ?_
      rintro _ _ ⟨rfl, J52, rfl, hf53, e_J52⟩
      have hrd := hrd.tr e_J52
      refine x_aload_n dX2_readOne_145 1 rfl rfl ?_
      refine x_iload_n dX2_readOne_146 0 rfl rfl ?_
      refine x_bipush (v := (-8)) dX2_readOne_147 (by decide) ?_
      refine x_aload_n dX2_readOne_149 2 rfl rfl ?_
      refine x_callV (k_closeF (G := G) (K := K) rc hf53 (m0 := m) (x := (-8)) (by omega)) dX2_readOne_150 crc_X2_closeAll vc_2_78 z5 rfl rfl rfl rfl (Nat.le_of_ble_eq_true rfl) (roomy_k (by omega) (by decide)) (Nat.le_refl _) (Nat.le_refl _) ?_
      rintro _ _ ⟨rfl, J54, rfl, hf55, e_J54⟩
      have hrd := hrd.tr e_J54
      refine x_vret dX2_readOne_153 rfl (Nat.le_refl _) (Nat.le_refl _) ?_
      exact hQ _ (PQ.no hf55 hrd)
    · refine x_aload_n dX2_readOne_89 1 rfl rfl ?_
      refine x_gI (v := nI o) dX2_readOne_90 fl_2_25 rfl z5 hg.2.2.1 ?_
      refine x_iconst (v := 5) dX2_readOne_93 (by decide) ?_
      refine x_icmp_ge (tgt := 141) dX2_readOne_94 (by decide) (fun c_94 => ?_) (fun c_94 => False.elim (h4 ⟨c_86, by apply Classical.byContradiction; intro z; exact c_94 ((nI_leI (a := 5) (b := o) (by omega) (by omega)).mpr (by omega))⟩))
      refine x_aload_n dX2_readOne_141 1 rfl rfl ?_
      refine x_callV (k_fail (G := G) rc hg) dX2_readOne_142 crc_X2_fail vc_2_49 z5 rfl rfl rfl rfl (Nat.le_of_ble_eq_true rfl) (roomy_k (by omega) (by decide)) (Nat.le_refl _) (Nat.le_refl _) ?_
      rintro _ _ ⟨rfl, J56, rfl, hf57, e_J56⟩
      have hrd := hrd.tr e_J56
      refine x_aload_n dX2_readOne_145 1 rfl rfl ?_
      refine x_iload_n dX2_readOne_146 0 rfl rfl ?_
      refine x_bipush (v := (-8)) dX2_readOne_147 (by decide) ?_
      refine x_aload_n dX2_readOne_149 2 rfl rfl ?_
      refine x_callV (k_closeF (G := G) (K := K) rc hf57 (m0 := m) (x := (-8)) (by omega)) dX2_readOne_150 crc_X2_closeAll vc_2_78 z5 rfl rfl rfl rfl (Nat.le_of_ble_eq_true rfl) (roomy_k (by omega) (by decide)) (Nat.le_refl _) (Nat.le_refl _) ?_
      rintro _ _ ⟨rfl, J58, rfl, hf59, e_J58⟩
      have hrd := hrd.tr e_J58
      refine x_vret dX2_readOne_153 rfl (Nat.le_refl _) (Nat.le_refl _) ?_
      exact hQ _ (PQ.no hf59 hrd)

