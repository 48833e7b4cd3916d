/-- what reading a part comes to, in the reference -/
def PQM (tb : Nat → Int32) (ts m c0 : Nat) (Sh : HS) (R : HR) (J : HI) (r : RES) (o : Nat) (C : List Int32) : Int32 → AH → Prop := fun b g => b = (if r.1 = true then 1 else 0) ∧ ∃ J2 : HI, g = (Sh, J2, R) ∧ frP m c0 J J2 ∧ ((r.1 = true ∧ GM tb ts m c0 r.2.1 o (C ++ r.2.2) J2) ∨ (r.1 = false ∧ J2 m 20 = nI (fmF tb ts r.2.1)))
theorem PQM.tr {tb : Nat → Int32} {ts m c0 o : Nat} {Sh : HS} {R : HR} {J J2 : HI} {r : RES} {C : List Int32} {b : Int32} {g : AH} (h : PQM tb ts m c0 Sh R J2 r o C b g) (e : frP m c0 J J2) : PQM tb ts m c0 Sh R J r o C b g := by
  obtain ⟨h0, J3, h1, h2, h3⟩ := h
  exact ⟨h0, J3, h1, e.tr h2, h3⟩
theorem PQM.pre {tb : Nat → Int32} {ts m c0 o : Nat} {Sh : HS} {R : HR} {J : HI} {r : RES} {C Q : List Int32} {b : Int32} {g : AH} (h : PQM tb ts m c0 Sh R J r o (C ++ Q) b g) : PQM tb ts m c0 Sh R J (preR Q r) o C b g := by
  obtain ⟨h0, J2, h1, h2, h3⟩ := h
  refine ⟨h0, J2, h1, h2, ?_⟩
  rcases h3 with ⟨q1, q2⟩ | q
  · exact Or.inl ⟨q1, by show GM tb ts m c0 r.2.1 o (C ++ (Q ++ r.2.2)) J2; rw [← List.append_assoc]; exact q2⟩
  · exact Or.inr q
theorem PQM.ok {tb : Nat → Int32} {ts m c0 o p : Nat} {Sh : HS} {R : HR} {J J2 : HI} {C C2 Q : List Int32} (h : GM tb ts m c0 p o C2 J2) (e : frP m c0 J J2) (hC : C2 = C ++ Q) : PQM tb ts m c0 Sh R J (true, p, Q) o C 1 (Sh, J2, R) := ⟨rfl, J2, rfl, e, Or.inl ⟨rfl, by rw [← hC]; exact h⟩⟩
theorem PQM.no {tb : Nat → Int32} {ts m c0 o p : Nat} {Sh : HS} {R : HR} {J J2 : HI} {C Q : List Int32} (h : J2 m 20 = nI (fmF tb ts p)) (e : frP m c0 J J2) : PQM tb ts m c0 Sh R J (false, p, Q) o C 0 (Sh, J2, R) := ⟨rfl, J2, rfl, e, Or.inr ⟨rfl, h⟩⟩
def cMM (tb : Nat → Int32) (ts : Nat) (y : MethodName) (cc : ByteArray) (L d p o : Nat) (r : RES) : Prop := ∀ (G : GG) (Sh : HS) (R : HR) (m c0 : Nat) (C : List Int32) (J : HI), MSh Sh m → MRf R m → GM tb ts m c0 p o C J → C.length ≤ p → AM G d 0 0 y cc L (some .boolean) [.ref m] (Sh, J, R) (qi (PQM tb ts m c0 Sh R J r o C))
def cML (tb : Nat → Int32) (ts : Nat) (y : MethodName) (cc : ByteArray) (L d p o : Nat) (r : RES) : Prop := ∀ (G : GG) (Sh : HS) (R : HR) (m c0 d' : Nat) (C : List Int32) (J : HI) (Q : Int32 → AH → Prop), MSh Sh m → MRf R m → GM tb ts m c0 p o C J → C.length ≤ p → d ≤ d' → (∀ b g, PQM tb ts m c0 Sh R J r o C b g → Q b g) → X G (kM G d' 0 0 (qi Q)) y cc L (some .boolean) 0 0 9 [(0, .ref m)] [] (Sh, J, R)
def MCm (tb : Nat → Int32) (ts : Nat) : REL := fun k p o r => match k with
  | 0 => cMM tb ts yX8_one cX8_one 4 (6 * (5 - o) + 8) p o r
  | 1 => cMM tb ts yX8_term cX8_term 1 (6 * (5 - o) + 9) p o r
  | 2 => cMM tb ts yX8_sum cX8_sum 2 (6 * (5 - o) + 10) p o r
  | 3 => cMM tb ts yX8_no cX8_no 2 (6 * (5 - o) + 11) p o r
  | 4 => cMM tb ts yX8_all cX8_all 1 (6 * (5 - o) + 12) p o r
  | 5 => cMM tb ts yX8_any cX8_any 1 (6 * (5 - o) + 13) p o r
  | 6 => ¬ tkF tb ts p = 45 → cMM tb ts yX8_one cX8_one 4 (6 * (5 - o) + 8) p o r
  | 7 => ¬ tkF tb ts p = -7 → cMM tb ts yX8_no cX8_no 2 (6 * (5 - o) + 11) p o r
  | 11 => cML tb ts yX8_term cX8_term 1 (6 * (5 - o) + 9) p o r
  | 12 => cML tb ts yX8_sum cX8_sum 2 (6 * (5 - o) + 10) p o r
  | 14 => cML tb ts yX8_all cX8_all 1 (6 * (5 - o) + 12) p o r
  | 15 => cML tb ts yX8_any cX8_any 1 (6 * (5 - o) + 13) p o r
  | _ => True
def MB (tb : Nat → Int32) (ts : Nat) : REL := fun k p o r => MPp ts k p o r ∧ (o ≤ 5 → MCm tb ts k p o r)
theorem jt_ne {t s : Int32} (h : t = s) {P : Prop} (c : ¬ t = s) : P := absurd h c

set_option maxHeartbeats 4000000 in
set_option maxRecDepth 100000 in
theorem m_A1 {tb : Nat → Int32} {ts : Nat} {p o : Nat} (h : 1000 ≤ tkF tb ts p) : cMM tb ts yX8_one cX8_one 4 (6 * (5 - o) + 8) p o (true, nxF tb ts p, [tkF tb ts p - 1000]) := by
  intro G Sh R m c0 C J hsh hrf hg hC
  obtain ⟨z0, z1, z6, z7, z8, z9, z10, z11, z12, z13, z14, z15, z16, z17⟩ := id hsh
  obtain ⟨y1, y6, y7, y8, y9, y10, y11, y12, y13, y14, y15, y16, y17⟩ := id hrf
  have hfr : frP m c0 J J := frP.rf
  have hps := hg.2.2.2.2
  have h160 := hg.1.2.1
  have hle := nx_le (tb := tb) hps
  have hm : mtF (tkF tb ts p) = 48 := mt_48.mpr h
  have hnt : ¬ endT (tkF tb ts p) := fun z => by rcases z with z | z <;> rw [z] at h <;> exact absurd h (by decide)
  have hlt := nx_lt hps hnt
  have hx9 : 15 + (tkF tb ts p - 1000) = mcF (tkF tb ts p - 1000) := by
    unfold mcF
    rw [if_pos (tk_num0 p h), Int32.add_comm]
  refine am_intro (by decide) (Nat.le_of_ble_eq_true rfl) ?_
  refine x_aload_n dX8_one_0 0 rfl rfl ?_
  refine x_gI (v := mtF (tkF tb ts p)) dX8_one_1 fl_8_117 rfl z0 hg.2.1.2.1 ?_
  refine x_bipush (v := 119) dX8_one_4 (by decide) ?_
  refine x_icmp_ne (tgt := 16) dX8_one_6 (by decide) (fun c_6 => ?_) (fun c_6 => False.elim (absurd (hm.symm.trans c_6) (by decide)))
  refine x_iconst (v := (-1)) dX8_one_16 (by decide) ?_
  refine x_istore_n (lv' := [(1, .int (-1)), (0, .ref m)]) dX8_one_17 rfl (by decide) rfl ?_
  refine x_aload_n dX8_one_18 1 rfl rfl ?_
  refine x_gI (v := mtF (tkF tb ts p)) dX8_one_19 fl_8_117 rfl z0 hg.2.1.2.1 ?_
  refine x_bipush (v := 48) dX8_one_22 (by decide) ?_
  refine x_icmp_ne (tgt := 45) dX8_one_24 (by decide) (fun c_24 => False.elim (c_24 hm)) (fun c_24 => ?_)
  refine x_aload_n dX8_one_27 1 rfl rfl ?_
  refine x_bipush (v := 15) dX8_one_28 (by decide) ?_
  refine x_aload_n dX8_one_30 1 rfl rfl ?_
  refine x_gI (v := (tkF tb ts p) - 1000) dX8_one_31 fl_8_161 rfl z0 (hg.2.1.2.2.2 h) ?_
  refine x_iadd dX8_one_34 ?_
  refine x_callV (k_mcodes (G := G) (J := J) hsh hrf (n := c0 + C.length) hg.2.2.2.1.1 (by have := hg.2.2.2.1.2.1; have := hg.2.2.2.1.2.2.1; omega) (x := 15 + ((tkF tb ts p) - 1000))) dX8_one_35 crc_X8_codes vc_8_182 z0 rfl rfl rfl rfl (Nat.le_of_ble_eq_true rfl) (roomy_k (by omega) (by decide)) (Nat.le_refl _) (Nat.le_refl _) ?_
  rintro _ _ ⟨_, rfl, rfl, J1, rfl, e_J1⟩
  have hg2' := hg.cod (c := tkF tb ts p - 1000) (by omega) hx9 e_J1
  have hg2 := hg2'.1
  have hfr := hfr.tr hg2'.2
  refine x_pop dX8_one_38 rfl ?_
  refine x_aload_n dX8_one_39 1 rfl rfl ?_
  refine x_callV (k_next (G := G) (I := J1) hsh hrf hg2.1 (p := nxF tb ts p) (nx_le hg2.2.2.2.2).2 (hg2.2.1.2.2.1 hnt)) dX8_one_40 crc_X8_next vc_8_176 z0 rfl rfl rfl rfl (Nat.le_of_ble_eq_true rfl) (roomy_k (by omega) (by decide)) (Nat.le_refl _) (Nat.le_refl _) ?_
  rintro _ _ ⟨rfl, J3, rfl, fx_J3, tok_J3⟩
  have hg4 := hg2.nxt hnt fx_J3 tok_J3
  have hfr := hfr.tr fx_J3.fp
  refine x_iconst (v := 1) dX8_one_43 (by decide) ?_
  refine x_zret dX8_one_44 rfl rfl (Nat.le_refl _) (Nat.le_refl _) ?_
  exact PQM.ok hg4 hfr (by simp [List.append_assoc])

set_option maxHeartbeats 4000000 in
set_option maxRecDepth 100000 in
theorem m_A2 {tb : Nat → Int32} {ts : Nat} {p o : Nat} (h : tkF tb ts p ≤ -1) (h0 : -6 ≤ tkF tb ts p) : cMM tb ts yX8_one cX8_one 4 (6 * (5 - o) + 8) p o (true, nxF tb ts p, [tkF tb ts p]) := by
  intro G Sh R m c0 C J hsh hrf hg hC
  obtain ⟨z0, z1, z6, z7, z8, z9, z10, z11, z12, z13, z14, z15, z16, z17⟩ := id hsh
  obtain ⟨y1, y6, y7, y8, y9, y10, y11, y12, y13, y14, y15, y16, y17⟩ := id hrf
  have hfr : frP m c0 J J := frP.rf
  have hps := hg.2.2.2.2
  have h160 := hg.1.2.1
  have hle := nx_le (tb := tb) hps
  have hm : mtF (tkF tb ts p) = 119 := mt_119.mpr ⟨fun z => absurd (Int32.le_trans z h) (by decide), Or.inl h⟩
  have hlt := nx_lt hps (end_119 hm)
  have hfn : fmF tb ts p ≤ nxF tb ts p ∧ nxF tb ts p ≤ ts := by
    refine ⟨?_, hle.2⟩
    have s2 := tk_w hg.1 hm
    rw [(tk_2 s2).2]
    exact (beh_le (tb := tb) (s := 2) (show fmF tb ts p ≤ ts from (beh_le (tb := tb) (s := 0) hps).2)).1
  refine am_intro (by decide) (Nat.le_of_ble_eq_true rfl) ?_
  refine x_aload_n dX8_one_0 0 rfl rfl ?_
  refine x_gI (v := mtF (tkF tb ts p)) dX8_one_1 fl_8_117 rfl z0 hg.2.1.2.1 ?_
  refine x_bipush (v := 119) dX8_one_4 (by decide) ?_
  refine x_icmp_ne (tgt := 16) dX8_one_6 (by decide) (fun c_6 => False.elim (c_6 hm)) (fun c_6 => ?_)
  refine x_aload_n dX8_one_9 0 rfl rfl ?_
  refine x_callV (k_mnamed (G := G) (I := J) hsh hrf hg.1 hg.2.1.1 (hg.2.1.2.2.1 (end_119 hm)) hfn.1 hfn.2 (hg.2.1.2.1.trans hm)) dX8_one_10 crc_X8_named vc_8_143 z0 rfl rfl rfl rfl (Nat.le_of_ble_eq_true rfl) (roomy_k (by omega) (by decide)) (Nat.le_refl _) (Nat.le_refl _) ?_
  rintro _ _ ⟨r, rfl, hr, rfl⟩
  have hr := nm_tk hg.1 hm hr
  obtain ⟨-, -, hr1, hr2⟩ := hr.resolve_right (fun z => z.1 ⟨h, h0⟩)
  refine x_goto (tgt := 17) dX8_one_13 (by decide) ?_
  refine x_istore_n (lv' := [(1, .int r), (0, .ref m)]) dX8_one_17 rfl (by decide) rfl ?_
  refine x_aload_n dX8_one_18 1 rfl rfl ?_
  refine x_gI (v := mtF (tkF tb ts p)) dX8_one_19 fl_8_117 rfl z0 hg.2.1.2.1 ?_
  refine x_bipush (v := 48) dX8_one_22 (by decide) ?_
  refine x_icmp_ne (tgt := 45) dX8_one_24 (by decide) (fun c_24 => ?_) (fun c_24 => False.elim (absurd (hm.symm.trans c_24) (by decide)))
  refine x_iload_n dX8_one_45 0 rfl rfl ?_
  refine x_iconst (v := (-1)) dX8_one_46 (by decide) ?_
  refine x_icmp_eq (tgt := 62) dX8_one_47 (by decide) (fun c_47 => False.elim (hr2 c_47)) (fun c_47 => ?_)
  refine x_aload_n dX8_one_50 1 rfl rfl ?_
  refine x_iload_n dX8_one_51 0 rfl rfl ?_
  refine x_callV (k_mcodes (G := G) (J := J) hsh hrf (n := c0 + C.length) hg.2.2.2.1.1 (by have := hg.2.2.2.1.2.1; have := hg.2.2.2.1.2.2.1; omega) (x := r)) dX8_one_52 crc_X8_codes vc_8_182 z0 rfl rfl rfl rfl (Nat.le_of_ble_eq_true rfl) (roomy_k (by omega) (by decide)) (Nat.le_refl _) (Nat.le_refl _) ?_
  rintro _ _ ⟨_, rfl, rfl, J5, rfl, e_J5⟩
  have hg6' := hg.cod (c := tkF tb ts p) (by omega) hr1 e_J5
  have hg6 := hg6'.1
  have hfr := hfr.tr hg6'.2
  refine x_pop dX8_one_55 rfl ?_
  refine x_aload_n dX8_one_56 1 rfl rfl ?_
  refine x_callV (k_next (G := G) (I := J5) hsh hrf hg6.1 (p := nxF tb ts p) (nx_le hg6.2.2.2.2).2 (hg6.2.1.2.2.1 (end_119 hm))) dX8_one_57 crc_X8_next vc_8_176 z0 rfl rfl rfl rfl (Nat.le_of_ble_eq_true rfl) (roomy_k (by omega) (by decide)) (Nat.le_refl _) (Nat.le_refl _) ?_
  rintro _ _ ⟨rfl, J7, rfl, fx_J7, tok_J7⟩
  have hg8 := hg6.nxt (end_119 hm) fx_J7 tok_J7
  have hfr := hfr.tr fx_J7.fp
  refine x_iconst (v := 1) dX8_one_60 (by decide) ?_
  refine x_zret dX8_one_61 rfl rfl (Nat.le_refl _) (Nat.le_refl _) ?_
  exact PQM.ok hg8 hfr (by simp [List.append_assoc])

set_option maxHeartbeats 4000000 in
set_option maxRecDepth 100000 in
theorem m_A3 {tb : Nat → Int32} {ts : Nat} {p o p1 : Nat} {Q1 : List Int32} (h : tkF tb ts p = 40) (ho4 : o < 5) (a : MB tb ts 5 (nxF tb ts p) (o + 1) (true, p1, Q1)) (h41 : tkF tb ts p1 = 41) : cMM tb ts yX8_one cX8_one 4 (6 * (5 - o) + 8) p o (true, nxF tb ts p1, Q1) := by
  intro G Sh R m c0 C J hsh hrf hg hC
  obtain ⟨z0, z1, z6, z7, z8, z9, z10, z11, z12, z13, z14, z15, z16, z17⟩ := id hsh
  obtain ⟨y1, y6, y7, y8, y9, y10, y11, y12, y13, y14, y15, y16, y17⟩ := id hrf
  have hfr : frP m c0 J J := frP.rf
  have hps := hg.2.2.2.2
  have h160 := hg.1.2.1
  have hle := nx_le (tb := tb) hps
  have hm : mtF (tkF tb ts p) = 40 := (mt_sg (by decide)).mpr h
  have hnt : ¬ endT (tkF tb ts p) := by rw [h]; unfold endT; decide
  have hlt := nx_lt hps hnt
  refine am_intro (by decide) (Nat.le_of_ble_eq_true rfl) ?_
  refine x_aload_n dX8_one_0 0 rfl rfl ?_
  refine x_gI (v := mtF (tkF tb ts p)) dX8_one_1 fl_8_117 rfl z0 hg.2.1.2.1 ?_
  refine x_bipush (v := 119) dX8_one_4 (by decide) ?_
  refine x_icmp_ne (tgt := 16) dX8_one_6 (by decide) (fun c_6 => ?_) (fun c_6 => False.elim (absurd (hm.symm.trans c_6) (by decide)))
  refine x_iconst (v := (-1)) dX8_one_16 (by decide) ?_
  refine x_istore_n (lv' := [(1, .int (-1)), (0, .ref m)]) dX8_one_17 rfl (by decide) rfl ?_
  refine x_aload_n dX8_one_18 1 rfl rfl ?_
  refine x_gI (v := mtF (tkF tb ts p)) dX8_one_19 fl_8_117 rfl z0 hg.2.1.2.1 ?_
  refine x_bipush (v := 48) dX8_one_22 (by decide) ?_
  refine x_icmp_ne (tgt := 45) dX8_one_24 (by decide) (fun c_24 => ?_) (fun c_24 => False.elim (absurd (hm.symm.trans c_24) (by decide)))
  refine x_iload_n dX8_one_45 0 rfl rfl ?_
  refine x_iconst (v := (-1)) dX8_one_46 (by decide) ?_
  refine x_icmp_eq (tgt := 62) dX8_one_47 (by decide) (fun c_47 => ?_) (fun c_47 => False.elim (c_47 rfl))
  refine x_aload_n dX8_one_62 1 rfl rfl ?_
  refine x_gI (v := mtF (tkF tb ts p)) dX8_one_63 fl_8_117 rfl z0 hg.2.1.2.1 ?_
  refine x_bipush (v := 45) dX8_one_66 (by decide) ?_
  refine x_icmp_eq (tgt := 80) dX8_one_68 (by decide) (fun c_68 => False.elim (absurd (hm.symm.trans c_68) (by decide))) (fun c_68 => ?_)
  refine x_aload_n dX8_one_71 1 rfl rfl ?_
  refine x_gI (v := mtF (tkF tb ts p)) dX8_one_72 fl_8_117 rfl z0 hg.2.1.2.1 ?_
  refine x_bipush (v := 40) dX8_one_75 (by decide) ?_
  refine x_icmp_ne (tgt := 88) dX8_one_77 (by decide) (fun c_77 => False.elim (c_77 hm)) (fun c_77 => ?_)
  refine x_aload_n dX8_one_80 1 rfl rfl ?_
  refine x_gI (v := nI o) dX8_one_81 fl_8_185 rfl z0 hg.2.2.1 ?_
  refine x_iconst (v := nI 5) dX8_one_84 (by decide) ?_
  refine x_icmp_ne (tgt := 93) dX8_one_85 (by decide) (fun c_85 => ?_) (fun c_85 => False.elim (absurd ((nI_eq (a := o) (b := 5) (by omega) (by omega)).mp c_85) (by omega)))
  refine x_aload_n dX8_one_93 1 rfl rfl ?_
  refine x_dup dX8_one_94 rfl ?_
  refine x_gI (v := nI o) dX8_one_95 fl_8_185 rfl z0 hg.2.2.1 ?_
  refine x_iconst (v := nI 1) dX8_one_98 (by decide) ?_
  refine x_iadd dX8_one_99 ?_
  refine x_vali (nI_add o 1) ?_
  refine x_pI dX8_one_100 fl_8_185 rfl rfl rfl z0 (fun Iq1 e_Iq1 => ?_)
  have hg9' := hg.opn (o' := o + 1) e_Iq1
  have hg9 := hg9'.1
  have hfr := hfr.tr hg9'.2
  refine x_aload_n dX8_one_103 1 rfl rfl ?_
  refine x_gI (v := mtF (tkF tb ts p)) dX8_one_104 fl_8_117 rfl z0 hg9.2.1.2.1 ?_
  refine x_bipush (v := 45) dX8_one_107 (by decide) ?_
  refine x_icmp_ne (tgt := 116) dX8_one_109 (by decide) (fun c_109 => ?_) (fun c_109 => False.elim (absurd (hm.symm.trans c_109) (by decide)))
  refine x_iconst (v := 0) dX8_one_116 (by decide) ?_
  refine x_istore_n (lv' := [(2, .int 0), (1, .int (-1)), (0, .ref m)]) dX8_one_117 rfl (by decide) rfl ?_
  refine x_aload_n dX8_one_118 2 rfl rfl ?_
  refine x_callV (k_next (G := G) (I := Iq1) hsh hrf hg9.1 (p := nxF tb ts p) (nx_le hg9.2.2.2.2).2 (hg9.2.1.2.2.1 hnt)) dX8_one_119 crc_X8_next vc_8_176 z0 rfl rfl rfl rfl (Nat.le_of_ble_eq_true rfl) (roomy_k (by omega) (by decide)) (Nat.le_refl _) (Nat.le_refl _) ?_
  rintro _ _ ⟨rfl, J10, rfl, fx_J10, tok_J10⟩
  have hg11 := hg9.nxt hnt fx_J10 tok_J10
  have hfr := hfr.tr fx_J10.fp
  refine x_iload_n dX8_one_122 0 rfl rfl ?_
  refine x_if_eq (tgt := 150) dX8_one_123 (by decide) (fun c_123 => ?_) (fun c_123 => False.elim (c_123 rfl))
  refine x_aload_n dX8_one_150 2 rfl rfl ?_
  refine x_callV (a.2 (by omega) G Sh R m c0 _ J10 hsh hrf hg11 (by omega)) dX8_one_151 crc_X8_any vc_8_191 z0 rfl rfl rfl rfl (Nat.le_of_ble_eq_true rfl) (roomy_k (by omega) (by decide)) (Nat.le_refl _) (Nat.le_refl _) ?_
  rintro _ _ ⟨b_J12, rfl, hb_J12, J12, rfl, e_J12, (⟨_, hg13⟩ | ⟨z9, _⟩)⟩
  · have hb_J12 : b_J12 = 1 := hb_J12
    subst hb_J12
    have hfr := hfr.tr e_J12
    have hg13 : GM tb ts m c0 p1 (o + 1) (C ++ Q1) J12 := hg13
    have hp1 : p1 ≤ ts := hg13.2.2.2.2
    have hm1 : nxF tb ts p ≤ p1 := (a.1 (by omega)).1
    have hq1 : Q1.length ≤ p1 - nxF tb ts p := ((a.1 (by omega)).2.2 rfl).1
    have hle1 := nx_le (tb := tb) hp1
    have hnt1 : ¬ endT (tkF tb ts p1) := by rw [h41]; unfold endT; decide
    have hlt1 := nx_lt hp1 hnt1
    refine x_if_eq (tgt := 170) dX8_one_154 (by decide) (fun c_154 => False.elim (absurd c_154 (by decide))) (fun c_154 => ?_)
    refine x_aload_n dX8_one_157 2 rfl rfl ?_
    refine x_bipush (v := 41) dX8_one_158 (by decide) ?_
    refine x_callV (k_takesA (G := G) hsh hrf hg13 (w := 41) ((mt_sg (by decide)).mpr h41) hnt1) dX8_one_160 crc_X8_takes vc_8_194 z0 rfl rfl rfl rfl (Nat.le_of_ble_eq_true rfl) (roomy_k (by omega) (by decide)) (Nat.le_refl _) (Nat.le_refl _) ?_
    rintro _ _ ⟨_, rfl, rfl, J14, rfl, fx_J14, hg15⟩
    have hfr := hfr.tr fx_J14.fp
    refine x_if_eq (tgt := 170) dX8_one_163 (by decide) (fun c_163 => False.elim (absurd c_163 (by decide))) (fun c_163 => ?_)
    refine x_iconst (v := 1) dX8_one_166 (by decide) ?_
    refine x_goto (tgt := 171) dX8_one_167 (by decide) ?_
    refine x_istore_n (lv' := [(3, .int 1), (2, .int 0), (1, .int (-1)), (0, .ref m)]) dX8_one_171 rfl (by decide) rfl ?_
    refine x_aload_n dX8_one_172 3 rfl rfl ?_
    refine x_dup dX8_one_173 rfl ?_
    refine x_gI (v := nI (o + 1)) dX8_one_174 fl_8_185 rfl z0 hg15.2.2.1 ?_
    refine x_iconst (v := nI 1) dX8_one_177 (by decide) ?_
    refine x_isub dX8_one_178 ?_
    refine x_vali (nI_pred o) ?_
    refine x_pI dX8_one_179 fl_8_185 rfl rfl rfl z0 (fun Iq2 e_Iq2 => ?_)
    have hg16' := hg15.opn (o' := o) e_Iq2
    have hg16 := hg16'.1
    have hfr := hfr.tr hg16'.2
    refine x_iload_n dX8_one_182 0 rfl rfl ?_
    refine x_zret dX8_one_183 rfl rfl (Nat.le_refl _) (Nat.le_refl _) ?_
    exact PQM.ok hg16 hfr (by simp [List.append_assoc])
  · cases z9

set_option maxHeartbeats 4000000 in
set_option maxRecDepth 100000 in
theorem m_A4 {tb : Nat → Int32} {ts : Nat} {p o p1 : Nat} {Q1 : List Int32} (h : tkF tb ts p = 40) (ho4 : o < 5) (a : MB tb ts 5 (nxF tb ts p) (o + 1) (true, p1, Q1)) (h41 : ¬ tkF tb ts p1 = 41) : cMM tb ts yX8_one cX8_one 4 (6 * (5 - o) + 8) p o (false, p1, Q1) := by
  intro G Sh R m c0 C J hsh hrf hg hC
  obtain ⟨z0, z1, z6, z7, z8, z9, z10, z11, z12, z13, z14, z15, z16, z17⟩ := id hsh
  obtain ⟨y1, y6, y7, y8, y9, y10, y11, y12, y13, y14, y15, y16, y17⟩ := id hrf
  have hfr : frP m c0 J J := frP.rf
  have hps := hg.2.2.2.2
  have h160 := hg.1.2.1
  have hle := nx_le (tb := tb) hps
  have hm : mtF (tkF tb ts p) = 40 := (mt_sg (by decide)).mpr h
  have hnt : ¬ endT (tkF tb ts p) := by rw [h]; unfold endT; decide
  have hlt := nx_lt hps hnt
  refine am_intro (by decide) (Nat.le_of_ble_eq_true rfl) ?_
  refine x_aload_n dX8_one_0 0 rfl rfl ?_
  refine x_gI (v := mtF (tkF tb ts p)) dX8_one_1 fl_8_117 rfl z0 hg.2.1.2.1 ?_
  refine x_bipush (v := 119) dX8_one_4 (by decide) ?_
  refine x_icmp_ne (tgt := 16) dX8_one_6 (by decide) (fun c_6 => ?_) (fun c_6 => False.elim (absurd (hm.symm.trans c_6) (by decide)))
  refine x_iconst (v := (-1)) dX8_one_16 (by decide) ?_
  refine x_istore_n (lv' := [(1, .int (-1)), (0, .ref m)]) dX8_one_17 rfl (by decide) rfl ?_
  refine x_aload_n dX8_one_18 1 rfl rfl ?_
  refine x_gI (v := mtF (tkF tb ts p)) dX8_one_19 fl_8_117 rfl z0 hg.2.1.2.1 ?_
  refine x_bipush (v := 48) dX8_one_22 (by decide) ?_
  refine x_icmp_ne (tgt := 45) dX8_one_24 (by decide) (fun c_24 => ?_) (fun c_24 => False.elim (absurd (hm.symm.trans c_24) (by decide)))
  refine x_iload_n dX8_one_45 0 rfl rfl ?_
  refine x_iconst (v := (-1)) dX8_one_46 (by decide) ?_
  refine x_icmp_eq (tgt := 62) dX8_one_47 (by decide) (fun c_47 => ?_) (fun c_47 => False.elim (c_47 rfl))
  refine x_aload_n dX8_one_62 1 rfl rfl ?_
  refine x_gI (v := mtF (tkF tb ts p)) dX8_one_63 fl_8_117 rfl z0 hg.2.1.2.1 ?_
  refine x_bipush (v := 45) dX8_one_66 (by decide) ?_
  refine x_icmp_eq (tgt := 80) dX8_one_68 (by decide) (fun c_68 => False.elim (absurd (hm.symm.trans c_68) (by decide))) (fun c_68 => ?_)
  refine x_aload_n dX8_one_71 1 rfl rfl ?_
  refine x_gI (v := mtF (tkF tb ts p)) dX8_one_72 fl_8_117 rfl z0 hg.2.1.2.1 ?_
  refine x_bipush (v := 40) dX8_one_75 (by decide) ?_
  refine x_icmp_ne (tgt := 88) dX8_one_77 (by decide) (fun c_77 => False.elim (c_77 hm)) (fun c_77 => ?_)
  refine x_aload_n dX8_one_80 1 rfl rfl ?_
  refine x_gI (v := nI o) dX8_one_81 fl_8_185 rfl z0 hg.2.2.1 ?_
  refine x_iconst (v := nI 5) dX8_one_84 (by decide) ?_
  refine x_icmp_ne (tgt := 93) dX8_one_85 (by decide) (fun c_85 => ?_) (fun c_85 => False.elim (absurd ((nI_eq (a := o) (b := 5) (by omega) (by omega)).mp c_85) (by omega)))
  refine x_aload_n dX8_one_93 1 rfl rfl ?_
  refine x_dup dX8_one_94 rfl ?_
  refine x_gI (v := nI o) dX8_one_95 fl_8_185 rfl z0 hg.2.2.1 ?_
  refine x_iconst (v := nI 1) dX8_one_98 (by decide) ?_
  refine x_iadd dX8_one_99 ?_
  refine x_vali (nI_add o 1) ?_
  refine x_pI dX8_one_100 fl_8_185 rfl rfl rfl z0 (fun Iq1 e_Iq1 => ?_)
  have hg17' := hg.opn (o' := o + 1) e_Iq1
  have hg17 := hg17'.1
  have hfr := hfr.tr hg17'.2
  refine x_aload_n dX8_one_103 1 rfl rfl ?_
  refine x_gI (v := mtF (tkF tb ts p)) dX8_one_104 fl_8_117 rfl z0 hg17.2.1.2.1 ?_
  refine x_bipush (v := 45) dX8_one_107 (by decide) ?_
  refine x_icmp_ne (tgt := 116) dX8_one_109 (by decide) (fun c_109 => ?_) (fun c_109 => False.elim (absurd (hm.symm.trans c_109) (by decide)))
  refine x_iconst (v := 0) dX8_one_116 (by decide) ?_
  refine x_istore_n (lv' := [(2, .int 0), (1, .int (-1)), (0, .ref m)]) dX8_one_117 rfl (by decide) rfl ?_
  refine x_aload_n dX8_one_118 2 rfl rfl ?_
  refine x_callV (k_next (G := G) (I := Iq1) hsh hrf hg17.1 (p := nxF tb ts p) (nx_le hg17.2.2.2.2).2 (hg17.2.1.2.2.1 hnt)) dX8_one_119 crc_X8_next vc_8_176 z0 rfl rfl rfl rfl (Nat.le_of_ble_eq_true rfl) (roomy_k (by omega) (by decide)) (Nat.le_refl _) (Nat.le_refl _) ?_
  rintro _ _ ⟨rfl, J18, rfl, fx_J18, tok_J18⟩
  have hg19 := hg17.nxt hnt fx_J18 tok_J18
  have hfr := hfr.tr fx_J18.fp
  refine x_iload_n dX8_one_122 0 rfl rfl ?_
  refine x_if_eq (tgt := 150) dX8_one_123 (by decide) (fun c_123 => ?_) (fun c_123 => False.elim (c_123 rfl))
  refine x_aload_n dX8_one_150 2 rfl rfl ?_
  refine x_callV (a.2 (by omega) G Sh R m c0 _ J18 hsh hrf hg19 (by omega)) dX8_one_151 crc_X8_any vc_8_191 z0 rfl rfl rfl rfl (Nat.le_of_ble_eq_true rfl) (roomy_k (by omega) (by decide)) (Nat.le_refl _) (Nat.le_refl _) ?_
  rintro _ _ ⟨b_J20, rfl, hb_J20, J20, rfl, e_J20, (⟨_, hg21⟩ | ⟨z9, _⟩)⟩
  · have hb_J20 : b_J20 = 1 := hb_J20
    subst hb_J20
    have hfr := hfr.tr e_J20
    have hg21 : GM tb ts m c0 p1 (o + 1) (C ++ Q1) J20 := hg21
    have hp1 : p1 ≤ ts := hg21.2.2.2.2
    have hm1 : nxF tb ts p ≤ p1 := (a.1 (by omega)).1
    have hq1 : Q1.length ≤ p1 - nxF tb ts p := ((a.1 (by omega)).2.2 rfl).1
    have hle1 := nx_le (tb := tb) hp1
    refine x_if_eq (tgt := 170) dX8_one_154 (by decide) (fun c_154 => False.elim (absurd c_154 (by decide))) (fun c_154 => ?_)
    refine x_aload_n dX8_one_157 2 rfl rfl ?_
    refine x_bipush (v := 41) dX8_one_158 (by decide) ?_
    refine x_callV (k_takesB (G := G) hsh hrf hg21 (w := 41) (fun z => h41 ((mt_sg (by decide)).mp z))) dX8_one_160 crc_X8_takes vc_8_194 z0 rfl rfl rfl rfl (Nat.le_of_ble_eq_true rfl) (roomy_k (by omega) (by decide)) (Nat.le_refl _) (Nat.le_refl _) ?_
    rintro _ _ ⟨_, rfl, rfl, J22, rfl, e_J22⟩
    have hb23 : J22 m 20 = nI (fmF tb ts p1) := by rw [e_J22, u2_same]; exact hg21.2.1.1
    have hfr := hfr.tr (J2 := J22) (fun a k q1 q2 => by rw [e_J22, u2_ne (by omega)])
    refine x_if_eq (tgt := 170) dX8_one_163 (by decide) (fun c_163 => ?_) (fun c_163 => False.elim (c_163 rfl))
    refine x_iconst (v := 0) dX8_one_170 (by decide) ?_
    refine x_istore_n (lv' := [(3, .int 0), (2, .int 0), (1, .int (-1)), (0, .ref m)]) dX8_one_171 rfl (by decide) rfl ?_
    refine x_aload_n dX8_one_172 3 rfl rfl ?_
    refine x_dup dX8_one_173 rfl ?_
    refine x_gI (v := J22 m 21) dX8_one_174 fl_8_185 rfl z0 rfl ?_
    refine x_iconst (v := nI 1) dX8_one_177 (by decide) ?_
    refine x_isub dX8_one_178 ?_
    refine x_pI dX8_one_179 fl_8_185 rfl rfl rfl z0 (fun Iq2 e_Iq2 => ?_)
    have hb24 : Iq2 m 20 = nI (fmF tb ts p1) := by rw [e_Iq2, u2_ne (by omega)]; exact hb23
    have hfr := hfr.tr (J2 := Iq2) (fun a k q1 q2 => by rw [e_Iq2, u2_ne (by omega)])
    refine x_iload_n dX8_one_182 0 rfl rfl ?_
    refine x_zret dX8_one_183 rfl rfl (Nat.le_refl _) (Nat.le_refl _) ?_
    exact PQM.no hb24 hfr
  · cases z9

set_option maxHeartbeats 4000000 in
set_option maxRecDepth 100000 in
theorem m_A5 {tb : Nat → Int32} {ts : Nat} {p o p1 : Nat} {Q1 : List Int32} (h : tkF tb ts p = 40) (ho4 : o < 5) (a : MB tb ts 5 (nxF tb ts p) (o + 1) (false, p1, Q1)) : cMM tb ts yX8_one cX8_one 4 (6 * (5 - o) + 8) p o (false, p1, Q1) := by
  intro G Sh R m c0 C J hsh hrf hg hC
  obtain ⟨z0, z1, z6, z7, z8, z9, z10, z11, z12, z13, z14, z15, z16, z17⟩ := id hsh
  obtain ⟨y1, y6, y7, y8, y9, y10, y11, y12, y13, y14, y15, y16, y17⟩ := id hrf
  have hfr : frP m c0 J J := frP.rf
  have hps := hg.2.2.2.2
  have h160 := hg.1.2.1
  have hle := nx_le (tb := tb) hps
  have hm : mtF (tkF tb ts p) = 40 := (mt_sg (by decide)).mpr h
  have hnt : ¬ endT (tkF tb ts p) := by rw [h]; unfold endT; decide
  have hlt := nx_lt hps hnt
  refine am_intro (by decide) (Nat.le_of_ble_eq_true rfl) ?_
  refine x_aload_n dX8_one_0 0 rfl rfl ?_
  refine x_gI (v := mtF (tkF tb ts p)) dX8_one_1 fl_8_117 rfl z0 hg.2.1.2.1 ?_
  refine x_bipush (v := 119) dX8_one_4 (by decide) ?_
  refine x_icmp_ne (tgt := 16) dX8_one_6 (by decide) (fun c_6 => ?_) (fun c_6 => False.elim (absurd (hm.symm.trans c_6) (by decide)))
  refine x_iconst (v := (-1)) dX8_one_16 (by decide) ?_
  refine x_istore_n (lv' := [(1, .int (-1)), (0, .ref m)]) dX8_one_17 rfl (by decide) rfl ?_
  refine x_aload_n dX8_one_18 1 rfl rfl ?_
  refine x_gI (v := mtF (tkF tb ts p)) dX8_one_19 fl_8_117 rfl z0 hg.2.1.2.1 ?_
  refine x_bipush (v := 48) dX8_one_22 (by decide) ?_
  refine x_icmp_ne (tgt := 45) dX8_one_24 (by decide) (fun c_24 => ?_) (fun c_24 => False.elim (absurd (hm.symm.trans c_24) (by decide)))
  refine x_iload_n dX8_one_45 0 rfl rfl ?_
  refine x_iconst (v := (-1)) dX8_one_46 (by decide) ?_
  refine x_icmp_eq (tgt := 62) dX8_one_47 (by decide) (fun c_47 => ?_) (fun c_47 => False.elim (c_47 rfl))
  refine x_aload_n dX8_one_62 1 rfl rfl ?_
  refine x_gI (v := mtF (tkF tb ts p)) dX8_one_63 fl_8_117 rfl z0 hg.2.1.2.1 ?_
  refine x_bipush (v := 45) dX8_one_66 (by decide) ?_
  refine x_icmp_eq (tgt := 80) dX8_one_68 (by decide) (fun c_68 => False.elim (absurd (hm.symm.trans c_68) (by decide))) (fun c_68 => ?_)
  refine x_aload_n dX8_one_71 1 rfl rfl ?_
  refine x_gI (v := mtF (tkF tb ts p)) dX8_one_72 fl_8_117 rfl z0 hg.2.1.2.1 ?_
  refine x_bipush (v := 40) dX8_one_75 (by decide) ?_
  refine x_icmp_ne (tgt := 88) dX8_one_77 (by decide) (fun c_77 => False.elim (c_77 hm)) (fun c_77 => ?_)
  refine x_aload_n dX8_one_80 1 rfl rfl ?_
  refine x_gI (v := nI o) dX8_one_81 fl_8_185 rfl z0 hg.2.2.1 ?_
  refine x_iconst (v := nI 5) dX8_one_84 (by decide) ?_
  refine x_icmp_ne (tgt := 93) dX8_one_85 (by decide) (fun c_85 => ?_) (fun c_85 => False.elim (absurd ((nI_eq (a := o) (b := 5) (by omega) (by omega)).mp c_85) (by omega)))
  refine x_aload_n dX8_one_93 1 rfl rfl ?_
  refine x_dup dX8_one_94 rfl ?_
  refine x_gI (v := nI o) dX8_one_95 fl_8_185 rfl z0 hg.2.2.1 ?_
  refine x_iconst (v := nI 1) dX8_one_98 (by decide) ?_
  refine x_iadd dX8_one_99 ?_
  refine x_vali (nI_add o 1) ?_
  refine x_pI dX8_one_100 fl_8_185 rfl rfl rfl z0 (fun Iq1 e_Iq1 => ?_)
  have hg25' := hg.opn (o' := o + 1) e_Iq1
  have hg25 := hg25'.1
  have hfr := hfr.tr hg25'.2
  refine x_aload_n dX8_one_103 1 rfl rfl ?_
  refine x_gI (v := mtF (tkF tb ts p)) dX8_one_104 fl_8_117 rfl z0 hg25.2.1.2.1 ?_
  refine x_bipush (v := 45) dX8_one_107 (by decide) ?_
  refine x_icmp_ne (tgt := 116) dX8_one_109 (by decide) (fun c_109 => ?_) (fun c_109 => False.elim (absurd (hm.symm.trans c_109) (by decide)))
  refine x_iconst (v := 0) dX8_one_116 (by decide) ?_
  refine x_istore_n (lv' := [(2, .int 0), (1, .int (-1)), (0, .ref m)]) dX8_one_117 rfl (by decide) rfl ?_
  refine x_aload_n dX8_one_118 2 rfl rfl ?_
  refine x_callV (k_next (G := G) (I := Iq1) hsh hrf hg25.1 (p := nxF tb ts p) (nx_le hg25.2.2.2.2).2 (hg25.2.1.2.2.1 hnt)) dX8_one_119 crc_X8_next vc_8_176 z0 rfl rfl rfl rfl (Nat.le_of_ble_eq_true rfl) (roomy_k (by omega) (by decide)) (Nat.le_refl _) (Nat.le_refl _) ?_
  rintro _ _ ⟨rfl, J26, rfl, fx_J26, tok_J26⟩
  have hg27 := hg25.nxt hnt fx_J26 tok_J26
  have hfr := hfr.tr fx_J26.fp
  refine x_iload_n dX8_one_122 0 rfl rfl ?_
  refine x_if_eq (tgt := 150) dX8_one_123 (by decide) (fun c_123 => ?_) (fun c_123 => False.elim (c_123 rfl))
  refine x_aload_n dX8_one_150 2 rfl rfl ?_
  refine x_callV (a.2 (by omega) G Sh R m c0 _ J26 hsh hrf hg27 (by omega)) dX8_one_151 crc_X8_any vc_8_191 z0 rfl rfl rfl rfl (Nat.le_of_ble_eq_true rfl) (roomy_k (by omega) (by decide)) (Nat.le_refl _) (Nat.le_refl _) ?_
  rintro _ _ ⟨b_J28, rfl, hb_J28, J28, rfl, e_J28, (⟨z9, _⟩ | ⟨_, hg29⟩)⟩
  · cases z9
  · have hb_J28 : b_J28 = 0 := hb_J28
    subst hb_J28
    have hfr := hfr.tr e_J28
    have hg29 : J28 m 20 = nI (fmF tb ts p1) := hg29
    refine x_if_eq (tgt := 170) dX8_one_154 (by decide) (fun c_154 => ?_) (fun c_154 => False.elim (c_154 rfl))
    refine x_iconst (v := 0) dX8_one_170 (by decide) ?_
    refine x_istore_n (lv' := [(3, .int 0), (2, .int 0), (1, .int (-1)), (0, .ref m)]) dX8_one_171 rfl (by decide) rfl ?_
    refine x_aload_n dX8_one_172 3 rfl rfl ?_
    refine x_dup dX8_one_173 rfl ?_
    refine x_gI (v := J28 m 21) dX8_one_174 fl_8_185 rfl z0 rfl ?_
    refine x_iconst (v := nI 1) dX8_one_177 (by decide) ?_
    refine x_isub dX8_one_178 ?_
    refine x_pI dX8_one_179 fl_8_185 rfl rfl rfl z0 (fun Iq2 e_Iq2 => ?_)
    have hb30 : Iq2 m 20 = nI (fmF tb ts p1) := by rw [e_Iq2, u2_ne (by omega)]; exact hg29
    have hfr := hfr.tr (J2 := Iq2) (fun a k q1 q2 => by rw [e_Iq2, u2_ne (by omega)])
    refine x_iload_n dX8_one_182 0 rfl rfl ?_
    refine x_zret dX8_one_183 rfl rfl (Nat.le_refl _) (Nat.le_refl _) ?_
    exact PQM.no hb30 hfr

set_option maxHeartbeats 4000000 in
set_option maxRecDepth 100000 in
theorem m_A6 {tb : Nat → Int32} {ts : Nat} {p o : Nat} (h : ¬ 1000 ≤ tkF tb ts p) (h0 : ¬ (tkF tb ts p ≤ -1 ∧ -6 ≤ tkF tb ts p)) (h4 : ¬ (tkF tb ts p = 40 ∧ o < 5)) (h45 : ¬ tkF tb ts p = 45) (ho5 : o ≤ 5) : cMM tb ts yX8_one cX8_one 4 (6 * (5 - o) + 8) p o (false, p, []) := by
  intro G Sh R m c0 C J hsh hrf hg hC
  obtain ⟨z0, z1, z6, z7, z8, z9, z10, z11, z12, z13, z14, z15, z16, z17⟩ := id hsh
  obtain ⟨y1, y6, y7, y8, y9, y10, y11, y12, y13, y14, y15, y16, y17⟩ := id hrf
  have hfr : frP m c0 J J := frP.rf
  have hps := hg.2.2.2.2
  have h160 := hg.1.2.1
  have hle := nx_le (tb := tb) hps
  refine am_intro (by decide) (Nat.le_of_ble_eq_true rfl) ?_
  refine x_aload_n dX8_one_0 0 rfl rfl ?_
  refine x_gI (v := mtF (tkF tb ts p)) dX8_one_1 fl_8_117 rfl z0 hg.2.1.2.1 ?_
  refine x_bipush (v := 119) dX8_one_4 (by decide) ?_
  refine x_icmp_ne (tgt := 16) dX8_one_6 (by decide) (fun c_6 => ?_) (fun c_6 => ?_)
  · refine x_iconst (v := (-1)) dX8_one_16 (by decide) ?_
    refine x_istore_n (lv' := [(1, .int (-1)), (0, .ref m)]) dX8_one_17 rfl (by decide) rfl ?_
    refine x_aload_n dX8_one_18 1 rfl rfl ?_
    refine x_gI (v := mtF (tkF tb ts p)) dX8_one_19 fl_8_117 rfl z0 hg.2.1.2.1 ?_
    refine x_bipush (v := 48) dX8_one_22 (by decide) ?_
    refine x_icmp_ne (tgt := 45) dX8_one_24 (by decide) (fun c_24 => ?_) (fun c_24 => False.elim (h (mt_48.mp c_24)))
    refine x_iload_n dX8_one_45 0 rfl rfl ?_
    refine x_iconst (v := (-1)) dX8_one_46 (by decide) ?_
    refine x_icmp_eq (tgt := 62) dX8_one_47 (by decide) (fun c_47 => ?_) (fun c_47 => False.elim (c_47 rfl))
    refine x_aload_n dX8_one_62 1 rfl rfl ?_
    refine x_gI (v := mtF (tkF tb ts p)) dX8_one_63 fl_8_117 rfl z0 hg.2.1.2.1 ?_
    refine x_bipush (v := 45) dX8_one_66 (by decide) ?_
    refine x_icmp_eq (tgt := 80) dX8_one_68 (by decide) (fun c_68 => False.elim (h45 ((mt_sg (by decide)).mp c_68))) (fun c_68 => ?_)
    refine x_aload_n dX8_one_71 1 rfl rfl ?_
    refine x_gI (v := mtF (tkF tb ts p)) dX8_one_72 fl_8_117 rfl z0 hg.2.1.2.1 ?_
    refine x_bipush (v := 40) dX8_one_75 (by decide) ?_
    refine x_icmp_ne (tgt := 88) dX8_one_77 (by decide) (fun c_77 => ?_) (fun c_77 => ?_)
    · refine x_aload_n dX8_one_88 1 rfl rfl ?_
      refine x_callV (k_mfails (G := G) (J := J) hsh hrf) dX8_one_89 crc_X8_fails vc_8_172 z0 rfl rfl rfl rfl (Nat.le_of_ble_eq_true rfl) (roomy_k (by omega) (by decide)) (Nat.le_refl _) (Nat.le_refl _) ?_
      rintro _ _ ⟨_, rfl, rfl, J31, rfl, e_J31⟩
      have hb32 : J31 m 20 = nI (fmF tb ts p) := by rw [e_J31, u2_same]; exact hg.2.1.1
      have hfr := hfr.tr (J2 := J31) (fun a k q1 q2 => by rw [e_J31, u2_ne (by omega)])
      refine x_zret dX8_one_92 rfl rfl (Nat.le_refl _) (Nat.le_refl _) ?_
      exact PQM.no hb32 hfr
    · refine x_aload_n dX8_one_80 1 rfl rfl ?_
      refine x_gI (v := nI o) dX8_one_81 fl_8_185 rfl z0 hg.2.2.1 ?_
      refine x_iconst (v := nI 5) dX8_one_84 (by decide) ?_
      refine x_icmp_ne (tgt := 93) dX8_one_85 (by decide) (fun c_85 => False.elim (c_85 ((nI_eq (a := o) (b := 5) (by omega) (by omega)).mpr (by have z : ¬ o < 5 := fun z => h4 ⟨(mt_sg (by decide)).mp c_77, z⟩; omega)))) (fun c_85 => ?_)
      refine x_aload_n dX8_one_88 1 rfl rfl ?_
      refine x_callV (k_mfails (G := G) (J := J) hsh hrf) dX8_one_89 crc_X8_fails vc_8_172 z0 rfl rfl rfl rfl (Nat.le_of_ble_eq_true rfl) (roomy_k (by omega) (by decide)) (Nat.le_refl _) (Nat.le_refl _) ?_
      rintro _ _ ⟨_, rfl, rfl, J33, rfl, e_J33⟩
      have hb34 : J33 m 20 = nI (fmF tb ts p) := by rw [e_J33, u2_same]; exact hg.2.1.1
      have hfr := hfr.tr (J2 := J33) (fun a k q1 q2 => by rw [e_J33, u2_ne (by omega)])
      refine x_zret dX8_one_92 rfl rfl (Nat.le_refl _) (Nat.le_refl _) ?_
      exact PQM.no hb34 hfr
  · have hm : mtF (tkF tb ts p) = 119 := c_6
    have hfn : fmF tb ts p ≤ nxF tb ts p ∧ nxF tb ts p ≤ ts := by
      refine ⟨?_, hle.2⟩
      have s2 := tk_w hg.1 hm
      rw [(tk_2 s2).2]
      exact (beh_le (tb := tb) (s := 2) (show fmF tb ts p ≤ ts from (beh_le (tb := tb) (s := 0) hps).2)).1
    refine x_aload_n dX8_one_9 0 rfl rfl ?_
    refine x_callV (k_mnamed (G := G) (I := J) hsh hrf hg.1 hg.2.1.1 (hg.2.1.2.2.1 (end_119 hm)) hfn.1 hfn.2 (hg.2.1.2.1.trans hm)) dX8_one_10 crc_X8_named vc_8_143 z0 rfl rfl rfl rfl (Nat.le_of_ble_eq_true rfl) (roomy_k (by omega) (by decide)) (Nat.le_refl _) (Nat.le_refl _) ?_
    rintro _ _ ⟨r, rfl, hr, rfl⟩
    have hr := nm_tk hg.1 hm hr
    have hr1 : r = -1 := by
      rcases hr with z | z
      · exact absurd ⟨z.1, z.2.1⟩ h0
      · exact z.2
    refine x_goto (tgt := 17) dX8_one_13 (by decide) ?_
    refine x_istore_n (lv' := [(1, .int r), (0, .ref m)]) dX8_one_17 rfl (by decide) rfl ?_
    refine x_aload_n dX8_one_18 1 rfl rfl ?_
    refine x_gI (v := mtF (tkF tb ts p)) dX8_one_19 fl_8_117 rfl z0 hg.2.1.2.1 ?_
    refine x_bipush (v := 48) dX8_one_22 (by decide) ?_
    refine x_icmp_ne (tgt := 45) dX8_one_24 (by decide) (fun c_24 => ?_) (fun c_24 => False.elim (h (mt_48.mp c_24)))
    refine x_iload_n dX8_one_45 0 rfl rfl ?_
    refine x_iconst (v := (-1)) dX8_one_46 (by decide) ?_
    refine x_icmp_eq (tgt := 62) dX8_one_47 (by decide) (fun c_47 => ?_) (fun c_47 => False.elim (c_47 hr1))
    refine x_aload_n dX8_one_62 1 rfl rfl ?_
    refine x_gI (v := mtF (tkF tb ts p)) dX8_one_63 fl_8_117 rfl z0 hg.2.1.2.1 ?_
    refine x_bipush (v := 45) dX8_one_66 (by decide) ?_
    refine x_icmp_eq (tgt := 80) dX8_one_68 (by decide) (fun c_68 => False.elim (h45 ((mt_sg (by decide)).mp c_68))) (fun c_68 => ?_)
    refine x_aload_n dX8_one_71 1 rfl rfl ?_
    refine x_gI (v := mtF (tkF tb ts p)) dX8_one_72 fl_8_117 rfl z0 hg.2.1.2.1 ?_
    refine x_bipush (v := 40) dX8_one_75 (by decide) ?_
    refine x_icmp_ne (tgt := 88) dX8_one_77 (by decide) (fun c_77 => ?_) (fun c_77 => ?_)
    · refine x_aload_n dX8_one_88 1 rfl rfl ?_
      refine x_callV (k_mfails (G := G) (J := J) hsh hrf) dX8_one_89 crc_X8_fails vc_8_172 z0 rfl rfl rfl rfl (Nat.le_of_ble_eq_true rfl) (roomy_k (by omega) (by decide)) (Nat.le_refl _) (Nat.le_refl _) ?_
      rintro _ _ ⟨_, rfl, rfl, J35, rfl, e_J35⟩
      have hb36 : J35 m 20 = nI (fmF tb ts p) := by rw [e_J35, u2_same]; exact hg.2.1.1
      have hfr := hfr.tr (J2 := J35) (fun a k q1 q2 => by rw [e_J35, u2_ne (by omega)])
      refine x_zret dX8_one_92 rfl rfl (Nat.le_refl _) (Nat.le_refl _) ?_
      exact PQM.no hb36 hfr
    · refine x_aload_n dX8_one_80 1 rfl rfl ?_
      refine x_gI (v := nI o) dX8_one_81 fl_8_185 rfl z0 hg.2.2.1 ?_
      refine x_iconst (v := nI 5) dX8_one_84 (by decide) ?_
      refine x_icmp_ne (tgt := 93) dX8_one_85 (by decide) (fun c_85 => False.elim (c_85 ((nI_eq (a := o) (b := 5) (by omega) (by omega)).mpr (by have z : ¬ o < 5 := fun z => h4 ⟨(mt_sg (by decide)).mp c_77, z⟩; omega)))) (fun c_85 => ?_)
      refine x_aload_n dX8_one_88 1 rfl rfl ?_
      refine x_callV (k_mfails (G := G) (J := J) hsh hrf) dX8_one_89 crc_X8_fails vc_8_172 z0 rfl rfl rfl rfl (Nat.le_of_ble_eq_true rfl) (roomy_k (by omega) (by decide)) (Nat.le_refl _) (Nat.le_refl _) ?_
      rintro _ _ ⟨_, rfl, rfl, J37, rfl, e_J37⟩
      have hb38 : J37 m 20 = nI (fmF tb ts p) := by rw [e_J37, u2_same]; exact hg.2.1.1
      have hfr := hfr.tr (J2 := J37) (fun a k q1 q2 => by rw [e_J37, u2_ne (by omega)])
      refine x_zret dX8_one_92 rfl rfl (Nat.le_refl _) (Nat.le_refl _) ?_
      exact PQM.no hb38 hfr

set_option maxHeartbeats 4000000 in
set_option maxRecDepth 100000 in
theorem m_Os {tb : Nat → Int32} {ts : Nat} {p o p1 : Nat} {Q1 : List Int32} (h : tkF tb ts p = 45) (ho4 : o < 5) (am : MPp ts 0 (nxF tb ts p) (o + 1) (true, p1, Q1)) (a : cMM tb ts yX8_one cX8_one 4 (6 * (5 - (o + 1)) + 8) (nxF tb ts p) (o + 1) (true, p1, Q1)) : cMM tb ts yX8_one cX8_one 4 (6 * (5 - o) + 8) p o (true, p1, Q1 ++ [-8]) := by
  intro G Sh R m c0 C J hsh hrf hg hC
  obtain ⟨z0, z1, z6, z7, z8, z9, z10, z11, z12, z13, z14, z15, z16, z17⟩ := id hsh
  obtain ⟨y1, y6, y7, y8, y9, y10, y11, y12, y13, y14, y15, y16, y17⟩ := id hrf
  have hfr : frP m c0 J J := frP.rf
  have hps := hg.2.2.2.2
  have h160 := hg.1.2.1
  have hle := nx_le (tb := tb) hps
  have hm : mtF (tkF tb ts p) = 45 := (mt_sg (by decide)).mpr h
  have hnt : ¬ endT (tkF tb ts p) := by rw [h]; unfold endT; decide
  have hlt := nx_lt hps hnt
  refine am_intro (by decide) (Nat.le_of_ble_eq_true rfl) ?_
  refine x_aload_n dX8_one_0 0 rfl rfl ?_
  refine x_gI (v := mtF (tkF tb ts p)) dX8_one_1 fl_8_117 rfl z0 hg.2.1.2.1 ?_
  refine x_bipush (v := 119) dX8_one_4 (by decide) ?_
  refine x_icmp_ne (tgt := 16) dX8_one_6 (by decide) (fun c_6 => ?_) (fun c_6 => False.elim (absurd (hm.symm.trans c_6) (by decide)))
  refine x_iconst (v := (-1)) dX8_one_16 (by decide) ?_
  refine x_istore_n (lv' := [(1, .int (-1)), (0, .ref m)]) dX8_one_17 rfl (by decide) rfl ?_
  refine x_aload_n dX8_one_18 1 rfl rfl ?_
  refine x_gI (v := mtF (tkF tb ts p)) dX8_one_19 fl_8_117 rfl z0 hg.2.1.2.1 ?_
  refine x_bipush (v := 48) dX8_one_22 (by decide) ?_
  refine x_icmp_ne (tgt := 45) dX8_one_24 (by decide) (fun c_24 => ?_) (fun c_24 => False.elim (absurd (hm.symm.trans c_24) (by decide)))
  refine x_iload_n dX8_one_45 0 rfl rfl ?_
  refine x_iconst (v := (-1)) dX8_one_46 (by decide) ?_
  refine x_icmp_eq (tgt := 62) dX8_one_47 (by decide) (fun c_47 => ?_) (fun c_47 => False.elim (c_47 rfl))
  refine x_aload_n dX8_one_62 1 rfl rfl ?_
  refine x_gI (v := mtF (tkF tb ts p)) dX8_one_63 fl_8_117 rfl z0 hg.2.1.2.1 ?_
  refine x_bipush (v := 45) dX8_one_66 (by decide) ?_
  refine x_icmp_eq (tgt := 80) dX8_one_68 (by decide) (fun c_68 => ?_) (fun c_68 => False.elim (c_68 hm))
  refine x_aload_n dX8_one_80 1 rfl rfl ?_
  refine x_gI (v := nI o) dX8_one_81 fl_8_185 rfl z0 hg.2.2.1 ?_
  refine x_iconst (v := nI 5) dX8_one_84 (by decide) ?_
  refine x_icmp_ne (tgt := 93) dX8_one_85 (by decide) (fun c_85 => ?_) (fun c_85 => False.elim (absurd ((nI_eq (a := o) (b := 5) (by omega) (by omega)).mp c_85) (by omega)))
  refine x_aload_n dX8_one_93 1 rfl rfl ?_
  refine x_dup dX8_one_94 rfl ?_
  refine x_gI (v := nI o) dX8_one_95 fl_8_185 rfl z0 hg.2.2.1 ?_
  refine x_iconst (v := nI 1) dX8_one_98 (by decide) ?_
  refine x_iadd dX8_one_99 ?_
  refine x_vali (nI_add o 1) ?_
  refine x_pI dX8_one_100 fl_8_185 rfl rfl rfl z0 (fun Iq1 e_Iq1 => ?_)
  have hg39' := hg.opn (o' := o + 1) e_Iq1
  have hg39 := hg39'.1
  have hfr := hfr.tr hg39'.2
  refine x_aload_n dX8_one_103 1 rfl rfl ?_
  refine x_gI (v := mtF (tkF tb ts p)) dX8_one_104 fl_8_117 rfl z0 hg39.2.1.2.1 ?_
  refine x_bipush (v := 45) dX8_one_107 (by decide) ?_
  refine x_icmp_ne (tgt := 116) dX8_one_109 (by decide) (fun c_109 => False.elim (c_109 hm)) (fun c_109 => ?_)
  refine x_iconst (v := 1) dX8_one_112 (by decide) ?_
  refine x_goto (tgt := 117) dX8_one_113 (by decide) ?_
  refine x_istore_n (lv' := [(2, .int 1), (1, .int (-1)), (0, .ref m)]) dX8_one_117 rfl (by decide) rfl ?_
  refine x_aload_n dX8_one_118 2 rfl rfl ?_
  refine x_callV (k_next (G := G) (I := Iq1) hsh hrf hg39.1 (p := nxF tb ts p) (nx_le hg39.2.2.2.2).2 (hg39.2.1.2.2.1 hnt)) dX8_one_119 crc_X8_next vc_8_176 z0 rfl rfl rfl rfl (Nat.le_of_ble_eq_true rfl) (roomy_k (by omega) (by decide)) (Nat.le_refl _) (Nat.le_refl _) ?_
  rintro _ _ ⟨rfl, J40, rfl, fx_J40, tok_J40⟩
  have hg41 := hg39.nxt hnt fx_J40 tok_J40
  have hfr := hfr.tr fx_J40.fp
  refine x_iload_n dX8_one_122 0 rfl rfl ?_
  refine x_if_eq (tgt := 150) dX8_one_123 (by decide) (fun c_123 => False.elim (absurd c_123 (by decide))) (fun c_123 => ?_)
  refine x_aload_n dX8_one_126 2 rfl rfl ?_
  refine x_callV (a G Sh R m c0 _ J40 hsh hrf hg41 (by omega)) dX8_one_127 crc_X8_one vc_8_188 z0 rfl rfl rfl rfl (Nat.le_of_ble_eq_true rfl) (roomy_k (by omega) (by decide)) (Nat.le_refl _) (Nat.le_refl _) ?_
  rintro _ _ ⟨b_J42, rfl, hb_J42, J42, rfl, e_J42, (⟨_, hg43⟩ | ⟨z9, _⟩)⟩
  · have hb_J42 : b_J42 = 1 := hb_J42
    subst hb_J42
    have hfr := hfr.tr e_J42
    have hg43 : GM tb ts m c0 p1 (o + 1) (C ++ Q1) J42 := hg43
    have hp1 : p1 ≤ ts := hg43.2.2.2.2
    have hm1 : nxF tb ts p ≤ p1 := (am (by omega)).1
    have hq1 : Q1.length ≤ p1 - nxF tb ts p := ((am (by omega)).2.2 rfl).1
    refine x_if_eq (tgt := 146) dX8_one_130 (by decide) (fun c_130 => False.elim (absurd c_130 (by decide))) (fun c_130 => ?_)
    refine x_aload_n dX8_one_133 2 rfl rfl ?_
    refine x_bipush (v := 14) dX8_one_134 (by decide) ?_
    refine x_callV (k_mcodes (G := G) (J := J42) hsh hrf (n := c0 + (C ++ Q1).length) hg43.2.2.2.1.1 (by have := hg43.2.2.2.1.2.1; have := hg43.2.2.2.1.2.2.1; omega) (x := 14)) dX8_one_136 crc_X8_codes vc_8_182 z0 rfl rfl rfl rfl (Nat.le_of_ble_eq_true rfl) (roomy_k (by omega) (by decide)) (Nat.le_refl _) (Nat.le_refl _) ?_
    rintro _ _ ⟨_, rfl, rfl, J44, rfl, e_J44⟩
    have hg45' := hg43.cod (c := -8) (by simp only [List.length_append, List.length_cons, List.length_nil]; omega) rfl e_J44
    have hg45 := hg45'.1
    have hfr := hfr.tr hg45'.2
    refine x_if_eq (tgt := 146) dX8_one_139 (by decide) (fun c_139 => False.elim (absurd c_139 (by decide))) (fun c_139 => ?_)
    refine x_iconst (v := 1) dX8_one_142 (by decide) ?_
    refine x_goto (tgt := 171) dX8_one_143 (by decide) ?_
    refine x_istore_n (lv' := [(3, .int 1), (2, .int 1), (1, .int (-1)), (0, .ref m)]) dX8_one_171 rfl (by decide) rfl ?_
    refine x_aload_n dX8_one_172 3 rfl rfl ?_
    refine x_dup dX8_one_173 rfl ?_
    refine x_gI (v := nI (o + 1)) dX8_one_174 fl_8_185 rfl z0 hg45.2.2.1 ?_
    refine x_iconst (v := nI 1) dX8_one_177 (by decide) ?_
    refine x_isub dX8_one_178 ?_
    refine x_vali (nI_pred o) ?_
    refine x_pI dX8_one_179 fl_8_185 rfl rfl rfl z0 (fun Iq2 e_Iq2 => ?_)
    have hg46' := hg45.opn (o' := o) e_Iq2
    have hg46 := hg46'.1
    have hfr := hfr.tr hg46'.2
    refine x_iload_n dX8_one_182 0 rfl rfl ?_
    refine x_zret dX8_one_183 rfl rfl (Nat.le_refl _) (Nat.le_refl _) ?_
    exact PQM.ok hg46 hfr (by simp [List.append_assoc])
  · cases z9

set_option maxHeartbeats 4000000 in
set_option maxRecDepth 100000 in
theorem m_Of {tb : Nat → Int32} {ts : Nat} {p o p1 : Nat} {Q1 Q2 : List Int32} (h : tkF tb ts p = 45) (ho4 : o < 5) (am : MPp ts 0 (nxF tb ts p) (o + 1) (false, p1, Q1)) (a : cMM tb ts yX8_one cX8_one 4 (6 * (5 - (o + 1)) + 8) (nxF tb ts p) (o + 1) (false, p1, Q1)) : cMM tb ts yX8_one cX8_one 4 (6 * (5 - o) + 8) p o (false, p1, Q2) := by
  intro G Sh R m c0 C J hsh hrf hg hC
  obtain ⟨z0, z1, z6, z7, z8, z9, z10, z11, z12, z13, z14, z15, z16, z17⟩ := id hsh
  obtain ⟨y1, y6, y7, y8, y9, y10, y11, y12, y13, y14, y15, y16, y17⟩ := id hrf
  have hfr : frP m c0 J J := frP.rf
  have hps := hg.2.2.2.2
  have h160 := hg.1.2.1
  have hle := nx_le (tb := tb) hps
  have hm : mtF (tkF tb ts p) = 45 := (mt_sg (by decide)).mpr h
  have hnt : ¬ endT (tkF tb ts p) := by rw [h]; unfold endT; decide
  have hlt := nx_lt hps hnt
  refine am_intro (by decide) (Nat.le_of_ble_eq_true rfl) ?_
  refine x_aload_n dX8_one_0 0 rfl rfl ?_
  refine x_gI (v := mtF (tkF tb ts p)) dX8_one_1 fl_8_117 rfl z0 hg.2.1.2.1 ?_
  refine x_bipush (v := 119) dX8_one_4 (by decide) ?_
  refine x_icmp_ne (tgt := 16) dX8_one_6 (by decide) (fun c_6 => ?_) (fun c_6 => False.elim (absurd (hm.symm.trans c_6) (by decide)))
  refine x_iconst (v := (-1)) dX8_one_16 (by decide) ?_
  refine x_istore_n (lv' := [(1, .int (-1)), (0, .ref m)]) dX8_one_17 rfl (by decide) rfl ?_
  refine x_aload_n dX8_one_18 1 rfl rfl ?_
  refine x_gI (v := mtF (tkF tb ts p)) dX8_one_19 fl_8_117 rfl z0 hg.2.1.2.1 ?_
  refine x_bipush (v := 48) dX8_one_22 (by decide) ?_
  refine x_icmp_ne (tgt := 45) dX8_one_24 (by decide) (fun c_24 => ?_) (fun c_24 => False.elim (absurd (hm.symm.trans c_24) (by decide)))
  refine x_iload_n dX8_one_45 0 rfl rfl ?_
  refine x_iconst (v := (-1)) dX8_one_46 (by decide) ?_
  refine x_icmp_eq (tgt := 62) dX8_one_47 (by decide) (fun c_47 => ?_) (fun c_47 => False.elim (c_47 rfl))
  refine x_aload_n dX8_one_62 1 rfl rfl ?_
  refine x_gI (v := mtF (tkF tb ts p)) dX8_one_63 fl_8_117 rfl z0 hg.2.1.2.1 ?_
  refine x_bipush (v := 45) dX8_one_66 (by decide) ?_
  refine x_icmp_eq (tgt := 80) dX8_one_68 (by decide) (fun c_68 => ?_) (fun c_68 => False.elim (c_68 hm))
  refine x_aload_n dX8_one_80 1 rfl rfl ?_
  refine x_gI (v := nI o) dX8_one_81 fl_8_185 rfl z0 hg.2.2.1 ?_
  refine x_iconst (v := nI 5) dX8_one_84 (by decide) ?_
  refine x_icmp_ne (tgt := 93) dX8_one_85 (by decide) (fun c_85 => ?_) (fun c_85 => False.elim (absurd ((nI_eq (a := o) (b := 5) (by omega) (by omega)).mp c_85) (by omega)))
  refine x_aload_n dX8_one_93 1 rfl rfl ?_
  refine x_dup dX8_one_94 rfl ?_
  refine x_gI (v := nI o) dX8_one_95 fl_8_185 rfl z0 hg.2.2.1 ?_
  refine x_iconst (v := nI 1) dX8_one_98 (by decide) ?_
  refine x_iadd dX8_one_99 ?_
  refine x_vali (nI_add o 1) ?_
  refine x_pI dX8_one_100 fl_8_185 rfl rfl rfl z0 (fun Iq1 e_Iq1 => ?_)
  have hg47' := hg.opn (o' := o + 1) e_Iq1
  have hg47 := hg47'.1
  have hfr := hfr.tr hg47'.2
  refine x_aload_n dX8_one_103 1 rfl rfl ?_
  refine x_gI (v := mtF (tkF tb ts p)) dX8_one_104 fl_8_117 rfl z0 hg47.2.1.2.1 ?_
  refine x_bipush (v := 45) dX8_one_107 (by decide) ?_
  refine x_icmp_ne (tgt := 116) dX8_one_109 (by decide) (fun c_109 => False.elim (c_109 hm)) (fun c_109 => ?_)
  refine x_iconst (v := 1) dX8_one_112 (by decide) ?_
  refine x_goto (tgt := 117) dX8_one_113 (by decide) ?_
  refine x_istore_n (lv' := [(2, .int 1), (1, .int (-1)), (0, .ref m)]) dX8_one_117 rfl (by decide) rfl ?_
  refine x_aload_n dX8_one_118 2 rfl rfl ?_
  refine x_callV (k_next (G := G) (I := Iq1) hsh hrf hg47.1 (p := nxF tb ts p) (nx_le hg47.2.2.2.2).2 (hg47.2.1.2.2.1 hnt)) dX8_one_119 crc_X8_next vc_8_176 z0 rfl rfl rfl rfl (Nat.le_of_ble_eq_true rfl) (roomy_k (by omega) (by decide)) (Nat.le_refl _) (Nat.le_refl _) ?_
  rintro _ _ ⟨rfl, J48, rfl, fx_J48, tok_J48⟩
  have hg49 := hg47.nxt hnt fx_J48 tok_J48
  have hfr := hfr.tr fx_J48.fp
  refine x_iload_n dX8_one_122 0 rfl rfl ?_
  refine x_if_eq (tgt := 150) dX8_one_123 (by decide) (fun c_123 => False.elim (absurd c_123 (by decide))) (fun c_123 => ?_)
  refine x_aload_n dX8_one_126 2 rfl rfl ?_
  refine x_callV (a G Sh R m c0 _ J48 hsh hrf hg49 (by omega)) dX8_one_127 crc_X8_one vc_8_188 z0 rfl rfl rfl rfl (Nat.le_of_ble_eq_true rfl) (roomy_k (by omega) (by decide)) (Nat.le_refl _) (Nat.le_refl _) ?_
  rintro _ _ ⟨b_J50, rfl, hb_J50, J50, rfl, e_J50, (⟨z9, _⟩ | ⟨_, hg51⟩)⟩
  · cases z9
  · have hb_J50 : b_J50 = 0 := hb_J50
    subst hb_J50
    have hfr := hfr.tr e_J50
    have hg51 : J50 m 20 = nI (fmF tb ts p1) := hg51
    refine x_if_eq (tgt := 146) dX8_one_130 (by decide) (fun c_130 => ?_) (fun c_130 => False.elim (c_130 rfl))
    refine x_iconst (v := 0) dX8_one_146 (by decide) ?_
    refine x_goto (tgt := 171) dX8_one_147 (by decide) ?_
    refine x_istore_n (lv' := [(3, .int 0), (2, .int 1), (1, .int (-1)), (0, .ref m)]) dX8_one_171 rfl (by decide) rfl ?_
    refine x_aload_n dX8_one_172 3 rfl rfl ?_
    refine x_dup dX8_one_173 rfl ?_
    refine x_gI (v := J50 m 21) dX8_one_174 fl_8_185 rfl z0 rfl ?_
    refine x_iconst (v := nI 1) dX8_one_177 (by decide) ?_
    refine x_isub dX8_one_178 ?_
    refine x_pI dX8_one_179 fl_8_185 rfl rfl rfl z0 (fun Iq2 e_Iq2 => ?_)
    have hb52 : Iq2 m 20 = nI (fmF tb ts p1) := by rw [e_Iq2, u2_ne (by omega)]; exact hg51
    have hfr := hfr.tr (J2 := Iq2) (fun a k q1 q2 => by rw [e_Iq2, u2_ne (by omega)])
    refine x_iload_n dX8_one_182 0 rfl rfl ?_
    refine x_zret dX8_one_183 rfl rfl (Nat.le_refl _) (Nat.le_refl _) ?_
    exact PQM.no hb52 hfr

set_option maxHeartbeats 4000000 in
set_option maxRecDepth 100000 in
theorem m_O5 {tb : Nat → Int32} {ts : Nat} {p : Nat} (h : tkF tb ts p = 45) : cMM tb ts yX8_one cX8_one 4 (6 * (5 - 5) + 8) p 5 (false, p, []) := by
  intro G Sh R m c0 C J hsh hrf hg hC
  obtain ⟨z0, z1, z6, z7, z8, z9, z10, z11, z12, z13, z14, z15, z16, z17⟩ := id hsh
  obtain ⟨y1, y6, y7, y8, y9, y10, y11, y12, y13, y14, y15, y16, y17⟩ := id hrf
  have hfr : frP m c0 J J := frP.rf
  have hps := hg.2.2.2.2
  have h160 := hg.1.2.1
  have hle := nx_le (tb := tb) hps
  have hm : mtF (tkF tb ts p) = 45 := (mt_sg (by decide)).mpr h
  have hnt : ¬ endT (tkF tb ts p) := by rw [h]; unfold endT; decide
  refine am_intro (by decide) (Nat.le_of_ble_eq_true rfl) ?_
  refine x_aload_n dX8_one_0 0 rfl rfl ?_
  refine x_gI (v := mtF (tkF tb ts p)) dX8_one_1 fl_8_117 rfl z0 hg.2.1.2.1 ?_
  refine x_bipush (v := 119) dX8_one_4 (by decide) ?_
  refine x_icmp_ne (tgt := 16) dX8_one_6 (by decide) (fun c_6 => ?_) (fun c_6 => False.elim (absurd (hm.symm.trans c_6) (by decide)))
  refine x_iconst (v := (-1)) dX8_one_16 (by decide) ?_
  refine x_istore_n (lv' := [(1, .int (-1)), (0, .ref m)]) dX8_one_17 rfl (by decide) rfl ?_
  refine x_aload_n dX8_one_18 1 rfl rfl ?_
  refine x_gI (v := mtF (tkF tb ts p)) dX8_one_19 fl_8_117 rfl z0 hg.2.1.2.1 ?_
  refine x_bipush (v := 48) dX8_one_22 (by decide) ?_
  refine x_icmp_ne (tgt := 45) dX8_one_24 (by decide) (fun c_24 => ?_) (fun c_24 => False.elim (absurd (hm.symm.trans c_24) (by decide)))
  refine x_iload_n dX8_one_45 0 rfl rfl ?_
  refine x_iconst (v := (-1)) dX8_one_46 (by decide) ?_
  refine x_icmp_eq (tgt := 62) dX8_one_47 (by decide) (fun c_47 => ?_) (fun c_47 => False.elim (c_47 rfl))
  refine x_aload_n dX8_one_62 1 rfl rfl ?_
  refine x_gI (v := mtF (tkF tb ts p)) dX8_one_63 fl_8_117 rfl z0 hg.2.1.2.1 ?_
  refine x_bipush (v := 45) dX8_one_66 (by decide) ?_
  refine x_icmp_eq (tgt := 80) dX8_one_68 (by decide) (fun c_68 => ?_) (fun c_68 => False.elim (c_68 hm))
  refine x_aload_n dX8_one_80 1 rfl rfl ?_
  refine x_gI (v := nI 5) dX8_one_81 fl_8_185 rfl z0 hg.2.2.1 ?_
  refine x_iconst (v := nI 5) dX8_one_84 (by decide) ?_
  refine x_icmp_ne (tgt := 93) dX8_one_85 (by decide) (fun c_85 => False.elim (c_85 rfl)) (fun c_85 => ?_)
  refine x_aload_n dX8_one_88 1 rfl rfl ?_
  refine x_callV (k_mfails (G := G) (J := J) hsh hrf) dX8_one_89 crc_X8_fails vc_8_172 z0 rfl rfl rfl rfl (Nat.le_of_ble_eq_true rfl) (roomy_k (by omega) (by decide)) (Nat.le_refl _) (Nat.le_refl _) ?_
  rintro _ _ ⟨_, rfl, rfl, J53, rfl, e_J53⟩
  have hb54 : J53 m 20 = nI (fmF tb ts p) := by rw [e_J53, u2_same]; exact hg.2.1.1
  have hfr := hfr.tr (J2 := J53) (fun a k q1 q2 => by rw [e_J53, u2_ne (by omega)])
  refine x_zret dX8_one_92 rfl rfl (Nat.le_refl _) (Nat.le_refl _) ?_
  exact PQM.no hb54 hfr

