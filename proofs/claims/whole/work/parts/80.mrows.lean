set_option maxHeartbeats 4000000 in
set_option maxRecDepth 100000 in
theorem m_T1 {tb : Nat → Int32} {ts : Nat} {p o p1 : Nat} {Q1 : List Int32} {r : RES} (ho5 : o ≤ 5) (a : MB tb ts 0 p o (true, p1, Q1)) (a2 : MB tb ts 11 p1 o r) : cMM tb ts yX8_term cX8_term 1 (6 * (5 - o) + 9) p o (preR Q1 r) := by
  intro G Sh R m c0 C J hsh hrf hg hC
  obtain ⟨z0, z1, z6, z7, z8, z9, z10, z11, z12, z13, z14, z15, z16, z17⟩ := id hsh
  obtain ⟨y1, y6, y7, y8, y9, y10, y11, y12, y13, y14, y15, y16, y17⟩ := id hrf
  have hfr : frP m c0 J J := frP.rf
  have hps := hg.2.2.2.2
  have h160 := hg.1.2.1
  have hle := nx_le (tb := tb) hps
  refine am_intro (by decide) (Nat.le_of_ble_eq_true rfl) ?_
  refine x_aload_n dX8_term_0 0 rfl rfl ?_
  refine x_callV (a.2 (by omega) G Sh R m c0 _ J hsh hrf hg (by omega)) dX8_term_1 crc_X8_one vc_8_188 z0 rfl rfl rfl rfl (Nat.le_of_ble_eq_true rfl) (roomy_k (by omega) (by decide)) (Nat.le_refl _) (Nat.le_refl _) ?_
  rintro _ _ ⟨b_J1, rfl, hb_J1, J1, rfl, e_J1, (⟨_, hg2⟩ | ⟨z9, _⟩)⟩
  · have hb_J1 : b_J1 = 1 := hb_J1
    subst hb_J1
    have hfr := hfr.tr e_J1
    have hg2 : GM tb ts m c0 p1 o (C ++ Q1) J1 := hg2
    have hp1 : p1 ≤ ts := hg2.2.2.2.2
    have hm1 : p ≤ p1 := (a.1 (by omega)).1
    have hq1 : Q1.length ≤ p1 - p := ((a.1 (by omega)).2.2 rfl).1
    refine x_if_ne (tgt := 9) dX8_term_4 (by decide) (fun c_4 => ?_) (fun c_4 => False.elim (absurd c_4 (by decide)))
    refine x_sub [0] rfl ?_
    exact a2.2 (by omega) G Sh R m c0 _ _ J1 _ hsh hrf hg2 (by simp only [List.length_append, List.length_cons, List.length_nil]; omega) (by omega) (fun b9 g9 hq9 => PQM.tr (PQM.pre hq9) hfr)
  · cases z9

set_option maxHeartbeats 4000000 in
set_option maxRecDepth 100000 in
theorem m_T2 {tb : Nat → Int32} {ts : Nat} {p o p1 : Nat} {Q1 : List Int32} (ho5 : o ≤ 5) (a : MB tb ts 0 p o (false, p1, Q1)) : cMM tb ts yX8_term cX8_term 1 (6 * (5 - o) + 9) p o (false, p1, Q1) := by
  intro G Sh R m c0 C J hsh hrf hg hC
  obtain ⟨z0, z1, z6, z7, z8, z9, z10, z11, z12, z13, z14, z15, z16, z17⟩ := id hsh
  obtain ⟨y1, y6, y7, y8, y9, y10, y11, y12, y13, y14, y15, y16, y17⟩ := id hrf
  have hfr : frP m c0 J J := frP.rf
  have hps := hg.2.2.2.2
  have h160 := hg.1.2.1
  have hle := nx_le (tb := tb) hps
  refine am_intro (by decide) (Nat.le_of_ble_eq_true rfl) ?_
  refine x_aload_n dX8_term_0 0 rfl rfl ?_
  refine x_callV (a.2 (by omega) G Sh R m c0 _ J hsh hrf hg (by omega)) dX8_term_1 crc_X8_one vc_8_188 z0 rfl rfl rfl rfl (Nat.le_of_ble_eq_true rfl) (roomy_k (by omega) (by decide)) (Nat.le_refl _) (Nat.le_refl _) ?_
  rintro _ _ ⟨b_J3, rfl, hb_J3, J3, rfl, e_J3, (⟨z9, _⟩ | ⟨_, hg4⟩)⟩
  · cases z9
  · have hb_J3 : b_J3 = 0 := hb_J3
    subst hb_J3
    have hfr := hfr.tr e_J3
    have hg4 : J3 m 20 = nI (fmF tb ts p1) := hg4
    refine x_if_ne (tgt := 9) dX8_term_4 (by decide) (fun c_4 => False.elim (c_4 rfl)) (fun c_4 => ?_)
    refine x_iconst (v := 0) dX8_term_7 (by decide) ?_
    refine x_zret dX8_term_8 rfl rfl (Nat.le_refl _) (Nat.le_refl _) ?_
    exact PQM.no hg4 hfr

set_option maxHeartbeats 4000000 in
set_option maxRecDepth 100000 in
theorem m_T3 {tb : Nat → Int32} {ts : Nat} {p o : Nat} (h : ¬ sgT (tkF tb ts p)) : cML tb ts yX8_term cX8_term 1 (6 * (5 - o) + 9) p o (true, p, []) := by
  intro G Sh R m c0 d' C J Q hsh hrf hg hC hd hQ
  obtain ⟨z0, z1, z6, z7, z8, z9, z10, z11, z12, z13, z14, z15, z16, z17⟩ := id hsh
  obtain ⟨y1, y6, y7, y8, y9, y10, y11, y12, y13, y14, y15, y16, y17⟩ := id hrf
  have hfr : frP m c0 J J := frP.rf
  have hps := hg.2.2.2.2
  have h160 := hg.1.2.1
  have hle := nx_le (tb := tb) hps
  refine x_aload_n dX8_term_9 0 rfl rfl ?_
  refine x_gI (v := mtF (tkF tb ts p)) dX8_term_10 fl_8_117 rfl z0 hg.2.1.2.1 ?_
  refine x_bipush (v := 42) dX8_term_13 (by decide) ?_
  refine x_icmp_ne (tgt := 41) dX8_term_15 (by decide) (fun c_15 => ?_) (fun c_15 => False.elim (h ((mt_sg (by decide)).mp c_15)))
  refine x_iconst (v := 1) dX8_term_41 (by decide) ?_
  refine x_zret dX8_term_42 rfl rfl (Nat.le_refl _) (Nat.le_refl _) ?_
  exact hQ _ _ (PQM.ok hg hfr (by simp [List.append_assoc]))

set_option maxHeartbeats 4000000 in
set_option maxRecDepth 100000 in
theorem m_T4 {tb : Nat → Int32} {ts : Nat} {p o p1 : Nat} {Q1 : List Int32} {r : RES} (ho5 : o ≤ 5) (h : sgT (tkF tb ts p)) (a : MB tb ts 0 (nxF tb ts p) o (true, p1, Q1)) (a2 : MB tb ts 11 p1 o r) : cML tb ts yX8_term cX8_term 1 (6 * (5 - o) + 9) p o (preR (Q1 ++ [(-15)]) r) := by
  intro G Sh R m c0 d' C J Q hsh hrf hg hC hd hQ
  obtain ⟨z0, z1, z6, z7, z8, z9, z10, z11, z12, z13, z14, z15, z16, z17⟩ := id hsh
  obtain ⟨y1, y6, y7, y8, y9, y10, y11, y12, y13, y14, y15, y16, y17⟩ := id hrf
  have hfr : frP m c0 J J := frP.rf
  have hps := hg.2.2.2.2
  have h160 := hg.1.2.1
  have hle := nx_le (tb := tb) hps
  have h9 : tkF tb ts p = 42 := h
  have hnt : ¬ endT (tkF tb ts p) := by
    rw [h9]; unfold endT; decide
  have hlt := nx_lt hps hnt
  refine x_aload_n dX8_term_9 0 rfl rfl ?_
  refine x_gI (v := mtF (tkF tb ts p)) dX8_term_10 fl_8_117 rfl z0 hg.2.1.2.1 ?_
  refine x_bipush (v := 42) dX8_term_13 (by decide) ?_
  refine x_icmp_ne (tgt := 41) dX8_term_15 (by decide) (fun c_15 => False.elim (c_15 ((mt_sg (by decide)).mpr h))) (fun c_15 => ?_)
  refine x_aload_n dX8_term_18 0 rfl rfl ?_
  refine x_callV (k_next (G := G) (I := J) hsh hrf hg.1 (p := nxF tb ts p) (nx_le hg.2.2.2.2).2 (hg.2.1.2.2.1 hnt)) dX8_term_19 crc_X8_next vc_8_176 z0 rfl rfl rfl rfl (Nat.le_of_ble_eq_true rfl) (roomy_k (by omega) (by decide)) (Nat.le_refl _) (Nat.le_refl _) ?_
  rintro _ _ ⟨rfl, J5, rfl, fx_J5, tok_J5⟩
  have hg6 := hg.nxt hnt fx_J5 tok_J5
  have hfr := hfr.tr fx_J5.fp
  refine x_aload_n dX8_term_22 0 rfl rfl ?_
  refine x_callV (a.2 (by omega) G Sh R m c0 _ J5 hsh hrf hg6 (by omega)) dX8_term_23 crc_X8_one vc_8_188 z0 rfl rfl rfl rfl (Nat.le_of_ble_eq_true rfl) (roomy_k (by omega) (by decide)) (Nat.le_refl _) (Nat.le_refl _) ?_
  rintro _ _ ⟨b_J7, rfl, hb_J7, J7, rfl, e_J7, (⟨_, hg8⟩ | ⟨z9, _⟩)⟩
  · have hb_J7 : b_J7 = 1 := hb_J7
    subst hb_J7
    have hfr := hfr.tr e_J7
    have hg8 : GM tb ts m c0 p1 o (C ++ Q1) J7 := hg8
    have hp1 : p1 ≤ ts := hg8.2.2.2.2
    have hm1 : nxF tb ts p ≤ p1 := (a.1 (by omega)).1
    have hq1 : Q1.length ≤ p1 - nxF tb ts p := ((a.1 (by omega)).2.2 rfl).1
    refine x_if_ne (tgt := 31) dX8_term_26 (by decide) (fun c_26 => ?_) (fun c_26 => False.elim (absurd c_26 (by decide)))
    refine x_aload_n dX8_term_31 0 rfl rfl ?_
    refine x_bipush (v := 8) dX8_term_32 (by decide) ?_
    refine x_callV (k_mcodes (G := G) (J := J7) hsh hrf (n := c0 + (C ++ Q1).length) hg8.2.2.2.1.1 (by have := hg8.2.2.2.1.2.1; have := hg8.2.2.2.1.2.2.1; omega) (x := 8)) dX8_term_34 crc_X8_codes vc_8_182 z0 rfl rfl rfl rfl (Nat.le_of_ble_eq_true rfl) (roomy_k (by omega) (by decide)) (Nat.le_refl _) (Nat.le_refl _) ?_
    rintro _ _ ⟨_, rfl, rfl, J9, rfl, e_J9⟩
    have hg10' := hg8.cod (c := (-15)) (by simp only [List.length_append, List.length_cons, List.length_nil]; omega) (by decide) e_J9
    have hg10 := hg10'.1
    have hfr := hfr.tr hg10'.2
    refine x_pop dX8_term_37 rfl ?_
    refine x_goto (tgt := 9) dX8_term_38 (by decide) ?_
    refine x_sub [0] rfl ?_
    exact a2.2 (by omega) G Sh R m c0 _ _ J9 _ hsh hrf (by have z := hg10; rw [List.append_assoc] at z; exact z) (by simp only [List.length_append, List.length_cons, List.length_nil]; omega) hd (fun b9 g9 hq9 => hQ b9 g9 (PQM.tr (PQM.pre hq9) hfr))
  · cases z9

set_option maxHeartbeats 4000000 in
set_option maxRecDepth 100000 in
theorem m_T5 {tb : Nat → Int32} {ts : Nat} {p o p1 : Nat} {Q1 : List Int32} (ho5 : o ≤ 5) (h : sgT (tkF tb ts p)) (a : MB tb ts 0 (nxF tb ts p) o (false, p1, Q1)) : cML tb ts yX8_term cX8_term 1 (6 * (5 - o) + 9) p o (false, p1, Q1) := by
  intro G Sh R m c0 d' C J Q hsh hrf hg hC hd hQ
  obtain ⟨z0, z1, z6, z7, z8, z9, z10, z11, z12, z13, z14, z15, z16, z17⟩ := id hsh
  obtain ⟨y1, y6, y7, y8, y9, y10, y11, y12, y13, y14, y15, y16, y17⟩ := id hrf
  have hfr : frP m c0 J J := frP.rf
  have hps := hg.2.2.2.2
  have h160 := hg.1.2.1
  have hle := nx_le (tb := tb) hps
  have h9 : tkF tb ts p = 42 := h
  have hnt : ¬ endT (tkF tb ts p) := by
    rw [h9]; unfold endT; decide
  have hlt := nx_lt hps hnt
  refine x_aload_n dX8_term_9 0 rfl rfl ?_
  refine x_gI (v := mtF (tkF tb ts p)) dX8_term_10 fl_8_117 rfl z0 hg.2.1.2.1 ?_
  refine x_bipush (v := 42) dX8_term_13 (by decide) ?_
  refine x_icmp_ne (tgt := 41) dX8_term_15 (by decide) (fun c_15 => False.elim (c_15 ((mt_sg (by decide)).mpr h))) (fun c_15 => ?_)
  refine x_aload_n dX8_term_18 0 rfl rfl ?_
  refine x_callV (k_next (G := G) (I := J) hsh hrf hg.1 (p := nxF tb ts p) (nx_le hg.2.2.2.2).2 (hg.2.1.2.2.1 hnt)) dX8_term_19 crc_X8_next vc_8_176 z0 rfl rfl rfl rfl (Nat.le_of_ble_eq_true rfl) (roomy_k (by omega) (by decide)) (Nat.le_refl _) (Nat.le_refl _) ?_
  rintro _ _ ⟨rfl, J11, rfl, fx_J11, tok_J11⟩
  have hg12 := hg.nxt hnt fx_J11 tok_J11
  have hfr := hfr.tr fx_J11.fp
  refine x_aload_n dX8_term_22 0 rfl rfl ?_
  refine x_callV (a.2 (by omega) G Sh R m c0 _ J11 hsh hrf hg12 (by omega)) dX8_term_23 crc_X8_one vc_8_188 z0 rfl rfl rfl rfl (Nat.le_of_ble_eq_true rfl) (roomy_k (by omega) (by decide)) (Nat.le_refl _) (Nat.le_refl _) ?_
  rintro _ _ ⟨b_J13, rfl, hb_J13, J13, rfl, e_J13, (⟨z9, _⟩ | ⟨_, hg14⟩)⟩
  · cases z9
  · have hb_J13 : b_J13 = 0 := hb_J13
    subst hb_J13
    have hfr := hfr.tr e_J13
    have hg14 : J13 m 20 = nI (fmF tb ts p1) := hg14
    refine x_if_ne (tgt := 31) dX8_term_26 (by decide) (fun c_26 => False.elim (c_26 rfl)) (fun c_26 => ?_)
    refine x_iconst (v := 0) dX8_term_29 (by decide) ?_
    refine x_zret dX8_term_30 rfl rfl (Nat.le_refl _) (Nat.le_refl _) ?_
    exact hQ _ _ (PQM.no hg14 hfr)

set_option maxHeartbeats 4000000 in
set_option maxRecDepth 100000 in
theorem m_S1 {tb : Nat → Int32} {ts : Nat} {p o p1 : Nat} {Q1 : List Int32} {r : RES} (ho5 : o ≤ 5) (a : MB tb ts 1 p o (true, p1, Q1)) (a2 : MB tb ts 12 p1 o r) : cMM tb ts yX8_sum cX8_sum 2 (6 * (5 - o) + 10) p o (preR Q1 r) := by
  intro G Sh R m c0 C J hsh hrf hg hC
  obtain ⟨z0, z1, z6, z7, z8, z9, z10, z11, z12, z13, z14, z15, z16, z17⟩ := id hsh
  obtain ⟨y1, y6, y7, y8, y9, y10, y11, y12, y13, y14, y15, y16, y17⟩ := id hrf
  have hfr : frP m c0 J J := frP.rf
  have hps := hg.2.2.2.2
  have h160 := hg.1.2.1
  have hle := nx_le (tb := tb) hps
  refine am_intro (by decide) (Nat.le_of_ble_eq_true rfl) ?_
  refine x_aload_n dX8_sum_0 0 rfl rfl ?_
  refine x_callV (a.2 (by omega) G Sh R m c0 _ J hsh hrf hg (by omega)) dX8_sum_1 crc_X8_term vc_8_197 z0 rfl rfl rfl rfl (Nat.le_of_ble_eq_true rfl) (roomy_k (by omega) (by decide)) (Nat.le_refl _) (Nat.le_refl _) ?_
  rintro _ _ ⟨b_J15, rfl, hb_J15, J15, rfl, e_J15, (⟨_, hg16⟩ | ⟨z9, _⟩)⟩
  · have hb_J15 : b_J15 = 1 := hb_J15
    subst hb_J15
    have hfr := hfr.tr e_J15
    have hg16 : GM tb ts m c0 p1 o (C ++ Q1) J15 := hg16
    have hp1 : p1 ≤ ts := hg16.2.2.2.2
    have hm1 : p ≤ p1 := (a.1 (by omega)).1
    have hq1 : Q1.length ≤ p1 - p := ((a.1 (by omega)).2.2 rfl).1
    refine x_if_ne (tgt := 9) dX8_sum_4 (by decide) (fun c_4 => ?_) (fun c_4 => False.elim (absurd c_4 (by decide)))
    refine x_sub [0] rfl ?_
    exact a2.2 (by omega) G Sh R m c0 _ _ J15 _ hsh hrf hg16 (by simp only [List.length_append, List.length_cons, List.length_nil]; omega) (by omega) (fun b9 g9 hq9 => PQM.tr (PQM.pre hq9) hfr)
  · cases z9

set_option maxHeartbeats 4000000 in
set_option maxRecDepth 100000 in
theorem m_S2 {tb : Nat → Int32} {ts : Nat} {p o p1 : Nat} {Q1 : List Int32} (ho5 : o ≤ 5) (a : MB tb ts 1 p o (false, p1, Q1)) : cMM tb ts yX8_sum cX8_sum 2 (6 * (5 - o) + 10) p o (false, p1, Q1) := by
  intro G Sh R m c0 C J hsh hrf hg hC
  obtain ⟨z0, z1, z6, z7, z8, z9, z10, z11, z12, z13, z14, z15, z16, z17⟩ := id hsh
  obtain ⟨y1, y6, y7, y8, y9, y10, y11, y12, y13, y14, y15, y16, y17⟩ := id hrf
  have hfr : frP m c0 J J := frP.rf
  have hps := hg.2.2.2.2
  have h160 := hg.1.2.1
  have hle := nx_le (tb := tb) hps
  refine am_intro (by decide) (Nat.le_of_ble_eq_true rfl) ?_
  refine x_aload_n dX8_sum_0 0 rfl rfl ?_
  refine x_callV (a.2 (by omega) G Sh R m c0 _ J hsh hrf hg (by omega)) dX8_sum_1 crc_X8_term vc_8_197 z0 rfl rfl rfl rfl (Nat.le_of_ble_eq_true rfl) (roomy_k (by omega) (by decide)) (Nat.le_refl _) (Nat.le_refl _) ?_
  rintro _ _ ⟨b_J17, rfl, hb_J17, J17, rfl, e_J17, (⟨z9, _⟩ | ⟨_, hg18⟩)⟩
  · cases z9
  · have hb_J17 : b_J17 = 0 := hb_J17
    subst hb_J17
    have hfr := hfr.tr e_J17
    have hg18 : J17 m 20 = nI (fmF tb ts p1) := hg18
    refine x_if_ne (tgt := 9) dX8_sum_4 (by decide) (fun c_4 => False.elim (c_4 rfl)) (fun c_4 => ?_)
    refine x_iconst (v := 0) dX8_sum_7 (by decide) ?_
    refine x_zret dX8_sum_8 rfl rfl (Nat.le_refl _) (Nat.le_refl _) ?_
    exact PQM.no hg18 hfr

set_option maxHeartbeats 4000000 in
set_option maxRecDepth 100000 in
theorem m_S3 {tb : Nat → Int32} {ts : Nat} {p o : Nat} (h : ¬ sgS (tkF tb ts p)) : cML tb ts yX8_sum cX8_sum 2 (6 * (5 - o) + 10) p o (true, p, []) := by
  intro G Sh R m c0 d' C J Q hsh hrf hg hC hd hQ
  obtain ⟨z0, z1, z6, z7, z8, z9, z10, z11, z12, z13, z14, z15, z16, z17⟩ := id hsh
  obtain ⟨y1, y6, y7, y8, y9, y10, y11, y12, y13, y14, y15, y16, y17⟩ := id hrf
  have hfr : frP m c0 J J := frP.rf
  have hps := hg.2.2.2.2
  have h160 := hg.1.2.1
  have hle := nx_le (tb := tb) hps
  refine x_aload_n dX8_sum_9 0 rfl rfl ?_
  refine x_gI (v := mtF (tkF tb ts p)) dX8_sum_10 fl_8_117 rfl z0 hg.2.1.2.1 ?_
  refine x_bipush (v := 43) dX8_sum_13 (by decide) ?_
  refine x_icmp_eq (tgt := 27) dX8_sum_15 (by decide) (fun c_15 => False.elim (h (Or.inl ((mt_sg (by decide)).mp c_15)))) (fun c_15 => ?_)
  refine x_aload_n dX8_sum_18 0 rfl rfl ?_
  refine x_gI (v := mtF (tkF tb ts p)) dX8_sum_19 fl_8_117 rfl z0 hg.2.1.2.1 ?_
  refine x_bipush (v := 45) dX8_sum_22 (by decide) ?_
  refine x_icmp_ne (tgt := 66) dX8_sum_24 (by decide) (fun c_24 => ?_) (fun c_24 => False.elim (h (Or.inr ((mt_sg (by decide)).mp c_24))))
  refine x_iconst (v := 1) dX8_sum_66 (by decide) ?_
  refine x_zret dX8_sum_67 rfl rfl (Nat.le_refl _) (Nat.le_refl _) ?_
  exact hQ _ _ (PQM.ok hg hfr (by simp [List.append_assoc]))

set_option maxHeartbeats 4000000 in
set_option maxRecDepth 100000 in
theorem m_S4 {tb : Nat → Int32} {ts : Nat} {p o p1 : Nat} {Q1 : List Int32} {r : RES} (ho5 : o ≤ 5) (h : sgS (tkF tb ts p)) (a : MB tb ts 1 (nxF tb ts p) o (true, p1, Q1)) (a2 : MB tb ts 12 p1 o r) : cML tb ts yX8_sum cX8_sum 2 (6 * (5 - o) + 10) p o (preR (Q1 ++ [(cdS (tkF tb ts p))]) r) := by
  intro G Sh R m c0 d' C J Q hsh hrf hg hC hd hQ
  obtain ⟨z0, z1, z6, z7, z8, z9, z10, z11, z12, z13, z14, z15, z16, z17⟩ := id hsh
  obtain ⟨y1, y6, y7, y8, y9, y10, y11, y12, y13, y14, y15, y16, y17⟩ := id hrf
  have hfr : frP m c0 J J := frP.rf
  have hps := hg.2.2.2.2
  have h160 := hg.1.2.1
  have hle := nx_le (tb := tb) hps
  have h9 : tkF tb ts p = 43 ∨ tkF tb ts p = 45 := h
  have hnt : ¬ endT (tkF tb ts p) := by
    rcases h9 with z | z <;> rw [z] <;> unfold endT <;> decide
  have hlt := nx_lt hps hnt
  refine x_aload_n dX8_sum_9 0 rfl rfl ?_
  refine x_gI (v := mtF (tkF tb ts p)) dX8_sum_10 fl_8_117 rfl z0 hg.2.1.2.1 ?_
  refine x_bipush (v := 43) dX8_sum_13 (by decide) ?_
  refine x_icmp_eq (tgt := 27) dX8_sum_15 (by decide) (fun c_15 => ?_) (fun c_15 => ?_)
  · refine x_aload_n dX8_sum_27 0 rfl rfl ?_
    refine x_gI (v := mtF (tkF tb ts p)) dX8_sum_28 fl_8_117 rfl z0 hg.2.1.2.1 ?_
    refine x_bipush (v := 43) dX8_sum_31 (by decide) ?_
    refine x_icmp_ne (tgt := 41) dX8_sum_33 (by decide) (fun c_33 => False.elim (c_33 c_15)) (fun c_33 => ?_)
    refine x_bipush (v := 6) dX8_sum_36 (by decide) ?_
    refine x_goto (tgt := 43) dX8_sum_38 (by decide) ?_
    refine x_istore_n (lv' := [(1, .int 6), (0, .ref m)]) dX8_sum_43 rfl (by decide) rfl ?_
    refine x_aload_n dX8_sum_44 1 rfl rfl ?_
    refine x_callV (k_next (G := G) (I := J) hsh hrf hg.1 (p := nxF tb ts p) (nx_le hg.2.2.2.2).2 (hg.2.1.2.2.1 hnt)) dX8_sum_45 crc_X8_next vc_8_176 z0 rfl rfl rfl rfl (Nat.le_of_ble_eq_true rfl) (roomy_k (by omega) (by decide)) (Nat.le_refl _) (Nat.le_refl _) ?_
    rintro _ _ ⟨rfl, J19, rfl, fx_J19, tok_J19⟩
    have hg20 := hg.nxt hnt fx_J19 tok_J19
    have hfr := hfr.tr fx_J19.fp
    refine x_aload_n dX8_sum_48 1 rfl rfl ?_
    refine x_callV (a.2 (by omega) G Sh R m c0 _ J19 hsh hrf hg20 (by omega)) dX8_sum_49 crc_X8_term vc_8_197 z0 rfl rfl rfl rfl (Nat.le_of_ble_eq_true rfl) (roomy_k (by omega) (by decide)) (Nat.le_refl _) (Nat.le_refl _) ?_
    rintro _ _ ⟨b_J21, rfl, hb_J21, J21, rfl, e_J21, (⟨_, hg22⟩ | ⟨z9, _⟩)⟩
    · have hb_J21 : b_J21 = 1 := hb_J21
      subst hb_J21
      have hfr := hfr.tr e_J21
      have hg22 : GM tb ts m c0 p1 o (C ++ Q1) J21 := hg22
      have hp1 : p1 ≤ ts := hg22.2.2.2.2
      have hm1 : nxF tb ts p ≤ p1 := (a.1 (by omega)).1
      have hq1 : Q1.length ≤ p1 - nxF tb ts p := ((a.1 (by omega)).2.2 rfl).1
      refine x_if_ne (tgt := 57) dX8_sum_52 (by decide) (fun c_52 => ?_) (fun c_52 => False.elim (absurd c_52 (by decide)))
      refine x_aload_n dX8_sum_57 1 rfl rfl ?_
      refine x_iload_n dX8_sum_58 0 rfl rfl ?_
      refine x_callV (k_mcodes (G := G) (J := J21) hsh hrf (n := c0 + (C ++ Q1).length) hg22.2.2.2.1.1 (by have := hg22.2.2.2.1.2.1; have := hg22.2.2.2.1.2.2.1; omega) (x := 6)) dX8_sum_59 crc_X8_codes vc_8_182 z0 rfl rfl rfl rfl (Nat.le_of_ble_eq_true rfl) (roomy_k (by omega) (by decide)) (Nat.le_refl _) (Nat.le_refl _) ?_
      rintro _ _ ⟨_, rfl, rfl, J23, rfl, e_J23⟩
      have hg24' := hg22.cod (c := (cdS (tkF tb ts p))) (by simp only [List.length_append, List.length_cons, List.length_nil]; omega) (by rw [(mt_sg (by decide)).mp c_15]; decide) e_J23
      have hg24 := hg24'.1
      have hfr := hfr.tr hg24'.2
      refine x_pop dX8_sum_62 rfl ?_
      refine x_goto (tgt := 9) dX8_sum_63 (by decide) ?_
      refine x_sub [1] rfl ?_
      exact a2.2 (by omega) G Sh R m c0 _ _ J23 _ hsh hrf (by have z := hg24; rw [List.append_assoc] at z; exact z) (by simp only [List.length_append, List.length_cons, List.length_nil]; omega) hd (fun b9 g9 hq9 => hQ b9 g9 (PQM.tr (PQM.pre hq9) hfr))
    · cases z9
  · refine x_aload_n dX8_sum_18 0 rfl rfl ?_
    refine x_gI (v := mtF (tkF tb ts p)) dX8_sum_19 fl_8_117 rfl z0 hg.2.1.2.1 ?_
    refine x_bipush (v := 45) dX8_sum_22 (by decide) ?_
    refine x_icmp_ne (tgt := 66) dX8_sum_24 (by decide) (fun c_24 => False.elim (c_24 ((mt_sg (by decide)).mpr (h9.resolve_left (fun z => c_15 ((mt_sg (by decide)).mpr z)))))) (fun c_24 => ?_)
    refine x_aload_n dX8_sum_27 0 rfl rfl ?_
    refine x_gI (v := mtF (tkF tb ts p)) dX8_sum_28 fl_8_117 rfl z0 hg.2.1.2.1 ?_
    refine x_bipush (v := 43) dX8_sum_31 (by decide) ?_
    refine x_icmp_ne (tgt := 41) dX8_sum_33 (by decide) (fun c_33 => ?_) (fun c_33 => False.elim (c_15 c_33))
    refine x_bipush (v := 7) dX8_sum_41 (by decide) ?_
    refine x_istore_n (lv' := [(1, .int 7), (0, .ref m)]) dX8_sum_43 rfl (by decide) rfl ?_
    refine x_aload_n dX8_sum_44 1 rfl rfl ?_
    refine x_callV (k_next (G := G) (I := J) hsh hrf hg.1 (p := nxF tb ts p) (nx_le hg.2.2.2.2).2 (hg.2.1.2.2.1 hnt)) dX8_sum_45 crc_X8_next vc_8_176 z0 rfl rfl rfl rfl (Nat.le_of_ble_eq_true rfl) (roomy_k (by omega) (by decide)) (Nat.le_refl _) (Nat.le_refl _) ?_
    rintro _ _ ⟨rfl, J25, rfl, fx_J25, tok_J25⟩
    have hg26 := hg.nxt hnt fx_J25 tok_J25
    have hfr := hfr.tr fx_J25.fp
    refine x_aload_n dX8_sum_48 1 rfl rfl ?_
    refine x_callV (a.2 (by omega) G Sh R m c0 _ J25 hsh hrf hg26 (by omega)) dX8_sum_49 crc_X8_term vc_8_197 z0 rfl rfl rfl rfl (Nat.le_of_ble_eq_true rfl) (roomy_k (by omega) (by decide)) (Nat.le_refl _) (Nat.le_refl _) ?_
    rintro _ _ ⟨b_J27, rfl, hb_J27, J27, rfl, e_J27, (⟨_, hg28⟩ | ⟨z9, _⟩)⟩
    · have hb_J27 : b_J27 = 1 := hb_J27
      subst hb_J27
      have hfr := hfr.tr e_J27
      have hg28 : GM tb ts m c0 p1 o (C ++ Q1) J27 := hg28
      have hp1 : p1 ≤ ts := hg28.2.2.2.2
      have hm1 : nxF tb ts p ≤ p1 := (a.1 (by omega)).1
      have hq1 : Q1.length ≤ p1 - nxF tb ts p := ((a.1 (by omega)).2.2 rfl).1
      refine x_if_ne (tgt := 57) dX8_sum_52 (by decide) (fun c_52 => ?_) (fun c_52 => False.elim (absurd c_52 (by decide)))
      refine x_aload_n dX8_sum_57 1 rfl rfl ?_
      refine x_iload_n dX8_sum_58 0 rfl rfl ?_
      refine x_callV (k_mcodes (G := G) (J := J27) hsh hrf (n := c0 + (C ++ Q1).length) hg28.2.2.2.1.1 (by have := hg28.2.2.2.1.2.1; have := hg28.2.2.2.1.2.2.1; omega) (x := 7)) dX8_sum_59 crc_X8_codes vc_8_182 z0 rfl rfl rfl rfl (Nat.le_of_ble_eq_true rfl) (roomy_k (by omega) (by decide)) (Nat.le_refl _) (Nat.le_refl _) ?_
      rintro _ _ ⟨_, rfl, rfl, J29, rfl, e_J29⟩
      have hg30' := hg28.cod (c := (cdS (tkF tb ts p))) (by simp only [List.length_append, List.length_cons, List.length_nil]; omega) (by rw [h9.resolve_left (fun z => c_15 ((mt_sg (by decide)).mpr z))]; decide) e_J29
      have hg30 := hg30'.1
      have hfr := hfr.tr hg30'.2
      refine x_pop dX8_sum_62 rfl ?_
      refine x_goto (tgt := 9) dX8_sum_63 (by decide) ?_
      refine x_sub [1] rfl ?_
      exact a2.2 (by omega) G Sh R m c0 _ _ J29 _ hsh hrf (by have z := hg30; rw [List.append_assoc] at z; exact z) (by simp only [List.length_append, List.length_cons, List.length_nil]; omega) hd (fun b9 g9 hq9 => hQ b9 g9 (PQM.tr (PQM.pre hq9) hfr))
    · cases z9

set_option maxHeartbeats 4000000 in
set_option maxRecDepth 100000 in
theorem m_S5 {tb : Nat → Int32} {ts : Nat} {p o p1 : Nat} {Q1 : List Int32} (ho5 : o ≤ 5) (h : sgS (tkF tb ts p)) (a : MB tb ts 1 (nxF tb ts p) o (false, p1, Q1)) : cML tb ts yX8_sum cX8_sum 2 (6 * (5 - o) + 10) p o (false, p1, Q1) := by
  intro G Sh R m c0 d' C J Q hsh hrf hg hC hd hQ
  obtain ⟨z0, z1, z6, z7, z8, z9, z10, z11, z12, z13, z14, z15, z16, z17⟩ := id hsh
  obtain ⟨y1, y6, y7, y8, y9, y10, y11, y12, y13, y14, y15, y16, y17⟩ := id hrf
  have hfr : frP m c0 J J := frP.rf
  have hps := hg.2.2.2.2
  have h160 := hg.1.2.1
  have hle := nx_le (tb := tb) hps
  have h9 : tkF tb ts p = 43 ∨ tkF tb ts p = 45 := h
  have hnt : ¬ endT (tkF tb ts p) := by
    rcases h9 with z | z <;> rw [z] <;> unfold endT <;> decide
  have hlt := nx_lt hps hnt
  refine x_aload_n dX8_sum_9 0 rfl rfl ?_
  refine x_gI (v := mtF (tkF tb ts p)) dX8_sum_10 fl_8_117 rfl z0 hg.2.1.2.1 ?_
  refine x_bipush (v := 43) dX8_sum_13 (by decide) ?_
  refine x_icmp_eq (tgt := 27) dX8_sum_15 (by decide) (fun c_15 => ?_) (fun c_15 => ?_)
  · refine x_aload_n dX8_sum_27 0 rfl rfl ?_
    refine x_gI (v := mtF (tkF tb ts p)) dX8_sum_28 fl_8_117 rfl z0 hg.2.1.2.1 ?_
    refine x_bipush (v := 43) dX8_sum_31 (by decide) ?_
    refine x_icmp_ne (tgt := 41) dX8_sum_33 (by decide) (fun c_33 => False.elim (c_33 c_15)) (fun c_33 => ?_)
    refine x_bipush (v := 6) dX8_sum_36 (by decide) ?_
    refine x_goto (tgt := 43) dX8_sum_38 (by decide) ?_
    refine x_istore_n (lv' := [(1, .int 6), (0, .ref m)]) dX8_sum_43 rfl (by decide) rfl ?_
    refine x_aload_n dX8_sum_44 1 rfl rfl ?_
    refine x_callV (k_next (G := G) (I := J) hsh hrf hg.1 (p := nxF tb ts p) (nx_le hg.2.2.2.2).2 (hg.2.1.2.2.1 hnt)) dX8_sum_45 crc_X8_next vc_8_176 z0 rfl rfl rfl rfl (Nat.le_of_ble_eq_true rfl) (roomy_k (by omega) (by decide)) (Nat.le_refl _) (Nat.le_refl _) ?_
    rintro _ _ ⟨rfl, J31, rfl, fx_J31, tok_J31⟩
    have hg32 := hg.nxt hnt fx_J31 tok_J31
    have hfr := hfr.tr fx_J31.fp
    refine x_aload_n dX8_sum_48 1 rfl rfl ?_
    refine x_callV (a.2 (by omega) G Sh R m c0 _ J31 hsh hrf hg32 (by omega)) dX8_sum_49 crc_X8_term vc_8_197 z0 rfl rfl rfl rfl (Nat.le_of_ble_eq_true rfl) (roomy_k (by omega) (by decide)) (Nat.le_refl _) (Nat.le_refl _) ?_
    rintro _ _ ⟨b_J33, rfl, hb_J33, J33, rfl, e_J33, (⟨z9, _⟩ | ⟨_, hg34⟩)⟩
    · cases z9
    · have hb_J33 : b_J33 = 0 := hb_J33
      subst hb_J33
      have hfr := hfr.tr e_J33
      have hg34 : J33 m 20 = nI (fmF tb ts p1) := hg34
      refine x_if_ne (tgt := 57) dX8_sum_52 (by decide) (fun c_52 => False.elim (c_52 rfl)) (fun c_52 => ?_)
      refine x_iconst (v := 0) dX8_sum_55 (by decide) ?_
      refine x_zret dX8_sum_56 rfl rfl (Nat.le_refl _) (Nat.le_refl _) ?_
      exact hQ _ _ (PQM.no hg34 hfr)
  · refine x_aload_n dX8_sum_18 0 rfl rfl ?_
    refine x_gI (v := mtF (tkF tb ts p)) dX8_sum_19 fl_8_117 rfl z0 hg.2.1.2.1 ?_
    refine x_bipush (v := 45) dX8_sum_22 (by decide) ?_
    refine x_icmp_ne (tgt := 66) dX8_sum_24 (by decide) (fun c_24 => False.elim (c_24 ((mt_sg (by decide)).mpr (h9.resolve_left (fun z => c_15 ((mt_sg (by decide)).mpr z)))))) (fun c_24 => ?_)
    refine x_aload_n dX8_sum_27 0 rfl rfl ?_
    refine x_gI (v := mtF (tkF tb ts p)) dX8_sum_28 fl_8_117 rfl z0 hg.2.1.2.1 ?_
    refine x_bipush (v := 43) dX8_sum_31 (by decide) ?_
    refine x_icmp_ne (tgt := 41) dX8_sum_33 (by decide) (fun c_33 => ?_) (fun c_33 => False.elim (c_15 c_33))
    refine x_bipush (v := 7) dX8_sum_41 (by decide) ?_
    refine x_istore_n (lv' := [(1, .int 7), (0, .ref m)]) dX8_sum_43 rfl (by decide) rfl ?_
    refine x_aload_n dX8_sum_44 1 rfl rfl ?_
    refine x_callV (k_next (G := G) (I := J) hsh hrf hg.1 (p := nxF tb ts p) (nx_le hg.2.2.2.2).2 (hg.2.1.2.2.1 hnt)) dX8_sum_45 crc_X8_next vc_8_176 z0 rfl rfl rfl rfl (Nat.le_of_ble_eq_true rfl) (roomy_k (by omega) (by decide)) (Nat.le_refl _) (Nat.le_refl _) ?_
    rintro _ _ ⟨rfl, J35, rfl, fx_J35, tok_J35⟩
    have hg36 := hg.nxt hnt fx_J35 tok_J35
    have hfr := hfr.tr fx_J35.fp
    refine x_aload_n dX8_sum_48 1 rfl rfl ?_
    refine x_callV (a.2 (by omega) G Sh R m c0 _ J35 hsh hrf hg36 (by omega)) dX8_sum_49 crc_X8_term vc_8_197 z0 rfl rfl rfl rfl (Nat.le_of_ble_eq_true rfl) (roomy_k (by omega) (by decide)) (Nat.le_refl _) (Nat.le_refl _) ?_
    rintro _ _ ⟨b_J37, rfl, hb_J37, J37, rfl, e_J37, (⟨z9, _⟩ | ⟨_, hg38⟩)⟩
    · cases z9
    · have hb_J37 : b_J37 = 0 := hb_J37
      subst hb_J37
      have hfr := hfr.tr e_J37
      have hg38 : J37 m 20 = nI (fmF tb ts p1) := hg38
      refine x_if_ne (tgt := 57) dX8_sum_52 (by decide) (fun c_52 => False.elim (c_52 rfl)) (fun c_52 => ?_)
      refine x_iconst (v := 0) dX8_sum_55 (by decide) ?_
      refine x_zret dX8_sum_56 rfl rfl (Nat.le_refl _) (Nat.le_refl _) ?_
      exact hQ _ _ (PQM.no hg38 hfr)

set_option maxHeartbeats 4000000 in
set_option maxRecDepth 100000 in
theorem m_B1 {tb : Nat → Int32} {ts : Nat} {p o p1 : Nat} {Q1 : List Int32} {r : RES} (ho5 : o ≤ 5) (a : MB tb ts 3 p o (true, p1, Q1)) (a2 : MB tb ts 14 p1 o r) : cMM tb ts yX8_all cX8_all 1 (6 * (5 - o) + 12) p o (preR Q1 r) := by
  intro G Sh R m c0 C J hsh hrf hg hC
  obtain ⟨z0, z1, z6, z7, z8, z9, z10, z11, z12, z13, z14, z15, z16, z17⟩ := id hsh
  obtain ⟨y1, y6, y7, y8, y9, y10, y11, y12, y13, y14, y15, y16, y17⟩ := id hrf
  have hfr : frP m c0 J J := frP.rf
  have hps := hg.2.2.2.2
  have h160 := hg.1.2.1
  have hle := nx_le (tb := tb) hps
  refine am_intro (by decide) (Nat.le_of_ble_eq_true rfl) ?_
  refine x_aload_n dX8_all_0 0 rfl rfl ?_
  refine x_callV (a.2 (by omega) G Sh R m c0 _ J hsh hrf hg (by omega)) dX8_all_1 crc_X8_no vc_8_200 z0 rfl rfl rfl rfl (Nat.le_of_ble_eq_true rfl) (roomy_k (by omega) (by decide)) (Nat.le_refl _) (Nat.le_refl _) ?_
  rintro _ _ ⟨b_J39, rfl, hb_J39, J39, rfl, e_J39, (⟨_, hg40⟩ | ⟨z9, _⟩)⟩
  · have hb_J39 : b_J39 = 1 := hb_J39
    subst hb_J39
    have hfr := hfr.tr e_J39
    have hg40 : GM tb ts m c0 p1 o (C ++ Q1) J39 := hg40
    have hp1 : p1 ≤ ts := hg40.2.2.2.2
    have hm1 : p ≤ p1 := (a.1 (by omega)).1
    have hq1 : Q1.length ≤ p1 - p := ((a.1 (by omega)).2.2 rfl).1
    refine x_if_ne (tgt := 9) dX8_all_4 (by decide) (fun c_4 => ?_) (fun c_4 => False.elim (absurd c_4 (by decide)))
    refine x_sub [0] rfl ?_
    exact a2.2 (by omega) G Sh R m c0 _ _ J39 _ hsh hrf hg40 (by simp only [List.length_append, List.length_cons, List.length_nil]; omega) (by omega) (fun b9 g9 hq9 => PQM.tr (PQM.pre hq9) hfr)
  · cases z9

set_option maxHeartbeats 4000000 in
set_option maxRecDepth 100000 in
theorem m_B2 {tb : Nat → Int32} {ts : Nat} {p o p1 : Nat} {Q1 : List Int32} (ho5 : o ≤ 5) (a : MB tb ts 3 p o (false, p1, Q1)) : cMM tb ts yX8_all cX8_all 1 (6 * (5 - o) + 12) p o (false, p1, Q1) := by
  intro G Sh R m c0 C J hsh hrf hg hC
  obtain ⟨z0, z1, z6, z7, z8, z9, z10, z11, z12, z13, z14, z15, z16, z17⟩ := id hsh
  obtain ⟨y1, y6, y7, y8, y9, y10, y11, y12, y13, y14, y15, y16, y17⟩ := id hrf
  have hfr : frP m c0 J J := frP.rf
  have hps := hg.2.2.2.2
  have h160 := hg.1.2.1
  have hle := nx_le (tb := tb) hps
  refine am_intro (by decide) (Nat.le_of_ble_eq_true rfl) ?_
  refine x_aload_n dX8_all_0 0 rfl rfl ?_
  refine x_callV (a.2 (by omega) G Sh R m c0 _ J hsh hrf hg (by omega)) dX8_all_1 crc_X8_no vc_8_200 z0 rfl rfl rfl rfl (Nat.le_of_ble_eq_true rfl) (roomy_k (by omega) (by decide)) (Nat.le_refl _) (Nat.le_refl _) ?_
  rintro _ _ ⟨b_J41, rfl, hb_J41, J41, rfl, e_J41, (⟨z9, _⟩ | ⟨_, hg42⟩)⟩
  · cases z9
  · have hb_J41 : b_J41 = 0 := hb_J41
    subst hb_J41
    have hfr := hfr.tr e_J41
    have hg42 : J41 m 20 = nI (fmF tb ts p1) := hg42
    refine x_if_ne (tgt := 9) dX8_all_4 (by decide) (fun c_4 => False.elim (c_4 rfl)) (fun c_4 => ?_)
    refine x_iconst (v := 0) dX8_all_7 (by decide) ?_
    refine x_zret dX8_all_8 rfl rfl (Nat.le_refl _) (Nat.le_refl _) ?_
    exact PQM.no hg42 hfr

set_option maxHeartbeats 4000000 in
set_option maxRecDepth 100000 in
theorem m_B3 {tb : Nat → Int32} {ts : Nat} {p o : Nat} (h : ¬ sgA (tkF tb ts p)) : cML tb ts yX8_all cX8_all 1 (6 * (5 - o) + 12) p o (true, p, []) := by
  intro G Sh R m c0 d' C J Q hsh hrf hg hC hd hQ
  obtain ⟨z0, z1, z6, z7, z8, z9, z10, z11, z12, z13, z14, z15, z16, z17⟩ := id hsh
  obtain ⟨y1, y6, y7, y8, y9, y10, y11, y12, y13, y14, y15, y16, y17⟩ := id hrf
  have hfr : frP m c0 J J := frP.rf
  have hps := hg.2.2.2.2
  have h160 := hg.1.2.1
  have hle := nx_le (tb := tb) hps
  refine x_aload_n dX8_all_9 0 rfl rfl ?_
  refine x_ldcS (i := 5) (tx := "and") dX8_all_10 (by decide +kernel) ?_
  refine x_callV (k_pword (G := G) hsh hrf hg (i := 5) (by decide) (by decide)) dX8_all_12 crc_X8_isWord vc_8_136 z0 rfl rfl rfl rfl (Nat.le_of_ble_eq_true rfl) (roomy_k (by omega) (by decide)) (Nat.le_refl _) (Nat.le_refl _) ?_
  rintro _ _ ⟨_, rfl, rfl, rfl⟩
  refine x_if_eqB (tgt := 41) dX8_all_15 (by decide) (fun c_15 => ?_) (fun c_15 => False.elim (h c_15))
  refine x_iconst (v := 1) dX8_all_41 (by decide) ?_
  refine x_zret dX8_all_42 rfl rfl (Nat.le_refl _) (Nat.le_refl _) ?_
  exact hQ _ _ (PQM.ok hg hfr (by simp [List.append_assoc]))

set_option maxHeartbeats 4000000 in
set_option maxRecDepth 100000 in
theorem m_B4 {tb : Nat → Int32} {ts : Nat} {p o p1 : Nat} {Q1 : List Int32} {r : RES} (ho5 : o ≤ 5) (h : sgA (tkF tb ts p)) (a : MB tb ts 3 (nxF tb ts p) o (true, p1, Q1)) (a2 : MB tb ts 14 p1 o r) : cML tb ts yX8_all cX8_all 1 (6 * (5 - o) + 12) p o (preR (Q1 ++ [(-10)]) r) := by
  intro G Sh R m c0 d' C J Q hsh hrf hg hC hd hQ
  obtain ⟨z0, z1, z6, z7, z8, z9, z10, z11, z12, z13, z14, z15, z16, z17⟩ := id hsh
  obtain ⟨y1, y6, y7, y8, y9, y10, y11, y12, y13, y14, y15, y16, y17⟩ := id hrf
  have hfr : frP m c0 J J := frP.rf
  have hps := hg.2.2.2.2
  have h160 := hg.1.2.1
  have hle := nx_le (tb := tb) hps
  have h9 : tkF tb ts p = (-10) := h
  have hnt : ¬ endT (tkF tb ts p) := by
    rw [h9]; unfold endT; decide
  have hlt := nx_lt hps hnt
  refine x_aload_n dX8_all_9 0 rfl rfl ?_
  refine x_ldcS (i := 5) (tx := "and") dX8_all_10 (by decide +kernel) ?_
  refine x_callV (k_pword (G := G) hsh hrf hg (i := 5) (by decide) (by decide)) dX8_all_12 crc_X8_isWord vc_8_136 z0 rfl rfl rfl rfl (Nat.le_of_ble_eq_true rfl) (roomy_k (by omega) (by decide)) (Nat.le_refl _) (Nat.le_refl _) ?_
  rintro _ _ ⟨_, rfl, rfl, rfl⟩
  refine x_if_eqB (tgt := 41) dX8_all_15 (by decide) (fun c_15 => False.elim (c_15 h)) (fun c_15 => ?_)
  refine x_aload_n dX8_all_18 0 rfl rfl ?_
  refine x_callV (k_next (G := G) (I := J) hsh hrf hg.1 (p := nxF tb ts p) (nx_le hg.2.2.2.2).2 (hg.2.1.2.2.1 hnt)) dX8_all_19 crc_X8_next vc_8_176 z0 rfl rfl rfl rfl (Nat.le_of_ble_eq_true rfl) (roomy_k (by omega) (by decide)) (Nat.le_refl _) (Nat.le_refl _) ?_
  rintro _ _ ⟨rfl, J43, rfl, fx_J43, tok_J43⟩
  have hg44 := hg.nxt hnt fx_J43 tok_J43
  have hfr := hfr.tr fx_J43.fp
  refine x_aload_n dX8_all_22 0 rfl rfl ?_
  refine x_callV (a.2 (by omega) G Sh R m c0 _ J43 hsh hrf hg44 (by omega)) dX8_all_23 crc_X8_no vc_8_200 z0 rfl rfl rfl rfl (Nat.le_of_ble_eq_true rfl) (roomy_k (by omega) (by decide)) (Nat.le_refl _) (Nat.le_refl _) ?_
  rintro _ _ ⟨b_J45, rfl, hb_J45, J45, rfl, e_J45, (⟨_, hg46⟩ | ⟨z9, _⟩)⟩
  · have hb_J45 : b_J45 = 1 := hb_J45
    subst hb_J45
    have hfr := hfr.tr e_J45
    have hg46 : GM tb ts m c0 p1 o (C ++ Q1) J45 := hg46
    have hp1 : p1 ≤ ts := hg46.2.2.2.2
    have hm1 : nxF tb ts p ≤ p1 := (a.1 (by omega)).1
    have hq1 : Q1.length ≤ p1 - nxF tb ts p := ((a.1 (by omega)).2.2 rfl).1
    refine x_if_ne (tgt := 31) dX8_all_26 (by decide) (fun c_26 => ?_) (fun c_26 => False.elim (absurd c_26 (by decide)))
    refine x_aload_n dX8_all_31 0 rfl rfl ?_
    refine x_bipush (v := 11) dX8_all_32 (by decide) ?_
    refine x_callV (k_mcodes (G := G) (J := J45) hsh hrf (n := c0 + (C ++ Q1).length) hg46.2.2.2.1.1 (by have := hg46.2.2.2.1.2.1; have := hg46.2.2.2.1.2.2.1; omega) (x := 11)) dX8_all_34 crc_X8_codes vc_8_182 z0 rfl rfl rfl rfl (Nat.le_of_ble_eq_true rfl) (roomy_k (by omega) (by decide)) (Nat.le_refl _) (Nat.le_refl _) ?_
    rintro _ _ ⟨_, rfl, rfl, J47, rfl, e_J47⟩
    have hg48' := hg46.cod (c := (-10)) (by simp only [List.length_append, List.length_cons, List.length_nil]; omega) (by decide) e_J47
    have hg48 := hg48'.1
    have hfr := hfr.tr hg48'.2
    refine x_pop dX8_all_37 rfl ?_
    refine x_goto (tgt := 9) dX8_all_38 (by decide) ?_
    refine x_sub [0] rfl ?_
    exact a2.2 (by omega) G Sh R m c0 _ _ J47 _ hsh hrf (by have z := hg48; rw [List.append_assoc] at z; exact z) (by simp only [List.length_append, List.length_cons, List.length_nil]; omega) hd (fun b9 g9 hq9 => hQ b9 g9 (PQM.tr (PQM.pre hq9) hfr))
  · cases z9

set_option maxHeartbeats 4000000 in
set_option maxRecDepth 100000 in
theorem m_B5 {tb : Nat → Int32} {ts : Nat} {p o p1 : Nat} {Q1 : List Int32} (ho5 : o ≤ 5) (h : sgA (tkF tb ts p)) (a : MB tb ts 3 (nxF tb ts p) o (false, p1, Q1)) : cML tb ts yX8_all cX8_all 1 (6 * (5 - o) + 12) p o (false, p1, Q1) := by
  intro G Sh R m c0 d' C J Q hsh hrf hg hC hd hQ
  obtain ⟨z0, z1, z6, z7, z8, z9, z10, z11, z12, z13, z14, z15, z16, z17⟩ := id hsh
  obtain ⟨y1, y6, y7, y8, y9, y10, y11, y12, y13, y14, y15, y16, y17⟩ := id hrf
  have hfr : frP m c0 J J := frP.rf
  have hps := hg.2.2.2.2
  have h160 := hg.1.2.1
  have hle := nx_le (tb := tb) hps
  have h9 : tkF tb ts p = (-10) := h
  have hnt : ¬ endT (tkF tb ts p) := by
    rw [h9]; unfold endT; decide
  have hlt := nx_lt hps hnt
  refine x_aload_n dX8_all_9 0 rfl rfl ?_
  refine x_ldcS (i := 5) (tx := "and") dX8_all_10 (by decide +kernel) ?_
  refine x_callV (k_pword (G := G) hsh hrf hg (i := 5) (by decide) (by decide)) dX8_all_12 crc_X8_isWord vc_8_136 z0 rfl rfl rfl rfl (Nat.le_of_ble_eq_true rfl) (roomy_k (by omega) (by decide)) (Nat.le_refl _) (Nat.le_refl _) ?_
  rintro _ _ ⟨_, rfl, rfl, rfl⟩
  refine x_if_eqB (tgt := 41) dX8_all_15 (by decide) (fun c_15 => False.elim (c_15 h)) (fun c_15 => ?_)
  refine x_aload_n dX8_all_18 0 rfl rfl ?_
  refine x_callV (k_next (G := G) (I := J) hsh hrf hg.1 (p := nxF tb ts p) (nx_le hg.2.2.2.2).2 (hg.2.1.2.2.1 hnt)) dX8_all_19 crc_X8_next vc_8_176 z0 rfl rfl rfl rfl (Nat.le_of_ble_eq_true rfl) (roomy_k (by omega) (by decide)) (Nat.le_refl _) (Nat.le_refl _) ?_
  rintro _ _ ⟨rfl, J49, rfl, fx_J49, tok_J49⟩
  have hg50 := hg.nxt hnt fx_J49 tok_J49
  have hfr := hfr.tr fx_J49.fp
  refine x_aload_n dX8_all_22 0 rfl rfl ?_
  refine x_callV (a.2 (by omega) G Sh R m c0 _ J49 hsh hrf hg50 (by omega)) dX8_all_23 crc_X8_no vc_8_200 z0 rfl rfl rfl rfl (Nat.le_of_ble_eq_true rfl) (roomy_k (by omega) (by decide)) (Nat.le_refl _) (Nat.le_refl _) ?_
  rintro _ _ ⟨b_J51, rfl, hb_J51, J51, rfl, e_J51, (⟨z9, _⟩ | ⟨_, hg52⟩)⟩
  · cases z9
  · have hb_J51 : b_J51 = 0 := hb_J51
    subst hb_J51
    have hfr := hfr.tr e_J51
    have hg52 : J51 m 20 = nI (fmF tb ts p1) := hg52
    refine x_if_ne (tgt := 31) dX8_all_26 (by decide) (fun c_26 => False.elim (c_26 rfl)) (fun c_26 => ?_)
    refine x_iconst (v := 0) dX8_all_29 (by decide) ?_
    refine x_zret dX8_all_30 rfl rfl (Nat.le_refl _) (Nat.le_refl _) ?_
    exact hQ _ _ (PQM.no hg52 hfr)

set_option maxHeartbeats 4000000 in
set_option maxRecDepth 100000 in
theorem m_E1 {tb : Nat → Int32} {ts : Nat} {p o p1 : Nat} {Q1 : List Int32} {r : RES} (ho5 : o ≤ 5) (a : MB tb ts 4 p o (true, p1, Q1)) (a2 : MB tb ts 15 p1 o r) : cMM tb ts yX8_any cX8_any 1 (6 * (5 - o) + 13) p o (preR Q1 r) := by
  intro G Sh R m c0 C J hsh hrf hg hC
  obtain ⟨z0, z1, z6, z7, z8, z9, z10, z11, z12, z13, z14, z15, z16, z17⟩ := id hsh
  obtain ⟨y1, y6, y7, y8, y9, y10, y11, y12, y13, y14, y15, y16, y17⟩ := id hrf
  have hfr : frP m c0 J J := frP.rf
  have hps := hg.2.2.2.2
  have h160 := hg.1.2.1
  have hle := nx_le (tb := tb) hps
  refine am_intro (by decide) (Nat.le_of_ble_eq_true rfl) ?_
  refine x_aload_n dX8_any_0 0 rfl rfl ?_
  refine x_callV (a.2 (by omega) G Sh R m c0 _ J hsh hrf hg (by omega)) dX8_any_1 crc_X8_all vc_8_206 z0 rfl rfl rfl rfl (Nat.le_of_ble_eq_true rfl) (roomy_k (by omega) (by decide)) (Nat.le_refl _) (Nat.le_refl _) ?_
  rintro _ _ ⟨b_J53, rfl, hb_J53, J53, rfl, e_J53, (⟨_, hg54⟩ | ⟨z9, _⟩)⟩
  · have hb_J53 : b_J53 = 1 := hb_J53
    subst hb_J53
    have hfr := hfr.tr e_J53
    have hg54 : GM tb ts m c0 p1 o (C ++ Q1) J53 := hg54
    have hp1 : p1 ≤ ts := hg54.2.2.2.2
    have hm1 : p ≤ p1 := (a.1 (by omega)).1
    have hq1 : Q1.length ≤ p1 - p := ((a.1 (by omega)).2.2 rfl).1
    refine x_if_ne (tgt := 9) dX8_any_4 (by decide) (fun c_4 => ?_) (fun c_4 => False.elim (absurd c_4 (by decide)))
    refine x_sub [0] rfl ?_
    exact a2.2 (by omega) G Sh R m c0 _ _ J53 _ hsh hrf hg54 (by simp only [List.length_append, List.length_cons, List.length_nil]; omega) (by omega) (fun b9 g9 hq9 => PQM.tr (PQM.pre hq9) hfr)
  · cases z9

set_option maxHeartbeats 4000000 in
set_option maxRecDepth 100000 in
theorem m_E2 {tb : Nat → Int32} {ts : Nat} {p o p1 : Nat} {Q1 : List Int32} (ho5 : o ≤ 5) (a : MB tb ts 4 p o (false, p1, Q1)) : cMM tb ts yX8_any cX8_any 1 (6 * (5 - o) + 13) p o (false, p1, Q1) := by
  intro G Sh R m c0 C J hsh hrf hg hC
  obtain ⟨z0, z1, z6, z7, z8, z9, z10, z11, z12, z13, z14, z15, z16, z17⟩ := id hsh
  obtain ⟨y1, y6, y7, y8, y9, y10, y11, y12, y13, y14, y15, y16, y17⟩ := id hrf
  have hfr : frP m c0 J J := frP.rf
  have hps := hg.2.2.2.2
  have h160 := hg.1.2.1
  have hle := nx_le (tb := tb) hps
  refine am_intro (by decide) (Nat.le_of_ble_eq_true rfl) ?_
  refine x_aload_n dX8_any_0 0 rfl rfl ?_
  refine x_callV (a.2 (by omega) G Sh R m c0 _ J hsh hrf hg (by omega)) dX8_any_1 crc_X8_all vc_8_206 z0 rfl rfl rfl rfl (Nat.le_of_ble_eq_true rfl) (roomy_k (by omega) (by decide)) (Nat.le_refl _) (Nat.le_refl _) ?_
  rintro _ _ ⟨b_J55, rfl, hb_J55, J55, rfl, e_J55, (⟨z9, _⟩ | ⟨_, hg56⟩)⟩
  · cases z9
  · have hb_J55 : b_J55 = 0 := hb_J55
    subst hb_J55
    have hfr := hfr.tr e_J55
    have hg56 : J55 m 20 = nI (fmF tb ts p1) := hg56
    refine x_if_ne (tgt := 9) dX8_any_4 (by decide) (fun c_4 => False.elim (c_4 rfl)) (fun c_4 => ?_)
    refine x_iconst (v := 0) dX8_any_7 (by decide) ?_
    refine x_zret dX8_any_8 rfl rfl (Nat.le_refl _) (Nat.le_refl _) ?_
    exact PQM.no hg56 hfr

set_option maxHeartbeats 4000000 in
set_option maxRecDepth 100000 in
theorem m_E3 {tb : Nat → Int32} {ts : Nat} {p o : Nat} (h : ¬ sgO (tkF tb ts p)) : cML tb ts yX8_any cX8_any 1 (6 * (5 - o) + 13) p o (true, p, []) := by
  intro G Sh R m c0 d' C J Q hsh hrf hg hC hd hQ
  obtain ⟨z0, z1, z6, z7, z8, z9, z10, z11, z12, z13, z14, z15, z16, z17⟩ := id hsh
  obtain ⟨y1, y6, y7, y8, y9, y10, y11, y12, y13, y14, y15, y16, y17⟩ := id hrf
  have hfr : frP m c0 J J := frP.rf
  have hps := hg.2.2.2.2
  have h160 := hg.1.2.1
  have hle := nx_le (tb := tb) hps
  refine x_aload_n dX8_any_9 0 rfl rfl ?_
  refine x_ldcS (i := 4) (tx := "or") dX8_any_10 (by decide +kernel) ?_
  refine x_callV (k_pword (G := G) hsh hrf hg (i := 4) (by decide) (by decide)) dX8_any_12 crc_X8_isWord vc_8_136 z0 rfl rfl rfl rfl (Nat.le_of_ble_eq_true rfl) (roomy_k (by omega) (by decide)) (Nat.le_refl _) (Nat.le_refl _) ?_
  rintro _ _ ⟨_, rfl, rfl, rfl⟩
  refine x_if_eqB (tgt := 41) dX8_any_15 (by decide) (fun c_15 => ?_) (fun c_15 => False.elim (h c_15))
  refine x_iconst (v := 1) dX8_any_41 (by decide) ?_
  refine x_zret dX8_any_42 rfl rfl (Nat.le_refl _) (Nat.le_refl _) ?_
  exact hQ _ _ (PQM.ok hg hfr (by simp [List.append_assoc]))

set_option maxHeartbeats 4000000 in
set_option maxRecDepth 100000 in
theorem m_E4 {tb : Nat → Int32} {ts : Nat} {p o p1 : Nat} {Q1 : List Int32} {r : RES} (ho5 : o ≤ 5) (h : sgO (tkF tb ts p)) (a : MB tb ts 4 (nxF tb ts p) o (true, p1, Q1)) (a2 : MB tb ts 15 p1 o r) : cML tb ts yX8_any cX8_any 1 (6 * (5 - o) + 13) p o (preR (Q1 ++ [(-9)]) r) := by
  intro G Sh R m c0 d' C J Q hsh hrf hg hC hd hQ
  obtain ⟨z0, z1, z6, z7, z8, z9, z10, z11, z12, z13, z14, z15, z16, z17⟩ := id hsh
  obtain ⟨y1, y6, y7, y8, y9, y10, y11, y12, y13, y14, y15, y16, y17⟩ := id hrf
  have hfr : frP m c0 J J := frP.rf
  have hps := hg.2.2.2.2
  have h160 := hg.1.2.1
  have hle := nx_le (tb := tb) hps
  have h9 : tkF tb ts p = (-9) := h
  have hnt : ¬ endT (tkF tb ts p) := by
    rw [h9]; unfold endT; decide
  have hlt := nx_lt hps hnt
  refine x_aload_n dX8_any_9 0 rfl rfl ?_
  refine x_ldcS (i := 4) (tx := "or") dX8_any_10 (by decide +kernel) ?_
  refine x_callV (k_pword (G := G) hsh hrf hg (i := 4) (by decide) (by decide)) dX8_any_12 crc_X8_isWord vc_8_136 z0 rfl rfl rfl rfl (Nat.le_of_ble_eq_true rfl) (roomy_k (by omega) (by decide)) (Nat.le_refl _) (Nat.le_refl _) ?_
  rintro _ _ ⟨_, rfl, rfl, rfl⟩
  refine x_if_eqB (tgt := 41) dX8_any_15 (by decide) (fun c_15 => False.elim (c_15 h)) (fun c_15 => ?_)
  refine x_aload_n dX8_any_18 0 rfl rfl ?_
  refine x_callV (k_next (G := G) (I := J) hsh hrf hg.1 (p := nxF tb ts p) (nx_le hg.2.2.2.2).2 (hg.2.1.2.2.1 hnt)) dX8_any_19 crc_X8_next vc_8_176 z0 rfl rfl rfl rfl (Nat.le_of_ble_eq_true rfl) (roomy_k (by omega) (by decide)) (Nat.le_refl _) (Nat.le_refl _) ?_
  rintro _ _ ⟨rfl, J57, rfl, fx_J57, tok_J57⟩
  have hg58 := hg.nxt hnt fx_J57 tok_J57
  have hfr := hfr.tr fx_J57.fp
  refine x_aload_n dX8_any_22 0 rfl rfl ?_
  refine x_callV (a.2 (by omega) G Sh R m c0 _ J57 hsh hrf hg58 (by omega)) dX8_any_23 crc_X8_all vc_8_206 z0 rfl rfl rfl rfl (Nat.le_of_ble_eq_true rfl) (roomy_k (by omega) (by decide)) (Nat.le_refl _) (Nat.le_refl _) ?_
  rintro _ _ ⟨b_J59, rfl, hb_J59, J59, rfl, e_J59, (⟨_, hg60⟩ | ⟨z9, _⟩)⟩
  · have hb_J59 : b_J59 = 1 := hb_J59
    subst hb_J59
    have hfr := hfr.tr e_J59
    have hg60 : GM tb ts m c0 p1 o (C ++ Q1) J59 := hg60
    have hp1 : p1 ≤ ts := hg60.2.2.2.2
    have hm1 : nxF tb ts p ≤ p1 := (a.1 (by omega)).1
    have hq1 : Q1.length ≤ p1 - nxF tb ts p := ((a.1 (by omega)).2.2 rfl).1
    refine x_if_ne (tgt := 31) dX8_any_26 (by decide) (fun c_26 => ?_) (fun c_26 => False.elim (absurd c_26 (by decide)))
    refine x_aload_n dX8_any_31 0 rfl rfl ?_
    refine x_bipush (v := 12) dX8_any_32 (by decide) ?_
    refine x_callV (k_mcodes (G := G) (J := J59) hsh hrf (n := c0 + (C ++ Q1).length) hg60.2.2.2.1.1 (by have := hg60.2.2.2.1.2.1; have := hg60.2.2.2.1.2.2.1; omega) (x := 12)) dX8_any_34 crc_X8_codes vc_8_182 z0 rfl rfl rfl rfl (Nat.le_of_ble_eq_true rfl) (roomy_k (by omega) (by decide)) (Nat.le_refl _) (Nat.le_refl _) ?_
    rintro _ _ ⟨_, rfl, rfl, J61, rfl, e_J61⟩
    have hg62' := hg60.cod (c := (-9)) (by simp only [List.length_append, List.length_cons, List.length_nil]; omega) (by decide) e_J61
    have hg62 := hg62'.1
    have hfr := hfr.tr hg62'.2
    refine x_pop dX8_any_37 rfl ?_
    refine x_goto (tgt := 9) dX8_any_38 (by decide) ?_
    refine x_sub [0] rfl ?_
    exact a2.2 (by omega) G Sh R m c0 _ _ J61 _ hsh hrf (by have z := hg62; rw [List.append_assoc] at z; exact z) (by simp only [List.length_append, List.length_cons, List.length_nil]; omega) hd (fun b9 g9 hq9 => hQ b9 g9 (PQM.tr (PQM.pre hq9) hfr))
  · cases z9

set_option maxHeartbeats 4000000 in
set_option maxRecDepth 100000 in
theorem m_E5 {tb : Nat → Int32} {ts : Nat} {p o p1 : Nat} {Q1 : List Int32} (ho5 : o ≤ 5) (h : sgO (tkF tb ts p)) (a : MB tb ts 4 (nxF tb ts p) o (false, p1, Q1)) : cML tb ts yX8_any cX8_any 1 (6 * (5 - o) + 13) p o (false, p1, Q1) := by
  intro G Sh R m c0 d' C J Q hsh hrf hg hC hd hQ
  obtain ⟨z0, z1, z6, z7, z8, z9, z10, z11, z12, z13, z14, z15, z16, z17⟩ := id hsh
  obtain ⟨y1, y6, y7, y8, y9, y10, y11, y12, y13, y14, y15, y16, y17⟩ := id hrf
  have hfr : frP m c0 J J := frP.rf
  have hps := hg.2.2.2.2
  have h160 := hg.1.2.1
  have hle := nx_le (tb := tb) hps
  have h9 : tkF tb ts p = (-9) := h
  have hnt : ¬ endT (tkF tb ts p) := by
    rw [h9]; unfold endT; decide
  have hlt := nx_lt hps hnt
  refine x_aload_n dX8_any_9 0 rfl rfl ?_
  refine x_ldcS (i := 4) (tx := "or") dX8_any_10 (by decide +kernel) ?_
  refine x_callV (k_pword (G := G) hsh hrf hg (i := 4) (by decide) (by decide)) dX8_any_12 crc_X8_isWord vc_8_136 z0 rfl rfl rfl rfl (Nat.le_of_ble_eq_true rfl) (roomy_k (by omega) (by decide)) (Nat.le_refl _) (Nat.le_refl _) ?_
  rintro _ _ ⟨_, rfl, rfl, rfl⟩
  refine x_if_eqB (tgt := 41) dX8_any_15 (by decide) (fun c_15 => False.elim (c_15 h)) (fun c_15 => ?_)
  refine x_aload_n dX8_any_18 0 rfl rfl ?_
  refine x_callV (k_next (G := G) (I := J) hsh hrf hg.1 (p := nxF tb ts p) (nx_le hg.2.2.2.2).2 (hg.2.1.2.2.1 hnt)) dX8_any_19 crc_X8_next vc_8_176 z0 rfl rfl rfl rfl (Nat.le_of_ble_eq_true rfl) (roomy_k (by omega) (by decide)) (Nat.le_refl _) (Nat.le_refl _) ?_
  rintro _ _ ⟨rfl, J63, rfl, fx_J63, tok_J63⟩
  have hg64 := hg.nxt hnt fx_J63 tok_J63
  have hfr := hfr.tr fx_J63.fp
  refine x_aload_n dX8_any_22 0 rfl rfl ?_
  refine x_callV (a.2 (by omega) G Sh R m c0 _ J63 hsh hrf hg64 (by omega)) dX8_any_23 crc_X8_all vc_8_206 z0 rfl rfl rfl rfl (Nat.le_of_ble_eq_true rfl) (roomy_k (by omega) (by decide)) (Nat.le_refl _) (Nat.le_refl _) ?_
  rintro _ _ ⟨b_J65, rfl, hb_J65, J65, rfl, e_J65, (⟨z9, _⟩ | ⟨_, hg66⟩)⟩
  · cases z9
  · have hb_J65 : b_J65 = 0 := hb_J65
    subst hb_J65
    have hfr := hfr.tr e_J65
    have hg66 : J65 m 20 = nI (fmF tb ts p1) := hg66
    refine x_if_ne (tgt := 31) dX8_any_26 (by decide) (fun c_26 => False.elim (c_26 rfl)) (fun c_26 => ?_)
    refine x_iconst (v := 0) dX8_any_29 (by decide) ?_
    refine x_zret dX8_any_30 rfl rfl (Nat.le_refl _) (Nat.le_refl _) ?_
    exact hQ _ _ (PQM.no hg66 hfr)

set_option maxHeartbeats 4000000 in
set_option maxRecDepth 100000 in
theorem m_C1 {tb : Nat → Int32} {ts : Nat} {p o p1 : Nat} {Q1 : List Int32} (ho5 : o ≤ 5) (h7 : ¬ tkF tb ts p = -7) (a : MB tb ts 2 p o (true, p1, Q1)) (h : ¬ (tkF tb ts p1 = 60 ∨ tkF tb ts p1 = 61)) : cMM tb ts yX8_no cX8_no 2 (6 * (5 - o) + 11) p o (true, p1, Q1) := by
  intro G Sh R m c0 C J hsh hrf hg hC
  obtain ⟨z0, z1, z6, z7, z8, z9, z10, z11, z12, z13, z14, z15, z16, z17⟩ := id hsh
  obtain ⟨y1, y6, y7, y8, y9, y10, y11, y12, y13, y14, y15, y16, y17⟩ := id hrf
  have hfr : frP m c0 J J := frP.rf
  have hps := hg.2.2.2.2
  have h160 := hg.1.2.1
  have hle := nx_le (tb := tb) hps
  refine am_intro (by decide) (Nat.le_of_ble_eq_true rfl) ?_
  refine x_aload_n dX8_no_0 0 rfl rfl ?_
  refine x_ldcS (i := 6) (tx := "not") dX8_no_1 (by decide +kernel) ?_
  refine x_callV (k_pword (G := G) hsh hrf hg (i := 6) (by decide) (by decide)) dX8_no_3 crc_X8_isWord vc_8_136 z0 rfl rfl rfl rfl (Nat.le_of_ble_eq_true rfl) (roomy_k (by omega) (by decide)) (Nat.le_refl _) (Nat.le_refl _) ?_
  rintro _ _ ⟨_, rfl, rfl, rfl⟩
  refine x_if_eqB (tgt := 70) dX8_no_6 (by decide) (fun c_6 => ?_) (fun c_6 => False.elim (h7 c_6))
  refine x_aload_n dX8_no_70 0 rfl rfl ?_
  refine x_callV (a.2 (by omega) G Sh R m c0 _ J hsh hrf hg (by omega)) dX8_no_71 crc_X8_sum vc_8_203 z0 rfl rfl rfl rfl (Nat.le_of_ble_eq_true rfl) (roomy_k (by omega) (by decide)) (Nat.le_refl _) (Nat.le_refl _) ?_
  rintro _ _ ⟨b_J67, rfl, hb_J67, J67, rfl, e_J67, (⟨_, hg68⟩ | ⟨z9, _⟩)⟩
  · have hb_J67 : b_J67 = 1 := hb_J67
    subst hb_J67
    have hfr := hfr.tr e_J67
    have hg68 : GM tb ts m c0 p1 o (C ++ Q1) J67 := hg68
    have hp1 : p1 ≤ ts := hg68.2.2.2.2
    have hm1 : p ≤ p1 := (a.1 (by omega)).1
    have hq1 : Q1.length ≤ p1 - p := ((a.1 (by omega)).2.2 rfl).1
    refine x_if_ne (tgt := 79) dX8_no_74 (by decide) (fun c_74 => ?_) (fun c_74 => False.elim (absurd c_74 (by decide)))
    refine x_aload_n dX8_no_79 0 rfl rfl ?_
    refine x_gI (v := mtF (tkF tb ts p1)) dX8_no_80 fl_8_117 rfl z0 hg68.2.1.2.1 ?_
    refine x_bipush (v := 60) dX8_no_83 (by decide) ?_
    refine x_icmp_eq (tgt := 99) dX8_no_85 (by decide) (fun c_85 => False.elim (h (Or.inl ((mt_sg (by decide)).mp c_85)))) (fun c_85 => ?_)
    refine x_aload_n dX8_no_88 0 rfl rfl ?_
    refine x_gI (v := mtF (tkF tb ts p1)) dX8_no_89 fl_8_117 rfl z0 hg68.2.1.2.1 ?_
    refine x_bipush (v := 61) dX8_no_92 (by decide) ?_
    refine x_icmp_eq (tgt := 99) dX8_no_94 (by decide) (fun c_94 => False.elim (h (Or.inr ((mt_sg (by decide)).mp c_94)))) (fun c_94 => ?_)
    refine x_iconst (v := 1) dX8_no_97 (by decide) ?_
    refine x_zret dX8_no_98 rfl rfl (Nat.le_refl _) (Nat.le_refl _) ?_
    exact PQM.ok hg68 hfr (by simp [List.append_assoc])
  · cases z9

set_option maxHeartbeats 4000000 in
set_option maxRecDepth 100000 in
theorem m_C2 {tb : Nat → Int32} {ts : Nat} {p2 : Nat} {Q2 : List Int32} {p o p1 : Nat} {Q1 : List Int32} (ho5 : o ≤ 5) (h7 : ¬ tkF tb ts p = -7) (a : MB tb ts 2 p o (true, p1, Q1)) (h : tkF tb ts p1 = 60 ∨ tkF tb ts p1 = 61) (c : MB tb ts 2 (nxF tb ts p1) o (true, p2, Q2)) : cMM tb ts yX8_no cX8_no 2 (6 * (5 - o) + 11) p o (true, p2, Q1 ++ (Q2 ++ [if tkF tb ts p1 = 60 then -11 else -12])) := by
  intro G Sh R m c0 C J hsh hrf hg hC
  obtain ⟨z0, z1, z6, z7, z8, z9, z10, z11, z12, z13, z14, z15, z16, z17⟩ := id hsh
  obtain ⟨y1, y6, y7, y8, y9, y10, y11, y12, y13, y14, y15, y16, y17⟩ := id hrf
  have hfr : frP m c0 J J := frP.rf
  have hps := hg.2.2.2.2
  have h160 := hg.1.2.1
  have hle := nx_le (tb := tb) hps
  have hnt1 : ¬ endT (tkF tb ts p1) := by rcases h with z | z <;> rw [z] <;> unfold endT <;> decide
  refine am_intro (by decide) (Nat.le_of_ble_eq_true rfl) ?_
  refine x_aload_n dX8_no_0 0 rfl rfl ?_
  refine x_ldcS (i := 6) (tx := "not") dX8_no_1 (by decide +kernel) ?_
  refine x_callV (k_pword (G := G) hsh hrf hg (i := 6) (by decide) (by decide)) dX8_no_3 crc_X8_isWord vc_8_136 z0 rfl rfl rfl rfl (Nat.le_of_ble_eq_true rfl) (roomy_k (by omega) (by decide)) (Nat.le_refl _) (Nat.le_refl _) ?_
  rintro _ _ ⟨_, rfl, rfl, rfl⟩
  refine x_if_eqB (tgt := 70) dX8_no_6 (by decide) (fun c_6 => ?_) (fun c_6 => False.elim (h7 c_6))
  refine x_aload_n dX8_no_70 0 rfl rfl ?_
  refine x_callV (a.2 (by omega) G Sh R m c0 _ J hsh hrf hg (by omega)) dX8_no_71 crc_X8_sum vc_8_203 z0 rfl rfl rfl rfl (Nat.le_of_ble_eq_true rfl) (roomy_k (by omega) (by decide)) (Nat.le_refl _) (Nat.le_refl _) ?_
  rintro _ _ ⟨b_J69, rfl, hb_J69, J69, rfl, e_J69, (⟨_, hg70⟩ | ⟨z9, _⟩)⟩
  · have hb_J69 : b_J69 = 1 := hb_J69
    subst hb_J69
    have hfr := hfr.tr e_J69
    have hg70 : GM tb ts m c0 p1 o (C ++ Q1) J69 := hg70
    have hp1 : p1 ≤ ts := hg70.2.2.2.2
    have hm1 : p ≤ p1 := (a.1 (by omega)).1
    have hq1 : Q1.length ≤ p1 - p := ((a.1 (by omega)).2.2 rfl).1
    have hlt1 := nx_lt hp1 hnt1
    have hle1 := nx_le (tb := tb) hp1
    refine x_if_ne (tgt := 79) dX8_no_74 (by decide) (fun c_74 => ?_) (fun c_74 => False.elim (absurd c_74 (by decide)))
    refine x_aload_n dX8_no_79 0 rfl rfl ?_
    refine x_gI (v := mtF (tkF tb ts p1)) dX8_no_80 fl_8_117 rfl z0 hg70.2.1.2.1 ?_
    refine x_bipush (v := 60) dX8_no_83 (by decide) ?_
    refine x_icmp_eq (tgt := 99) dX8_no_85 (by decide) (fun c_85 => ?_) (fun c_85 => ?_)
    · refine x_aload_n dX8_no_99 0 rfl rfl ?_
      refine x_gI (v := mtF (tkF tb ts p1)) dX8_no_100 fl_8_117 rfl z0 hg70.2.1.2.1 ?_
      refine x_bipush (v := 60) dX8_no_103 (by decide) ?_
      refine x_icmp_ne (tgt := 113) dX8_no_105 (by decide) (fun c_105 => False.elim (c_105 c_85)) (fun c_105 => ?_)
      refine x_bipush (v := 9) dX8_no_108 (by decide) ?_
      refine x_goto (tgt := 115) dX8_no_110 (by decide) ?_
      refine x_istore_n (lv' := [(1, .int 9), (0, .ref m)]) dX8_no_115 rfl (by decide) rfl ?_
      refine x_aload_n dX8_no_116 1 rfl rfl ?_
      refine x_callV (k_next (G := G) (I := J69) hsh hrf hg70.1 (p := nxF tb ts p1) (nx_le hg70.2.2.2.2).2 (hg70.2.1.2.2.1 hnt1)) dX8_no_117 crc_X8_next vc_8_176 z0 rfl rfl rfl rfl (Nat.le_of_ble_eq_true rfl) (roomy_k (by omega) (by decide)) (Nat.le_refl _) (Nat.le_refl _) ?_
      rintro _ _ ⟨rfl, J71, rfl, fx_J71, tok_J71⟩
      have hg72 := hg70.nxt hnt1 fx_J71 tok_J71
      have hfr := hfr.tr fx_J71.fp
      refine x_aload_n dX8_no_120 1 rfl rfl ?_
      refine x_callV (c.2 (by omega) G Sh R m c0 _ J71 hsh hrf hg72 (by simp only [List.length_append]; omega)) dX8_no_121 crc_X8_sum vc_8_203 z0 rfl rfl rfl rfl (Nat.le_of_ble_eq_true rfl) (roomy_k (by omega) (by decide)) (Nat.le_refl _) (Nat.le_refl _) ?_
      rintro _ _ ⟨b_J73, rfl, hb_J73, J73, rfl, e_J73, (⟨_, hg74⟩ | ⟨z9, _⟩)⟩
      · have hb_J73 : b_J73 = 1 := hb_J73
        subst hb_J73
        have hfr := hfr.tr e_J73
        have hg74 : GM tb ts m c0 p2 o ((C ++ Q1) ++ Q2) J73 := hg74
        have hp2 : p2 ≤ ts := hg74.2.2.2.2
        have hm2 : nxF tb ts p1 ≤ p2 := (c.1 hle1.2).1
        have hq2 : Q2.length ≤ p2 - nxF tb ts p1 := ((c.1 hle1.2).2.2 rfl).1
        refine x_if_eq (tgt := 139) dX8_no_124 (by decide) (fun c_124 => False.elim (absurd c_124 (by decide))) (fun c_124 => ?_)
        refine x_aload_n dX8_no_127 1 rfl rfl ?_
        refine x_iload_n dX8_no_128 0 rfl rfl ?_
        refine x_callV (k_mcodes (G := G) (J := J73) hsh hrf (n := c0 + ((C ++ Q1) ++ Q2).length) hg74.2.2.2.1.1 (by have := hg74.2.2.2.1.2.1; have := hg74.2.2.2.1.2.2.1; omega) (x := 9)) dX8_no_129 crc_X8_codes vc_8_182 z0 rfl rfl rfl rfl (Nat.le_of_ble_eq_true rfl) (roomy_k (by omega) (by decide)) (Nat.le_refl _) (Nat.le_refl _) ?_
        rintro _ _ ⟨_, rfl, rfl, J75, rfl, e_J75⟩
        have hg76' := hg74.cod (c := (if tkF tb ts p1 = 60 then -11 else -12)) (by simp only [List.length_append, List.length_cons, List.length_nil]; omega) (by rw [if_pos ((mt_sg (by decide)).mp c_85)]; decide) e_J75
        have hg76 := hg76'.1
        have hfr := hfr.tr hg76'.2
        refine x_if_eq (tgt := 139) dX8_no_132 (by decide) (fun c_132 => False.elim (absurd c_132 (by decide))) (fun c_132 => ?_)
        refine x_iconst (v := 1) dX8_no_135 (by decide) ?_
        refine x_goto (tgt := 140) dX8_no_136 (by decide) ?_
        refine x_zret dX8_no_140 rfl rfl (Nat.le_refl _) (Nat.le_refl _) ?_
        exact PQM.ok hg76 hfr (by simp [List.append_assoc])
      · cases z9
    · refine x_aload_n dX8_no_88 0 rfl rfl ?_
      refine x_gI (v := mtF (tkF tb ts p1)) dX8_no_89 fl_8_117 rfl z0 hg70.2.1.2.1 ?_
      refine x_bipush (v := 61) dX8_no_92 (by decide) ?_
      refine x_icmp_eq (tgt := 99) dX8_no_94 (by decide) (fun c_94 => ?_) (fun c_94 => False.elim (c_94 ((mt_sg (by decide)).mpr (h.resolve_left (fun z => c_85 ((mt_sg (by decide)).mpr z))))))
      refine x_aload_n dX8_no_99 0 rfl rfl ?_
      refine x_gI (v := mtF (tkF tb ts p1)) dX8_no_100 fl_8_117 rfl z0 hg70.2.1.2.1 ?_
      refine x_bipush (v := 60) dX8_no_103 (by decide) ?_
      refine x_icmp_ne (tgt := 113) dX8_no_105 (by decide) (fun c_105 => ?_) (fun c_105 => False.elim (c_85 c_105))
      refine x_bipush (v := 10) dX8_no_113 (by decide) ?_
      refine x_istore_n (lv' := [(1, .int 10), (0, .ref m)]) dX8_no_115 rfl (by decide) rfl ?_
      refine x_aload_n dX8_no_116 1 rfl rfl ?_
      refine x_callV (k_next (G := G) (I := J69) hsh hrf hg70.1 (p := nxF tb ts p1) (nx_le hg70.2.2.2.2).2 (hg70.2.1.2.2.1 hnt1)) dX8_no_117 crc_X8_next vc_8_176 z0 rfl rfl rfl rfl (Nat.le_of_ble_eq_true rfl) (roomy_k (by omega) (by decide)) (Nat.le_refl _) (Nat.le_refl _) ?_
      rintro _ _ ⟨rfl, J77, rfl, fx_J77, tok_J77⟩
      have hg78 := hg70.nxt hnt1 fx_J77 tok_J77
      have hfr := hfr.tr fx_J77.fp
      refine x_aload_n dX8_no_120 1 rfl rfl ?_
      refine x_callV (c.2 (by omega) G Sh R m c0 _ J77 hsh hrf hg78 (by simp only [List.length_append]; omega)) dX8_no_121 crc_X8_sum vc_8_203 z0 rfl rfl rfl rfl (Nat.le_of_ble_eq_true rfl) (roomy_k (by omega) (by decide)) (Nat.le_refl _) (Nat.le_refl _) ?_
      rintro _ _ ⟨b_J79, rfl, hb_J79, J79, rfl, e_J79, (⟨_, hg80⟩ | ⟨z9, _⟩)⟩
      · have hb_J79 : b_J79 = 1 := hb_J79
        subst hb_J79
        have hfr := hfr.tr e_J79
        have hg80 : GM tb ts m c0 p2 o ((C ++ Q1) ++ Q2) J79 := hg80
        have hp2 : p2 ≤ ts := hg80.2.2.2.2
        have hm2 : nxF tb ts p1 ≤ p2 := (c.1 hle1.2).1
        have hq2 : Q2.length ≤ p2 - nxF tb ts p1 := ((c.1 hle1.2).2.2 rfl).1
        refine x_if_eq (tgt := 139) dX8_no_124 (by decide) (fun c_124 => False.elim (absurd c_124 (by decide))) (fun c_124 => ?_)
        refine x_aload_n dX8_no_127 1 rfl rfl ?_
        refine x_iload_n dX8_no_128 0 rfl rfl ?_
        refine x_callV (k_mcodes (G := G) (J := J79) hsh hrf (n := c0 + ((C ++ Q1) ++ Q2).length) hg80.2.2.2.1.1 (by have := hg80.2.2.2.1.2.1; have := hg80.2.2.2.1.2.2.1; omega) (x := 10)) dX8_no_129 crc_X8_codes vc_8_182 z0 rfl rfl rfl rfl (Nat.le_of_ble_eq_true rfl) (roomy_k (by omega) (by decide)) (Nat.le_refl _) (Nat.le_refl _) ?_
        rintro _ _ ⟨_, rfl, rfl, J81, rfl, e_J81⟩
        have hg82' := hg80.cod (c := (if tkF tb ts p1 = 60 then -11 else -12)) (by simp only [List.length_append, List.length_cons, List.length_nil]; omega) (by rw [if_neg (fun z => c_85 ((mt_sg (by decide)).mpr z))]; decide) e_J81
        have hg82 := hg82'.1
        have hfr := hfr.tr hg82'.2
        refine x_if_eq (tgt := 139) dX8_no_132 (by decide) (fun c_132 => False.elim (absurd c_132 (by decide))) (fun c_132 => ?_)
        refine x_iconst (v := 1) dX8_no_135 (by decide) ?_
        refine x_goto (tgt := 140) dX8_no_136 (by decide) ?_
        refine x_zret dX8_no_140 rfl rfl (Nat.le_refl _) (Nat.le_refl _) ?_
        exact PQM.ok hg82 hfr (by simp [List.append_assoc])
      · cases z9
  · cases z9

set_option maxHeartbeats 4000000 in
set_option maxRecDepth 100000 in
theorem m_C3 {tb : Nat → Int32} {ts : Nat} {p2 : Nat} {Q2 : List Int32} {p o p1 : Nat} {Q1 : List Int32} (ho5 : o ≤ 5) (h7 : ¬ tkF tb ts p = -7) (a : MB tb ts 2 p o (true, p1, Q1)) (h : tkF tb ts p1 = 60 ∨ tkF tb ts p1 = 61) (c : MB tb ts 2 (nxF tb ts p1) o (false, p2, Q2)) : cMM tb ts yX8_no cX8_no 2 (6 * (5 - o) + 11) p o (false, p2, Q2) := by
  intro G Sh R m c0 C J hsh hrf hg hC
  obtain ⟨z0, z1, z6, z7, z8, z9, z10, z11, z12, z13, z14, z15, z16, z17⟩ := id hsh
  obtain ⟨y1, y6, y7, y8, y9, y10, y11, y12, y13, y14, y15, y16, y17⟩ := id hrf
  have hfr : frP m c0 J J := frP.rf
  have hps := hg.2.2.2.2
  have h160 := hg.1.2.1
  have hle := nx_le (tb := tb) hps
  have hnt1 : ¬ endT (tkF tb ts p1) := by rcases h with z | z <;> rw [z] <;> unfold endT <;> decide
  refine am_intro (by decide) (Nat.le_of_ble_eq_true rfl) ?_
  refine x_aload_n dX8_no_0 0 rfl rfl ?_
  refine x_ldcS (i := 6) (tx := "not") dX8_no_1 (by decide +kernel) ?_
  refine x_callV (k_pword (G := G) hsh hrf hg (i := 6) (by decide) (by decide)) dX8_no_3 crc_X8_isWord vc_8_136 z0 rfl rfl rfl rfl (Nat.le_of_ble_eq_true rfl) (roomy_k (by omega) (by decide)) (Nat.le_refl _) (Nat.le_refl _) ?_
  rintro _ _ ⟨_, rfl, rfl, rfl⟩
  refine x_if_eqB (tgt := 70) dX8_no_6 (by decide) (fun c_6 => ?_) (fun c_6 => False.elim (h7 c_6))
  refine x_aload_n dX8_no_70 0 rfl rfl ?_
  refine x_callV (a.2 (by omega) G Sh R m c0 _ J hsh hrf hg (by omega)) dX8_no_71 crc_X8_sum vc_8_203 z0 rfl rfl rfl rfl (Nat.le_of_ble_eq_true rfl) (roomy_k (by omega) (by decide)) (Nat.le_refl _) (Nat.le_refl _) ?_
  rintro _ _ ⟨b_J83, rfl, hb_J83, J83, rfl, e_J83, (⟨_, hg84⟩ | ⟨z9, _⟩)⟩
  · have hb_J83 : b_J83 = 1 := hb_J83
    subst hb_J83
    have hfr := hfr.tr e_J83
    have hg84 : GM tb ts m c0 p1 o (C ++ Q1) J83 := hg84
    have hp1 : p1 ≤ ts := hg84.2.2.2.2
    have hm1 : p ≤ p1 := (a.1 (by omega)).1
    have hq1 : Q1.length ≤ p1 - p := ((a.1 (by omega)).2.2 rfl).1
    have hlt1 := nx_lt hp1 hnt1
    have hle1 := nx_le (tb := tb) hp1
    refine x_if_ne (tgt := 79) dX8_no_74 (by decide) (fun c_74 => ?_) (fun c_74 => False.elim (absurd c_74 (by decide)))
    refine x_aload_n dX8_no_79 0 rfl rfl ?_
    refine x_gI (v := mtF (tkF tb ts p1)) dX8_no_80 fl_8_117 rfl z0 hg84.2.1.2.1 ?_
    refine x_bipush (v := 60) dX8_no_83 (by decide) ?_
    refine x_icmp_eq (tgt := 99) dX8_no_85 (by decide) (fun c_85 => ?_) (fun c_85 => ?_)
    · refine x_aload_n dX8_no_99 0 rfl rfl ?_
      refine x_gI (v := mtF (tkF tb ts p1)) dX8_no_100 fl_8_117 rfl z0 hg84.2.1.2.1 ?_
      refine x_bipush (v := 60) dX8_no_103 (by decide) ?_
      refine x_icmp_ne (tgt := 113) dX8_no_105 (by decide) (fun c_105 => False.elim (c_105 c_85)) (fun c_105 => ?_)
      refine x_bipush (v := 9) dX8_no_108 (by decide) ?_
      refine x_goto (tgt := 115) dX8_no_110 (by decide) ?_
      refine x_istore_n (lv' := [(1, .int 9), (0, .ref m)]) dX8_no_115 rfl (by decide) rfl ?_
      refine x_aload_n dX8_no_116 1 rfl rfl ?_
      refine x_callV (k_next (G := G) (I := J83) hsh hrf hg84.1 (p := nxF tb ts p1) (nx_le hg84.2.2.2.2).2 (hg84.2.1.2.2.1 hnt1)) dX8_no_117 crc_X8_next vc_8_176 z0 rfl rfl rfl rfl (Nat.le_of_ble_eq_true rfl) (roomy_k (by omega) (by decide)) (Nat.le_refl _) (Nat.le_refl _) ?_
      rintro _ _ ⟨rfl, J85, rfl, fx_J85, tok_J85⟩
      have hg86 := hg84.nxt hnt1 fx_J85 tok_J85
      have hfr := hfr.tr fx_J85.fp
      refine x_aload_n dX8_no_120 1 rfl rfl ?_
      refine x_callV (c.2 (by omega) G Sh R m c0 _ J85 hsh hrf hg86 (by simp only [List.length_append]; omega)) dX8_no_121 crc_X8_sum vc_8_203 z0 rfl rfl rfl rfl (Nat.le_of_ble_eq_true rfl) (roomy_k (by omega) (by decide)) (Nat.le_refl _) (Nat.le_refl _) ?_
      rintro _ _ ⟨b_J87, rfl, hb_J87, J87, rfl, e_J87, (⟨z9, _⟩ | ⟨_, hg88⟩)⟩
      · cases z9
      · have hb_J87 : b_J87 = 0 := hb_J87
        subst hb_J87
        have hfr := hfr.tr e_J87
        have hg88 : J87 m 20 = nI (fmF tb ts p2) := hg88
        refine x_if_eq (tgt := 139) dX8_no_124 (by decide) (fun c_124 => ?_) (fun c_124 => False.elim (c_124 rfl))
        refine x_iconst (v := 0) dX8_no_139 (by decide) ?_
        refine x_zret dX8_no_140 rfl rfl (Nat.le_refl _) (Nat.le_refl _) ?_
        exact PQM.no hg88 hfr
    · refine x_aload_n dX8_no_88 0 rfl rfl ?_
      refine x_gI (v := mtF (tkF tb ts p1)) dX8_no_89 fl_8_117 rfl z0 hg84.2.1.2.1 ?_
      refine x_bipush (v := 61) dX8_no_92 (by decide) ?_
      refine x_icmp_eq (tgt := 99) dX8_no_94 (by decide) (fun c_94 => ?_) (fun c_94 => False.elim (c_94 ((mt_sg (by decide)).mpr (h.resolve_left (fun z => c_85 ((mt_sg (by decide)).mpr z))))))
      refine x_aload_n dX8_no_99 0 rfl rfl ?_
      refine x_gI (v := mtF (tkF tb ts p1)) dX8_no_100 fl_8_117 rfl z0 hg84.2.1.2.1 ?_
      refine x_bipush (v := 60) dX8_no_103 (by decide) ?_
      refine x_icmp_ne (tgt := 113) dX8_no_105 (by decide) (fun c_105 => ?_) (fun c_105 => False.elim (c_85 c_105))
      refine x_bipush (v := 10) dX8_no_113 (by decide) ?_
      refine x_istore_n (lv' := [(1, .int 10), (0, .ref m)]) dX8_no_115 rfl (by decide) rfl ?_
      refine x_aload_n dX8_no_116 1 rfl rfl ?_
      refine x_callV (k_next (G := G) (I := J83) hsh hrf hg84.1 (p := nxF tb ts p1) (nx_le hg84.2.2.2.2).2 (hg84.2.1.2.2.1 hnt1)) dX8_no_117 crc_X8_next vc_8_176 z0 rfl rfl rfl rfl (Nat.le_of_ble_eq_true rfl) (roomy_k (by omega) (by decide)) (Nat.le_refl _) (Nat.le_refl _) ?_
      rintro _ _ ⟨rfl, J89, rfl, fx_J89, tok_J89⟩
      have hg90 := hg84.nxt hnt1 fx_J89 tok_J89
      have hfr := hfr.tr fx_J89.fp
      refine x_aload_n dX8_no_120 1 rfl rfl ?_
      refine x_callV (c.2 (by omega) G Sh R m c0 _ J89 hsh hrf hg90 (by simp only [List.length_append]; omega)) dX8_no_121 crc_X8_sum vc_8_203 z0 rfl rfl rfl rfl (Nat.le_of_ble_eq_true rfl) (roomy_k (by omega) (by decide)) (Nat.le_refl _) (Nat.le_refl _) ?_
      rintro _ _ ⟨b_J91, rfl, hb_J91, J91, rfl, e_J91, (⟨z9, _⟩ | ⟨_, hg92⟩)⟩
      · cases z9
      · have hb_J91 : b_J91 = 0 := hb_J91
        subst hb_J91
        have hfr := hfr.tr e_J91
        have hg92 : J91 m 20 = nI (fmF tb ts p2) := hg92
        refine x_if_eq (tgt := 139) dX8_no_124 (by decide) (fun c_124 => ?_) (fun c_124 => False.elim (c_124 rfl))
        refine x_iconst (v := 0) dX8_no_139 (by decide) ?_
        refine x_zret dX8_no_140 rfl rfl (Nat.le_refl _) (Nat.le_refl _) ?_
        exact PQM.no hg92 hfr
  · cases z9

set_option maxHeartbeats 4000000 in
set_option maxRecDepth 100000 in
theorem m_C4 {tb : Nat → Int32} {ts : Nat} {p o p1 : Nat} {Q1 : List Int32} (ho5 : o ≤ 5) (h7 : ¬ tkF tb ts p = -7) (a : MB tb ts 2 p o (false, p1, Q1)) : cMM tb ts yX8_no cX8_no 2 (6 * (5 - o) + 11) p o (false, p1, Q1) := by
  intro G Sh R m c0 C J hsh hrf hg hC
  obtain ⟨z0, z1, z6, z7, z8, z9, z10, z11, z12, z13, z14, z15, z16, z17⟩ := id hsh
  obtain ⟨y1, y6, y7, y8, y9, y10, y11, y12, y13, y14, y15, y16, y17⟩ := id hrf
  have hfr : frP m c0 J J := frP.rf
  have hps := hg.2.2.2.2
  have h160 := hg.1.2.1
  have hle := nx_le (tb := tb) hps
  refine am_intro (by decide) (Nat.le_of_ble_eq_true rfl) ?_
  refine x_aload_n dX8_no_0 0 rfl rfl ?_
  refine x_ldcS (i := 6) (tx := "not") dX8_no_1 (by decide +kernel) ?_
  refine x_callV (k_pword (G := G) hsh hrf hg (i := 6) (by decide) (by decide)) dX8_no_3 crc_X8_isWord vc_8_136 z0 rfl rfl rfl rfl (Nat.le_of_ble_eq_true rfl) (roomy_k (by omega) (by decide)) (Nat.le_refl _) (Nat.le_refl _) ?_
  rintro _ _ ⟨_, rfl, rfl, rfl⟩
  refine x_if_eqB (tgt := 70) dX8_no_6 (by decide) (fun c_6 => ?_) (fun c_6 => False.elim (h7 c_6))
  refine x_aload_n dX8_no_70 0 rfl rfl ?_
  refine x_callV (a.2 (by omega) G Sh R m c0 _ J hsh hrf hg (by omega)) dX8_no_71 crc_X8_sum vc_8_203 z0 rfl rfl rfl rfl (Nat.le_of_ble_eq_true rfl) (roomy_k (by omega) (by decide)) (Nat.le_refl _) (Nat.le_refl _) ?_
  rintro _ _ ⟨b_J93, rfl, hb_J93, J93, rfl, e_J93, (⟨z9, _⟩ | ⟨_, hg94⟩)⟩
  · cases z9
  · have hb_J93 : b_J93 = 0 := hb_J93
    subst hb_J93
    have hfr := hfr.tr e_J93
    have hg94 : J93 m 20 = nI (fmF tb ts p1) := hg94
    refine x_if_ne (tgt := 79) dX8_no_74 (by decide) (fun c_74 => False.elim (c_74 rfl)) (fun c_74 => ?_)
    refine x_iconst (v := 0) dX8_no_77 (by decide) ?_
    refine x_zret dX8_no_78 rfl rfl (Nat.le_refl _) (Nat.le_refl _) ?_
    exact PQM.no hg94 hfr

set_option maxHeartbeats 4000000 in
set_option maxRecDepth 100000 in
theorem m_Ns {tb : Nat → Int32} {ts : Nat} {p o p1 : Nat} {Q1 : List Int32} (h : tkF tb ts p = -7) (ho4 : o < 5) (am : MPp ts 3 (nxF tb ts p) (o + 1) (true, p1, Q1)) (a : cMM tb ts yX8_no cX8_no 2 (6 * (5 - (o + 1)) + 11) (nxF tb ts p) (o + 1) (true, p1, Q1)) : cMM tb ts yX8_no cX8_no 2 (6 * (5 - o) + 11) p o (true, p1, Q1 ++ [-7]) := by
  intro G Sh R m c0 C J hsh hrf hg hC
  obtain ⟨z0, z1, z6, z7, z8, z9, z10, z11, z12, z13, z14, z15, z16, z17⟩ := id hsh
  obtain ⟨y1, y6, y7, y8, y9, y10, y11, y12, y13, y14, y15, y16, y17⟩ := id hrf
  have hfr : frP m c0 J J := frP.rf
  have hps := hg.2.2.2.2
  have h160 := hg.1.2.1
  have hle := nx_le (tb := tb) hps
  have hnt : ¬ endT (tkF tb ts p) := by rw [h]; unfold endT; decide
  have hlt := nx_lt hps hnt
  refine am_intro (by decide) (Nat.le_of_ble_eq_true rfl) ?_
  refine x_aload_n dX8_no_0 0 rfl rfl ?_
  refine x_ldcS (i := 6) (tx := "not") dX8_no_1 (by decide +kernel) ?_
  refine x_callV (k_pword (G := G) hsh hrf hg (i := 6) (by decide) (by decide)) dX8_no_3 crc_X8_isWord vc_8_136 z0 rfl rfl rfl rfl (Nat.le_of_ble_eq_true rfl) (roomy_k (by omega) (by decide)) (Nat.le_refl _) (Nat.le_refl _) ?_
  rintro _ _ ⟨_, rfl, rfl, rfl⟩
  refine x_if_eqB (tgt := 70) dX8_no_6 (by decide) (fun c_6 => False.elim (c_6 h)) (fun c_6 => ?_)
  refine x_aload_n dX8_no_9 0 rfl rfl ?_
  refine x_gI (v := nI o) dX8_no_10 fl_8_185 rfl z0 hg.2.2.1 ?_
  refine x_iconst (v := nI 5) dX8_no_13 (by decide) ?_
  refine x_icmp_ne (tgt := 22) dX8_no_14 (by decide) (fun c_14 => ?_) (fun c_14 => False.elim (absurd ((nI_eq (a := o) (b := 5) (by omega) (by omega)).mp c_14) (by omega)))
  refine x_aload_n dX8_no_22 0 rfl rfl ?_
  refine x_dup dX8_no_23 rfl ?_
  refine x_gI (v := nI o) dX8_no_24 fl_8_185 rfl z0 hg.2.2.1 ?_
  refine x_iconst (v := nI 1) dX8_no_27 (by decide) ?_
  refine x_iadd dX8_no_28 ?_
  refine x_vali (nI_add o 1) ?_
  refine x_pI dX8_no_29 fl_8_185 rfl rfl rfl z0 (fun Iq1 e_Iq1 => ?_)
  have hg95' := hg.opn (o' := o + 1) e_Iq1
  have hg95 := hg95'.1
  have hfr := hfr.tr hg95'.2
  refine x_aload_n dX8_no_32 0 rfl rfl ?_
  refine x_callV (k_next (G := G) (I := Iq1) hsh hrf hg95.1 (p := nxF tb ts p) (nx_le hg95.2.2.2.2).2 (hg95.2.1.2.2.1 hnt)) dX8_no_33 crc_X8_next vc_8_176 z0 rfl rfl rfl rfl (Nat.le_of_ble_eq_true rfl) (roomy_k (by omega) (by decide)) (Nat.le_refl _) (Nat.le_refl _) ?_
  rintro _ _ ⟨rfl, J96, rfl, fx_J96, tok_J96⟩
  have hg97 := hg95.nxt hnt fx_J96 tok_J96
  have hfr := hfr.tr fx_J96.fp
  refine x_aload_n dX8_no_36 0 rfl rfl ?_
  refine x_callV (a G Sh R m c0 _ J96 hsh hrf hg97 (by omega)) dX8_no_37 crc_X8_no vc_8_200 z0 rfl rfl rfl rfl (Nat.le_of_ble_eq_true rfl) (roomy_k (by omega) (by decide)) (Nat.le_refl _) (Nat.le_refl _) ?_
  rintro _ _ ⟨b_J98, rfl, hb_J98, J98, rfl, e_J98, (⟨_, hg99⟩ | ⟨z9, _⟩)⟩
  · have hb_J98 : b_J98 = 1 := hb_J98
    subst hb_J98
    have hfr := hfr.tr e_J98
    have hg99 : GM tb ts m c0 p1 (o + 1) (C ++ Q1) J98 := hg99
    have hp1 : p1 ≤ ts := hg99.2.2.2.2
    have hm1 : nxF tb ts p ≤ p1 := (am (by omega)).1
    have hq1 : Q1.length ≤ p1 - nxF tb ts p := ((am (by omega)).2.2 rfl).1
    refine x_if_eq (tgt := 56) dX8_no_40 (by decide) (fun c_40 => False.elim (absurd c_40 (by decide))) (fun c_40 => ?_)
    refine x_aload_n dX8_no_43 0 rfl rfl ?_
    refine x_bipush (v := 13) dX8_no_44 (by decide) ?_
    refine x_callV (k_mcodes (G := G) (J := J98) hsh hrf (n := c0 + (C ++ Q1).length) hg99.2.2.2.1.1 (by have := hg99.2.2.2.1.2.1; have := hg99.2.2.2.1.2.2.1; omega) (x := 13)) dX8_no_46 crc_X8_codes vc_8_182 z0 rfl rfl rfl rfl (Nat.le_of_ble_eq_true rfl) (roomy_k (by omega) (by decide)) (Nat.le_refl _) (Nat.le_refl _) ?_
    rintro _ _ ⟨_, rfl, rfl, J100, rfl, e_J100⟩
    have hg101' := hg99.cod (c := -7) (by simp only [List.length_append, List.length_cons, List.length_nil]; omega) rfl e_J100
    have hg101 := hg101'.1
    have hfr := hfr.tr hg101'.2
    refine x_if_eq (tgt := 56) dX8_no_49 (by decide) (fun c_49 => False.elim (absurd c_49 (by decide))) (fun c_49 => ?_)
    refine x_iconst (v := 1) dX8_no_52 (by decide) ?_
    refine x_goto (tgt := 57) dX8_no_53 (by decide) ?_
    refine x_istore_n (lv' := [(1, .int 1), (0, .ref m)]) dX8_no_57 rfl (by decide) rfl ?_
    refine x_aload_n dX8_no_58 1 rfl rfl ?_
    refine x_dup dX8_no_59 rfl ?_
    refine x_gI (v := nI (o + 1)) dX8_no_60 fl_8_185 rfl z0 hg101.2.2.1 ?_
    refine x_iconst (v := nI 1) dX8_no_63 (by decide) ?_
    refine x_isub dX8_no_64 ?_
    refine x_vali (nI_pred o) ?_
    refine x_pI dX8_no_65 fl_8_185 rfl rfl rfl z0 (fun Iq2 e_Iq2 => ?_)
    have hg102' := hg101.opn (o' := o) e_Iq2
    have hg102 := hg102'.1
    have hfr := hfr.tr hg102'.2
    refine x_iload_n dX8_no_68 0 rfl rfl ?_
    refine x_zret dX8_no_69 rfl rfl (Nat.le_refl _) (Nat.le_refl _) ?_
    exact PQM.ok hg102 hfr (by simp [List.append_assoc])
  · cases z9

set_option maxHeartbeats 4000000 in
set_option maxRecDepth 100000 in
theorem m_Nf {tb : Nat → Int32} {ts : Nat} {p o p1 : Nat} {Q1 Q2 : List Int32} (h : tkF tb ts p = -7) (ho4 : o < 5) (am : MPp ts 3 (nxF tb ts p) (o + 1) (false, p1, Q1)) (a : cMM tb ts yX8_no cX8_no 2 (6 * (5 - (o + 1)) + 11) (nxF tb ts p) (o + 1) (false, p1, Q1)) : cMM tb ts yX8_no cX8_no 2 (6 * (5 - o) + 11) p o (false, p1, Q2) := by
  intro G Sh R m c0 C J hsh hrf hg hC
  obtain ⟨z0, z1, z6, z7, z8, z9, z10, z11, z12, z13, z14, z15, z16, z17⟩ := id hsh
  obtain ⟨y1, y6, y7, y8, y9, y10, y11, y12, y13, y14, y15, y16, y17⟩ := id hrf
  have hfr : frP m c0 J J := frP.rf
  have hps := hg.2.2.2.2
  have h160 := hg.1.2.1
  have hle := nx_le (tb := tb) hps
  have hnt : ¬ endT (tkF tb ts p) := by rw [h]; unfold endT; decide
  have hlt := nx_lt hps hnt
  refine am_intro (by decide) (Nat.le_of_ble_eq_true rfl) ?_
  refine x_aload_n dX8_no_0 0 rfl rfl ?_
  refine x_ldcS (i := 6) (tx := "not") dX8_no_1 (by decide +kernel) ?_
  refine x_callV (k_pword (G := G) hsh hrf hg (i := 6) (by decide) (by decide)) dX8_no_3 crc_X8_isWord vc_8_136 z0 rfl rfl rfl rfl (Nat.le_of_ble_eq_true rfl) (roomy_k (by omega) (by decide)) (Nat.le_refl _) (Nat.le_refl _) ?_
  rintro _ _ ⟨_, rfl, rfl, rfl⟩
  refine x_if_eqB (tgt := 70) dX8_no_6 (by decide) (fun c_6 => False.elim (c_6 h)) (fun c_6 => ?_)
  refine x_aload_n dX8_no_9 0 rfl rfl ?_
  refine x_gI (v := nI o) dX8_no_10 fl_8_185 rfl z0 hg.2.2.1 ?_
  refine x_iconst (v := nI 5) dX8_no_13 (by decide) ?_
  refine x_icmp_ne (tgt := 22) dX8_no_14 (by decide) (fun c_14 => ?_) (fun c_14 => False.elim (absurd ((nI_eq (a := o) (b := 5) (by omega) (by omega)).mp c_14) (by omega)))
  refine x_aload_n dX8_no_22 0 rfl rfl ?_
  refine x_dup dX8_no_23 rfl ?_
  refine x_gI (v := nI o) dX8_no_24 fl_8_185 rfl z0 hg.2.2.1 ?_
  refine x_iconst (v := nI 1) dX8_no_27 (by decide) ?_
  refine x_iadd dX8_no_28 ?_
  refine x_vali (nI_add o 1) ?_
  refine x_pI dX8_no_29 fl_8_185 rfl rfl rfl z0 (fun Iq1 e_Iq1 => ?_)
  have hg103' := hg.opn (o' := o + 1) e_Iq1
  have hg103 := hg103'.1
  have hfr := hfr.tr hg103'.2
  refine x_aload_n dX8_no_32 0 rfl rfl ?_
  refine x_callV (k_next (G := G) (I := Iq1) hsh hrf hg103.1 (p := nxF tb ts p) (nx_le hg103.2.2.2.2).2 (hg103.2.1.2.2.1 hnt)) dX8_no_33 crc_X8_next vc_8_176 z0 rfl rfl rfl rfl (Nat.le_of_ble_eq_true rfl) (roomy_k (by omega) (by decide)) (Nat.le_refl _) (Nat.le_refl _) ?_
  rintro _ _ ⟨rfl, J104, rfl, fx_J104, tok_J104⟩
  have hg105 := hg103.nxt hnt fx_J104 tok_J104
  have hfr := hfr.tr fx_J104.fp
  refine x_aload_n dX8_no_36 0 rfl rfl ?_
  refine x_callV (a G Sh R m c0 _ J104 hsh hrf hg105 (by omega)) dX8_no_37 crc_X8_no vc_8_200 z0 rfl rfl rfl rfl (Nat.le_of_ble_eq_true rfl) (roomy_k (by omega) (by decide)) (Nat.le_refl _) (Nat.le_refl _) ?_
  rintro _ _ ⟨b_J106, rfl, hb_J106, J106, rfl, e_J106, (⟨z9, _⟩ | ⟨_, hg107⟩)⟩
  · cases z9
  · have hb_J106 : b_J106 = 0 := hb_J106
    subst hb_J106
    have hfr := hfr.tr e_J106
    have hg107 : J106 m 20 = nI (fmF tb ts p1) := hg107
    refine x_if_eq (tgt := 56) dX8_no_40 (by decide) (fun c_40 => ?_) (fun c_40 => False.elim (c_40 rfl))
    refine x_iconst (v := 0) dX8_no_56 (by decide) ?_
    refine x_istore_n (lv' := [(1, .int 0), (0, .ref m)]) dX8_no_57 rfl (by decide) rfl ?_
    refine x_aload_n dX8_no_58 1 rfl rfl ?_
    refine x_dup dX8_no_59 rfl ?_
    refine x_gI (v := J106 m 21) dX8_no_60 fl_8_185 rfl z0 rfl ?_
    refine x_iconst (v := nI 1) dX8_no_63 (by decide) ?_
    refine x_isub dX8_no_64 ?_
    refine x_pI dX8_no_65 fl_8_185 rfl rfl rfl z0 (fun Iq2 e_Iq2 => ?_)
    have hb108 : Iq2 m 20 = nI (fmF tb ts p1) := by rw [e_Iq2, u2_ne (by omega)]; exact hg107
    have hfr := hfr.tr (J2 := Iq2) (fun a k q1 q2 => by rw [e_Iq2, u2_ne (by omega)])
    refine x_iload_n dX8_no_68 0 rfl rfl ?_
    refine x_zret dX8_no_69 rfl rfl (Nat.le_refl _) (Nat.le_refl _) ?_
    exact PQM.no hb108 hfr

set_option maxHeartbeats 4000000 in
set_option maxRecDepth 100000 in
theorem m_N5 {tb : Nat → Int32} {ts : Nat} {p : Nat} (h : tkF tb ts p = -7) : cMM tb ts yX8_no cX8_no 2 (6 * (5 - 5) + 11) p 5 (false, p, []) := by
  intro G Sh R m c0 C J hsh hrf hg hC
  obtain ⟨z0, z1, z6, z7, z8, z9, z10, z11, z12, z13, z14, z15, z16, z17⟩ := id hsh
  obtain ⟨y1, y6, y7, y8, y9, y10, y11, y12, y13, y14, y15, y16, y17⟩ := id hrf
  have hfr : frP m c0 J J := frP.rf
  have hps := hg.2.2.2.2
  have h160 := hg.1.2.1
  have hle := nx_le (tb := tb) hps
  have hnt : ¬ endT (tkF tb ts p) := by rw [h]; unfold endT; decide
  refine am_intro (by decide) (Nat.le_of_ble_eq_true rfl) ?_
  refine x_aload_n dX8_no_0 0 rfl rfl ?_
  refine x_ldcS (i := 6) (tx := "not") dX8_no_1 (by decide +kernel) ?_
  refine x_callV (k_pword (G := G) hsh hrf hg (i := 6) (by decide) (by decide)) dX8_no_3 crc_X8_isWord vc_8_136 z0 rfl rfl rfl rfl (Nat.le_of_ble_eq_true rfl) (roomy_k (by omega) (by decide)) (Nat.le_refl _) (Nat.le_refl _) ?_
  rintro _ _ ⟨_, rfl, rfl, rfl⟩
  refine x_if_eqB (tgt := 70) dX8_no_6 (by decide) (fun c_6 => False.elim (c_6 h)) (fun c_6 => ?_)
  refine x_aload_n dX8_no_9 0 rfl rfl ?_
  refine x_gI (v := nI 5) dX8_no_10 fl_8_185 rfl z0 hg.2.2.1 ?_
  refine x_iconst (v := nI 5) dX8_no_13 (by decide) ?_
  refine x_icmp_ne (tgt := 22) dX8_no_14 (by decide) (fun c_14 => False.elim (c_14 rfl)) (fun c_14 => ?_)
  refine x_aload_n dX8_no_17 0 rfl rfl ?_
  refine x_callV (k_mfails (G := G) (J := J) hsh hrf) dX8_no_18 crc_X8_fails vc_8_172 z0 rfl rfl rfl rfl (Nat.le_of_ble_eq_true rfl) (roomy_k (by omega) (by decide)) (Nat.le_refl _) (Nat.le_refl _) ?_
  rintro _ _ ⟨_, rfl, rfl, J109, rfl, e_J109⟩
  have hb110 : J109 m 20 = nI (fmF tb ts p) := by rw [e_J109, u2_same]; exact hg.2.1.1
  have hfr := hfr.tr (J2 := J109) (fun a k q1 q2 => by rw [e_J109, u2_ne (by omega)])
  refine x_zret dX8_no_21 rfl rfl (Nat.le_refl _) (Nat.le_refl _) ?_
  exact PQM.no hb110 hfr

theorem itN_s {nx : Nat → Nat} {p : Nat} : ∀ j, itN nx j (nx p) = itN nx (j + 1) p
  | 0 => rfl
  | j + 1 => by
    show nx (itN nx j (nx p)) = nx (itN nx (j + 1) p)
    rw [itN_s j]
theorem clo_s {r : RES} {j : Nat} {c : Int32} : (cloR r (j + 1) c).2.2 = (cloR r j c).2.2 ++ [c] := by
  show r.2.2 ++ List.replicate (j + 1) c = (r.2.2 ++ List.replicate j c) ++ [c]
  rw [List.replicate_succ', List.append_assoc]

theorem m_Ou {tb : Nat → Int32} {ts : Nat} {r : RES} : ∀ (j p o : Nat), (∀ i, i < j → tkF tb ts (itN (nxF tb ts) i p) = 45) → o + j ≤ 5 → ¬ tkF tb ts (itN (nxF tb ts) j p) = 45 → MPp ts 6 (itN (nxF tb ts) j p) (o + j) r → cMM tb ts yX8_one cX8_one 4 (6 * (5 - (o + j)) + 8) (itN (nxF tb ts) j p) (o + j) r → MPp ts 0 p o (cloR r j (-8)) ∧ cMM tb ts yX8_one cX8_one 4 (6 * (5 - o) + 8) p o (cloR r j (-8))
  | 0, p, o, h1, h2, h3, hm, a => by
    have e : cloR r 0 (-8) = r := by
      unfold cloR
      simp
    rw [e]
    exact ⟨by have := (mp_clo (tk := tkF tb ts) (nx := nxF tb ts) (ts := ts) (fun _ q => nx_le q) (fun _ q e => nx_lt q e) tk_num0); exact (e ▸ (this.2.1.1 p o 0 r h1 h2 h3 hm)), a⟩
  | j + 1, p, o, h1, h2, h3, hm, a => by
    have h0 := h1 0 (by omega)
    have hsh : ∀ i, i < j → tkF tb ts (itN (nxF tb ts) i (nxF tb ts p)) = 45 := fun i hi => by rw [itN_s]; exact h1 (i + 1) (by omega)
    have hP := (mp_clo (tk := tkF tb ts) (nx := nxF tb ts) (ts := ts) (fun _ q => nx_le q) (fun _ q e => nx_lt q e) tk_num0).2.1.1 p o (j + 1) r h1 h2 h3 hm
    obtain ⟨b1, b2⟩ := m_Ou j (nxF tb ts p) (o + 1) hsh (by omega) (by rw [itN_s]; exact h3) (by rw [itN_s, show o + 1 + j = o + (j + 1) by omega]; exact hm) (by rw [itN_s, show o + 1 + j = o + (j + 1) by omega]; exact a)
    refine ⟨hP, ?_⟩
    obtain ⟨rb, rp, rQ⟩ := r
    cases rb with
    | true =>
      have e : cloR (true, rp, rQ) (j + 1) (-8) = (true, rp, (cloR (true, rp, rQ) j (-8)).2.2 ++ [(-8)]) := by
        rw [← clo_s]
        rfl
      rw [e]
      exact m_Os h0 (by omega) b1 b2
    | false => exact m_Of h0 (by omega) b1 b2
theorem m_Ox {tb : Nat → Int32} {ts : Nat} : ∀ (j p o : Nat), (∀ i, i ≤ j → tkF tb ts (itN (nxF tb ts) i p) = 45) → o + j = 5 → MPp ts 0 p o (false, itN (nxF tb ts) j p, []) ∧ cMM tb ts yX8_one cX8_one 4 (6 * (5 - o) + 8) p o (false, itN (nxF tb ts) j p, [])
  | 0, p, o, h1, h2 => by
    have h5 : o = 5 := by omega
    subst h5
    exact ⟨(mp_clo (tk := tkF tb ts) (nx := nxF tb ts) (ts := ts) (fun _ q => nx_le q) (fun _ q e => nx_lt q e) tk_num0).2.1.2 p 5 0 h1 rfl, m_O5 (h1 0 (Nat.le_refl _))⟩
  | j + 1, p, o, h1, h2 => by
    have hP := (mp_clo (tk := tkF tb ts) (nx := nxF tb ts) (ts := ts) (fun _ q => nx_le q) (fun _ q e => nx_lt q e) tk_num0).2.1.2 p o (j + 1) h1 h2
    obtain ⟨b1, b2⟩ := m_Ox j (nxF tb ts p) (o + 1) (fun i hi => by rw [itN_s]; exact h1 (i + 1) (by omega)) (by omega)
    rw [itN_s] at b1 b2
    exact ⟨hP, m_Of (h1 0 (by omega)) (by omega) b1 b2⟩

theorem m_Nu {tb : Nat → Int32} {ts : Nat} {r : RES} : ∀ (j p o : Nat), (∀ i, i < j → tkF tb ts (itN (nxF tb ts) i p) = (-7)) → o + j ≤ 5 → ¬ tkF tb ts (itN (nxF tb ts) j p) = (-7) → MPp ts 7 (itN (nxF tb ts) j p) (o + j) r → cMM tb ts yX8_no cX8_no 2 (6 * (5 - (o + j)) + 11) (itN (nxF tb ts) j p) (o + j) r → MPp ts 3 p o (cloR r j (-7)) ∧ cMM tb ts yX8_no cX8_no 2 (6 * (5 - o) + 11) p o (cloR r j (-7))
  | 0, p, o, h1, h2, h3, hm, a => by
    have e : cloR r 0 (-7) = r := by
      unfold cloR
      simp
    rw [e]
    exact ⟨by have := (mp_clo (tk := tkF tb ts) (nx := nxF tb ts) (ts := ts) (fun _ q => nx_le q) (fun _ q e => nx_lt q e) tk_num0); exact (e ▸ (this.2.2.2.2.2.1.1 p o 0 r h1 h2 h3 hm)), a⟩
  | j + 1, p, o, h1, h2, h3, hm, a => by
    have h0 := h1 0 (by omega)
    have hsh : ∀ i, i < j → tkF tb ts (itN (nxF tb ts) i (nxF tb ts p)) = (-7) := fun i hi => by rw [itN_s]; exact h1 (i + 1) (by omega)
    have hP := (mp_clo (tk := tkF tb ts) (nx := nxF tb ts) (ts := ts) (fun _ q => nx_le q) (fun _ q e => nx_lt q e) tk_num0).2.2.2.2.2.1.1 p o (j + 1) r h1 h2 h3 hm
    obtain ⟨b1, b2⟩ := m_Nu j (nxF tb ts p) (o + 1) hsh (by omega) (by rw [itN_s]; exact h3) (by rw [itN_s, show o + 1 + j = o + (j + 1) by omega]; exact hm) (by rw [itN_s, show o + 1 + j = o + (j + 1) by omega]; exact a)
    refine ⟨hP, ?_⟩
    obtain ⟨rb, rp, rQ⟩ := r
    cases rb with
    | true =>
      have e : cloR (true, rp, rQ) (j + 1) (-7) = (true, rp, (cloR (true, rp, rQ) j (-7)).2.2 ++ [(-7)]) := by
        rw [← clo_s]
        rfl
      rw [e]
      exact m_Ns h0 (by omega) b1 b2
    | false => exact m_Nf h0 (by omega) b1 b2
theorem m_Nx {tb : Nat → Int32} {ts : Nat} : ∀ (j p o : Nat), (∀ i, i ≤ j → tkF tb ts (itN (nxF tb ts) i p) = (-7)) → o + j = 5 → MPp ts 3 p o (false, itN (nxF tb ts) j p, []) ∧ cMM tb ts yX8_no cX8_no 2 (6 * (5 - o) + 11) p o (false, itN (nxF tb ts) j p, [])
  | 0, p, o, h1, h2 => by
    have h5 : o = 5 := by omega
    subst h5
    exact ⟨(mp_clo (tk := tkF tb ts) (nx := nxF tb ts) (ts := ts) (fun _ q => nx_le q) (fun _ q e => nx_lt q e) tk_num0).2.2.2.2.2.1.2 p 5 0 h1 rfl, m_N5 (h1 0 (Nat.le_refl _))⟩
  | j + 1, p, o, h1, h2 => by
    have hP := (mp_clo (tk := tkF tb ts) (nx := nxF tb ts) (ts := ts) (fun _ q => nx_le q) (fun _ q e => nx_lt q e) tk_num0).2.2.2.2.2.1.2 p o (j + 1) h1 h2
    obtain ⟨b1, b2⟩ := m_Nx j (nxF tb ts p) (o + 1) (fun i hi => by rw [itN_s]; exact h1 (i + 1) (by omega)) (by omega)
    rw [itN_s] at b1 b2
    exact ⟨hP, m_Nf (h1 0 (by omega)) (by omega) b1 b2⟩

theorem MB_clo {tb : Nat → Int32} {ts : Nat} : Clo (tkF tb ts) (nxF tb ts) (MB tb ts) := by
  have P := mp_clo (tk := tkF tb ts) (nx := nxF tb ts) (ts := ts) (fun _ q => nx_le q) (fun _ q e => nx_lt q e) tk_num0
  obtain ⟨⟨A1, A2, A3, A4, A5, A6⟩, ⟨O1, O2⟩, ⟨T1, T2, T3, T4, T5⟩, ⟨S1, S2, S3, S4, S5⟩, ⟨C1, C2, C3, C4⟩, ⟨N1, N2⟩, ⟨B1, B2, B3, B4, B5⟩, ⟨E1, E2, E3, E4, E5⟩⟩ := P
  refine ⟨⟨?_, ?_, ?_, ?_, ?_, ?_⟩, ⟨?_, ?_⟩, ⟨?_, ?_, ?_, ?_, ?_⟩, ⟨?_, ?_, ?_, ?_, ?_⟩, ⟨?_, ?_, ?_, ?_⟩, ⟨?_, ?_⟩, ⟨?_, ?_, ?_, ?_, ?_⟩, ⟨?_, ?_, ?_, ?_, ?_⟩⟩
  · exact fun p o h => ⟨A1 p o h, fun _ _ => m_A1 h⟩
  · exact fun p o h h0 => ⟨A2 p o h h0, fun _ _ => m_A2 h h0⟩
  · exact fun p o p1 Q h h4 a e => ⟨A3 p o p1 Q h h4 a.1 e, fun _ _ => m_A3 h h4 a e⟩
  · exact fun p o p1 Q h h4 a e => ⟨A4 p o p1 Q h h4 a.1 e, fun _ _ => m_A4 h h4 a e⟩
  · exact fun p o p1 Q h h4 a => ⟨A5 p o p1 Q h h4 a.1, fun _ _ => m_A5 h h4 a⟩
  · exact fun p o h h0 h4 => ⟨A6 p o h h0 h4, fun h5 h45 => m_A6 h h0 h4 h45 h5⟩
  · exact fun p o j r h1 h2 h3 a => ⟨O1 p o j r h1 h2 h3 a.1, fun _ => (m_Ou j p o h1 h2 h3 a.1 (a.2 h2 h3)).2⟩
  · exact fun p o j h1 h2 => ⟨O2 p o j h1 h2, fun _ => (m_Ox j p o h1 h2).2⟩
  · exact fun p o p1 Q1 r a c => ⟨T1 p o p1 Q1 r a.1 c.1, fun h5 => m_T1 h5 a c⟩
  · exact fun p o p1 Q1 a => ⟨T2 p o p1 Q1 a.1, fun h5 => m_T2 h5 a⟩
  · exact fun p o h => ⟨T3 p o h, fun _ => m_T3 h⟩
  · exact fun p o p1 Q1 r h a c => ⟨T4 p o p1 Q1 r h a.1 c.1, fun h5 => m_T4 h5 h a c⟩
  · exact fun p o p1 Q1 h a => ⟨T5 p o p1 Q1 h a.1, fun h5 => m_T5 h5 h a⟩
  · exact fun p o p1 Q1 r a c => ⟨S1 p o p1 Q1 r a.1 c.1, fun h5 => m_S1 h5 a c⟩
  · exact fun p o p1 Q1 a => ⟨S2 p o p1 Q1 a.1, fun h5 => m_S2 h5 a⟩
  · exact fun p o h => ⟨S3 p o h, fun _ => m_S3 h⟩
  · exact fun p o p1 Q1 r h a c => ⟨S4 p o p1 Q1 r h a.1 c.1, fun h5 => m_S4 h5 h a c⟩
  · exact fun p o p1 Q1 h a => ⟨S5 p o p1 Q1 h a.1, fun h5 => m_S5 h5 h a⟩
  · exact fun p o p1 Q1 a h => ⟨C1 p o p1 Q1 a.1 h, fun h5 h7 => m_C1 h5 h7 a h⟩
  · exact fun p o p1 Q1 p2 Q2 a h c => ⟨C2 p o p1 Q1 p2 Q2 a.1 h c.1, fun h5 h7 => m_C2 h5 h7 a h c⟩
  · exact fun p o p1 Q1 p2 Q2 a h c => ⟨C3 p o p1 Q1 p2 Q2 a.1 h c.1, fun h5 h7 => m_C3 h5 h7 a h c⟩
  · exact fun p o p1 Q1 a => ⟨C4 p o p1 Q1 a.1, fun h5 h7 => m_C4 h5 h7 a⟩
  · exact fun p o j r h1 h2 h3 a => ⟨N1 p o j r h1 h2 h3 a.1, fun _ => (m_Nu j p o h1 h2 h3 a.1 (a.2 h2 h3)).2⟩
  · exact fun p o j h1 h2 => ⟨N2 p o j h1 h2, fun _ => (m_Nx j p o h1 h2).2⟩
  · exact fun p o p1 Q1 r a c => ⟨B1 p o p1 Q1 r a.1 c.1, fun h5 => m_B1 h5 a c⟩
  · exact fun p o p1 Q1 a => ⟨B2 p o p1 Q1 a.1, fun h5 => m_B2 h5 a⟩
  · exact fun p o h => ⟨B3 p o h, fun _ => m_B3 h⟩
  · exact fun p o p1 Q1 r h a c => ⟨B4 p o p1 Q1 r h a.1 c.1, fun h5 => m_B4 h5 h a c⟩
  · exact fun p o p1 Q1 h a => ⟨B5 p o p1 Q1 h a.1, fun h5 => m_B5 h5 h a⟩
  · exact fun p o p1 Q1 r a c => ⟨E1 p o p1 Q1 r a.1 c.1, fun h5 => m_E1 h5 a c⟩
  · exact fun p o p1 Q1 a => ⟨E2 p o p1 Q1 a.1, fun h5 => m_E2 h5 a⟩
  · exact fun p o h => ⟨E3 p o h, fun _ => m_E3 h⟩
  · exact fun p o p1 Q1 r h a c => ⟨E4 p o p1 Q1 r h a.1 c.1, fun h5 => m_E4 h5 h a c⟩
  · exact fun p o p1 Q1 h a => ⟨E5 p o p1 Q1 h a.1, fun h5 => m_E5 h5 h a⟩

