/-! A TEXT, as the reference reads it -/
theorem cd_clo {tb : Nat → Int32} {ts : Nat} : Clo (tkF tb ts) (nxF tb ts) (fun _ _ _ r => ∀ x ∈ r.2.2, cdP x) := by
  have ch : ∀ (s k l : Nat) (sg : Int32 → Prop) (cd : Int32 → Int32), (∀ x, cdP (cd x)) → chR (tkF tb ts) (nxF tb ts) (fun _ _ _ r => ∀ x ∈ r.2.2, cdP x) s k l sg cd := by
    intro s k l sg cd hc
    refine ⟨fun p o p1 Q1 r a b x hx => ?_, fun p o p1 Q1 a => a, fun p o h x hx => absurd hx List.not_mem_nil, fun p o p2 Q2 r h a b x hx => ?_, fun p o p2 Q2 h a => a⟩
    · rcases List.mem_append.mp hx with q | q
      · exact a x q
      · exact b x q
    · rcases List.mem_append.mp hx with q | q
      · rcases List.mem_append.mp q with q | q
        · exact a x q
        · rw [List.mem_singleton.mp q]
          exact hc _
      · exact b x q
  have un : ∀ (s k : Nat) (sg cd : Int32), cdP cd → unR (tkF tb ts) (nxF tb ts) (fun _ _ _ r => ∀ x ∈ r.2.2, cdP x) s k sg cd := by
    intro s k sg cd hc
    refine ⟨fun p o j r h1 h2 h3 a x hx => ?_, fun p o j h1 h2 x hx => absurd hx List.not_mem_nil⟩
    rcases List.mem_append.mp hx with q | q
    · exact a x q
    · rw [(List.mem_replicate.mp q).2]
      exact hc
  refine ⟨⟨fun p o h x hx => ?_, fun p o h h0 x hx => ?_, fun p o p1 Q h h4 a e => a, fun p o p1 Q h h4 a e => a, fun p o p1 Q h h4 a => a, fun p o h h0 h4 x hx => absurd hx List.not_mem_nil⟩, un _ _ _ _ (by unfold cdP; decide), ch _ _ _ _ _ (fun _ => by unfold cdP; decide), ch _ _ _ _ _ (fun x => by unfold cdS; split <;> (unfold cdP; decide)), ⟨fun p o p1 Q1 a h => a, fun p o p1 Q1 p2 Q2 a h b x hx => ?_, fun p o p1 Q1 p2 Q2 a h b => b, fun p o p1 Q1 a => a⟩, un _ _ _ _ (by unfold cdP; decide), ch _ _ _ _ _ (fun _ => by unfold cdP; decide), ch _ _ _ _ _ (fun _ => by unfold cdP; decide)⟩
  · rw [List.mem_singleton.mp hx]
    obtain ⟨v, hv, e⟩ := tk_num h
    rw [e, show (1000 : Int32) = nI 1000 from rfl, pk_sub (by omega), show 1000 + v - 1000 = v by omega]
    exact ⟨Int32.le_trans (by decide) (nI_pos' (by omega)), (nI_ltI (b := 10000) (by omega) (by omega)).mpr hv⟩
  · rw [List.mem_singleton.mp hx]
    exact ⟨Int32.le_trans (by decide) h0, Int32.lt_of_le_of_lt h (by decide)⟩
  · rcases List.mem_append.mp hx with q | q
    · exact a x q
    · rcases List.mem_append.mp q with q | q
      · exact b x q
      · rw [List.mem_singleton.mp q]
        split <;> (unfold cdP; decide)
theorem prt_cd {tb : Nat → Int32} {ts p : Nat} {w : Int32} {r : RES} (h : Prt tb ts w p r) : ∀ x ∈ r.2.2, cdP x := by
  rcases h with ⟨-, rfl⟩ | ⟨-, r1, h1, ⟨-, rfl⟩ | ⟨-, -, rfl⟩ | ⟨-, -, rfl⟩⟩
  · exact fun x hx => absurd hx List.not_mem_nil
  · exact fun x hx => absurd hx List.not_mem_nil
  · exact fun x hx => absurd hx List.not_mem_nil
  · exact h1 _ cd_clo
theorem nI_all (x : Int32) : ∃ o : Nat, x = nI o := ⟨x.toBitVec.toNat, by
  unfold nI
  apply Int32.toBitVec_inj.mp
  simp⟩
def frT (m c0 ix : Nat) (I J : HI) : Prop := ∀ a k, ¬ (a = m ∧ 15 ≤ k ∧ k ≤ 21) → ¬ (a = m + 9 ∧ c0 ≤ k) → ¬ ((a = m + 7 ∨ a = m + 8) ∧ k = ix) → J a k = I a k
theorem frP.t {m c0 ix : Nat} {I J : HI} (h : frP m c0 I J) : frT m c0 ix I J := fun a k q1 q2 _ => h a k q1 q2
theorem frT.tr {m c0 ix : Nat} {I J J2 : HI} (h : frT m c0 ix I J) (h2 : frT m c0 ix J J2) : frT m c0 ix I J2 := fun a k q1 q2 q3 => (h2 a k q1 q2 q3).trans (h a k q1 q2 q3)
theorem GM.bl {tb : Nat → Int32} {ts m c0 p o : Nat} {C : List Int32} {J J2 : HI} (h : GM tb ts m c0 p o C J) (e : ∀ a k, ¬ (a = m + 7 ∨ a = m + 8) → J2 a k = J a k) : GM tb ts m c0 p o C J2 := by
  obtain ⟨⟨a1, a2, a3, a4⟩, ⟨t1, t2, t3, t4⟩, h3, ⟨h4, h5, h6, h7⟩, h8⟩ := h
  exact ⟨⟨(e _ _ (by omega)).trans a1, a2, fun j hj => (e _ _ (by omega)).trans (a3 j hj), a4⟩, ⟨(e _ _ (by omega)).trans t1, (e _ _ (by omega)).trans t2, fun z => (e _ _ (by omega)).trans (t3 z), fun z => (e _ _ (by omega)).trans (t4 z)⟩, (e _ _ (by omega)).trans h3, ⟨(e _ _ (by omega)).trans h4, h5, h6, fun j x q => (e _ _ (by omega)).trans (h7 j x q)⟩, h8⟩
def PQT (tb : Nat → Int32) (ts m c0 ix : Nat) (Sh : HS) (R : HR) (J : HI) (r : RES) (C : List Int32) : Int32 → AH → Prop := fun b g => b = (if r.1 = true then 1 else 0) ∧ ∃ J2 : HI, g = (Sh, J2, R) ∧ frT m c0 ix J J2 ∧ ((r.1 = true ∧ GM tb ts m c0 r.2.1 0 (C ++ r.2.2) J2 ∧ J2 (m + 7) ix = nI (c0 + C.length) ∧ J2 (m + 8) ix = nI r.2.2.length) ∨ (r.1 = false ∧ J2 m 20 = nI (fmF tb ts r.2.1)))
theorem mb_any {tb : Nat → Int32} {ts p : Nat} {r : RES} (h : Prs (tkF tb ts) (nxF tb ts) 5 p 0 r) : MB tb ts 5 p 0 r := h _ MB_clo

set_option maxHeartbeats 4000000 in
set_option maxRecDepth 100000 in
theorem k_partA_m {G : GG} {Sh : HS} {R : HR} {m c0 p o ts ix kx : Nat} {tb : Nat → Int32} {C : List Int32} {J : HI} (hsh : MSh Sh m) (hrf : MRf R m) (hg : GM tb ts m c0 p o C J) (hC : C.length ≤ p) (hix : ix < 18) (hk1 : 1 ≤ kx) (hk2 : kx ≤ 3) (h : ¬ tkF tb ts p = cdW kx) : AM G 44 0 0 yX8_part cX8_part 3 (some .boolean) [.ref m, .int (nI ix), .ref (gK G kx)] (Sh, J, R) (qi (PQT tb ts m c0 ix Sh R J (false, p, []) C)) := by
  obtain ⟨z0, z1, z6, z7, z8, z9, z10, z11, z12, z13, z14, z15, z16, z17⟩ := id hsh
  obtain ⟨y1, y6, y7, y8, y9, y10, y11, y12, y13, y14, y15, y16, y17⟩ := id hrf
  have hfr : frT m c0 ix J J := fun _ _ _ _ _ => rfl
  have hps := hg.2.2.2.2
  have h160 := hg.1.2.1
  have hle := nx_le (tb := tb) hps
  refine am_intro (by decide) (Nat.le_of_ble_eq_true rfl) ?_
  refine x_aload_n dX8_part_0 0 rfl rfl ?_
  refine x_aload_n dX8_part_1 2 rfl rfl ?_
  refine x_callV (k_takesWB (G := G) hsh hrf hg (i := kx) hk1 (by omega) h) dX8_part_2 crc_X8_takes_ vc_8_209 z0 rfl rfl rfl rfl (Nat.le_of_ble_eq_true rfl) (roomy_k (by omega) (by decide)) (Nat.le_refl _) (Nat.le_refl _) ?_
  rintro _ _ ⟨_, rfl, rfl, J1, rfl, e_J1⟩
  have hb2 : J1 m 20 = nI (fmF tb ts p) := by rw [e_J1, u2_same]; exact hg.2.1.1
  have hfr : frT m c0 ix J J1 := fun a k q1 q2 q3 => by rw [e_J1, u2_ne (by omega)]
  refine x_if_ne (tgt := 10) dX8_part_5 (by decide) (fun c_5 => False.elim (c_5 rfl)) (fun c_5 => ?_)
  refine x_iconst (v := 0) dX8_part_8 (by decide) ?_
  refine x_zret dX8_part_9 rfl rfl (Nat.le_refl _) (Nat.le_refl _) ?_
  exact ⟨rfl, J1, rfl, hfr, Or.inr ⟨rfl, hb2⟩⟩

set_option maxHeartbeats 4000000 in
set_option maxRecDepth 100000 in
theorem k_partB_m {G : GG} {Sh : HS} {R : HR} {m c0 p o ts ix kx : Nat} {tb : Nat → Int32} {C : List Int32} {J : HI} (hsh : MSh Sh m) (hrf : MRf R m) (hg : GM tb ts m c0 p o C J) (hC : C.length ≤ p) (hix : ix < 18) (hk1 : 1 ≤ kx) (hk2 : kx ≤ 3) (h : tkF tb ts p = cdW kx) {p1 : Nat} {Q1 : List Int32} (a : MB tb ts 5 (nxF tb ts p) 0 (false, p1, Q1)) : AM G 44 0 0 yX8_part cX8_part 3 (some .boolean) [.ref m, .int (nI ix), .ref (gK G kx)] (Sh, J, R) (qi (PQT tb ts m c0 ix Sh R J (false, p1, []) C)) := by
  obtain ⟨z0, z1, z6, z7, z8, z9, z10, z11, z12, z13, z14, z15, z16, z17⟩ := id hsh
  obtain ⟨y1, y6, y7, y8, y9, y10, y11, y12, y13, y14, y15, y16, y17⟩ := id hrf
  have hfr : frT m c0 ix J J := fun _ _ _ _ _ => rfl
  have hps := hg.2.2.2.2
  have h160 := hg.1.2.1
  have hle := nx_le (tb := tb) hps
  have hnt : ¬ endT (tkF tb ts p) := by
    rw [h]
    have hc : kx = 1 ∨ kx = 2 ∨ kx = 3 := by omega
    rcases hc with rfl | rfl | rfl <;> unfold endT <;> decide
  have hlt := nx_lt hps hnt
  refine am_intro (by decide) (Nat.le_of_ble_eq_true rfl) ?_
  refine x_aload_n dX8_part_0 0 rfl rfl ?_
  refine x_aload_n dX8_part_1 2 rfl rfl ?_
  refine x_callV (k_takesWA (G := G) hsh hrf hg (i := kx) hk1 (by omega) h hnt) dX8_part_2 crc_X8_takes_ vc_8_209 z0 rfl rfl rfl rfl (Nat.le_of_ble_eq_true rfl) (roomy_k (by omega) (by decide)) (Nat.le_refl _) (Nat.le_refl _) ?_
  rintro _ _ ⟨_, rfl, rfl, J3, rfl, fx_J3, hg4⟩
  have hfr := hfr.tr (fx_J3.fp (c0 := c0)).t
  refine x_if_ne (tgt := 10) dX8_part_5 (by decide) (fun c_5 => ?_) (fun c_5 => False.elim (absurd c_5 (by decide)))
  refine x_aload_n dX8_part_10 0 rfl rfl ?_
  refine x_gR (b := m + 7) dX8_part_11 fl_8_28 rfl z0 y7 ?_
  refine x_iload_n dX8_part_14 1 rfl rfl ?_
  refine x_aload_n dX8_part_15 0 rfl rfl ?_
  refine x_gI (v := nI (c0 + C.length)) dX8_part_16 fl_8_179 rfl z0 hg4.2.2.2.1.1 ?_
  refine x_is (j := ix) dX8_part_19 z7 rfl (by omega) (by omega) (fun Iq1 e_Iq1 => ?_)
  refine x_aload_n dX8_part_20 0 rfl rfl ?_
  refine x_iconst (v := nI 0) dX8_part_21 (by decide) ?_
  refine x_pI dX8_part_22 fl_8_185 rfl rfl rfl z0 (fun Iq2 e_Iq2 => ?_)
  have bl_Iq2 := hg4.bl (J2 := Iq1) (fun a k q => by rw [e_Iq1, u2_ne (by omega)])
  have hg5' := bl_Iq2.opn (o' := 0) e_Iq2
  have hg5 := hg5'.1
  have hb7 : Iq2 (m + 7) ix = nI (c0 + C.length) := by rw [e_Iq2, u2_ne (by omega), e_Iq1, u2_same]
  have hfr : frT m c0 ix J Iq2 := hfr.tr (fun a k q1 q2 q3 => by rw [e_Iq2, u2_ne (by omega), e_Iq1, u2_ne (by omega)])
  refine x_aload_n dX8_part_25 0 rfl rfl ?_
  refine x_callV (a.2 (by omega) G Sh R m c0 _ Iq2 hsh hrf hg5 (by omega)) dX8_part_26 crc_X8_any vc_8_191 z0 rfl rfl rfl rfl (Nat.le_of_ble_eq_true rfl) (roomy_k (by omega) (by decide)) (Nat.le_refl _) (Nat.le_refl _) ?_
  rintro _ _ ⟨b_J6, rfl, hb_J6, J6, rfl, e_J6, (⟨z9, _⟩ | ⟨_, hg7⟩)⟩
  · cases z9
  · have hb_J6 : b_J6 = 0 := hb_J6
    subst hb_J6
    have hfr := hfr.tr (frP.t (ix := ix) e_J6)
    have hg7 : J6 m 20 = nI (fmF tb ts p1) := hg7
    refine x_if_ne (tgt := 34) dX8_part_29 (by decide) (fun c_29 => False.elim (c_29 rfl)) (fun c_29 => ?_)
    refine x_iconst (v := 0) dX8_part_32 (by decide) ?_
    refine x_zret dX8_part_33 rfl rfl (Nat.le_refl _) (Nat.le_refl _) ?_
    exact ⟨rfl, J6, rfl, hfr, Or.inr ⟨rfl, hg7⟩⟩

set_option maxHeartbeats 4000000 in
set_option maxRecDepth 100000 in
theorem k_partC_m {G : GG} {Sh : HS} {R : HR} {m c0 p o ts ix kx : Nat} {tb : Nat → Int32} {C : List Int32} {J : HI} (hsh : MSh Sh m) (hrf : MRf R m) (hg : GM tb ts m c0 p o C J) (hC : C.length ≤ p) (hix : ix < 18) (hk1 : 1 ≤ kx) (hk2 : kx ≤ 3) (h : tkF tb ts p = cdW kx) {p1 : Nat} {Q1 : List Int32} (a : MB tb ts 5 (nxF tb ts p) 0 (true, p1, Q1)) (h59 : ¬ tkF tb ts p1 = 59) : AM G 44 0 0 yX8_part cX8_part 3 (some .boolean) [.ref m, .int (nI ix), .ref (gK G kx)] (Sh, J, R) (qi (PQT tb ts m c0 ix Sh R J (false, p1, []) C)) := by
  obtain ⟨z0, z1, z6, z7, z8, z9, z10, z11, z12, z13, z14, z15, z16, z17⟩ := id hsh
  obtain ⟨y1, y6, y7, y8, y9, y10, y11, y12, y13, y14, y15, y16, y17⟩ := id hrf
  have hfr : frT m c0 ix J J := fun _ _ _ _ _ => rfl
  have hps := hg.2.2.2.2
  have h160 := hg.1.2.1
  have hle := nx_le (tb := tb) hps
  have hnt : ¬ endT (tkF tb ts p) := by
    rw [h]
    have hc : kx = 1 ∨ kx = 2 ∨ kx = 3 := by omega
    rcases hc with rfl | rfl | rfl <;> unfold endT <;> decide
  have hlt := nx_lt hps hnt
  refine am_intro (by decide) (Nat.le_of_ble_eq_true rfl) ?_
  refine x_aload_n dX8_part_0 0 rfl rfl ?_
  refine x_aload_n dX8_part_1 2 rfl rfl ?_
  refine x_callV (k_takesWA (G := G) hsh hrf hg (i := kx) hk1 (by omega) h hnt) dX8_part_2 crc_X8_takes_ vc_8_209 z0 rfl rfl rfl rfl (Nat.le_of_ble_eq_true rfl) (roomy_k (by omega) (by decide)) (Nat.le_refl _) (Nat.le_refl _) ?_
  rintro _ _ ⟨_, rfl, rfl, J8, rfl, fx_J8, hg9⟩
  have hfr := hfr.tr (fx_J8.fp (c0 := c0)).t
  refine x_if_ne (tgt := 10) dX8_part_5 (by decide) (fun c_5 => ?_) (fun c_5 => False.elim (absurd c_5 (by decide)))
  refine x_aload_n dX8_part_10 0 rfl rfl ?_
  refine x_gR (b := m + 7) dX8_part_11 fl_8_28 rfl z0 y7 ?_
  refine x_iload_n dX8_part_14 1 rfl rfl ?_
  refine x_aload_n dX8_part_15 0 rfl rfl ?_
  refine x_gI (v := nI (c0 + C.length)) dX8_part_16 fl_8_179 rfl z0 hg9.2.2.2.1.1 ?_
  refine x_is (j := ix) dX8_part_19 z7 rfl (by omega) (by omega) (fun Iq1 e_Iq1 => ?_)
  refine x_aload_n dX8_part_20 0 rfl rfl ?_
  refine x_iconst (v := nI 0) dX8_part_21 (by decide) ?_
  refine x_pI dX8_part_22 fl_8_185 rfl rfl rfl z0 (fun Iq2 e_Iq2 => ?_)
  have bl_Iq2 := hg9.bl (J2 := Iq1) (fun a k q => by rw [e_Iq1, u2_ne (by omega)])
  have hg10' := bl_Iq2.opn (o' := 0) e_Iq2
  have hg10 := hg10'.1
  have hb7 : Iq2 (m + 7) ix = nI (c0 + C.length) := by rw [e_Iq2, u2_ne (by omega), e_Iq1, u2_same]
  have hfr : frT m c0 ix J Iq2 := hfr.tr (fun a k q1 q2 q3 => by rw [e_Iq2, u2_ne (by omega), e_Iq1, u2_ne (by omega)])
  refine x_aload_n dX8_part_25 0 rfl rfl ?_
  refine x_callV (a.2 (by omega) G Sh R m c0 _ Iq2 hsh hrf hg10 (by omega)) dX8_part_26 crc_X8_any vc_8_191 z0 rfl rfl rfl rfl (Nat.le_of_ble_eq_true rfl) (roomy_k (by omega) (by decide)) (Nat.le_refl _) (Nat.le_refl _) ?_
  rintro _ _ ⟨b_J11, rfl, hb_J11, J11, rfl, e_J11, (⟨_, hg12⟩ | ⟨z9, _⟩)⟩
  · have hb_J11 : b_J11 = 1 := hb_J11
    subst hb_J11
    have hfr := hfr.tr (frP.t (ix := ix) e_J11)
    have hg12 : GM tb ts m c0 p1 0 (C ++ Q1) J11 := hg12
    have hp1 : p1 ≤ ts := hg12.2.2.2.2
    have hm1 : nxF tb ts p ≤ p1 := (a.1 hle.2).1
    have hq1 : Q1.length ≤ p1 - nxF tb ts p := ((a.1 hle.2).2.2 rfl).1
    have hb7 : J11 (m + 7) ix = nI (c0 + C.length) := (e_J11 _ _ (by omega) (by omega)).trans hb7
    refine x_if_ne (tgt := 34) dX8_part_29 (by decide) (fun c_29 => ?_) (fun c_29 => False.elim (absurd c_29 (by decide)))
    refine x_aload_n dX8_part_34 0 rfl rfl ?_
    refine x_gR (b := m + 8) dX8_part_35 fl_8_31 rfl z0 y8 ?_
    refine x_iload_n dX8_part_38 1 rfl rfl ?_
    refine x_aload_n dX8_part_39 0 rfl rfl ?_
    refine x_gI (v := nI (c0 + (C ++ Q1).length)) dX8_part_40 fl_8_179 rfl z0 hg12.2.2.2.1.1 ?_
    refine x_aload_n dX8_part_43 0 rfl rfl ?_
    refine x_gR (b := m + 7) dX8_part_44 fl_8_28 rfl z0 y7 ?_
    refine x_iload_n dX8_part_47 1 rfl rfl ?_
    refine x_ia (j := ix) (v := nI (c0 + C.length)) dX8_part_48 z7 rfl (by omega) (by omega) hb7 ?_
    refine x_isub dX8_part_49 ?_
    refine x_vali (z := nI Q1.length) (by rw [pk_sub (by simp only [List.length_append]; omega)]; congr 1; simp only [List.length_append]; omega) ?_
    refine x_is (j := ix) dX8_part_50 z8 rfl (by omega) (by omega) (fun Iq3 e_Iq3 => ?_)
    refine x_aload_n dX8_part_51 0 rfl rfl ?_
    have hg13 := hg12.bl (J2 := Iq3) (fun a k q => by rw [e_Iq3, u2_ne (by omega)])
    have hb7 : Iq3 (m + 7) ix = nI (c0 + C.length) := by rw [e_Iq3, u2_ne (by omega)]; exact hb7
    have hb8 : Iq3 (m + 8) ix = nI Q1.length := by rw [e_Iq3, u2_same]
    have hfr := hfr.tr (J2 := Iq3) (fun a k q1 q2 q3 => by rw [e_Iq3, u2_ne (by omega)])
    refine x_bipush (v := 59) dX8_part_52 (by decide) ?_
    refine x_callV (k_takesB (G := G) hsh hrf hg13 (w := 59) (fun z => h59 ((mt_sg (by decide)).mp z))) dX8_part_54 crc_X8_takes vc_8_194 z0 rfl rfl rfl rfl (Nat.le_of_ble_eq_true rfl) (roomy_k (by omega) (by decide)) (Nat.le_refl _) (Nat.le_refl _) ?_
    rintro _ _ ⟨_, rfl, rfl, J14, rfl, e_J14⟩
    have hb15 : J14 m 20 = nI (fmF tb ts p1) := by rw [e_J14, u2_same]; exact hg13.2.1.1
    have hfr := hfr.tr (J2 := J14) (fun a k q1 q2 q3 => by rw [e_J14, u2_ne (by omega)])
    refine x_zret dX8_part_57 rfl rfl (Nat.le_refl _) (Nat.le_refl _) ?_
    exact ⟨rfl, J14, rfl, hfr, Or.inr ⟨rfl, hb15⟩⟩
  · cases z9

set_option maxHeartbeats 4000000 in
set_option maxRecDepth 100000 in
theorem k_partD_m {G : GG} {Sh : HS} {R : HR} {m c0 p o ts ix kx : Nat} {tb : Nat → Int32} {C : List Int32} {J : HI} (hsh : MSh Sh m) (hrf : MRf R m) (hg : GM tb ts m c0 p o C J) (hC : C.length ≤ p) (hix : ix < 18) (hk1 : 1 ≤ kx) (hk2 : kx ≤ 3) (h : tkF tb ts p = cdW kx) {p1 : Nat} {Q1 : List Int32} (a : MB tb ts 5 (nxF tb ts p) 0 (true, p1, Q1)) (h59 : tkF tb ts p1 = 59) : AM G 44 0 0 yX8_part cX8_part 3 (some .boolean) [.ref m, .int (nI ix), .ref (gK G kx)] (Sh, J, R) (qi (PQT tb ts m c0 ix Sh R J (true, nxF tb ts p1, Q1) C)) := by
  obtain ⟨z0, z1, z6, z7, z8, z9, z10, z11, z12, z13, z14, z15, z16, z17⟩ := id hsh
  obtain ⟨y1, y6, y7, y8, y9, y10, y11, y12, y13, y14, y15, y16, y17⟩ := id hrf
  have hfr : frT m c0 ix J J := fun _ _ _ _ _ => rfl
  have hps := hg.2.2.2.2
  have h160 := hg.1.2.1
  have hle := nx_le (tb := tb) hps
  have hnt : ¬ endT (tkF tb ts p) := by
    rw [h]
    have hc : kx = 1 ∨ kx = 2 ∨ kx = 3 := by omega
    rcases hc with rfl | rfl | rfl <;> unfold endT <;> decide
  have hlt := nx_lt hps hnt
  have hnt1 : ¬ endT (tkF tb ts p1) := by rw [h59]; unfold endT; decide
  refine am_intro (by decide) (Nat.le_of_ble_eq_true rfl) ?_
  refine x_aload_n dX8_part_0 0 rfl rfl ?_
  refine x_aload_n dX8_part_1 2 rfl rfl ?_
  refine x_callV (k_takesWA (G := G) hsh hrf hg (i := kx) hk1 (by omega) h hnt) dX8_part_2 crc_X8_takes_ vc_8_209 z0 rfl rfl rfl rfl (Nat.le_of_ble_eq_true rfl) (roomy_k (by omega) (by decide)) (Nat.le_refl _) (Nat.le_refl _) ?_
  rintro _ _ ⟨_, rfl, rfl, J16, rfl, fx_J16, hg17⟩
  have hfr := hfr.tr (fx_J16.fp (c0 := c0)).t
  refine x_if_ne (tgt := 10) dX8_part_5 (by decide) (fun c_5 => ?_) (fun c_5 => False.elim (absurd c_5 (by decide)))
  refine x_aload_n dX8_part_10 0 rfl rfl ?_
  refine x_gR (b := m + 7) dX8_part_11 fl_8_28 rfl z0 y7 ?_
  refine x_iload_n dX8_part_14 1 rfl rfl ?_
  refine x_aload_n dX8_part_15 0 rfl rfl ?_
  refine x_gI (v := nI (c0 + C.length)) dX8_part_16 fl_8_179 rfl z0 hg17.2.2.2.1.1 ?_
  refine x_is (j := ix) dX8_part_19 z7 rfl (by omega) (by omega) (fun Iq1 e_Iq1 => ?_)
  refine x_aload_n dX8_part_20 0 rfl rfl ?_
  refine x_iconst (v := nI 0) dX8_part_21 (by decide) ?_
  refine x_pI dX8_part_22 fl_8_185 rfl rfl rfl z0 (fun Iq2 e_Iq2 => ?_)
  have bl_Iq2 := hg17.bl (J2 := Iq1) (fun a k q => by rw [e_Iq1, u2_ne (by omega)])
  have hg18' := bl_Iq2.opn (o' := 0) e_Iq2
  have hg18 := hg18'.1
  have hb7 : Iq2 (m + 7) ix = nI (c0 + C.length) := by rw [e_Iq2, u2_ne (by omega), e_Iq1, u2_same]
  have hfr : frT m c0 ix J Iq2 := hfr.tr (fun a k q1 q2 q3 => by rw [e_Iq2, u2_ne (by omega), e_Iq1, u2_ne (by omega)])
  refine x_aload_n dX8_part_25 0 rfl rfl ?_
  refine x_callV (a.2 (by omega) G Sh R m c0 _ Iq2 hsh hrf hg18 (by omega)) dX8_part_26 crc_X8_any vc_8_191 z0 rfl rfl rfl rfl (Nat.le_of_ble_eq_true rfl) (roomy_k (by omega) (by decide)) (Nat.le_refl _) (Nat.le_refl _) ?_
  rintro _ _ ⟨b_J19, rfl, hb_J19, J19, rfl, e_J19, (⟨_, hg20⟩ | ⟨z9, _⟩)⟩
  · have hb_J19 : b_J19 = 1 := hb_J19
    subst hb_J19
    have hfr := hfr.tr (frP.t (ix := ix) e_J19)
    have hg20 : GM tb ts m c0 p1 0 (C ++ Q1) J19 := hg20
    have hp1 : p1 ≤ ts := hg20.2.2.2.2
    have hm1 : nxF tb ts p ≤ p1 := (a.1 hle.2).1
    have hq1 : Q1.length ≤ p1 - nxF tb ts p := ((a.1 hle.2).2.2 rfl).1
    have hb7 : J19 (m + 7) ix = nI (c0 + C.length) := (e_J19 _ _ (by omega) (by omega)).trans hb7
    refine x_if_ne (tgt := 34) dX8_part_29 (by decide) (fun c_29 => ?_) (fun c_29 => False.elim (absurd c_29 (by decide)))
    refine x_aload_n dX8_part_34 0 rfl rfl ?_
    refine x_gR (b := m + 8) dX8_part_35 fl_8_31 rfl z0 y8 ?_
    refine x_iload_n dX8_part_38 1 rfl rfl ?_
    refine x_aload_n dX8_part_39 0 rfl rfl ?_
    refine x_gI (v := nI (c0 + (C ++ Q1).length)) dX8_part_40 fl_8_179 rfl z0 hg20.2.2.2.1.1 ?_
    refine x_aload_n dX8_part_43 0 rfl rfl ?_
    refine x_gR (b := m + 7) dX8_part_44 fl_8_28 rfl z0 y7 ?_
    refine x_iload_n dX8_part_47 1 rfl rfl ?_
    refine x_ia (j := ix) (v := nI (c0 + C.length)) dX8_part_48 z7 rfl (by omega) (by omega) hb7 ?_
    refine x_isub dX8_part_49 ?_
    refine x_vali (z := nI Q1.length) (by rw [pk_sub (by simp only [List.length_append]; omega)]; congr 1; simp only [List.length_append]; omega) ?_
    refine x_is (j := ix) dX8_part_50 z8 rfl (by omega) (by omega) (fun Iq3 e_Iq3 => ?_)
    refine x_aload_n dX8_part_51 0 rfl rfl ?_
    have hg21 := hg20.bl (J2 := Iq3) (fun a k q => by rw [e_Iq3, u2_ne (by omega)])
    have hb7 : Iq3 (m + 7) ix = nI (c0 + C.length) := by rw [e_Iq3, u2_ne (by omega)]; exact hb7
    have hb8 : Iq3 (m + 8) ix = nI Q1.length := by rw [e_Iq3, u2_same]
    have hfr := hfr.tr (J2 := Iq3) (fun a k q1 q2 q3 => by rw [e_Iq3, u2_ne (by omega)])
    refine x_bipush (v := 59) dX8_part_52 (by decide) ?_
    refine x_callV (k_takesA (G := G) hsh hrf hg21 (w := 59) ((mt_sg (by decide)).mpr h59) hnt1) dX8_part_54 crc_X8_takes vc_8_194 z0 rfl rfl rfl rfl (Nat.le_of_ble_eq_true rfl) (roomy_k (by omega) (by decide)) (Nat.le_refl _) (Nat.le_refl _) ?_
    rintro _ _ ⟨_, rfl, rfl, J22, rfl, fx_J22, hg23⟩
    have hfr := hfr.tr (fx_J22.fp (c0 := c0)).t
    have hb7 := (fx_J22 _ _ (by omega)).trans hb7
    have hb8 := (fx_J22 _ _ (by omega)).trans hb8
    refine x_zret dX8_part_57 rfl rfl (Nat.le_refl _) (Nat.le_refl _) ?_
    exact ⟨rfl, J22, rfl, hfr, Or.inl ⟨rfl, hg23, hb7, hb8⟩⟩
  · cases z9

theorem k_mpart {G : GG} {Sh : HS} {R : HR} {m c0 p o ts ix kx : Nat} {tb : Nat → Int32} {C : List Int32} {J : HI} (hsh : MSh Sh m) (hrf : MRf R m) (hg : GM tb ts m c0 p o C J) (hC : C.length ≤ p) (hix : ix < 18) (hk1 : 1 ≤ kx) (hk2 : kx ≤ 3) {r : RES} (h : Prt tb ts (cdW kx) p r) : AM G 44 0 0 yX8_part cX8_part 3 (some .boolean) [.ref m, .int (nI ix), .ref (gK G kx)] (Sh, J, R) (qi (PQT tb ts m c0 ix Sh R J r C)) := by
  rcases h with ⟨h1, rfl⟩ | ⟨h1, ⟨b1, p1, Q1⟩, h2, h3⟩
  · exact k_partA_m hsh hrf hg hC hix hk1 hk2 h1
  · have a := mb_any h2
    rcases h3 with ⟨h3, rfl⟩ | ⟨h3, h4, rfl⟩ | ⟨h3, h4, rfl⟩
    · have h3 : b1 = false := h3
      subst h3
      exact k_partB_m hsh hrf hg hC hix hk1 hk2 h1 a
    · have h3 : b1 = true := h3
      subst h3
      exact k_partC_m hsh hrf hg hC hix hk1 hk2 h1 a h4
    · have h3 : b1 = true := h3
      subst h3
      exact k_partD_m hsh hrf hg hC hix hk1 hk2 h1 a h4

