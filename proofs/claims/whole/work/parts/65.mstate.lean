/-! THE REFERENCE'S STATE -/
def MTp (m : Nat) (I : HI) (σ : SG) : Prop := I m 9 = nI (gTs σ) ∧ gTs σ ≤ 160 ∧ ∀ j, j < gTs σ → I (m + 6) j = gTb σ j
def MIm (m : Nat) (I : HI) (σ : SG) : Prop := match gIm σ with
  | none => I m 29 = 0
  | some x => I m 29 = 1 ∧ I m 30 = nI x.1 ∧ x.1 ≤ 8 ∧ (∀ i, i < x.1 → I (m + 14) i = x.2.1.1 i 1 ∧ I (m + 14) (8 + i) = x.2.1.1 i 2 ∧ I (m + 14) (16 + i) = x.2.1.1 i 3 ∧ I (m + 14) (24 + i) = x.2.1.1 i 4) ∧ I (m + 14) 32 = x.2.1.2.1 ∧ I (m + 14) 33 = x.2.1.2.2 ∧ I (m + 14) 34 = nI x.2.2 ∧ x.2.2 < gTc σ
def MSe (m : Nat) (I : HI) (σ : SG) : Prop := ∀ s, s < 4 → I (m + 15) s = gSo σ s ∧ I (m + 16) s = nI (gSz σ s) ∧ gSz σ s ≤ 40 ∧ ∀ j, j < 40 → I (m + 17) (40 * s + j) = gRo σ s j
def MTs (m : Nat) (I : HI) (σ : SG) : Prop := ∃ c, I m 15 = nI c ∧ c ≤ 160 * gTc σ ∧ ∀ t, t < gTc σ → MTx m I t (gPP σ t) c
def MI (m : Nat) (Sh : HS) (I : HI) (R : HR) (σ : SG) : Prop := MSh Sh m ∧ MRf R m ∧ (I m 2 = nI (gN σ) ∧ gN σ ≤ 8) ∧ MS I m (gN σ) (gW σ) ∧ (I m 8 = nI (gRu σ) ∧ gRu σ < gTc σ) ∧ (I m 11 = nI (gTc σ) ∧ gTc σ ≤ 6) ∧ MTs m I σ ∧ MTp m I σ ∧ MIm m I σ ∧ MSe m I σ
/-- what every number is -/
def WV (n : Nat) (v : SV) : Prop := WF n v ∧ (∃ a, a < 10 ∧ v.2.1 = nI a) ∧ ∃ a, a < 1000 ∧ v.2.2 = nI a
def WI (σ : SG) : Prop := WV (gN σ) (gW σ) ∧ (∀ j, j < gTs σ → ∃ a, a < 256 ∧ gTb σ j = nI a) ∧ (∀ x, gIm σ = some x → x.1 ≤ gN σ ∧ WV x.1 x.2.1 ∧ ∀ i, i < x.1 → x.2.1.1 i 0 = (gW σ).1 i 0) ∧ ∀ s, s < 4 → (gSo σ s = -1 ∧ gSz σ s = 0) ∨ gSo σ s = 0 ∨ gSo σ s = 1 ∨ gSo σ s = 2
theorem WI.nb {σ : SG} (h : WI σ) : NB (gN σ) (gW σ) := fun i hi => (h.1.1 i hi).2.1
theorem MI.mw {m : Nat} {Sh : HS} {I : HI} {R : HR} {σ : SG} (h : MI m Sh I R σ) : MW Sh I R m (gN σ) (gRu σ) (gP σ) := by
  obtain ⟨h1, h2, h3, h4, h5, h6, ⟨c, h7, h8, h9⟩, hA⟩ := h
  exact ⟨h1, h2, h3.1, h3.2, h5.1, by omega, c, by omega, h9 _ h5.2⟩
theorem MI.pv {m : Nat} {Sh : HS} {I J : HI} {R : HR} {σ : SG} (h : MI m Sh I R σ) (e : pvM m I J) : MI m Sh J R σ := by
  have q : ∀ a k, ¬ (a = m + 10 ∨ a = m + 11 ∨ a = m + 12 ∨ a = m + 13 ∨ (a = m ∧ ((16 ≤ k ∧ k ≤ 21) ∨ k = 24 ∨ k = 25 ∨ k = 27))) → J a k = I a k := e
  obtain ⟨h1, h2, h3, h4, h5, h6, ⟨c, h7, h8, h9⟩, hA, hB, hC⟩ := h
  refine ⟨h1, h2, ⟨(q _ _ (by omega)).trans h3.1, h3.2⟩, h4.pv e, ⟨(q _ _ (by omega)).trans h5.1, h5.2⟩, ⟨(q _ _ (by omega)).trans h6.1, h6.2⟩, ⟨c, (q _ _ (by omega)).trans h7, h8, fun t ht => (h9 t ht).same (fun a k z1 z2 => q a k (by omega))⟩, ⟨(q _ _ (by omega)).trans hA.1, hA.2.1, fun j hj => (q _ _ (by omega)).trans (hA.2.2 j hj)⟩, ?_, fun s hs => ⟨(q _ _ (by omega)).trans (hC s hs).1, (q _ _ (by omega)).trans (hC s hs).2.1, (hC s hs).2.2.1, fun j hj => (q _ _ (by omega)).trans ((hC s hs).2.2.2 j hj)⟩⟩
  unfold MIm at *
  cases hi : gIm σ with
  | none =>
    rw [hi] at hB
    exact (q _ _ (by omega)).trans hB
  | some x =>
    rw [hi] at hB
    obtain ⟨b1, b2, b3, b4, b5, b6, b7, b8⟩ := hB
    exact ⟨(q _ _ (by omega)).trans b1, (q _ _ (by omega)).trans b2, b3, fun i hi => ⟨(q _ _ (by omega)).trans (b4 i hi).1, (q _ _ (by omega)).trans (b4 i hi).2.1, (q _ _ (by omega)).trans (b4 i hi).2.2.1, (q _ _ (by omega)).trans (b4 i hi).2.2.2⟩, (q _ _ (by omega)).trans b5, (q _ _ (by omega)).trans b6, (q _ _ (by omega)).trans b7, b8⟩

set_option maxHeartbeats 4000000 in
set_option maxRecDepth 100000 in
theorem k_mget {G : GG} {Sh : HS} {I : HI} {R : HR} {m : Nat} {σ : SG} (hm0 : MI m Sh I R σ) (hw0 : WI σ) {of w : Int32} (hof : w = 0 ∨ w = 1 ∨ ∃ i, i < gN σ ∧ of = nI i) (hw : 0 ≤ w ∧ w ≤ 9) : AM G 4 0 0 yX8_get cX8_get 3 (some .int) [.ref m, .int of, .int w] (Sh, I, R) (qi (qryM m Sh I R (toldF σ of w))) := by
  obtain ⟨hsh, hrf, ⟨hn, hn8⟩, hs, ⟨hru, hrt⟩, ⟨htc, htc6⟩, hmt, hmp, him, hse⟩ := id hm0
  have hmw := hm0.mw
  have hnb := hw0.nb
  obtain ⟨z0, z1, z6, z7, z8, z9, z10, z11, z12, z13, z14, z15, z16, z17⟩ := id hsh
  obtain ⟨y1, y6, y7, y8, y9, y10, y11, y12, y13, y14, y15, y16, y17⟩ := id hrf
  refine am_intro (by decide) (Nat.le_of_ble_eq_true rfl) ?_
  refine x_iload_n dX8_get_0 2 rfl rfl ?_
  refine x_tsw [(0, 52), (1, 57), (2, 62), (3, 69), (4, 76), (5, 83), (6, 90), (7, 97), (8, 103)] 109 dX8_get_1 (by decide) (by decide +kernel) (fun c_1 => ?_) ?_
  · have d_1 : ¬ w = 0 ∧ ¬ w = 1 ∧ ¬ w = 2 ∧ ¬ w = 3 ∧ ¬ w = 4 ∧ ¬ w = 5 ∧ ¬ w = 6 ∧ ¬ w = 7 ∧ ¬ w = 8 := ⟨fun q => c_1 (0, 52) (by simp) (q.trans (by decide)), fun q => c_1 (1, 57) (by simp) (q.trans (by decide)), fun q => c_1 (2, 62) (by simp) (q.trans (by decide)), fun q => c_1 (3, 69) (by simp) (q.trans (by decide)), fun q => c_1 (4, 76) (by simp) (q.trans (by decide)), fun q => c_1 (5, 83) (by simp) (q.trans (by decide)), fun q => c_1 (6, 90) (by simp) (q.trans (by decide)), fun q => c_1 (7, 97) (by simp) (q.trans (by decide)), fun q => c_1 (8, 103) (by simp) (q.trans (by decide))⟩
    have hw9 : w = 9 := by
      obtain ⟨j, hj, e⟩ := nI_of2 (M := 9) (n := 9) (by decide) (Int32.not_lt.mpr hw.1) hw.2
      obtain ⟨q0, q1, q2, q3, q4, q5, q6, q7, q8⟩ := d_1
      rw [e] at q0 q1 q2 q3 q4 q5 q6 q7 q8 ⊢
      have : j = 0 ∨ j = 1 ∨ j = 2 ∨ j = 3 ∨ j = 4 ∨ j = 5 ∨ j = 6 ∨ j = 7 ∨ j = 8 ∨ j = 9 := by omega
      rcases this with rfl | rfl | rfl | rfl | rfl | rfl | rfl | rfl | rfl | rfl
      · exact absurd rfl q0
      · exact absurd rfl q1
      · exact absurd rfl q2
      · exact absurd rfl q3
      · exact absurd rfl q4
      · exact absurd rfl q5
      · exact absurd rfl q6
      · exact absurd rfl q7
      · exact absurd rfl q8
      · rfl
    obtain ⟨i, hi, hoe⟩ : ∃ i, i < gN σ ∧ of = nI i := by
      rcases hof with z | z | z
      · exact absurd z d_1.1
      · exact absurd z d_1.2.1
      · exact z
    subst hoe
    refine x_aload_n dX8_get_109 0 rfl rfl ?_
    refine x_iload_n dX8_get_110 1 rfl rfl ?_
    refine x_callV (k_mshelter (G := G) (I := I) hmw (f := i) (by omega)) dX8_get_111 crc_X8_shelter vc_8_99 z0 rfl rfl rfl rfl (Nat.le_of_ble_eq_true rfl) (roomy_k (by omega) (by decide)) (Nat.le_refl _) (Nat.le_refl _) ?_
    rintro _ _ ⟨r, rfl, hr, rfl⟩
    have hr : r = shelF (gW σ).1 ((gW σ).1 i 2) (gN σ) := by
      rw [hr]
      exact shelF_ext (fun o ho k hk => hs.1 o ho k hk) (hs.1 i hi 2 (by omega))
    refine x_iret dX8_get_114 rfl (Nat.le_refl _) (Nat.le_refl _) ?_
    refine ⟨?_, I, rfl, pvM.rf⟩
    unfold toldF
    rw [if_neg d_1.1, if_neg d_1.2.1, idF_in hi hn8]
    show r = ite _ _ _
    rw [if_neg d_1.2.2.1, if_neg d_1.2.2.2.1, if_neg d_1.2.2.2.2.1, if_neg d_1.2.2.2.2.2.1, if_neg d_1.2.2.2.2.2.2.1, if_neg d_1.2.2.2.2.2.2.2.1, if_neg d_1.2.2.2.2.2.2.2.2, if_pos hw9]
    exact hr
  · refine List.forall_mem_cons.mpr ⟨fun c_1 => ?_, List.forall_mem_cons.mpr ⟨fun c_1 => ?_, List.forall_mem_cons.mpr ⟨fun c_1 => ?_, List.forall_mem_cons.mpr ⟨fun c_1 => ?_, List.forall_mem_cons.mpr ⟨fun c_1 => ?_, List.forall_mem_cons.mpr ⟨fun c_1 => ?_, List.forall_mem_cons.mpr ⟨fun c_1 => ?_, List.forall_mem_cons.mpr ⟨fun c_1 => ?_, List.forall_mem_cons.mpr ⟨fun c_1 => ?_, fun _ h9 => absurd h9 List.not_mem_nil⟩⟩⟩⟩⟩⟩⟩⟩⟩
    · have c_1 : w = 0 := c_1.trans (by decide)
      refine x_aload_n dX8_get_52 0 rfl rfl ?_
      refine x_gI (v := (gW σ).2.1) dX8_get_53 fl_8_86 rfl z0 hs.2.1 ?_
      refine x_iret dX8_get_56 rfl (Nat.le_refl _) (Nat.le_refl _) ?_
      refine ⟨?_, I, rfl, pvM.rf⟩
      unfold toldF
      subst c_1
      rfl
    · have c_1 : w = 1 := c_1.trans (by decide)
      refine x_aload_n dX8_get_57 0 rfl rfl ?_
      refine x_gI (v := (gW σ).2.2) dX8_get_58 fl_8_89 rfl z0 hs.2.2 ?_
      refine x_iret dX8_get_61 rfl (Nat.le_refl _) (Nat.le_refl _) ?_
      refine ⟨?_, I, rfl, pvM.rf⟩
      unfold toldF
      subst c_1
      rfl
    · have c_1 : w = 2 := c_1.trans (by decide)
      obtain ⟨i, hi, hoe⟩ : ∃ i, i < gN σ ∧ of = nI i := by
        rcases hof with z | z | z
        · exact absurd (z.symm.trans c_1) (by decide)
        · exact absurd (z.symm.trans c_1) (by decide)
        · exact z
      subst hoe
      refine x_aload_n dX8_get_62 0 rfl rfl ?_
      refine x_gR (b := m + 1 + 1) dX8_get_63 fl_8_13 rfl z0 (y1 1 (by omega)) ?_
      refine x_iload_n dX8_get_66 1 rfl rfl ?_
      refine x_ia (j := i) (v := (gW σ).1 i 1) dX8_get_67 (z1 1 (by omega)) rfl (by omega) (by omega) (hs.1 i hi 1 (by omega)) ?_
      refine x_iret dX8_get_68 rfl (Nat.le_refl _) (Nat.le_refl _) ?_
      refine ⟨?_, I, rfl, pvM.rf⟩
      unfold toldF
      rw [if_neg (by rw [c_1]; decide), if_neg (by rw [c_1]; decide), idF_in hi hn8]
      subst c_1
      rfl
    · have c_1 : w = 3 := c_1.trans (by decide)
      obtain ⟨i, hi, hoe⟩ : ∃ i, i < gN σ ∧ of = nI i := by
        rcases hof with z | z | z
        · exact absurd (z.symm.trans c_1) (by decide)
        · exact absurd (z.symm.trans c_1) (by decide)
        · exact z
      subst hoe
      refine x_aload_n dX8_get_69 0 rfl rfl ?_
      refine x_gR (b := m + 1 + 2) dX8_get_70 fl_8_16 rfl z0 (y1 2 (by omega)) ?_
      refine x_iload_n dX8_get_73 1 rfl rfl ?_
      refine x_ia (j := i) (v := (gW σ).1 i 2) dX8_get_74 (z1 2 (by omega)) rfl (by omega) (by omega) (hs.1 i hi 2 (by omega)) ?_
      refine x_iret dX8_get_75 rfl (Nat.le_refl _) (Nat.le_refl _) ?_
      refine ⟨?_, I, rfl, pvM.rf⟩
      unfold toldF
      rw [if_neg (by rw [c_1]; decide), if_neg (by rw [c_1]; decide), idF_in hi hn8]
      subst c_1
      rfl
    · have c_1 : w = 4 := c_1.trans (by decide)
      obtain ⟨i, hi, hoe⟩ : ∃ i, i < gN σ ∧ of = nI i := by
        rcases hof with z | z | z
        · exact absurd (z.symm.trans c_1) (by decide)
        · exact absurd (z.symm.trans c_1) (by decide)
        · exact z
      subst hoe
      refine x_aload_n dX8_get_76 0 rfl rfl ?_
      refine x_gR (b := m + 1 + 3) dX8_get_77 fl_8_19 rfl z0 (y1 3 (by omega)) ?_
      refine x_iload_n dX8_get_80 1 rfl rfl ?_
      refine x_ia (j := i) (v := (gW σ).1 i 3) dX8_get_81 (z1 3 (by omega)) rfl (by omega) (by omega) (hs.1 i hi 3 (by omega)) ?_
      refine x_iret dX8_get_82 rfl (Nat.le_refl _) (Nat.le_refl _) ?_
      refine ⟨?_, I, rfl, pvM.rf⟩
      unfold toldF
      rw [if_neg (by rw [c_1]; decide), if_neg (by rw [c_1]; decide), idF_in hi hn8]
      subst c_1
      rfl
    · have c_1 : w = 5 := c_1.trans (by decide)
      obtain ⟨i, hi, hoe⟩ : ∃ i, i < gN σ ∧ of = nI i := by
        rcases hof with z | z | z
        · exact absurd (z.symm.trans c_1) (by decide)
        · exact absurd (z.symm.trans c_1) (by decide)
        · exact z
      subst hoe
      refine x_aload_n dX8_get_83 0 rfl rfl ?_
      refine x_gR (b := m + 1 + 4) dX8_get_84 fl_8_22 rfl z0 (y1 4 (by omega)) ?_
      refine x_iload_n dX8_get_87 1 rfl rfl ?_
      refine x_ia (j := i) (v := (gW σ).1 i 4) dX8_get_88 (z1 4 (by omega)) rfl (by omega) (by omega) (hs.1 i hi 4 (by omega)) ?_
      refine x_iret dX8_get_89 rfl (Nat.le_refl _) (Nat.le_refl _) ?_
      refine ⟨?_, I, rfl, pvM.rf⟩
      unfold toldF
      rw [if_neg (by rw [c_1]; decide), if_neg (by rw [c_1]; decide), idF_in hi hn8]
      subst c_1
      rfl
    · have c_1 : w = 6 := c_1.trans (by decide)
      obtain ⟨i, hi, hoe⟩ : ∃ i, i < gN σ ∧ of = nI i := by
        rcases hof with z | z | z
        · exact absurd (z.symm.trans c_1) (by decide)
        · exact absurd (z.symm.trans c_1) (by decide)
        · exact z
      subst hoe
      refine x_aload_n dX8_get_90 0 rfl rfl ?_
      refine x_gR (b := m + 1 + 0) dX8_get_91 fl_8_7 rfl z0 (y1 0 (by omega)) ?_
      refine x_iload_n dX8_get_94 1 rfl rfl ?_
      refine x_ia (j := i) (v := (gW σ).1 i 0) dX8_get_95 (z1 0 (by omega)) rfl (by omega) (by omega) (hs.1 i hi 0 (by omega)) ?_
      refine x_iret dX8_get_96 rfl (Nat.le_refl _) (Nat.le_refl _) ?_
      refine ⟨?_, I, rfl, pvM.rf⟩
      unfold toldF
      rw [if_neg (by rw [c_1]; decide), if_neg (by rw [c_1]; decide), idF_in hi hn8]
      subst c_1
      rfl
    · have c_1 : w = 7 := c_1.trans (by decide)
      obtain ⟨i, hi, hoe⟩ : ∃ i, i < gN σ ∧ of = nI i := by
        rcases hof with z | z | z
        · exact absurd (z.symm.trans c_1) (by decide)
        · exact absurd (z.symm.trans c_1) (by decide)
        · exact z
      subst hoe
      refine x_aload_n dX8_get_97 0 rfl rfl ?_
      refine x_iload_n dX8_get_98 1 rfl rfl ?_
      refine x_callV (k_mloses (G := G) (I := I) hmw hs hnb (f := i) hi) dX8_get_99 crc_X8_loses vc_8_92 z0 rfl rfl rfl rfl (Nat.le_of_ble_eq_true rfl) (roomy_k (by omega) (by decide)) (Nat.le_refl _) (Nat.le_refl _) ?_
      rintro _ _ ⟨r, rfl, hr, I2, hoff, rfl⟩
      refine x_iret dX8_get_102 rfl (Nat.le_refl _) (Nat.le_refl _) ?_
      refine ⟨?_, I2, rfl, hoff.pv⟩
      unfold toldF
      rw [if_neg (by rw [c_1]; decide), if_neg (by rw [c_1]; decide), idF_in hi hn8]
      subst c_1
      exact hr
    · have c_1 : w = 8 := c_1.trans (by decide)
      obtain ⟨i, hi, hoe⟩ : ∃ i, i < gN σ ∧ of = nI i := by
        rcases hof with z | z | z
        · exact absurd (z.symm.trans c_1) (by decide)
        · exact absurd (z.symm.trans c_1) (by decide)
        · exact z
      subst hoe
      refine x_aload_n dX8_get_103 0 rfl rfl ?_
      refine x_iload_n dX8_get_104 1 rfl rfl ?_
      refine x_callV (k_mrises (G := G) (I := I) hmw hs (f := i) hi) dX8_get_105 crc_X8_rises vc_8_96 z0 rfl rfl rfl rfl (Nat.le_of_ble_eq_true rfl) (roomy_k (by omega) (by decide)) (Nat.le_refl _) (Nat.le_refl _) ?_
      rintro _ _ ⟨r, rfl, hr, I2, hoff, rfl⟩
      refine x_iret dX8_get_108 rfl (Nat.le_refl _) (Nat.le_refl _) ?_
      refine ⟨?_, I2, rfl, hoff.pv⟩
      unfold toldF
      rw [if_neg (by rw [c_1]; decide), if_neg (by rw [c_1]; decide), idF_in hi hn8]
      subst c_1
      exact hr

theorem told_out {σ : SG} {of w : Int32} (h : ¬ (0 ≤ w ∧ w ≤ 9)) : toldF σ of w = -2 := by
  have e : ∀ k : Int32, (0 ≤ k ∧ k ≤ 9) → ¬ w = k := fun k hk z => h (by rw [z]; exact hk)
  unfold toldF
  rw [if_neg (e 0 (by decide)), if_neg (e 1 (by decide))]
  cases idF (gN σ) of with
  | none => rfl
  | some i =>
    show ite _ _ _ = _
    rw [if_neg (e 2 (by decide)), if_neg (e 3 (by decide)), if_neg (e 4 (by decide)), if_neg (e 5 (by decide)), if_neg (e 6 (by decide)), if_neg (e 7 (by decide)), if_neg (e 8 (by decide)), if_neg (e 9 (by decide))]
theorem lt2_01 {w : Int32} (h0 : 0 ≤ w) (h : w < 2) : w = 0 ∨ w = 1 := by
  rw [Int32.le_iff_toInt_le] at h0
  rw [Int32.lt_iff_toInt_lt] at h
  have e0 : (0 : Int32).toInt = 0 := by decide
  have e2 : (2 : Int32).toInt = 2 := by decide
  have hc : w.toInt = 0 ∨ w.toInt = 1 := by omega
  rcases hc with q | q
  · exact Or.inl (Int32.toInt_inj.mp (by rw [q]; decide))
  · exact Or.inr (Int32.toInt_inj.mp (by rw [q]; decide))

set_option maxHeartbeats 4000000 in
set_option maxRecDepth 100000 in
theorem k_mtold {G : GG} {Sh : HS} {I : HI} {R : HR} {m : Nat} {σ : SG} (hm0 : MI m Sh I R σ) (hw0 : WI σ) {of w : Int32} : AM G 5 0 0 yX8_told cX8_told 3 (some .int) [.ref m, .int of, .int w] (Sh, I, R) (qi (qryM m Sh I R (toldF σ of w))) := by
  obtain ⟨hsh, hrf, ⟨hn, hn8⟩, hs, ⟨hru, hrt⟩, ⟨htc, htc6⟩, hmt, hmp, him, hse⟩ := id hm0
  have hmw := hm0.mw
  have hnb := hw0.nb
  obtain ⟨z0, z1, z6, z7, z8, z9, z10, z11, z12, z13, z14, z15, z16, z17⟩ := id hsh
  obtain ⟨y1, y6, y7, y8, y9, y10, y11, y12, y13, y14, y15, y16, y17⟩ := id hrf
  refine am_intro (by decide) (Nat.le_of_ble_eq_true rfl) ?_
  refine x_iload_n dX8_told_0 2 rfl rfl ?_
  refine x_iconst (v := 0) dX8_told_1 (by decide) ?_
  refine x_bipush (v := 9) dX8_told_2 (by decide) ?_
  refine x_callS (rest := []) (k_mwithin (G := G) (Sh := Sh) (I := I) (R := R) (v := w) (lo := 0) (hi := 9)) dX8_told_4 crc_X8_within sc_8_82 rfl rfl (Nat.le_of_ble_eq_true rfl) (roomy_k (by omega) (by decide)) (Nat.le_refl _) (Nat.le_refl _) ?_
  rintro _ _ ⟨rw, rfl, hrw, rfl⟩
  subst hrw
  refine x_if_eqB (tgt := 32) dX8_told_7 (by decide) (fun c_7 => ?_) (fun c_7 => ?_)
  · refine x_bipush (v := (-2)) dX8_told_32 (by decide) ?_
    refine x_iret dX8_told_34 rfl (Nat.le_refl _) (Nat.le_refl _) ?_
    refine ⟨?_, I, rfl, pvM.rf⟩
    exact (told_out c_7).symm
  · refine x_iload_n dX8_told_10 2 rfl rfl ?_
    refine x_iconst (v := 2) dX8_told_11 (by decide) ?_
    refine x_icmp_lt (tgt := 23) dX8_told_12 (by decide) (fun c_12 => ?_) (fun c_12 => ?_)
    · refine x_aload_n dX8_told_23 0 rfl rfl ?_
      refine x_iload_n dX8_told_24 1 rfl rfl ?_
      refine x_iload_n dX8_told_25 2 rfl rfl ?_
      refine x_callV (k_mget (G := G) hm0 hw0 (of := of) (w := w) (by
        rcases lt2_01 c_7.1 (Int32.not_le.mp (fun z => absurd z (Int32.not_le.mpr c_12))) with z | z
        · exact Or.inl z
        · exact Or.inr (Or.inl z)) c_7) dX8_told_26 crc_X8_get vc_8_109 z0 rfl rfl rfl rfl (Nat.le_of_ble_eq_true rfl) (roomy_k (by omega) (by decide)) (Nat.le_refl _) (Nat.le_refl _) ?_
      rintro _ _ ⟨r, rfl, hr, J9, rfl, hp9⟩
      refine x_goto (tgt := 34) dX8_told_29 (by decide) ?_
      refine x_iret dX8_told_34 rfl (Nat.le_refl _) (Nat.le_refl _) ?_
      exact ⟨hr, J9, rfl, hp9⟩
    · refine x_aload_n dX8_told_15 0 rfl rfl ?_
      refine x_iload_n dX8_told_16 1 rfl rfl ?_
      refine x_callV (k_misFort (G := G) (Sh := Sh) (I := I) (R := R) hsh hn hn8 (f := of)) dX8_told_17 crc_X8_isFort vc_8_102 z0 rfl rfl rfl rfl (Nat.le_of_ble_eq_true rfl) (roomy_k (by omega) (by decide)) (Nat.le_refl _) (Nat.le_refl _) ?_
      rintro _ _ ⟨ri, rfl, hri, rfl⟩
      subst hri
      refine x_if_eqB (tgt := 32) dX8_told_20 (by decide) (fun c_20 => ?_) (fun c_20 => ?_)
      · refine x_bipush (v := (-2)) dX8_told_32 (by decide) ?_
        refine x_iret dX8_told_34 rfl (Nat.le_refl _) (Nat.le_refl _) ?_
        refine ⟨?_, I, rfl, pvM.rf⟩
        unfold toldF
        rw [if_neg (fun z => c_12 (by rw [z]; decide)), if_neg (fun z => c_12 (by rw [z]; decide)), Option.not_isSome_iff_eq_none.mp c_20]
      · refine x_aload_n dX8_told_23 0 rfl rfl ?_
        refine x_iload_n dX8_told_24 1 rfl rfl ?_
        refine x_iload_n dX8_told_25 2 rfl rfl ?_
        refine x_callV (k_mget (G := G) hm0 hw0 (of := of) (w := w) (by
          obtain ⟨i, hid⟩ := Option.isSome_iff_exists.mp c_20
          obtain ⟨hi, hie⟩ := idF_some hn8 hid
          exact Or.inr (Or.inr ⟨i, hi, hie⟩)) c_7) dX8_told_26 crc_X8_get vc_8_109 z0 rfl rfl rfl rfl (Nat.le_of_ble_eq_true rfl) (roomy_k (by omega) (by decide)) (Nat.le_refl _) (Nat.le_refl _) ?_
        rintro _ _ ⟨r, rfl, hr, J9, rfl, hp9⟩
        refine x_goto (tgt := 34) dX8_told_29 (by decide) ?_
        refine x_iret dX8_told_34 rfl (Nat.le_refl _) (Nat.le_refl _) ?_
        exact ⟨hr, J9, rfl, hp9⟩

set_option maxHeartbeats 4000000 in
set_option maxRecDepth 100000 in
theorem k_mcount {G : GG} {Sh : HS} {I : HI} {R : HR} {m : Nat} {σ : SG} (hm0 : MI m Sh I R σ) (hw0 : WI σ) {w : Int32} : AM G 3 0 0 yX8_count cX8_count 2 (some .int) [.ref m, .int w] (Sh, I, R) (qi (qryM m Sh I R (countF σ w))) := by
  obtain ⟨hsh, hrf, ⟨hn, hn8⟩, hs, ⟨hru, hrt⟩, ⟨htc, htc6⟩, hmt, hmp, him, hse⟩ := id hm0
  have hmw := hm0.mw
  have hnb := hw0.nb
  obtain ⟨z0, z1, z6, z7, z8, z9, z10, z11, z12, z13, z14, z15, z16, z17⟩ := id hsh
  obtain ⟨y1, y6, y7, y8, y9, y10, y11, y12, y13, y14, y15, y16, y17⟩ := id hrf
  refine am_intro (by decide) (Nat.le_of_ble_eq_true rfl) ?_
  refine x_iload_n dX8_count_0 1 rfl rfl ?_
  refine x_tsw [(0, 40), (1, 45), (2, 53), (3, 58), (4, 63), (5, 68)] 73 dX8_count_1 (by decide) (by decide +kernel) (fun c_1 => ?_) ?_
  · have d_1 : ¬ w = 0 ∧ ¬ w = 1 ∧ ¬ w = 2 ∧ ¬ w = 3 ∧ ¬ w = 4 ∧ ¬ w = 5 := ⟨fun q => c_1 (0, 40) (by simp) (q.trans (by decide)), fun q => c_1 (1, 45) (by simp) (q.trans (by decide)), fun q => c_1 (2, 53) (by simp) (q.trans (by decide)), fun q => c_1 (3, 58) (by simp) (q.trans (by decide)), fun q => c_1 (4, 63) (by simp) (q.trans (by decide)), fun q => c_1 (5, 68) (by simp) (q.trans (by decide))⟩
    refine x_bipush (v := (-2)) dX8_count_73 (by decide) ?_
    refine x_iret dX8_count_75 rfl (Nat.le_refl _) (Nat.le_refl _) ?_
    refine ⟨?_, I, rfl, pvM.rf⟩
    unfold countF
    rw [if_neg d_1.1, if_neg d_1.2.1, if_neg d_1.2.2.1, if_neg d_1.2.2.2.1, if_neg d_1.2.2.2.2.1, if_neg d_1.2.2.2.2.2]
  · refine List.forall_mem_cons.mpr ⟨fun c_1 => ?_, List.forall_mem_cons.mpr ⟨fun c_1 => ?_, List.forall_mem_cons.mpr ⟨fun c_1 => ?_, List.forall_mem_cons.mpr ⟨fun c_1 => ?_, List.forall_mem_cons.mpr ⟨fun c_1 => ?_, List.forall_mem_cons.mpr ⟨fun c_1 => ?_, fun _ h9 => absurd h9 List.not_mem_nil⟩⟩⟩⟩⟩⟩
    · have c_1 : w = 0 := c_1.trans (by decide)
      refine x_aload_n dX8_count_40 0 rfl rfl ?_
      refine x_gI (v := nI (gN σ)) dX8_count_41 fl_8_79 rfl z0 hn ?_
      refine x_iret dX8_count_44 rfl (Nat.le_refl _) (Nat.le_refl _) ?_
      refine ⟨?_, I, rfl, pvM.rf⟩
      unfold countF
      subst c_1
      rfl
    · have c_1 : w = 1 := c_1.trans (by decide)
      refine x_aload_n dX8_count_45 0 rfl rfl ?_
      refine x_callV (k_mstanding (G := G) hmw hs) dX8_count_46 crc_X8_standing vc_8_239 z0 rfl rfl rfl rfl (Nat.le_of_ble_eq_true rfl) (roomy_k (by omega) (by decide)) (Nat.le_refl _) (Nat.le_refl _) ?_
      rintro _ _ ⟨r9, rfl, hr9, rfl⟩
      refine x_callS (rest := []) (k_bitCount (G := G) (Sh := Sh) (I := I) (R := R) (x := r9)) dX8_count_49 crc_J6_bitCount_0f7a4 sc_8_319 rfl rfl (Nat.le_of_ble_eq_true rfl) (roomy_k (by omega) (by decide)) (Nat.le_refl _) (Nat.le_refl _) ?_
      rintro _ _ ⟨rb, rfl, hrb, rfl⟩
      refine x_iret dX8_count_52 rfl (Nat.le_refl _) (Nat.le_refl _) ?_
      refine ⟨?_, I, rfl, pvM.rf⟩
      unfold countF
      subst c_1
      rw [hrb, hr9]
      rfl
    · have c_1 : w = 2 := c_1.trans (by decide)
      refine x_aload_n dX8_count_53 0 rfl rfl ?_
      refine x_gI (v := (gW σ).2.2) dX8_count_54 fl_8_89 rfl z0 hs.2.2 ?_
      refine x_iret dX8_count_57 rfl (Nat.le_refl _) (Nat.le_refl _) ?_
      refine ⟨?_, I, rfl, pvM.rf⟩
      unfold countF
      subst c_1
      rfl
    · have c_1 : w = 3 := c_1.trans (by decide)
      refine x_aload_n dX8_count_58 0 rfl rfl ?_
      refine x_gI (v := nI (gTc σ)) dX8_count_59 fl_8_211 rfl z0 htc ?_
      refine x_iret dX8_count_62 rfl (Nat.le_refl _) (Nat.le_refl _) ?_
      refine ⟨?_, I, rfl, pvM.rf⟩
      unfold countF
      subst c_1
      rfl
    · have c_1 : w = 4 := c_1.trans (by decide)
      refine x_aload_n dX8_count_63 0 rfl rfl ?_
      refine x_gI (v := nI (gTs σ)) dX8_count_64 fl_8_72 rfl z0 hmp.1 ?_
      refine x_iret dX8_count_67 rfl (Nat.le_refl _) (Nat.le_refl _) ?_
      refine ⟨?_, I, rfl, pvM.rf⟩
      unfold countF
      subst c_1
      rfl
    · have c_1 : w = 5 := c_1.trans (by decide)
      refine x_aload_n dX8_count_68 0 rfl rfl ?_
      refine x_gI (v := nI (gRu σ)) dX8_count_69 fl_8_218 rfl z0 hru ?_
      refine x_iret dX8_count_72 rfl (Nat.le_refl _) (Nat.le_refl _) ?_
      refine ⟨?_, I, rfl, pvM.rf⟩
      unfold countF
      subst c_1
      rfl

theorem kd6 {x : Int32} (h : ∃ a, a < 6 ∧ x = nI a) : x = 0 ∨ x = 1 ∨ x = 2 ∨ x = 3 ∨ x = 4 ∨ x = 5 := by
  obtain ⟨a, ha, rfl⟩ := h
  have : a = 0 ∨ a = 1 ∨ a = 2 ∨ a = 3 ∨ a = 4 ∨ a = 5 := by omega
  rcases this with rfl | rfl | rfl | rfl | rfl | rfl <;> decide
def nxU (u : Int32) : Int32 := if u = 3 then 1 else if u = 4 then 2 else 0
/-- up the chain, so many steps at most, until k or the top -/
def upG (k : Int32) : Nat → Int32 → Int32
  | 0, u => u
  | c + 1, u => if u = k then u else if u ≤ 0 then u else upG k c (nxU u)
theorem up_go {k u : Int32} {c : Nat} (h : ¬ u = k) (h2 : ¬ u ≤ 0) : upG k (c + 1) u = upG k c (nxU u) := by
  conv => lhs; unfold upG
  rw [if_neg h, if_neg h2]
theorem up_un {k u : Int32} (hu : u = 0 ∨ u = 1 ∨ u = 2 ∨ u = 3 ∨ u = 4 ∨ u = 5) (hk : 0 ≤ k ∧ k ≤ 5) : (upG k 4 u = k ↔ underF k u) ∧ (upG k 4 u = k ∨ upG k 4 u ≤ 0) := by
  obtain ⟨a, ha, rfl⟩ := nI_of2 (M := 5) (n := 5) (by decide) (Int32.not_lt.mpr hk.1) hk.2
  have : a = 0 ∨ a = 1 ∨ a = 2 ∨ a = 3 ∨ a = 4 ∨ a = 5 := by omega
  rcases this with rfl | rfl | rfl | rfl | rfl | rfl <;> rcases hu with rfl | rfl | rfl | rfl | rfl | rfl <;> (unfold underF; decide)

theorem le5 {x : Int32} (h : x < 6) : x ≤ 5 := by
  rw [Int32.lt_iff_toInt_lt] at h
  rw [Int32.le_iff_toInt_le]
  have e6 : (6 : Int32).toInt = 6 := by decide
  have e5 : (5 : Int32).toInt = 5 := by decide
  omega

set_option maxHeartbeats 4000000 in
set_option maxRecDepth 100000 in
theorem k_mtaken_l {G : GG} {Sh : HS} {I : HI} {R : HR} {m : Nat} {σ : SG} (hm0 : MI m Sh I R σ) (hw0 : WI σ) {k : Int32} {i : Nat} (hi : i < gN σ) (hk : 0 ≤ k ∧ k ≤ 5) : ∀ (m9 : Nat) (u : Int32), (upG k m9 u = upG k 4 ((gW σ).1 i 0)) → X G (kM G 3 0 0 (qi (qryM m Sh I R (takenF σ (nI i) k)))) yX8_taken cX8_taken 4 (some .int) 0 0 30 [(3, .int u), (0, .ref m), (1, .int (nI i)), (2, .int k)] [] (Sh, I, R) := by
  intro m9
  induction m9 with
  | zero =>
    intro u hup
    obtain ⟨hsh, hrf, ⟨hn, hn8⟩, hs, ⟨hru, hrt⟩, ⟨htc, htc6⟩, hmt, hmp, him, hse⟩ := id hm0
    have hmw := hm0.mw
    have hnb := hw0.nb
    obtain ⟨z0, z1, z6, z7, z8, z9, z10, z11, z12, z13, z14, z15, z16, z17⟩ := id hsh
    obtain ⟨y1, y6, y7, y8, y9, y10, y11, y12, y13, y14, y15, y16, y17⟩ := id hrf
    have hz2 := (up_un (kd6 (hw0.1.1 i hi).1) hk (k := k)).2
    rw [← hup] at hz2
    have hz2 : u = k ∨ u ≤ 0 := hz2
    refine x_iload_n dX8_taken_30 0 rfl rfl ?_
    refine x_iload_n dX8_taken_31 3 rfl rfl ?_
    refine x_icmp_eq (tgt := 62) dX8_taken_32 (by decide) (fun c_32 => ?_) (fun c_32 => ?_)
    · refine x_iload_n dX8_taken_62 0 rfl rfl ?_
      refine x_iload_n dX8_taken_63 3 rfl rfl ?_
      refine x_icmp_ne (tgt := 76) dX8_taken_64 (by decide) (fun c_64 => ?_) (fun c_64 => ?_)
      · refine x_bipush (v := (-13)) dX8_taken_76 (by decide) ?_
        refine x_iret dX8_taken_78 rfl (Nat.le_refl _) (Nat.le_refl _) ?_
        have hu : upG k 4 ((gW σ).1 i 0) = u := by
          rw [← hup]
          rfl
        have hun := up_un (kd6 (hw0.1.1 i hi).1) hk (k := k)
        rw [hu] at hun
        refine ⟨?_, I, rfl, pvM.rf⟩
        unfold takenF
        rw [if_pos ⟨Int32.not_lt.mpr hk.1, fun z => absurd (Int32.le_trans z hk.2) (by decide)⟩, idF_in hi hn8]
        dsimp only
        rw [if_neg (fun z => c_64 (hun.1.mpr z))]
      · refine x_aload_n dX8_taken_67 1 rfl rfl ?_
        refine x_gR (b := m + 1 + 1) dX8_taken_68 fl_8_13 rfl z0 (y1 1 (by omega)) ?_
        refine x_iload_n dX8_taken_71 2 rfl rfl ?_
        refine x_ia (j := i) (v := (gW σ).1 i 1) dX8_taken_72 (z1 1 (by omega)) rfl (by omega) (by omega) (hs.1 i hi 1 (by omega)) ?_
        refine x_goto (tgt := 78) dX8_taken_73 (by decide) ?_
        refine x_iret dX8_taken_78 rfl (Nat.le_refl _) (Nat.le_refl _) ?_
        have hu : upG k 4 ((gW σ).1 i 0) = u := by
          rw [← hup]
          rfl
        have hun := up_un (kd6 (hw0.1.1 i hi).1) hk (k := k)
        rw [hu] at hun
        refine ⟨?_, I, rfl, pvM.rf⟩
        unfold takenF
        rw [if_pos ⟨Int32.not_lt.mpr hk.1, fun z => absurd (Int32.le_trans z hk.2) (by decide)⟩, idF_in hi hn8]
        dsimp only
        rw [if_pos (hun.1.mp c_64)]
    · refine x_iload_n dX8_taken_35 0 rfl rfl ?_
      refine x_if_le (tgt := 62) dX8_taken_36 (by decide) (fun c_36 => ?_) (fun c_36 => False.elim (hz2.elim (fun z => c_32 z) (fun z => c_36 z)))
      refine x_iload_n dX8_taken_62 0 rfl rfl ?_
      refine x_iload_n dX8_taken_63 3 rfl rfl ?_
      refine x_icmp_ne (tgt := 76) dX8_taken_64 (by decide) (fun c_64 => ?_) (fun c_64 => ?_)
      · refine x_bipush (v := (-13)) dX8_taken_76 (by decide) ?_
        refine x_iret dX8_taken_78 rfl (Nat.le_refl _) (Nat.le_refl _) ?_
        have hu : upG k 4 ((gW σ).1 i 0) = u := by
          rw [← hup]
          rfl
        have hun := up_un (kd6 (hw0.1.1 i hi).1) hk (k := k)
        rw [hu] at hun
        refine ⟨?_, I, rfl, pvM.rf⟩
        unfold takenF
        rw [if_pos ⟨Int32.not_lt.mpr hk.1, fun z => absurd (Int32.le_trans z hk.2) (by decide)⟩, idF_in hi hn8]
        dsimp only
        rw [if_neg (fun z => c_64 (hun.1.mpr z))]
      · refine x_aload_n dX8_taken_67 1 rfl rfl ?_
        refine x_gR (b := m + 1 + 1) dX8_taken_68 fl_8_13 rfl z0 (y1 1 (by omega)) ?_
        refine x_iload_n dX8_taken_71 2 rfl rfl ?_
        refine x_ia (j := i) (v := (gW σ).1 i 1) dX8_taken_72 (z1 1 (by omega)) rfl (by omega) (by omega) (hs.1 i hi 1 (by omega)) ?_
        refine x_goto (tgt := 78) dX8_taken_73 (by decide) ?_
        refine x_iret dX8_taken_78 rfl (Nat.le_refl _) (Nat.le_refl _) ?_
        have hu : upG k 4 ((gW σ).1 i 0) = u := by
          rw [← hup]
          rfl
        have hun := up_un (kd6 (hw0.1.1 i hi).1) hk (k := k)
        rw [hu] at hun
        refine ⟨?_, I, rfl, pvM.rf⟩
        unfold takenF
        rw [if_pos ⟨Int32.not_lt.mpr hk.1, fun z => absurd (Int32.le_trans z hk.2) (by decide)⟩, idF_in hi hn8]
        dsimp only
        rw [if_pos (hun.1.mp c_64)]
  | succ m9 ih =>
    intro u hup
    obtain ⟨hsh, hrf, ⟨hn, hn8⟩, hs, ⟨hru, hrt⟩, ⟨htc, htc6⟩, hmt, hmp, him, hse⟩ := id hm0
    have hmw := hm0.mw
    have hnb := hw0.nb
    obtain ⟨z0, z1, z6, z7, z8, z9, z10, z11, z12, z13, z14, z15, z16, z17⟩ := id hsh
    obtain ⟨y1, y6, y7, y8, y9, y10, y11, y12, y13, y14, y15, y16, y17⟩ := id hrf
    refine x_iload_n dX8_taken_30 0 rfl rfl ?_
    refine x_iload_n dX8_taken_31 3 rfl rfl ?_
    refine x_icmp_eq (tgt := 62) dX8_taken_32 (by decide) (fun c_32 => ?_) (fun c_32 => ?_)
    · refine x_iload_n dX8_taken_62 0 rfl rfl ?_
      refine x_iload_n dX8_taken_63 3 rfl rfl ?_
      refine x_icmp_ne (tgt := 76) dX8_taken_64 (by decide) (fun c_64 => ?_) (fun c_64 => ?_)
      · refine x_bipush (v := (-13)) dX8_taken_76 (by decide) ?_
        refine x_iret dX8_taken_78 rfl (Nat.le_refl _) (Nat.le_refl _) ?_
        have hu : upG k 4 ((gW σ).1 i 0) = u := by
          rw [← hup]
          unfold upG; rw [if_pos c_32]
        have hun := up_un (kd6 (hw0.1.1 i hi).1) hk (k := k)
        rw [hu] at hun
        refine ⟨?_, I, rfl, pvM.rf⟩
        unfold takenF
        rw [if_pos ⟨Int32.not_lt.mpr hk.1, fun z => absurd (Int32.le_trans z hk.2) (by decide)⟩, idF_in hi hn8]
        dsimp only
        rw [if_neg (fun z => c_64 (hun.1.mpr z))]
      · refine x_aload_n dX8_taken_67 1 rfl rfl ?_
        refine x_gR (b := m + 1 + 1) dX8_taken_68 fl_8_13 rfl z0 (y1 1 (by omega)) ?_
        refine x_iload_n dX8_taken_71 2 rfl rfl ?_
        refine x_ia (j := i) (v := (gW σ).1 i 1) dX8_taken_72 (z1 1 (by omega)) rfl (by omega) (by omega) (hs.1 i hi 1 (by omega)) ?_
        refine x_goto (tgt := 78) dX8_taken_73 (by decide) ?_
        refine x_iret dX8_taken_78 rfl (Nat.le_refl _) (Nat.le_refl _) ?_
        have hu : upG k 4 ((gW σ).1 i 0) = u := by
          rw [← hup]
          unfold upG; rw [if_pos c_32]
        have hun := up_un (kd6 (hw0.1.1 i hi).1) hk (k := k)
        rw [hu] at hun
        refine ⟨?_, I, rfl, pvM.rf⟩
        unfold takenF
        rw [if_pos ⟨Int32.not_lt.mpr hk.1, fun z => absurd (Int32.le_trans z hk.2) (by decide)⟩, idF_in hi hn8]
        dsimp only
        rw [if_pos (hun.1.mp c_64)]
    · refine x_iload_n dX8_taken_35 0 rfl rfl ?_
      refine x_if_le (tgt := 62) dX8_taken_36 (by decide) (fun c_36 => ?_) (fun c_36 => ?_)
      · refine x_iload_n dX8_taken_62 0 rfl rfl ?_
        refine x_iload_n dX8_taken_63 3 rfl rfl ?_
        refine x_icmp_ne (tgt := 76) dX8_taken_64 (by decide) (fun c_64 => ?_) (fun c_64 => ?_)
        · refine x_bipush (v := (-13)) dX8_taken_76 (by decide) ?_
          refine x_iret dX8_taken_78 rfl (Nat.le_refl _) (Nat.le_refl _) ?_
          have hu : upG k 4 ((gW σ).1 i 0) = u := by
            rw [← hup]
            unfold upG; rw [if_neg c_32, if_pos c_36]
          have hun := up_un (kd6 (hw0.1.1 i hi).1) hk (k := k)
          rw [hu] at hun
          refine ⟨?_, I, rfl, pvM.rf⟩
          unfold takenF
          rw [if_pos ⟨Int32.not_lt.mpr hk.1, fun z => absurd (Int32.le_trans z hk.2) (by decide)⟩, idF_in hi hn8]
          dsimp only
          rw [if_neg (fun z => c_64 (hun.1.mpr z))]
        · refine x_aload_n dX8_taken_67 1 rfl rfl ?_
          refine x_gR (b := m + 1 + 1) dX8_taken_68 fl_8_13 rfl z0 (y1 1 (by omega)) ?_
          refine x_iload_n dX8_taken_71 2 rfl rfl ?_
          refine x_ia (j := i) (v := (gW σ).1 i 1) dX8_taken_72 (z1 1 (by omega)) rfl (by omega) (by omega) (hs.1 i hi 1 (by omega)) ?_
          refine x_goto (tgt := 78) dX8_taken_73 (by decide) ?_
          refine x_iret dX8_taken_78 rfl (Nat.le_refl _) (Nat.le_refl _) ?_
          have hu : upG k 4 ((gW σ).1 i 0) = u := by
            rw [← hup]
            unfold upG; rw [if_neg c_32, if_pos c_36]
          have hun := up_un (kd6 (hw0.1.1 i hi).1) hk (k := k)
          rw [hu] at hun
          refine ⟨?_, I, rfl, pvM.rf⟩
          unfold takenF
          rw [if_pos ⟨Int32.not_lt.mpr hk.1, fun z => absurd (Int32.le_trans z hk.2) (by decide)⟩, idF_in hi hn8]
          dsimp only
          rw [if_pos (hun.1.mp c_64)]
      · refine x_iload_n dX8_taken_39 0 rfl rfl ?_
        refine x_iconst (v := 3) dX8_taken_40 (by decide) ?_
        refine x_icmp_ne (tgt := 48) dX8_taken_41 (by decide) (fun c_41 => ?_) (fun c_41 => ?_)
        · refine x_iload_n dX8_taken_48 0 rfl rfl ?_
          refine x_iconst (v := 4) dX8_taken_49 (by decide) ?_
          refine x_icmp_ne (tgt := 57) dX8_taken_50 (by decide) (fun c_50 => ?_) (fun c_50 => ?_)
          · refine x_iconst (v := 0) dX8_taken_57 (by decide) ?_
            refine x_istore_n (lv' := [(3, .int 0), (0, .ref m), (1, .int (nI i)), (2, .int k)]) dX8_taken_58 rfl (by decide) rfl ?_
            refine x_goto (tgt := 30) dX8_taken_59 (by decide) ?_
            refine x_sub [0, 1, 2, 3] rfl ?_
            exact ih 0 (by
              rw [← hup, up_go c_32 c_36]
              unfold nxU
              rw [if_neg c_41, if_neg c_50])
          · refine x_iconst (v := 2) dX8_taken_53 (by decide) ?_
            refine x_goto (tgt := 58) dX8_taken_54 (by decide) ?_
            refine x_istore_n (lv' := [(3, .int 2), (0, .ref m), (1, .int (nI i)), (2, .int k)]) dX8_taken_58 rfl (by decide) rfl ?_
            refine x_goto (tgt := 30) dX8_taken_59 (by decide) ?_
            refine x_sub [0, 1, 2, 3] rfl ?_
            exact ih 2 (by
              rw [← hup, up_go c_32 c_36]
              unfold nxU
              rw [if_neg c_41, if_pos c_50])
        · refine x_iconst (v := 1) dX8_taken_44 (by decide) ?_
          refine x_goto (tgt := 58) dX8_taken_45 (by decide) ?_
          refine x_istore_n (lv' := [(3, .int 1), (0, .ref m), (1, .int (nI i)), (2, .int k)]) dX8_taken_58 rfl (by decide) rfl ?_
          refine x_goto (tgt := 30) dX8_taken_59 (by decide) ?_
          refine x_sub [0, 1, 2, 3] rfl ?_
          exact ih 1 (by
            rw [← hup, up_go c_32 c_36]
            unfold nxU
            rw [if_pos c_41])

set_option maxHeartbeats 4000000 in
set_option maxRecDepth 100000 in
theorem k_mtaken {G : GG} {Sh : HS} {I : HI} {R : HR} {m : Nat} {σ : SG} (hm0 : MI m Sh I R σ) (hw0 : WI σ) {of k : Int32} : AM G 3 0 0 yX8_taken cX8_taken 4 (some .int) [.ref m, .int of, .int k] (Sh, I, R) (qi (qryM m Sh I R (takenF σ of k))) := by
  obtain ⟨hsh, hrf, ⟨hn, hn8⟩, hs, ⟨hru, hrt⟩, ⟨htc, htc6⟩, hmt, hmp, him, hse⟩ := id hm0
  have hmw := hm0.mw
  have hnb := hw0.nb
  obtain ⟨z0, z1, z6, z7, z8, z9, z10, z11, z12, z13, z14, z15, z16, z17⟩ := id hsh
  obtain ⟨y1, y6, y7, y8, y9, y10, y11, y12, y13, y14, y15, y16, y17⟩ := id hrf
  refine am_intro (by decide) (Nat.le_of_ble_eq_true rfl) ?_
  refine x_iload_n dX8_taken_0 2 rfl rfl ?_
  refine x_iconst (v := 0) dX8_taken_1 (by decide) ?_
  refine x_iconst (v := 5) dX8_taken_2 (by decide) ?_
  refine x_callS (rest := []) (k_mwithin (G := G) (Sh := Sh) (I := I) (R := R) (v := k) (lo := 0) (hi := 5)) dX8_taken_3 crc_X8_within sc_8_82 rfl rfl (Nat.le_of_ble_eq_true rfl) (roomy_k (by omega) (by decide)) (Nat.le_refl _) (Nat.le_refl _) ?_
  rintro _ _ ⟨rw, rfl, hrw, rfl⟩
  subst hrw
  refine x_if_neB (tgt := 12) dX8_taken_6 (by decide) (fun c_6 => ?_) (fun c_6 => ?_)
  · refine x_aload_n dX8_taken_12 0 rfl rfl ?_
    refine x_iload_n dX8_taken_13 1 rfl rfl ?_
    refine x_callV (k_misFort (G := G) (Sh := Sh) (I := I) (R := R) hsh hn hn8 (f := of)) dX8_taken_14 crc_X8_isFort vc_8_102 z0 rfl rfl rfl rfl (Nat.le_of_ble_eq_true rfl) (roomy_k (by omega) (by decide)) (Nat.le_refl _) (Nat.le_refl _) ?_
    rintro _ _ ⟨ri, rfl, hri, rfl⟩
    subst hri
    refine x_if_neB (tgt := 23) dX8_taken_17 (by decide) (fun c_17 => ?_) (fun c_17 => ?_)
    · obtain ⟨i, hid_i⟩ := Option.isSome_iff_exists.mp c_17
      obtain ⟨hi_i, hie_i⟩ := idF_some hn8 hid_i
      subst hie_i
      have hi := hi_i
      refine x_aload_n dX8_taken_23 0 rfl rfl ?_
      refine x_gR (b := m + 1 + 0) dX8_taken_24 fl_8_7 rfl z0 (y1 0 (by omega)) ?_
      refine x_iload_n dX8_taken_27 1 rfl rfl ?_
      refine x_ia (j := i) (v := (gW σ).1 i 0) dX8_taken_28 (z1 0 (by omega)) rfl (by omega) (by omega) (hs.1 i hi 0 (by omega)) ?_
      refine x_topi (fun xq1 e_xq1 => ?_)
      refine x_istore_n (lv' := [(3, .int xq1), (0, .ref m), (1, .int (nI i)), (2, .int k)]) dX8_taken_29 rfl (by decide) rfl ?_
      refine x_sub [0, 1, 2, 3] rfl ?_
      exact k_mtaken_l hm0 hw0 hi c_6 4 _ (by rw [e_xq1])
    · refine x_bipush (v := (-11)) dX8_taken_20 (by decide) ?_
      refine x_iret dX8_taken_22 rfl (Nat.le_refl _) (Nat.le_refl _) ?_
      refine ⟨?_, I, rfl, pvM.rf⟩
      unfold takenF
      rw [if_pos ⟨Int32.not_lt.mpr c_6.1, fun z => absurd (Int32.le_trans z c_6.2) (by decide)⟩, Option.not_isSome_iff_eq_none.mp c_17]
  · refine x_bipush (v := (-2)) dX8_taken_9 (by decide) ?_
    refine x_iret dX8_taken_11 rfl (Nat.le_refl _) (Nat.le_refl _) ?_
    refine ⟨?_, I, rfl, pvM.rf⟩
    unfold takenF
    rw [if_neg (fun z => c_6 ⟨Int32.not_lt.mp z.1, le5 (Int32.not_le.mp z.2)⟩)]

