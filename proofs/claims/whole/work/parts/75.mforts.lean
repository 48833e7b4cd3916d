theorem cmp_lt {x z : Int64} : lg_cmp x z < 0 ↔ x < z := by
  unfold lg_cmp
  split
  · rename_i h
    refine ⟨fun q => absurd q (by decide), fun q => ?_⟩
    have h : z < x := h
    rw [Int64.lt_iff_toInt_lt] at h q
    omega
  · rename_i h
    have h : ¬ z < x := h
    split
    · rename_i e
      refine ⟨fun q => absurd q (by decide), fun q => ?_⟩
      rw [e, Int64.lt_iff_toInt_lt] at q
      omega
    · rename_i e
      refine ⟨fun _ => ?_, fun _ => by decide⟩
      rw [Int64.lt_iff_toInt_lt] at h ⊢
      have : ¬ x.toInt = z.toInt := fun y => e (Int64.toInt_inj.mp y)
      omega
theorem fo_lg {fr : Int32} {q : Nat} (hq : q ≤ 8) : (fr.toInt64 + 3 * (nI q).toInt64).toInt = fr.toInt + 3 * q ∧ (fr.toInt64 + 3 * (nI q).toInt64 + 2).toInt = fr.toInt + 3 * q + 2 := by
  have h1 := Int32.le_toInt fr
  have h2 := Int32.toInt_lt fr
  have e3 : (3 : Int64).toInt = 3 := by decide
  have e2 : (2 : Int64).toInt = 2 := by decide
  have hm : (3 * (nI q).toInt64).toInt = 3 * q := by
    rw [Int64.toInt_mul, e3, Int32.toInt_toInt64, nI_toInt (by omega)]
    exact Int.bmod_eq_of_le (by omega) (by omega)
  have ha : (fr.toInt64 + 3 * (nI q).toInt64).toInt = fr.toInt + 3 * q := by
    rw [Int64.toInt_add, hm, Int32.toInt_toInt64]
    exact Int.bmod_eq_of_le (by omega) (by omega)
  refine ⟨ha, ?_⟩
  rw [Int64.toInt_add, ha, e2]
  exact Int.bmod_eq_of_le (by omega) (by omega)
theorem fo_sp {fr at_ : Int32} {q sz : Nat} (hq : q ≤ 8) (hs : sz ≤ 40) (hat : at_.toInt = fr.toInt + 3 * q) : spP sz at_ 3 ↔ ¬ lg_cmp (fr.toInt64 + 3 * (nI q).toInt64) 0 < 0 ∧ lg_cmp (fr.toInt64 + 3 * (nI q).toInt64 + 2) (nI sz).toInt64 < 0 := by
  obtain ⟨h1, h2⟩ := fo_lg (fr := fr) hq
  have e0 : (0 : Int64).toInt = 0 := by decide
  have f0 : (0 : Int32).toInt = 0 := by decide
  have f3 : (3 : Int32).toInt = 3 := by decide
  have fs : (nI sz - 3).toInt = sz - 3 := by
    rw [Int32.toInt_sub, nI_toInt (by omega), f3]
    exact Int.bmod_eq_of_le (by omega) (by omega)
  unfold spP
  rw [cmp_lt, cmp_lt, Int64.lt_iff_toInt_lt, Int64.lt_iff_toInt_lt, h1, h2, e0, Int32.toInt_toInt64, nI_toInt (by omega)]
  simp only [Int32.le_iff_toInt_le, f0, f3, fs, hat]
  omega
theorem fo_at {fr at_ : Int32} {q sz : Nat} (hq : q ≤ 8) (hs : sz ≤ 40) (hat : at_.toInt = fr.toInt + 3 * q) (h : spP sz at_ 3) : ∃ a, a + 3 ≤ sz ∧ at_ = nI a ∧ (fr.toInt64 + 3 * (nI q).toInt64).toInt32 = nI a := by
  obtain ⟨a, c, e1, e2, h3⟩ := sp_nat h hs
  have e2 := (nI_eq (a := 3) (b := c) (by omega) (by omega)).mp e2
  refine ⟨a, by omega, e1, ?_⟩
  have hl : fr.toInt64 + 3 * (nI q).toInt64 = lN a := by
    apply Int64.toInt_inj.mp
    rw [(fo_lg hq).1, ← hat, e1, nI_toInt (by omega), lN_toInt (by omega)]
  rw [hl]
  exact lN_i a

set_option maxHeartbeats 4000000 in
set_option maxRecDepth 100000 in
theorem k_mforts_l {G : GG} {Sh : HS} {I : HI} {R : HR} {m : Nat} {σ : SG} (hm0 : MI m Sh I R σ) (hw0 : WI σ) {t n0 : Nat} (ht : t < 4) (hn0 : n0 ≤ 8) {so fr : Int32} : ∀ (m9 : Nat) (q : Nat) (at_ came : Int32) (J : HI) (σ2 : SG), (q ≤ n0) → (n0 < q + m9) → (at_.toInt = fr.toInt + 3 * q) → (fortsL t (n0 - q) at_ came σ2 = fortsL t n0 fr 0 σ) → (MI m Sh J R σ2) → (WI σ2) → (FrM m I J) → X G (kM G 3 0 0 (qi (updM m Sh I R (fortsL t n0 fr 0 σ).1 (fortsL t n0 fr 0 σ).2))) yX8_forts cX8_forts 10 (some .int) 0 0 61 [(6, .int (nI q)), (5, .int came), (0, .ref m), (1, .int (nI t)), (2, .int so), (3, .int fr), (4, .int (nI n0))] [] (Sh, J, R) := by
  intro m9
  induction m9 with
  | zero =>
    intro q at_ came J σ2 hq hm hat hv hm2 hw2 hf
    exact absurd hm (by omega)
  | succ m9 ih =>
    intro q at_ came J σ2 hq hm hat hv hm2 hw2 hf
    obtain ⟨hsh, hrf, ⟨hn, hn8⟩, hs, ⟨hru, hrt⟩, ⟨htc, htc6⟩, hmt, hmp, him, hse⟩ := id hm0
    have hmw := hm0.mw
    have hnb := hw0.nb
    obtain ⟨z0, z1, z6, z7, z8, z9, z10, z11, z12, z13, z14, z15, z16, z17⟩ := id hsh
    obtain ⟨y1, y6, y7, y8, y9, y10, y11, y12, y13, y14, y15, y16, y17⟩ := id hrf
    have hse9 := hm2.2.2.2.2.2.2.2.2.2 t ht
    have hsz := hse9.2.2.1
    refine x_iload dX8_forts_61 0 rfl ?_
    refine x_iload dX8_forts_63 6 rfl ?_
    refine x_icmp_ge (tgt := 158) dX8_forts_65 (by decide) (fun c_65 => ?_) (fun c_65 => ?_)
    · have c_65 : n0 ≤ q := (nI_leI (a := n0) (b := q) (by omega) (by omega)).mp c_65
      refine x_iload dX8_forts_158 1 rfl ?_
      refine x_iret dX8_forts_160 rfl (Nat.le_refl _) (Nat.le_refl _) ?_
      have hqn : q = n0 := by omega
      subst hqn
      rw [Nat.sub_self] at hv
      have hv : (came, σ2) = fortsL t q fr 0 σ := hv
      rw [← hv]
      exact ⟨rfl, J, rfl, hm2, hf⟩
    · have c_65 : ¬ n0 ≤ q := fun zz9 => c_65 ((nI_leI (a := n0) (b := q) (by omega) (by omega)).mpr zz9)
      refine x_iload_n dX8_forts_68 5 rfl rfl ?_
      refine x_i2l (v := fr.toInt64) dX8_forts_69 rfl ?_
      refine x_ldc2 (v := 3) dX8_forts_70 (tw_at 1292 (by decide +kernel) rfl) ?_
      refine x_iload dX8_forts_73 0 rfl ?_
      refine x_i2l (v := (nI q).toInt64) dX8_forts_75 rfl ?_
      refine x_lmul dX8_forts_76 ?_
      refine x_ladd dX8_forts_77 ?_
      refine x_topl (fun lg e_lg => ?_)
      refine x_lstore (lv' := [(7, .long lg), (6, .int (nI q)), (5, .int came), (0, .ref m), (1, .int (nI t)), (2, .int so), (3, .int fr), (4, .int (nI n0))]) dX8_forts_78 (by decide) rfl ?_
      refine x_lload dX8_forts_80 0 rfl ?_
      refine x_lconst (v := 0) dX8_forts_82 (by decide) ?_
      refine x_lcmp dX8_forts_83 ?_
      refine x_if_lt (tgt := 104) dX8_forts_84 (by decide) (fun c_84 => ?_) (fun c_84 => ?_)
      · refine x_bipush (v := (-12)) dX8_forts_104 (by decide) ?_
        refine x_iret dX8_forts_106 rfl (Nat.le_refl _) (Nat.le_refl _) ?_
        have hsp : ¬ spP (gSz σ2 t) at_ 3 := fun y => by
          have z := (fo_sp (by omega) hsz hat).mp y
          rw [← e_lg] at z
          exact z.1 c_84
        rw [show n0 - q = (n0 - (q + 1)) + 1 by omega, fl_f hsp] at hv
        rw [← hv]
        exact ⟨rfl, J, rfl, hm2, hf⟩
      · refine x_lload dX8_forts_87 0 rfl ?_
        refine x_ldc2 (v := 2) dX8_forts_89 (tw_at 1293 (by decide +kernel) rfl) ?_
        refine x_ladd dX8_forts_92 ?_
        refine x_aload_n dX8_forts_93 3 rfl rfl ?_
        refine x_gR (b := m + 16) dX8_forts_94 fl_8_55 rfl z0 y16 ?_
        refine x_iload_n dX8_forts_97 4 rfl rfl ?_
        refine x_ia (j := t) (v := nI (gSz σ2 t)) dX8_forts_98 z16 rfl (by omega) (by omega) hse9.2.1 ?_
        refine x_i2l (v := (nI (gSz σ2 t)).toInt64) dX8_forts_99 rfl ?_
        refine x_lcmp dX8_forts_100 ?_
        refine x_if_lt (tgt := 107) dX8_forts_101 (by decide) (fun c_101 => ?_) (fun c_101 => ?_)
        · have hsp : spP (gSz σ2 t) at_ 3 := (fo_sp (by omega) hsz hat).mpr ⟨by rw [← e_lg]; exact c_84, by rw [← e_lg]; exact c_101⟩
          obtain ⟨a, ha, hea, hl32⟩ := fo_at (by omega) hsz hat hsp
          rw [← e_lg] at hl32
          subst hea
          refine x_bipush (v := nI 40) dX8_forts_107 (by decide) ?_
          refine x_iload_n dX8_forts_109 4 rfl rfl ?_
          refine x_imul dX8_forts_110 ?_
          refine x_vali (pk_mul 40 t) ?_
          refine x_lload dX8_forts_111 0 rfl ?_
          refine x_l2i (v := lg.toInt32) dX8_forts_113 rfl ?_
          rw [hl32]
          refine x_iadd dX8_forts_114 ?_
          refine x_vali (nI_add (40 * t) a) ?_
          refine x_istore (lv' := [(9, .int (nI (40 * t + a))), (7, .long lg), (6, .int (nI q)), (5, .int came), (0, .ref m), (1, .int (nI t)), (2, .int so), (3, .int fr), (4, .int (nI n0))]) dX8_forts_115 (by decide) rfl ?_
          refine x_aload_n dX8_forts_117 4 rfl rfl ?_
          refine x_aload_n dX8_forts_118 4 rfl rfl ?_
          refine x_gR (b := m + 17) dX8_forts_119 fl_8_58 rfl z0 y17 ?_
          refine x_iload dX8_forts_122 0 rfl ?_
          refine x_ia (j := (40 * t + a)) (v := gRo σ2 t a) dX8_forts_124 z17 rfl (by omega) (by omega) (hse9.2.2.2 a (by omega)) ?_
          refine x_aload_n dX8_forts_125 4 rfl rfl ?_
          refine x_gR (b := m + 17) dX8_forts_126 fl_8_58 rfl z0 y17 ?_
          refine x_iload dX8_forts_129 0 rfl ?_
          refine x_iconst (v := nI 1) dX8_forts_131 (by decide) ?_
          refine x_iadd dX8_forts_132 ?_
          refine x_vali (nI_add (40 * t + a) 1) ?_
          refine x_ia (j := (40 * t + a + 1)) (v := gRo σ2 t (a + 1)) dX8_forts_133 z17 rfl (by omega) (by omega) (hse9.2.2.2 (a + 1) (by omega)) ?_
          refine x_aload_n dX8_forts_134 4 rfl rfl ?_
          refine x_gR (b := m + 17) dX8_forts_135 fl_8_58 rfl z0 y17 ?_
          refine x_iload dX8_forts_138 0 rfl ?_
          refine x_iconst (v := nI 2) dX8_forts_140 (by decide) ?_
          refine x_iadd dX8_forts_141 ?_
          refine x_vali (nI_add (40 * t + a) 2) ?_
          refine x_ia (j := (40 * t + a + 2)) (v := gRo σ2 t (a + 2)) dX8_forts_142 z17 rfl (by omega) (by omega) (hse9.2.2.2 (a + 2) (by omega)) ?_
          refine x_callV (k_mfort (G := G) hm2 hw2 (k := gRo σ2 t a) (nu := gRo σ2 t (a + 1)) (p := gRo σ2 t (a + 2))) dX8_forts_143 crc_X8_fort vc_8_328 z0 rfl rfl rfl rfl (Nat.le_of_ble_eq_true rfl) (roomy_k (by omega) (by decide)) (Nat.le_refl _) (Nat.le_refl _) ?_
          rintro _ _ ⟨rf, rfl, hrf9, J5, rfl, hm5, hf5⟩
          have hst : fortsL t (n0 - q) (nI a) came σ2 = fortsL t (n0 - (q + 1)) (nI a + 3) (if fortV σ2 (gRo σ2 t a) (gRo σ2 t (a + 1)) (gRo σ2 t (a + 2)) < 0 then came else came + 1) (fortS σ2 (gRo σ2 t a) (gRo σ2 t (a + 1)) (gRo σ2 t (a + 2))) := by
            rw [show n0 - q = (n0 - (q + 1)) + 1 by omega, fl_t hsp, nI_clamp (by omega)]
          refine x_if_lt (tgt := 152) dX8_forts_146 (by decide) (fun c_146 => ?_) (fun c_146 => ?_)
          · refine x_iinc (v := nI (q + 1)) (lv' := [(6, .int (nI (q + 1))), (9, .int (nI (40 * t + a))), (7, .long lg), (5, .int came), (0, .ref m), (1, .int (nI t)), (2, .int so), (3, .int fr), (4, .int (nI n0))]) dX8_forts_152 2 rfl (nI_1 q) (by decide) rfl ?_
            refine x_goto (tgt := 61) dX8_forts_155 (by decide) ?_
            refine x_sub [0, 3, 4, 5, 6, 7, 8] rfl ?_
            rw [← hrf9, if_pos c_146] at hst
            exact ih (q + 1) (nI a + 3) came J5 _ (by omega) (by omega) (by
              have h1 : (nI a).toInt = (a : Int) := nI_toInt (by omega)
              rw [show nI a + 3 = nI (a + 3) from nI_add a 3, nI_toInt (by omega)]
              omega) (by rw [← hst]; exact hv) hm5 hw2.fort (hf.tr hf5)
          · obtain ⟨xq1, e_xq1⟩ : ∃ z : Int32, z = came + 1 := ⟨_, rfl⟩
            refine x_iinc (v := xq1) (lv' := [(5, .int xq1), (9, .int (nI (40 * t + a))), (7, .long lg), (6, .int (nI q)), (0, .ref m), (1, .int (nI t)), (2, .int so), (3, .int fr), (4, .int (nI n0))]) dX8_forts_149 3 rfl e_xq1.symm (by decide) rfl ?_
            refine x_iinc (v := nI (q + 1)) (lv' := [(6, .int (nI (q + 1))), (5, .int xq1), (9, .int (nI (40 * t + a))), (7, .long lg), (0, .ref m), (1, .int (nI t)), (2, .int so), (3, .int fr), (4, .int (nI n0))]) dX8_forts_152 3 rfl (nI_1 q) (by decide) rfl ?_
            refine x_goto (tgt := 61) dX8_forts_155 (by decide) ?_
            refine x_sub [0, 1, 4, 5, 6, 7, 8] rfl ?_
            rw [← hrf9, if_neg c_146, ← e_xq1] at hst
            exact ih (q + 1) (nI a + 3) xq1 J5 _ (by omega) (by omega) (by
              have h1 : (nI a).toInt = (a : Int) := nI_toInt (by omega)
              rw [show nI a + 3 = nI (a + 3) from nI_add a 3, nI_toInt (by omega)]
              omega) (by rw [← hst]; exact hv) hm5 hw2.fort (hf.tr hf5)
        · refine x_bipush (v := (-12)) dX8_forts_104 (by decide) ?_
          refine x_iret dX8_forts_106 rfl (Nat.le_refl _) (Nat.le_refl _) ?_
          have hsp : ¬ spP (gSz σ2 t) at_ 3 := fun y => by
            have z := (fo_sp (by omega) hsz hat).mp y
            rw [← e_lg] at z
            exact c_101 z.2
          rw [show n0 - q = (n0 - (q + 1)) + 1 by omega, fl_f hsp] at hv
          rw [← hv]
          exact ⟨rfl, J, rfl, hm2, hf⟩

theorem fs_iff {so n : Int32} : ((0 ≤ so ∧ so ≤ 2) ∧ 0 ≤ n ∧ n ≤ 8) ↔ ¬ (so < 0 ∨ 3 ≤ so ∨ n < 0 ∨ 8 < n) := by
  have e0 : (0 : Int32).toInt = 0 := by decide
  have e2 : (2 : Int32).toInt = 2 := by decide
  have e3 : (3 : Int32).toInt = 3 := by decide
  have e8 : (8 : Int32).toInt = 8 := by decide
  simp only [Int32.lt_iff_toInt_lt, Int32.le_iff_toInt_le]
  omega

set_option maxHeartbeats 4000000 in
set_option maxRecDepth 100000 in
theorem k_mforts {G : GG} {Sh : HS} {I : HI} {R : HR} {m : Nat} {σ : SG} (hm0 : MI m Sh I R σ) (hw0 : WI σ) {s so fr n : Int32} : AM G 3 0 0 yX8_forts cX8_forts 10 (some .int) [.ref m, .int s, .int so, .int fr, .int n] (Sh, I, R) (qi (updM m Sh I R (fortsF σ s so fr n).1 (fortsF σ s so fr n).2)) := by
  obtain ⟨hsh, hrf, ⟨hn, hn8⟩, hs, ⟨hru, hrt⟩, ⟨htc, htc6⟩, hmt, hmp, him, hse⟩ := id hm0
  have hmw := hm0.mw
  have hnb := hw0.nb
  obtain ⟨z0, z1, z6, z7, z8, z9, z10, z11, z12, z13, z14, z15, z16, z17⟩ := id hsh
  obtain ⟨y1, y6, y7, y8, y9, y10, y11, y12, y13, y14, y15, y16, y17⟩ := id hrf
  refine am_intro (by decide) (Nat.le_of_ble_eq_true rfl) ?_
  refine x_iload_n dX8_forts_0 1 rfl rfl ?_
  refine x_callS (rest := []) (k_misSheet (G := G) (Sh := Sh) (I := I) (R := R) (s := s)) dX8_forts_1 crc_X8_isSheet sc_8_277 rfl rfl (Nat.le_of_ble_eq_true rfl) (roomy_k (by omega) (by decide)) (Nat.le_refl _) (Nat.le_refl _) ?_
  rintro _ _ ⟨rs, rfl, hrs, rfl⟩
  subst hrs
  refine x_if_eqB (tgt := 27) dX8_forts_4 (by decide) (fun c_4 => ?_) (fun c_4 => ?_)
  · refine x_bipush (v := (-2)) dX8_forts_27 (by decide) ?_
    refine x_iret dX8_forts_29 rfl (Nat.le_refl _) (Nat.le_refl _) ?_
    have hv : fortsF σ s so fr n = (-2, σ) := by
      unfold fortsF
      rw [Option.not_isSome_iff_eq_none.mp c_4]
    rw [hv]
    exact ⟨rfl, I, rfl, hm0, FrM.rf⟩
  · refine x_iload_n dX8_forts_7 2 rfl rfl ?_
    refine x_iconst (v := 0) dX8_forts_8 (by decide) ?_
    refine x_iconst (v := 2) dX8_forts_9 (by decide) ?_
    refine x_callS (rest := []) (k_mwithin (G := G) (Sh := Sh) (I := I) (R := R) (v := so) (lo := 0) (hi := 2)) dX8_forts_10 crc_X8_within sc_8_82 rfl rfl (Nat.le_of_ble_eq_true rfl) (roomy_k (by omega) (by decide)) (Nat.le_refl _) (Nat.le_refl _) ?_
    rintro _ _ ⟨rw, rfl, hrw, rfl⟩
    subst hrw
    refine x_if_eqB (tgt := 27) dX8_forts_13 (by decide) (fun c_13 => ?_) (fun c_13 => ?_)
    · refine x_bipush (v := (-2)) dX8_forts_27 (by decide) ?_
      refine x_iret dX8_forts_29 rfl (Nat.le_refl _) (Nat.le_refl _) ?_
      have hv : fortsF σ s so fr n = (-2, σ) := by
        obtain ⟨t, hid⟩ := Option.isSome_iff_exists.mp c_4
        unfold fortsF
        rw [hid]
        have q : so < 0 ∨ 3 ≤ so ∨ n < 0 ∨ 8 < n := Classical.not_not.mp (fun z => (fun z => c_13 z.1) (fs_iff.mpr z))
        exact if_pos q
      rw [hv]
      exact ⟨rfl, I, rfl, hm0, FrM.rf⟩
    · refine x_iload dX8_forts_16 4 rfl ?_
      refine x_iconst (v := 0) dX8_forts_18 (by decide) ?_
      refine x_bipush (v := 8) dX8_forts_19 (by decide) ?_
      refine x_callS (rest := []) (k_mwithin (G := G) (Sh := Sh) (I := I) (R := R) (v := n) (lo := 0) (hi := 8)) dX8_forts_21 crc_X8_within sc_8_82 rfl rfl (Nat.le_of_ble_eq_true rfl) (roomy_k (by omega) (by decide)) (Nat.le_refl _) (Nat.le_refl _) ?_
      rintro _ _ ⟨rw, rfl, hrw, rfl⟩
      subst hrw
      refine x_if_neB (tgt := 30) dX8_forts_24 (by decide) (fun c_24 => ?_) (fun c_24 => ?_)
      · obtain ⟨t, hid_t⟩ := Option.isSome_iff_exists.mp c_4
        obtain ⟨hi_t, hie_t⟩ := idF_some (by omega) hid_t
        subst hie_t
        have ht := hi_t
        have het := hse t ht
        obtain ⟨n0, hn0, rfl⟩ := nI_of2 (M := 8) (n := 8) (by decide) (Int32.not_lt.mpr c_24.1) c_24.2
        have hc9 := fs_iff.mp ⟨c_13, c_24⟩
        refine x_aload_n dX8_forts_30 0 rfl rfl ?_
        refine x_gR (b := m + 15) dX8_forts_31 fl_8_52 rfl z0 y15 ?_
        refine x_iload_n dX8_forts_34 1 rfl rfl ?_
        refine x_ia (j := t) (v := gSo σ t) dX8_forts_35 z15 rfl (by omega) (by omega) het.1 ?_
        refine x_if_ge (tgt := 42) dX8_forts_36 (by decide) (fun c_36 => ?_) (fun c_36 => ?_)
        · refine x_aload_n dX8_forts_42 0 rfl rfl ?_
          refine x_gR (b := m + 15) dX8_forts_43 fl_8_52 rfl z0 y15 ?_
          refine x_iload_n dX8_forts_46 1 rfl rfl ?_
          refine x_ia (j := t) (v := gSo σ t) dX8_forts_47 z15 rfl (by omega) (by omega) het.1 ?_
          refine x_iload_n dX8_forts_48 2 rfl rfl ?_
          refine x_icmp_eq (tgt := 55) dX8_forts_49 (by decide) (fun c_49 => ?_) (fun c_49 => ?_)
          · refine x_iconst (v := 0) dX8_forts_55 (by decide) ?_
            refine x_istore (lv' := [(5, .int 0), (0, .ref m), (1, .int (nI t)), (2, .int so), (3, .int fr), (4, .int (nI n0))]) dX8_forts_56 (by decide) rfl ?_
            refine x_iconst (v := nI 0) dX8_forts_58 (by decide) ?_
            refine x_istore (lv' := [(6, .int (nI 0)), (5, .int 0), (0, .ref m), (1, .int (nI t)), (2, .int so), (3, .int fr), (4, .int (nI n0))]) dX8_forts_59 (by decide) rfl ?_
            refine x_sub [0, 1, 2, 3, 4, 5, 6] rfl ?_
            have h1 : ¬ gSo σ t = -1 := fun z => (so_neg2 hw0 ht).mpr z c_36
            have hv : fortsF σ (nI t) so fr (nI n0) = fortsL t n0 fr 0 σ := by
              unfold fortsF
              rw [idF_in ht (by omega)]
              dsimp only
              rw [if_neg hc9, if_neg (fun z => z.2 c_49), if_neg h1, nI_clamp (by omega)]
            rw [hv]
            exact k_mforts_l hm0 hw0 ht hn0 (n0 + 1) 0 fr 0 I σ (by omega) (by omega) (by omega) rfl hm0 hw0 FrM.rf
          · refine x_bipush (v := (-13)) dX8_forts_52 (by decide) ?_
            refine x_iret dX8_forts_54 rfl (Nat.le_refl _) (Nat.le_refl _) ?_
            have h1 : ¬ gSo σ t = -1 := fun z => (so_neg2 hw0 ht).mpr z c_36
            have hv : fortsF σ (nI t) so fr (nI n0) = (-13, σ) := by
              unfold fortsF
              rw [idF_in ht (by omega)]
              dsimp only
              rw [if_neg hc9, if_pos ⟨h1, c_49⟩]
            rw [hv]
            exact ⟨rfl, I, rfl, hm0, FrM.rf⟩
        · refine x_bipush (v := (-11)) dX8_forts_39 (by decide) ?_
          refine x_iret dX8_forts_41 rfl (Nat.le_refl _) (Nat.le_refl _) ?_
          have h1 := (so_neg2 hw0 ht).mp c_36
          have hv : fortsF σ (nI t) so fr (nI n0) = (-11, σ) := by
            unfold fortsF
            rw [idF_in ht (by omega)]
            dsimp only
            rw [if_neg hc9, if_neg (fun z => z.1 h1), if_pos h1]
          rw [hv]
          exact ⟨rfl, I, rfl, hm0, FrM.rf⟩
      · refine x_bipush (v := (-2)) dX8_forts_27 (by decide) ?_
        refine x_iret dX8_forts_29 rfl (Nat.le_refl _) (Nat.le_refl _) ?_
        have hv : fortsF σ s so fr n = (-2, σ) := by
          obtain ⟨t, hid⟩ := Option.isSome_iff_exists.mp c_4
          unfold fortsF
          rw [hid]
          have q : so < 0 ∨ 3 ≤ so ∨ n < 0 ∨ 8 < n := Classical.not_not.mp (fun z => (fun z => c_24 z.2) (fs_iff.mpr z))
          exact if_pos q
        rw [hv]
        exact ⟨rfl, I, rfl, hm0, FrM.rf⟩

