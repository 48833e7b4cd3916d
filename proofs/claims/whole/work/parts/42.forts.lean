/-- forts from a sheet's numbers, three a fort -/
noncomputable def fortsL (t : Nat) : Nat → Int32 → Int32 → SG → Int32 × SG
  | 0, _, came, σ => (came, σ)
  | c + 1, at_, came, σ => if spP (gSz σ t) at_ 3 then fortsL t c (at_ + 3) (if fortV σ (gRo σ t at_.toNatClampNeg) (gRo σ t (at_.toNatClampNeg + 1)) (gRo σ t (at_.toNatClampNeg + 2)) < 0 then came else came + 1) (fortS σ (gRo σ t at_.toNatClampNeg) (gRo σ t (at_.toNatClampNeg + 1)) (gRo σ t (at_.toNatClampNeg + 2))) else (-12, σ)
noncomputable def fortsF (σ : SG) (s so fr n : Int32) : Int32 × SG := match idF 4 s with
  | none => (-2, σ)
  | some t => if so < 0 ∨ 3 ≤ so ∨ n < 0 ∨ 8 < n then (-2, σ) else if ¬ gSo σ t = -1 ∧ ¬ gSo σ t = so then (-13, σ) else if gSo σ t = -1 then (-11, σ) else fortsL t n.toNatClampNeg fr 0 σ
theorem fl_t {t c : Nat} {at_ came : Int32} {σ : SG} (h : spP (gSz σ t) at_ 3) : fortsL t (c + 1) at_ came σ = fortsL t c (at_ + 3) (if fortV σ (gRo σ t at_.toNatClampNeg) (gRo σ t (at_.toNatClampNeg + 1)) (gRo σ t (at_.toNatClampNeg + 2)) < 0 then came else came + 1) (fortS σ (gRo σ t at_.toNatClampNeg) (gRo σ t (at_.toNatClampNeg + 1)) (gRo σ t (at_.toNatClampNeg + 2))) := by
  conv => lhs; unfold fortsL
  rw [if_pos h]
theorem fl_f {t c : Nat} {at_ came : Int32} {σ : SG} (h : ¬ spP (gSz σ t) at_ 3) : fortsL t (c + 1) at_ came σ = (-12, σ) := by
  conv => lhs; unfold fortsL
  rw [if_neg h]

set_option maxHeartbeats 4000000 in
set_option maxRecDepth 100000 in
theorem k_forts_l {G : GG} {Sh : HS} {b t n0 : Nat} {I0 : HI} {R0 : HR} {σ0 : SG} (ht9 : t < 4) (hn0 : n0 ≤ 8) {s so fr : Int32} : ∀ (m : Nat) (q : Nat) (at_ : Int32) (came : Int32) (I : HI) (R : HR) (σ : SG), (q ≤ n0) → (n0 < q + m) → (CI b Sh I R σ) → (FrC b I0 I) → (FrC b R0 R) → (fortsL t (n0 - q) at_ came σ = fortsF σ0 s so fr (nI n0)) → X G (kM G 4 0 0 (qi (updI b Sh I0 R0 (fortsF σ0 s so fr (nI n0)).1 (fortsF σ0 s so fr (nI n0)).2))) yX7_forts cX7_forts 9 (some .int) 0 0 76 [(8, .int (nI q)), (7, .int at_), (6, .int came), (5, .ref (b + 26 + 2 * t)), (0, .ref b), (1, .int s), (2, .int so), (3, .int fr), (4, .int (nI n0))] [] (Sh, I, R) := by
  intro m
  induction m with
  | zero =>
    intro q at_ came I R σ hq hm hc hfI hfR hval
    exact absurd hm (by omega)
  | succ m ih =>
    intro q at_ came I R σ hq hm hc hfI hfR hval
    obtain ⟨⟨s0, s1, s2, s3, s4, s5, s6, s7, sT, sS, sA, sB, sC, sG⟩, ⟨r0, r1, r2, r4, r5, r6, r8, r9, rt0, rt2, rt3, rr0, rT, rS, rTT, rSS, rA, rB, rC, rG⟩, hCT, hCK, hCTp, hCIm, hCSe⟩ := id hc
    have hn8 : gN σ ≤ 8 := hCK.2.1
    have hru := hc.ru
    have hsz9 := (hCSe t ht9).2.2.1
    refine x_iload dX7_forts_76 0 rfl ?_
    refine x_iload dX7_forts_78 8 rfl ?_
    refine x_icmp_ge (tgt := 141) dX7_forts_80 (by decide) (fun c_80 => ?_) (fun c_80 => ?_)
    · have c_80 : n0 ≤ q := (nI_leI (a := n0) (b := q) (by omega) (by omega)).mp c_80
      refine x_iload dX7_forts_141 2 rfl ?_
      refine x_iret dX7_forts_143 rfl (Nat.le_refl _) (Nat.le_refl _) ?_
      have hqn : n0 - q = 0 := by omega
      rw [hqn] at hval
      rw [← hval]
      exact ⟨rfl, I, R, rfl, hc, hfI, hfR⟩
    · have c_80 : ¬ n0 ≤ q := fun zz9 => c_80 ((nI_leI (a := n0) (b := q) (by omega) (by omega)).mpr zz9)
      refine x_aload dX7_forts_83 3 rfl ?_
      refine x_iload dX7_forts_85 1 rfl ?_
      refine x_iconst (v := 3) dX7_forts_87 (by decide) ?_
      refine x_callV (k_spans (G := G) (I := I) (R := R) (A := b + 26 + 2 * t) (sS t ht9) (rSS t ht9) (hCSe t ht9).2.1 (hCSe t ht9).2.2.1 (fr := at_) (nn := 3)) dX7_forts_88 crc_X3_spans vc_7_262 (sS t (by omega)).1 rfl rfl rfl rfl (Nat.le_of_ble_eq_true rfl) (roomy_k (by omega) (by decide)) (Nat.le_refl _) (Nat.le_refl _) ?_
      rintro _ _ ⟨_, rfl, rfl, rfl⟩
      refine x_if_neB (tgt := 97) dX7_forts_91 (by decide) (fun c_91 => ?_) (fun c_91 => ?_)
      · have h91 := c_91
        obtain ⟨a1, c1, rfl, hc1, hac⟩ := sp_nat c_91 (hCSe t ht9).2.2.1
        have hc3 : c1 = 3 := by
          have := (nI_eq (a := 3) (b := c1) (by omega) (by omega)).mp hc1
          omega
        subst hc3
        refine x_aload_n dX7_forts_97 4 rfl rfl ?_
        refine x_aload dX7_forts_98 3 rfl ?_
        refine x_iload dX7_forts_100 1 rfl ?_
        refine x_callV (k_item (G := G) (I := I) (R := R) (A := b + 26 + 2 * t) (sz := gSz σ t) (sS t ht9) (rSS t ht9) (hCSe t ht9).2.1 (hCSe t ht9).2.2.1 (i := nI (a1))) dX7_forts_102 crc_X3_item vc_7_198 (sS t (by omega)).1 rfl rfl rfl rfl (Nat.le_of_ble_eq_true rfl) (roomy_k (by omega) (by decide)) (Nat.le_refl _) (Nat.le_refl _) ?_
        rintro _ _ ⟨_, rfl, hvi, rfl⟩
        refine x_vali (hvi.trans ((itF_in (j := a1) (by omega) (by omega)).trans ((hCSe t ht9).2.2.2 (a1) (by omega)))) ?_
        refine x_aload dX7_forts_105 3 rfl ?_
        refine x_iload dX7_forts_107 1 rfl ?_
        refine x_iconst (v := nI 1) dX7_forts_109 (by decide) ?_
        refine x_iadd dX7_forts_110 ?_
        refine x_vali (nI_add a1 1) ?_
        refine x_callV (k_item (G := G) (I := I) (R := R) (A := b + 26 + 2 * t) (sz := gSz σ t) (sS t ht9) (rSS t ht9) (hCSe t ht9).2.1 (hCSe t ht9).2.2.1 (i := nI (a1 + 1))) dX7_forts_111 crc_X3_item vc_7_198 (sS t (by omega)).1 rfl rfl rfl rfl (Nat.le_of_ble_eq_true rfl) (roomy_k (by omega) (by decide)) (Nat.le_refl _) (Nat.le_refl _) ?_
        rintro _ _ ⟨_, rfl, hvi, rfl⟩
        refine x_vali (hvi.trans ((itF_in (j := a1 + 1) (by omega) (by omega)).trans ((hCSe t ht9).2.2.2 (a1 + 1) (by omega)))) ?_
        refine x_aload dX7_forts_114 3 rfl ?_
        refine x_iload dX7_forts_116 1 rfl ?_
        refine x_iconst (v := nI 2) dX7_forts_118 (by decide) ?_
        refine x_iadd dX7_forts_119 ?_
        refine x_vali (nI_add a1 2) ?_
        refine x_callV (k_item (G := G) (I := I) (R := R) (A := b + 26 + 2 * t) (sz := gSz σ t) (sS t ht9) (rSS t ht9) (hCSe t ht9).2.1 (hCSe t ht9).2.2.1 (i := nI (a1 + 2))) dX7_forts_120 crc_X3_item vc_7_198 (sS t (by omega)).1 rfl rfl rfl rfl (Nat.le_of_ble_eq_true rfl) (roomy_k (by omega) (by decide)) (Nat.le_refl _) (Nat.le_refl _) ?_
        rintro _ _ ⟨_, rfl, hvi, rfl⟩
        refine x_vali (hvi.trans ((itF_in (j := a1 + 2) (by omega) (by omega)).trans ((hCSe t ht9).2.2.2 (a1 + 2) (by omega)))) ?_
        refine x_callV (k_fort (G := G) hc (k := gRo σ t (a1)) (nu := gRo σ t (a1 + 1)) (p := gRo σ t (a1 + 2))) dX7_forts_123 crc_X7_fort vc_7_275 s0 rfl rfl rfl rfl (Nat.le_of_ble_eq_true rfl) (roomy_k (by omega) (by decide)) (Nat.le_refl _) (Nat.le_refl _) ?_
        rintro _ _ ⟨r, rfl, hr, J5, R5, rfl, hc5, hf5, hg5⟩
        refine x_if_lt (tgt := 132) dX7_forts_126 (by decide) (fun c_126 => ?_) (fun c_126 => ?_)
        · refine x_iinc (v := nI (a1 + 3)) (lv' := [(7, .int (nI (a1 + 3))), (8, .int (nI q)), (6, .int came), (5, .ref (b + 26 + 2 * t)), (0, .ref b), (1, .int s), (2, .int so), (3, .int fr), (4, .int (nI n0))]) dX7_forts_132 1 rfl (nI_add a1 3) (by decide) rfl ?_
          refine x_iinc (v := nI (q + 1)) (lv' := [(8, .int (nI (q + 1))), (7, .int (nI (a1 + 3))), (6, .int came), (5, .ref (b + 26 + 2 * t)), (0, .ref b), (1, .int s), (2, .int so), (3, .int fr), (4, .int (nI n0))]) dX7_forts_135 1 rfl (nI_1 q) (by decide) rfl ?_
          refine x_goto (tgt := 76) dX7_forts_138 (by decide) ?_
          refine x_sub [0, 1, 2, 3, 4, 5, 6, 7, 8] rfl ?_
          exact ih (q + 1) _ came J5 R5 _ (by omega) (by omega) hc5 (hfI.tr hf5) (hfR.tr hg5) (by
            rw [← hval, show n0 - q = (n0 - (q + 1)) + 1 by omega, fl_t h91, nI_clamp (by omega), if_pos (by rw [← hr]; exact c_126), show nI a1 + 3 = nI (a1 + 3) from nI_add a1 3])
        · obtain ⟨xq1, e_xq1⟩ : ∃ z : Int32, z = came + 1 := ⟨_, rfl⟩
          refine x_iinc (v := xq1) (lv' := [(6, .int xq1), (8, .int (nI q)), (7, .int (nI a1)), (5, .ref (b + 26 + 2 * t)), (0, .ref b), (1, .int s), (2, .int so), (3, .int fr), (4, .int (nI n0))]) dX7_forts_129 2 rfl e_xq1.symm (by decide) rfl ?_
          refine x_iinc (v := nI (a1 + 3)) (lv' := [(7, .int (nI (a1 + 3))), (6, .int xq1), (8, .int (nI q)), (5, .ref (b + 26 + 2 * t)), (0, .ref b), (1, .int s), (2, .int so), (3, .int fr), (4, .int (nI n0))]) dX7_forts_132 2 rfl (nI_add a1 3) (by decide) rfl ?_
          refine x_iinc (v := nI (q + 1)) (lv' := [(8, .int (nI (q + 1))), (7, .int (nI (a1 + 3))), (6, .int xq1), (5, .ref (b + 26 + 2 * t)), (0, .ref b), (1, .int s), (2, .int so), (3, .int fr), (4, .int (nI n0))]) dX7_forts_135 2 rfl (nI_1 q) (by decide) rfl ?_
          refine x_goto (tgt := 76) dX7_forts_138 (by decide) ?_
          refine x_sub [0, 1, 2, 3, 4, 5, 6, 7, 8] rfl ?_
          exact ih (q + 1) _ xq1 J5 R5 _ (by omega) (by omega) hc5 (hfI.tr hf5) (hfR.tr hg5) (by
            rw [← hval, show n0 - q = (n0 - (q + 1)) + 1 by omega, fl_t h91, nI_clamp (by omega), if_neg (by rw [← hr]; exact c_126), show nI a1 + 3 = nI (a1 + 3) from nI_add a1 3, e_xq1])
      · refine x_bipush (v := (-12)) dX7_forts_94 (by decide) ?_
        refine x_iret dX7_forts_96 rfl (Nat.le_refl _) (Nat.le_refl _) ?_
        rw [show n0 - q = (n0 - (q + 1)) + 1 by omega, fl_f c_91] at hval
        rw [← hval]
        exact ⟨rfl, I, R, rfl, hc, hfI, hfR⟩

set_option maxHeartbeats 4000000 in
set_option maxRecDepth 100000 in
theorem k_forts {G : GG} {Sh : HS} {I : HI} {R : HR} {b : Nat} {σ : SG} (hc : CI b Sh I R σ) {s so fr n : Int32} : AM G 4 0 0 yX7_forts cX7_forts 9 (some .int) [.ref b, .int s, .int so, .int fr, .int n] (Sh, I, R) (qi (updI b Sh I R (fortsF σ s so fr n).1 (fortsF σ s so fr n).2)) := by
  obtain ⟨⟨s0, s1, s2, s3, s4, s5, s6, s7, sT, sS, sA, sB, sC, sG⟩, ⟨r0, r1, r2, r4, r5, r6, r8, r9, rt0, rt2, rt3, rr0, rT, rS, rTT, rSS, rA, rB, rC, rG⟩, hCT, hCK, hCTp, hCIm, hCSe⟩ := id hc
  have hn8 : gN σ ≤ 8 := hCK.2.1
  have hru := hc.ru
  refine am_intro (by decide) (Nat.le_of_ble_eq_true rfl) ?_
  refine x_aload_n dX7_forts_0 0 rfl rfl ?_
  refine x_iload_n dX7_forts_1 1 rfl rfl ?_
  refine x_callV (k_sheetAt (G := G) hc (i := s)) dX7_forts_2 crc_X7_sheetAt vc_7_185 s0 rfl rfl rfl rfl (Nat.le_of_ble_eq_true rfl) (roomy_k (by omega) (by decide)) (Nat.le_refl _) (Nat.le_refl _) ?_
  rintro _ _ ⟨_, rfl, rfl, (⟨t, ht9, hit, rfl⟩ | ⟨hno4, rfl⟩)⟩
  · refine x_astore (lv' := [(5, .ref (b + 26 + 2 * t)), (0, .ref b), (1, .int s), (2, .int so), (3, .int fr), (4, .int n)]) dX7_forts_5 (by decide) rfl ?_
    refine x_aload dX7_forts_7 0 rfl ?_
    refine x_ifnull dX7_forts_9 ?_
    refine x_iload_n dX7_forts_12 3 rfl rfl ?_
    refine x_if_lt (tgt := 33) dX7_forts_13 (by decide) (fun c_13 => ?_) (fun c_13 => ?_)
    · refine x_bipush (v := (-2)) dX7_forts_33 (by decide) ?_
      refine x_iret dX7_forts_35 rfl (Nat.le_refl _) (Nat.le_refl _) ?_
      unfold fortsF
      rw [hit, idF_in (n := 4) ht9 (by omega)]
      dsimp only
      have h9 : so < 0 ∨ 3 ≤ so ∨ n < 0 ∨ 8 < n := Or.inl c_13
      rw [if_pos h9]
      exact ⟨rfl, I, R, rfl, hc, FrC.rf, FrC.rf⟩
    · refine x_iload_n dX7_forts_16 3 rfl rfl ?_
      refine x_iconst (v := 3) dX7_forts_17 (by decide) ?_
      refine x_icmp_ge (tgt := 33) dX7_forts_18 (by decide) (fun c_18 => ?_) (fun c_18 => ?_)
      · refine x_bipush (v := (-2)) dX7_forts_33 (by decide) ?_
        refine x_iret dX7_forts_35 rfl (Nat.le_refl _) (Nat.le_refl _) ?_
        unfold fortsF
        rw [hit, idF_in (n := 4) ht9 (by omega)]
        dsimp only
        have h9 : so < 0 ∨ 3 ≤ so ∨ n < 0 ∨ 8 < n := Or.inr (Or.inl c_18)
        rw [if_pos h9]
        exact ⟨rfl, I, R, rfl, hc, FrC.rf, FrC.rf⟩
      · refine x_iload dX7_forts_21 5 rfl ?_
        refine x_if_lt (tgt := 33) dX7_forts_23 (by decide) (fun c_23 => ?_) (fun c_23 => ?_)
        · refine x_bipush (v := (-2)) dX7_forts_33 (by decide) ?_
          refine x_iret dX7_forts_35 rfl (Nat.le_refl _) (Nat.le_refl _) ?_
          unfold fortsF
          rw [hit, idF_in (n := 4) ht9 (by omega)]
          dsimp only
          have h9 : so < 0 ∨ 3 ≤ so ∨ n < 0 ∨ 8 < n := Or.inr (Or.inr (Or.inl c_23))
          rw [if_pos h9]
          exact ⟨rfl, I, R, rfl, hc, FrC.rf, FrC.rf⟩
        · refine x_iload dX7_forts_26 5 rfl ?_
          refine x_bipush (v := 8) dX7_forts_28 (by decide) ?_
          refine x_icmp_le (tgt := 36) dX7_forts_30 (by decide) (fun c_30 => ?_) (fun c_30 => ?_)
          · have hno9 : ¬ (so < 0 ∨ 3 ≤ so ∨ n < 0 ∨ 8 < n) := fun z => z.elim c_13 (fun z => z.elim c_18 (fun z => z.elim c_23 (fun z => absurd c_30 (Int32.not_le.mpr z))))
            refine x_aload dX7_forts_36 0 rfl ?_
            refine x_callV (k_isMissing (G := G) (I := I) (R := R) (A := b + 26 + 2 * t) (sS t ht9) (rSS t ht9)) dX7_forts_38 crc_X3_isMissing vc_7_189 (sS t (by omega)).1 rfl rfl rfl rfl (Nat.le_of_ble_eq_true rfl) (roomy_k (by omega) (by decide)) (Nat.le_refl _) (Nat.le_refl _) ?_
            rintro _ _ ⟨_, rfl, rfl, rfl⟩
            refine x_if_neB (tgt := 56) dX7_forts_41 (by decide) (fun c_41 => ?_) (fun c_41 => ?_)
            · refine x_aload dX7_forts_56 0 rfl ?_
              refine x_callV (k_isMissing (G := G) (I := I) (R := R) (A := b + 26 + 2 * t) (sS t ht9) (rSS t ht9)) dX7_forts_58 crc_X3_isMissing vc_7_189 (sS t (by omega)).1 rfl rfl rfl rfl (Nat.le_of_ble_eq_true rfl) (roomy_k (by omega) (by decide)) (Nat.le_refl _) (Nat.le_refl _) ?_
              rintro _ _ ⟨_, rfl, rfl, rfl⟩
              refine x_if_eqB (tgt := 67) dX7_forts_61 (by decide) (fun c_61 => ?_) (fun c_61 => ?_)
              · obtain ⟨n0, hn0, rfl⟩ := nI_of2 (M := 8) (n := 8) (by decide) c_23 c_30
                refine x_iconst (v := 0) dX7_forts_67 (by decide) ?_
                refine x_istore (lv' := [(6, .int 0), (5, .ref (b + 26 + 2 * t)), (0, .ref b), (1, .int s), (2, .int so), (3, .int fr), (4, .int (nI n0))]) dX7_forts_68 (by decide) rfl ?_
                refine x_iload_n dX7_forts_70 5 rfl rfl ?_
                refine x_istore (lv' := [(7, .int fr), (6, .int 0), (5, .ref (b + 26 + 2 * t)), (0, .ref b), (1, .int s), (2, .int so), (3, .int fr), (4, .int (nI n0))]) dX7_forts_71 (by decide) rfl ?_
                refine x_iconst (v := 0) dX7_forts_73 (by decide) ?_
                refine x_istore (lv' := [(8, .int 0), (7, .int fr), (6, .int 0), (5, .ref (b + 26 + 2 * t)), (0, .ref b), (1, .int s), (2, .int so), (3, .int fr), (4, .int (nI n0))]) dX7_forts_74 (by decide) rfl ?_
                refine x_sub [0, 1, 2, 3, 4, 5, 6, 7, 8] rfl ?_
                exact k_forts_l ht9 hn0 (n0 + 1) 0 fr 0 I R σ (by omega) (by omega) hc FrC.rf FrC.rf (by
                  unfold fortsF
                  rw [hit, idF_in (n := 4) ht9 (by omega)]
                  dsimp only
                  have h8 : ¬ (¬ gSo σ t = -1 ∧ ¬ gSo σ t = so) := fun z => z.1 ((hCSe t ht9).1.symm.trans c_41)
                  rw [if_neg hno9, if_neg h8, if_neg (fun z => c_61 ((hCSe t ht9).1.trans z)), nI_clamp (by omega)]
                  rfl)
              · refine x_bipush (v := (-11)) dX7_forts_64 (by decide) ?_
                refine x_iret dX7_forts_66 rfl (Nat.le_refl _) (Nat.le_refl _) ?_
                unfold fortsF
                rw [hit, idF_in (n := 4) ht9 (by omega)]
                dsimp only
                rw [if_neg hno9]
                have h8 : ¬ (¬ gSo σ t = -1 ∧ ¬ gSo σ t = so) := fun z => z.1 ((hCSe t ht9).1.symm.trans c_61)
                rw [if_neg h8, if_pos ((hCSe t ht9).1.symm.trans c_61)]
                exact ⟨rfl, I, R, rfl, hc, FrC.rf, FrC.rf⟩
            · refine x_aload dX7_forts_44 0 rfl ?_
              refine x_gI (v := gSo σ t) dX7_forts_46 fl_7_259 rfl (sS t (by omega)).1 (hCSe t ht9).1 ?_
              refine x_iload_n dX7_forts_49 3 rfl rfl ?_
              refine x_icmp_eq (tgt := 56) dX7_forts_50 (by decide) (fun c_50 => ?_) (fun c_50 => ?_)
              · refine x_aload dX7_forts_56 0 rfl ?_
                refine x_callV (k_isMissing (G := G) (I := I) (R := R) (A := b + 26 + 2 * t) (sS t ht9) (rSS t ht9)) dX7_forts_58 crc_X3_isMissing vc_7_189 (sS t (by omega)).1 rfl rfl rfl rfl (Nat.le_of_ble_eq_true rfl) (roomy_k (by omega) (by decide)) (Nat.le_refl _) (Nat.le_refl _) ?_
                rintro _ _ ⟨_, rfl, rfl, rfl⟩
                refine x_if_eqB (tgt := 67) dX7_forts_61 (by decide) (fun c_61 => ?_) (fun c_61 => ?_)
                · obtain ⟨n0, hn0, rfl⟩ := nI_of2 (M := 8) (n := 8) (by decide) c_23 c_30
                  refine x_iconst (v := 0) dX7_forts_67 (by decide) ?_
                  refine x_istore (lv' := [(6, .int 0), (5, .ref (b + 26 + 2 * t)), (0, .ref b), (1, .int s), (2, .int so), (3, .int fr), (4, .int (nI n0))]) dX7_forts_68 (by decide) rfl ?_
                  refine x_iload_n dX7_forts_70 5 rfl rfl ?_
                  refine x_istore (lv' := [(7, .int fr), (6, .int 0), (5, .ref (b + 26 + 2 * t)), (0, .ref b), (1, .int s), (2, .int so), (3, .int fr), (4, .int (nI n0))]) dX7_forts_71 (by decide) rfl ?_
                  refine x_iconst (v := 0) dX7_forts_73 (by decide) ?_
                  refine x_istore (lv' := [(8, .int 0), (7, .int fr), (6, .int 0), (5, .ref (b + 26 + 2 * t)), (0, .ref b), (1, .int s), (2, .int so), (3, .int fr), (4, .int (nI n0))]) dX7_forts_74 (by decide) rfl ?_
                  refine x_sub [0, 1, 2, 3, 4, 5, 6, 7, 8] rfl ?_
                  exact k_forts_l ht9 hn0 (n0 + 1) 0 fr 0 I R σ (by omega) (by omega) hc FrC.rf FrC.rf (by
                    unfold fortsF
                    rw [hit, idF_in (n := 4) ht9 (by omega)]
                    dsimp only
                    have h8 : ¬ (¬ gSo σ t = -1 ∧ ¬ gSo σ t = so) := fun z => z.2 c_50
                    rw [if_neg hno9, if_neg h8, if_neg (fun z => c_61 ((hCSe t ht9).1.trans z)), nI_clamp (by omega)]
                    rfl)
                · refine x_bipush (v := (-11)) dX7_forts_64 (by decide) ?_
                  refine x_iret dX7_forts_66 rfl (Nat.le_refl _) (Nat.le_refl _) ?_
                  unfold fortsF
                  rw [hit, idF_in (n := 4) ht9 (by omega)]
                  dsimp only
                  rw [if_neg hno9]
                  have h8 : ¬ (¬ gSo σ t = -1 ∧ ¬ gSo σ t = so) := fun z => z.1 ((hCSe t ht9).1.symm.trans c_61)
                  rw [if_neg h8, if_pos ((hCSe t ht9).1.symm.trans c_61)]
                  exact ⟨rfl, I, R, rfl, hc, FrC.rf, FrC.rf⟩
              · refine x_bipush (v := (-13)) dX7_forts_53 (by decide) ?_
                refine x_iret dX7_forts_55 rfl (Nat.le_refl _) (Nat.le_refl _) ?_
                unfold fortsF
                rw [hit, idF_in (n := 4) ht9 (by omega)]
                dsimp only
                rw [if_neg hno9]
                have h8 : ¬ gSo σ t = -1 ∧ ¬ gSo σ t = so := ⟨fun z => c_41 ((hCSe t ht9).1.trans z), c_50⟩
                rw [if_pos h8]
                exact ⟨rfl, I, R, rfl, hc, FrC.rf, FrC.rf⟩
          · refine x_bipush (v := (-2)) dX7_forts_33 (by decide) ?_
            refine x_iret dX7_forts_35 rfl (Nat.le_refl _) (Nat.le_refl _) ?_
            unfold fortsF
            rw [hit, idF_in (n := 4) ht9 (by omega)]
            dsimp only
            have h9 : so < 0 ∨ 3 ≤ so ∨ n < 0 ∨ 8 < n := Or.inr (Or.inr (Or.inr (Int32.not_le.mp c_30)))
            rw [if_pos h9]
            exact ⟨rfl, I, R, rfl, hc, FrC.rf, FrC.rf⟩
  · refine x_astoreN (lv' := [(5, .null), (0, .ref b), (1, .int s), (2, .int so), (3, .int fr), (4, .int n)]) dX7_forts_5 (by decide) rfl ?_
    refine x_aloadN dX7_forts_7 0 rfl ?_
    refine x_ifnullN (tgt := 33) dX7_forts_9 (by decide) ?_
    refine x_bipush (v := (-2)) dX7_forts_33 (by decide) ?_
    refine x_iret dX7_forts_35 rfl (Nat.le_refl _) (Nat.le_refl _) ?_
    unfold fortsF
    rw [idF_out (n := 4) (by omega) hno4]
    exact ⟨rfl, I, R, rfl, hc, FrC.rf, FrC.rf⟩

