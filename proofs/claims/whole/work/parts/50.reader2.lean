set_option maxHeartbeats 4000000 in
set_option maxRecDepth 100000 in
theorem k_openF {G : GG} {Sh : HS} {R : HR} {b t K ts : Nat} {tb : Nat → Int32} (rc : RC b t Sh R) {f i m d : Nat} {I0 J : HI} (hf : FS tb ts b t f J) (hrd : rdE b t I0 J) {sg : Int32} (hsg : ¬ endT sg) (hi : i < 1000) : X G (kM G d 0 0 (qi fun r g => r = nI m ∧ ∃ J2 : HI, g = (Sh, J2, R) ∧ FS tb ts b t f J2 ∧ rdE b t I0 J2)) yX2_openAll cX2_openAll 4 (some .int) 0 0 4 [(3, .int (nI i)), (2, .int (nI m)), (0, .ref (b + 5)), (1, .int sg)] [] (Sh, J, R) := by
  obtain ⟨_, z1, z2, z3, z4, z5, _, _, zz, _⟩ := rc.1
  have zT := zz t rc.2.2
  obtain ⟨_, _, _, _, _, _, _, _, w1, w2, w3, w0, _, _, wW, _⟩ := rc.2.1
  have wT := wW t rc.2.2
  have t6 := rc.2.2
  refine x_iload_n dX2_openAll_4 0 rfl rfl ?_
  refine x_sipush (v := nI 160) dX2_openAll_5 (by decide) ?_
  refine x_icmp_ge (tgt := 63) dX2_openAll_8 (by decide) (fun c_8 => ?_) (fun c_8 => ?_)
  · have c_8 : 160 ≤ i := (nI_leI (a := 160) (b := i) (by omega) (by omega)).mp c_8
    refine x_iload_n dX2_openAll_63 1 rfl rfl ?_
    refine x_iret dX2_openAll_64 rfl (Nat.le_refl _) (Nat.le_refl _) ?_
    exact ⟨rfl, J, rfl, hf, hrd⟩
  · have c_8 : ¬ 160 ≤ i := fun zz9 => c_8 ((nI_leI (a := 160) (b := i) (by omega) (by omega)).mpr zz9)
    refine x_aload_n dX2_openAll_11 2 rfl rfl ?_
    refine x_gI (v := 2) dX2_openAll_12 fl_2_46 rfl z5 hf.1 ?_
    refine x_iload_n dX2_openAll_15 3 rfl rfl ?_
    refine x_icmp_ne (tgt := 63) dX2_openAll_16 (by decide) (fun c_16 => ?_) (fun c_16 => False.elim (hsg (Or.inr c_16.symm)))
    refine x_iload_n dX2_openAll_63 1 rfl rfl ?_
    refine x_iret dX2_openAll_64 rfl (Nat.le_refl _) (Nat.le_refl _) ?_
    exact ⟨rfl, J, rfl, hf, hrd⟩

set_option maxHeartbeats 4000000 in
set_option maxRecDepth 100000 in
theorem k_openA_l {G : GG} {Sh : HS} {R : HR} {b t K ts : Nat} {tb : Nat → Int32} (rc : RC b t Sh R) {k p o : Nat} {C : List Int32} {j : Nat} {I0 : HI} {sg : Int32} (hsg : ¬ endT sg) (h1 : ∀ i, i < j → tkF tb ts (itN (nxF tb ts) i p) = sg) (h2 : o + j ≤ 5) (h3 : ¬ tkF tb ts (itN (nxF tb ts) j p) = sg) : ∀ (m : Nat) (i : Nat) (J : HI), (i ≤ j) → (j < i + m) → (GS tb ts b t K (k + i) (itN (nxF tb ts) i p) (o + i) C J) → (rdE b t I0 J) → X G (kM G 2 0 0 (qi fun r g => r = nI j ∧ ∃ J2 : HI, g = (Sh, J2, R) ∧ GS tb ts b t K (k + j) (itN (nxF tb ts) j p) (o + j) C J2 ∧ rdE b t I0 J2)) yX2_openAll cX2_openAll 4 (some .int) 0 0 4 [(3, .int (nI i)), (2, .int (nI i)), (0, .ref (b + 5)), (1, .int sg)] [] (Sh, J, R) := by
  intro m
  induction m with
  | zero =>
    intro i J hi hm hg hrd
    exact absurd hm (by omega)
  | succ m ih =>
    intro i J hi hm hg hrd
    obtain ⟨_, z1, z2, z3, z4, z5, _, _, zz, _⟩ := rc.1
    have zT := zz t rc.2.2
    obtain ⟨_, _, _, _, _, _, _, _, w1, w2, w3, w0, _, _, wW, _⟩ := rc.2.1
    have wT := wW t rc.2.2
    have t6 := rc.2.2
    refine x_iload_n dX2_openAll_4 0 rfl rfl ?_
    refine x_sipush (v := nI 160) dX2_openAll_5 (by decide) ?_
    refine x_icmp_ge (tgt := 63) dX2_openAll_8 (by decide) (fun c_8 => False.elim (absurd ((nI_leI (a := 160) (by omega) (by omega)).mp c_8) (by omega))) (fun c_8 => ?_)
    refine x_aload_n dX2_openAll_11 2 rfl rfl ?_
    refine x_gI (v := tkF tb ts (itN (nxF tb ts) i p)) dX2_openAll_12 fl_2_46 rfl z5 hg.2.1 ?_
    refine x_iload_n dX2_openAll_15 3 rfl rfl ?_
    refine x_icmp_ne (tgt := 63) dX2_openAll_16 (by decide) (fun c_16 => ?_) (fun c_16 => ?_)
    · refine x_iload_n dX2_openAll_63 1 rfl rfl ?_
      refine x_iret dX2_openAll_64 rfl (Nat.le_refl _) (Nat.le_refl _) ?_
      have hij : i = j := by
        apply Classical.byContradiction
        intro z
        exact c_16 (h1 i (by omega))
      subst hij
      exact ⟨rfl, J, rfl, hg, hrd⟩
    · have hij : i < j := (by
        apply Classical.byContradiction
        intro z
        have e : i = j := by omega
        rw [e] at c_16
        exact h3 c_16)
      refine x_aload_n dX2_openAll_19 2 rfl rfl ?_
      refine x_gI (v := nI (o + i)) dX2_openAll_20 fl_2_25 rfl z5 hg.2.2.1 ?_
      refine x_iconst (v := nI 5) dX2_openAll_23 (by decide) ?_
      refine x_icmp_ge (tgt := 53) dX2_openAll_24 (by decide) (fun c_24 => False.elim (absurd ((nI_leI (a := 5) (b := o + i) (by omega) (by omega)).mp c_24) (by omega))) (fun c_24 => ?_)
      refine x_aload_n dX2_openAll_27 2 rfl rfl ?_
      refine x_dup dX2_openAll_28 rfl ?_
      refine x_gI (v := nI (o + i)) dX2_openAll_29 fl_2_25 rfl z5 hg.2.2.1 ?_
      refine x_iconst (v := nI 1) dX2_openAll_32 (by decide) ?_
      refine x_iadd dX2_openAll_33 ?_
      refine x_vali (nI_add (o + i) 1) ?_
      refine x_pI dX2_openAll_34 fl_2_25 rfl rfl rfl z5 (fun Iq1 e_Iq1 => ?_)
      have hg1' := GS.opn (o' := o + i + 1) hg e_Iq1
      have hg1 := hg1'.1
      have hrd := hrd.tr hg1'.2
      refine x_iinc (v := nI (i + 1)) (lv' := [(2, .int (nI (i + 1))), (3, .int (nI i)), (0, .ref (b + 5)), (1, .int sg)]) dX2_openAll_37 1 rfl (nI_1 i) (by decide) rfl ?_
      refine x_aload_n dX2_openAll_40 2 rfl rfl ?_
      refine x_aload_n dX2_openAll_41 2 rfl rfl ?_
      refine x_gI (v := nI (k + i)) dX2_openAll_42 fl_2_62 rfl z5 hg1.1 ?_
      refine x_iconst (v := nI 1) dX2_openAll_45 (by decide) ?_
      refine x_iadd dX2_openAll_46 ?_
      refine x_vali (nI_add (k + i) 1) ?_
      refine x_callV (k_goTo (G := G) (tb := tb) (ts := ts) (K := K) rc (J := Iq1) (n := k + i + 1) (by have := hg1.le; have := hg1.2.2.2.2.2.2.1.1; have := hg1.lt (by rw [c_16]; exact hsg); omega)) dX2_openAll_47 crc_X2_goTo vc_2_32 z5 rfl rfl rfl rfl (Nat.le_of_ble_eq_true rfl) (roomy_k (by omega) (by decide)) (Nat.le_refl _) (Nat.le_refl _) ?_
      rintro _ _ ⟨rfl, eg9⟩
      obtain ⟨J2, e_J2⟩ : ∃ z : HI, z = u2 (u2 Iq1 (b + 5) 1 (nI (k + i + 1))) (b + 5) 2 (Iq1 (b + 3) (k + i + 1)) := ⟨_, rfl⟩
      rw [← e_J2] at eg9
      subst eg9
      have hg3' := GS.next hg1 (by rw [c_16]; exact hsg) e_J2
      have hg3 := hg3'.1
      have hrd := hrd.tr hg3'.2
      refine x_goto (tgt := 57) dX2_openAll_50 (by decide) ?_
      refine x_iinc (v := nI (i + 1)) (lv' := [(3, .int (nI (i + 1))), (2, .int (nI (i + 1))), (0, .ref (b + 5)), (1, .int sg)]) dX2_openAll_57 1 rfl (nI_1 i) (by decide) rfl ?_
      refine x_goto (tgt := 4) dX2_openAll_60 (by decide) ?_
      refine x_sub [0, 1, 2, 3] rfl ?_
      exact ih (i + 1) J2 (by omega) (by omega) hg3 hrd

set_option maxHeartbeats 4000000 in
set_option maxRecDepth 100000 in
theorem k_openA {G : GG} {Sh : HS} {R : HR} {b t K ts : Nat} {tb : Nat → Int32} (rc : RC b t Sh R) {k p o : Nat} {C : List Int32} {j : Nat} {J : HI} {sg : Int32} (hg : GS tb ts b t K k p o C J) (hsg : ¬ endT sg) (h1 : ∀ i, i < j → tkF tb ts (itN (nxF tb ts) i p) = sg) (h2 : o + j ≤ 5) (h3 : ¬ tkF tb ts (itN (nxF tb ts) j p) = sg) : AM G 2 0 0 yX2_openAll cX2_openAll 4 (some .int) [.ref (b + 5), .int sg] (Sh, J, R) (qi fun r g => r = nI j ∧ ∃ J2 : HI, g = (Sh, J2, R) ∧ GS tb ts b t K (k + j) (itN (nxF tb ts) j p) (o + j) C J2 ∧ rdE b t J J2) := by
  obtain ⟨_, z1, z2, z3, z4, z5, _, _, zz, _⟩ := rc.1
  have zT := zz t rc.2.2
  obtain ⟨_, _, _, _, _, _, _, _, w1, w2, w3, w0, _, _, wW, _⟩ := rc.2.1
  have wT := wW t rc.2.2
  have t6 := rc.2.2
  refine am_intro (by decide) (Nat.le_of_ble_eq_true rfl) ?_
  refine x_iconst (v := nI 0) dX2_openAll_0 (by decide) ?_
  refine x_istore_n (lv' := [(2, .int (nI 0)), (0, .ref (b + 5)), (1, .int sg)]) dX2_openAll_1 rfl (by decide) rfl ?_
  refine x_iconst (v := nI 0) dX2_openAll_2 (by decide) ?_
  refine x_istore_n (lv' := [(3, .int (nI 0)), (2, .int (nI 0)), (0, .ref (b + 5)), (1, .int sg)]) dX2_openAll_3 rfl (by decide) rfl ?_
  exact k_openA_l rc hsg h1 h2 h3 (j + 1) 0 J (by omega) (by omega) hg rdE.rf

set_option maxHeartbeats 4000000 in
set_option maxRecDepth 100000 in
theorem k_openB_l {G : GG} {Sh : HS} {R : HR} {b t K ts : Nat} {tb : Nat → Int32} (rc : RC b t Sh R) {k p o : Nat} {C : List Int32} {j : Nat} {I0 : HI} {sg : Int32} (hsg : ¬ endT sg) (h1 : ∀ i, i ≤ j → tkF tb ts (itN (nxF tb ts) i p) = sg) (h2 : o + j = 5) : ∀ (m : Nat) (i : Nat) (J : HI), (i ≤ j) → (j < i + m) → (GS tb ts b t K (k + i) (itN (nxF tb ts) i p) (o + i) C J) → (rdE b t I0 J) → X G (kM G 2 0 0 (qi fun r g => r = nI j ∧ ∃ J2 : HI, g = (Sh, J2, R) ∧ FS tb ts b t (itN (nxF tb ts) j p) J2 ∧ rdE b t I0 J2)) yX2_openAll cX2_openAll 4 (some .int) 0 0 4 [(3, .int (nI i)), (2, .int (nI i)), (0, .ref (b + 5)), (1, .int sg)] [] (Sh, J, R) := by
  intro m
  induction m with
  | zero =>
    intro i J hi hm hg hrd
    exact absurd hm (by omega)
  | succ m ih =>
    intro i J hi hm hg hrd
    obtain ⟨_, z1, z2, z3, z4, z5, _, _, zz, _⟩ := rc.1
    have zT := zz t rc.2.2
    obtain ⟨_, _, _, _, _, _, _, _, w1, w2, w3, w0, _, _, wW, _⟩ := rc.2.1
    have wT := wW t rc.2.2
    have t6 := rc.2.2
    refine x_iload_n dX2_openAll_4 0 rfl rfl ?_
    refine x_sipush (v := nI 160) dX2_openAll_5 (by decide) ?_
    refine x_icmp_ge (tgt := 63) dX2_openAll_8 (by decide) (fun c_8 => False.elim (absurd ((nI_leI (a := 160) (by omega) (by omega)).mp c_8) (by omega))) (fun c_8 => ?_)
    refine x_aload_n dX2_openAll_11 2 rfl rfl ?_
    refine x_gI (v := tkF tb ts (itN (nxF tb ts) i p)) dX2_openAll_12 fl_2_46 rfl z5 hg.2.1 ?_
    refine x_iload_n dX2_openAll_15 3 rfl rfl ?_
    refine x_icmp_ne (tgt := 63) dX2_openAll_16 (by decide) (fun c_16 => False.elim (c_16 (h1 i (by omega)))) (fun c_16 => ?_)
    refine x_aload_n dX2_openAll_19 2 rfl rfl ?_
    refine x_gI (v := nI (o + i)) dX2_openAll_20 fl_2_25 rfl z5 hg.2.2.1 ?_
    refine x_iconst (v := nI 5) dX2_openAll_23 (by decide) ?_
    refine x_icmp_ge (tgt := 53) dX2_openAll_24 (by decide) (fun c_24 => ?_) (fun c_24 => ?_)
    · have c_24 : 5 ≤ (o + i) := (nI_leI (a := 5) (b := (o + i)) (by omega) (by omega)).mp c_24
      refine x_aload_n dX2_openAll_53 2 rfl rfl ?_
      refine x_callV (k_fail (G := G) rc hg) dX2_openAll_54 crc_X2_fail vc_2_49 z5 rfl rfl rfl rfl (Nat.le_of_ble_eq_true rfl) (roomy_k (by omega) (by decide)) (Nat.le_refl _) (Nat.le_refl _) ?_
      rintro _ _ ⟨rfl, J4, rfl, hf5, e_J4⟩
      have hrd := hrd.tr e_J4
      refine x_iinc (v := nI (i + 1)) (lv' := [(3, .int (nI (i + 1))), (2, .int (nI i)), (0, .ref (b + 5)), (1, .int sg)]) dX2_openAll_57 0 rfl (nI_1 i) (by decide) rfl ?_
      refine x_goto (tgt := 4) dX2_openAll_60 (by decide) ?_
      refine x_sub [0, 1, 2, 3] rfl ?_
      have hij : i = j := by omega
      subst hij
      exact k_openF (K := K) rc hf5 hrd hsg (i := i + 1) (m := i) (by omega)
    · have c_24 : ¬ 5 ≤ (o + i) := fun zz9 => c_24 ((nI_leI (a := 5) (b := (o + i)) (by omega) (by omega)).mpr zz9)
      refine x_aload_n dX2_openAll_27 2 rfl rfl ?_
      refine x_dup dX2_openAll_28 rfl ?_
      refine x_gI (v := nI (o + i)) dX2_openAll_29 fl_2_25 rfl z5 hg.2.2.1 ?_
      refine x_iconst (v := nI 1) dX2_openAll_32 (by decide) ?_
      refine x_iadd dX2_openAll_33 ?_
      refine x_vali (nI_add (o + i) 1) ?_
      refine x_pI dX2_openAll_34 fl_2_25 rfl rfl rfl z5 (fun Iq1 e_Iq1 => ?_)
      have hg6' := GS.opn (o' := o + i + 1) hg e_Iq1
      have hg6 := hg6'.1
      have hrd := hrd.tr hg6'.2
      refine x_iinc (v := nI (i + 1)) (lv' := [(2, .int (nI (i + 1))), (3, .int (nI i)), (0, .ref (b + 5)), (1, .int sg)]) dX2_openAll_37 1 rfl (nI_1 i) (by decide) rfl ?_
      refine x_aload_n dX2_openAll_40 2 rfl rfl ?_
      refine x_aload_n dX2_openAll_41 2 rfl rfl ?_
      refine x_gI (v := nI (k + i)) dX2_openAll_42 fl_2_62 rfl z5 hg6.1 ?_
      refine x_iconst (v := nI 1) dX2_openAll_45 (by decide) ?_
      refine x_iadd dX2_openAll_46 ?_
      refine x_vali (nI_add (k + i) 1) ?_
      refine x_callV (k_goTo (G := G) (tb := tb) (ts := ts) (K := K) rc (J := Iq1) (n := k + i + 1) (by have := hg6.le; have := hg6.2.2.2.2.2.2.1.1; have := hg6.lt (by rw [h1 i (by omega)]; exact hsg); omega)) dX2_openAll_47 crc_X2_goTo vc_2_32 z5 rfl rfl rfl rfl (Nat.le_of_ble_eq_true rfl) (roomy_k (by omega) (by decide)) (Nat.le_refl _) (Nat.le_refl _) ?_
      rintro _ _ ⟨rfl, eg9⟩
      obtain ⟨J7, e_J7⟩ : ∃ z : HI, z = u2 (u2 Iq1 (b + 5) 1 (nI (k + i + 1))) (b + 5) 2 (Iq1 (b + 3) (k + i + 1)) := ⟨_, rfl⟩
      rw [← e_J7] at eg9
      subst eg9
      have hg8' := GS.next hg6 (by rw [h1 i (by omega)]; exact hsg) e_J7
      have hg8 := hg8'.1
      have hrd := hrd.tr hg8'.2
      refine x_goto (tgt := 57) dX2_openAll_50 (by decide) ?_
      refine x_iinc (v := nI (i + 1)) (lv' := [(3, .int (nI (i + 1))), (2, .int (nI (i + 1))), (0, .ref (b + 5)), (1, .int sg)]) dX2_openAll_57 1 rfl (nI_1 i) (by decide) rfl ?_
      refine x_goto (tgt := 4) dX2_openAll_60 (by decide) ?_
      refine x_sub [0, 1, 2, 3] rfl ?_
      exact ih (i + 1) J7 (by omega) (by omega) hg8 hrd

set_option maxHeartbeats 4000000 in
set_option maxRecDepth 100000 in
theorem k_openB {G : GG} {Sh : HS} {R : HR} {b t K ts : Nat} {tb : Nat → Int32} (rc : RC b t Sh R) {k p o : Nat} {C : List Int32} {j : Nat} {J : HI} {sg : Int32} (hg : GS tb ts b t K k p o C J) (hsg : ¬ endT sg) (h1 : ∀ i, i ≤ j → tkF tb ts (itN (nxF tb ts) i p) = sg) (h2 : o + j = 5) : AM G 2 0 0 yX2_openAll cX2_openAll 4 (some .int) [.ref (b + 5), .int sg] (Sh, J, R) (qi fun r g => r = nI j ∧ ∃ J2 : HI, g = (Sh, J2, R) ∧ FS tb ts b t (itN (nxF tb ts) j p) J2 ∧ rdE b t J J2) := by
  obtain ⟨_, z1, z2, z3, z4, z5, _, _, zz, _⟩ := rc.1
  have zT := zz t rc.2.2
  obtain ⟨_, _, _, _, _, _, _, _, w1, w2, w3, w0, _, _, wW, _⟩ := rc.2.1
  have wT := wW t rc.2.2
  have t6 := rc.2.2
  refine am_intro (by decide) (Nat.le_of_ble_eq_true rfl) ?_
  refine x_iconst (v := nI 0) dX2_openAll_0 (by decide) ?_
  refine x_istore_n (lv' := [(2, .int (nI 0)), (0, .ref (b + 5)), (1, .int sg)]) dX2_openAll_1 rfl (by decide) rfl ?_
  refine x_iconst (v := nI 0) dX2_openAll_2 (by decide) ?_
  refine x_istore_n (lv' := [(3, .int (nI 0)), (2, .int (nI 0)), (0, .ref (b + 5)), (1, .int sg)]) dX2_openAll_3 rfl (by decide) rfl ?_
  exact k_openB_l rc hsg h1 h2 (j + 1) 0 J (by omega) (by omega) hg rdE.rf

set_option maxHeartbeats 4000000 in
set_option maxRecDepth 100000 in
theorem k_openC {G : GG} {Sh : HS} {R : HR} {b t K ts : Nat} {tb : Nat → Int32} (rc : RC b t Sh R) {f : Nat} {J : HI} {sg : Int32} (hf : FS tb ts b t f J) (hsg : ¬ endT sg) : AM G 2 0 0 yX2_openAll cX2_openAll 4 (some .int) [.ref (b + 5), .int sg] (Sh, J, R) (qi fun r g => r = nI 0 ∧ ∃ J2 : HI, g = (Sh, J2, R) ∧ FS tb ts b t f J2 ∧ rdE b t J J2) := by
  obtain ⟨_, z1, z2, z3, z4, z5, _, _, zz, _⟩ := rc.1
  have zT := zz t rc.2.2
  obtain ⟨_, _, _, _, _, _, _, _, w1, w2, w3, w0, _, _, wW, _⟩ := rc.2.1
  have wT := wW t rc.2.2
  have t6 := rc.2.2
  refine am_intro (by decide) (Nat.le_of_ble_eq_true rfl) ?_
  refine x_iconst (v := nI 0) dX2_openAll_0 (by decide) ?_
  refine x_istore_n (lv' := [(2, .int (nI 0)), (0, .ref (b + 5)), (1, .int sg)]) dX2_openAll_1 rfl (by decide) rfl ?_
  refine x_iconst (v := nI 0) dX2_openAll_2 (by decide) ?_
  refine x_istore_n (lv' := [(3, .int (nI 0)), (2, .int (nI 0)), (0, .ref (b + 5)), (1, .int sg)]) dX2_openAll_3 rfl (by decide) rfl ?_
  exact k_openF (K := K) rc hf rdE.rf hsg (i := 0) (m := 0) (by omega)

set_option maxHeartbeats 4000000 in
set_option maxRecDepth 100000 in
theorem k_closeA_l {G : GG} {Sh : HS} {R : HR} {b t K ts : Nat} {tb : Nat → Int32} (rc : RC b t Sh R) {k p o : Nat} {C : List Int32} {m0 : Nat} {I0 : HI} {x : Int32} (hC : C.length + m0 ≤ 160) (hm0 : m0 < 1000) : ∀ (m : Nat) (i : Nat) (J : HI), (i ≤ m0) → (m0 < i + m) → (GS tb ts b t K k p o (C ++ List.replicate i x) J) → (rdE b t I0 J) → X G (kM G 2 0 0 (qv fun g => ∃ J2 : HI, g = (Sh, J2, R) ∧ GS tb ts b t K k p o (C ++ List.replicate m0 x) J2 ∧ rdE b t I0 J2)) yX2_closeAll cX2_closeAll 5 none 0 0 13 [(4, .int (nI i)), (0, .ref (b + 5)), (1, .int (nI m0)), (2, .int x), (3, .ref (b + 8 + 3 * t))] [] (Sh, J, R) := by
  intro m
  induction m with
  | zero =>
    intro i J hi hm hg hrd
    exact absurd hm (by omega)
  | succ m ih =>
    intro i J hi hm hg hrd
    obtain ⟨_, z1, z2, z3, z4, z5, _, _, zz, _⟩ := rc.1
    have zT := zz t rc.2.2
    obtain ⟨_, _, _, _, _, _, _, _, w1, w2, w3, w0, _, _, wW, _⟩ := rc.2.1
    have wT := wW t rc.2.2
    have t6 := rc.2.2
    refine x_iload dX2_closeAll_13 0 rfl ?_
    refine x_iload_n dX2_closeAll_15 2 rfl rfl ?_
    refine x_icmp_ge (tgt := 30) dX2_closeAll_16 (by decide) (fun c_16 => ?_) (fun c_16 => ?_)
    · have c_16 : m0 ≤ i := (nI_leI (a := m0) (b := i) (by omega) (by omega)).mp c_16
      refine x_vret dX2_closeAll_30 rfl (Nat.le_refl _) (Nat.le_refl _) ?_
      have hij : i = m0 := by omega
      subst hij
      exact ⟨J, rfl, hg, hrd⟩
    · have c_16 : ¬ m0 ≤ i := fun zz9 => c_16 ((nI_leI (a := m0) (b := i) (by omega) (by omega)).mpr zz9)
      refine x_aload_n dX2_closeAll_19 4 rfl rfl ?_
      refine x_iload_n dX2_closeAll_20 3 rfl rfl ?_
      refine x_callV (k_add1 (G := G) rc hg (by simp; omega) (c := x)) dX2_closeAll_21 crc_X6_add vc_2_65 zT.1 rfl rfl rfl rfl (Nat.le_of_ble_eq_true rfl) (roomy_k (by omega) (by decide)) (Nat.le_refl _) (Nat.le_refl _) ?_
      rintro _ _ ⟨rfl, J9, rfl, hg10, e_J9⟩
      have hrd := hrd.tr e_J9
      refine x_iinc (v := nI (i + 1)) (lv' := [(4, .int (nI (i + 1))), (0, .ref (b + 5)), (1, .int (nI m0)), (2, .int x), (3, .ref (b + 8 + 3 * t))]) dX2_closeAll_24 0 rfl (nI_1 i) (by decide) rfl ?_
      refine x_goto (tgt := 13) dX2_closeAll_27 (by decide) ?_
      refine x_sub [0, 1, 2, 3, 4] rfl ?_
      exact ih (i + 1) J9 (by omega) (by omega) (by
        have e : C ++ List.replicate (i + 1) x = (C ++ List.replicate i x) ++ [x] := by
          rw [List.append_assoc, ← List.replicate_succ']
        rw [e]
        exact hg10) hrd

set_option maxHeartbeats 4000000 in
set_option maxRecDepth 100000 in
theorem k_closeA {G : GG} {Sh : HS} {R : HR} {b t K ts : Nat} {tb : Nat → Int32} (rc : RC b t Sh R) {k p o : Nat} {C : List Int32} {m0 : Nat} {J : HI} {x : Int32} (hg : GS tb ts b t K k p (o + m0) C J) (hC : C.length + m0 ≤ 160) (hm0 : m0 < 1000) : AM G 2 0 0 yX2_closeAll cX2_closeAll 5 none [.ref (b + 5), .int (nI m0), .int x, .ref (b + 8 + 3 * t)] (Sh, J, R) (qv fun g => ∃ J2 : HI, g = (Sh, J2, R) ∧ GS tb ts b t K k p o (C ++ List.replicate m0 x) J2 ∧ rdE b t J J2) := by
  obtain ⟨_, z1, z2, z3, z4, z5, _, _, zz, _⟩ := rc.1
  have zT := zz t rc.2.2
  obtain ⟨_, _, _, _, _, _, _, _, w1, w2, w3, w0, _, _, wW, _⟩ := rc.2.1
  have wT := wW t rc.2.2
  have t6 := rc.2.2
  refine am_intro (by decide) (Nat.le_of_ble_eq_true rfl) ?_
  refine x_aload_n dX2_closeAll_0 0 rfl rfl ?_
  refine x_dup dX2_closeAll_1 rfl ?_
  refine x_gI (v := nI (o + m0)) dX2_closeAll_2 fl_2_25 rfl z5 hg.2.2.1 ?_
  refine x_iload_n dX2_closeAll_5 1 rfl rfl ?_
  refine x_isub dX2_closeAll_6 ?_
  refine x_pI dX2_closeAll_7 fl_2_25 rfl rfl rfl z5 (fun Iq1 e_Iq1 => ?_)
  have hg2' := GS.opn (o' := o) hg (J' := Iq1) (by rw [e_Iq1, pk_sub (by omega), Nat.add_sub_cancel])
  have hg2 := hg2'.1
  refine x_iconst (v := nI 0) dX2_closeAll_10 (by decide) ?_
  refine x_istore (lv' := [(4, .int (nI 0)), (0, .ref (b + 5)), (1, .int (nI m0)), (2, .int x), (3, .ref (b + 8 + 3 * t))]) dX2_closeAll_11 (by decide) rfl ?_
  refine x_sub [0, 1, 2, 3, 4] rfl ?_
  exact k_closeA_l rc hC hm0 (m0 + 1) 0 Iq1 (by omega) (by omega) (by rw [List.replicate_zero, List.append_nil]; exact hg2) hg2'.2

set_option maxHeartbeats 4000000 in
set_option maxRecDepth 100000 in
theorem k_closeF_l {G : GG} {Sh : HS} {R : HR} {b t K ts : Nat} {tb : Nat → Int32} (rc : RC b t Sh R) {f m0 : Nat} {I0 : HI} {x : Int32} (hm0 : m0 < 1000) : ∀ (m : Nat) (i : Nat) (J : HI), (i ≤ m0) → (m0 < i + m) → (FS tb ts b t f J) → (rdE b t I0 J) → X G (kM G 2 0 0 (qv fun g => ∃ J2 : HI, g = (Sh, J2, R) ∧ FS tb ts b t f J2 ∧ rdE b t I0 J2)) yX2_closeAll cX2_closeAll 5 none 0 0 13 [(4, .int (nI i)), (0, .ref (b + 5)), (1, .int (nI m0)), (2, .int x), (3, .ref (b + 8 + 3 * t))] [] (Sh, J, R) := by
  intro m
  induction m with
  | zero =>
    intro i J hi hm hf hrd
    exact absurd hm (by omega)
  | succ m ih =>
    intro i J hi hm hf hrd
    obtain ⟨_, z1, z2, z3, z4, z5, _, _, zz, _⟩ := rc.1
    have zT := zz t rc.2.2
    obtain ⟨_, _, _, _, _, _, _, _, w1, w2, w3, w0, _, _, wW, _⟩ := rc.2.1
    have wT := wW t rc.2.2
    have t6 := rc.2.2
    refine x_iload dX2_closeAll_13 0 rfl ?_
    refine x_iload_n dX2_closeAll_15 2 rfl rfl ?_
    refine x_icmp_ge (tgt := 30) dX2_closeAll_16 (by decide) (fun c_16 => ?_) (fun c_16 => ?_)
    · have c_16 : m0 ≤ i := (nI_leI (a := m0) (b := i) (by omega) (by omega)).mp c_16
      refine x_vret dX2_closeAll_30 rfl (Nat.le_refl _) (Nat.le_refl _) ?_
      exact ⟨J, rfl, hf, hrd⟩
    · have c_16 : ¬ m0 ≤ i := fun zz9 => c_16 ((nI_leI (a := m0) (b := i) (by omega) (by omega)).mpr zz9)
      refine x_aload_n dX2_closeAll_19 4 rfl rfl ?_
      refine x_iload_n dX2_closeAll_20 3 rfl rfl ?_
      refine x_callV (k_addF (G := G) (K := K) (tb := tb) (ts := ts) rc (J := J) (c := x)) dX2_closeAll_21 crc_X6_add vc_2_65 zT.1 rfl rfl rfl rfl (Nat.le_of_ble_eq_true rfl) (roomy_k (by omega) (by decide)) (Nat.le_refl _) (Nat.le_refl _) ?_
      rintro _ _ ⟨rfl, J11, rfl, q_J11, e_J11⟩
      have hg12 := FS.up hf (fun k _ => q_J11 k)
      have hrd := hrd.tr e_J11
      refine x_iinc (v := nI (i + 1)) (lv' := [(4, .int (nI (i + 1))), (0, .ref (b + 5)), (1, .int (nI m0)), (2, .int x), (3, .ref (b + 8 + 3 * t))]) dX2_closeAll_24 0 rfl (nI_1 i) (by decide) rfl ?_
      refine x_goto (tgt := 13) dX2_closeAll_27 (by decide) ?_
      refine x_sub [0, 1, 2, 3, 4] rfl ?_
      exact ih (i + 1) J11 (by omega) (by omega) hg12 hrd

set_option maxHeartbeats 4000000 in
set_option maxRecDepth 100000 in
theorem k_closeF {G : GG} {Sh : HS} {R : HR} {b t K ts : Nat} {tb : Nat → Int32} (rc : RC b t Sh R) {f m0 : Nat} {J : HI} {x : Int32} (hf : FS tb ts b t f J) (hm0 : m0 < 1000) : AM G 2 0 0 yX2_closeAll cX2_closeAll 5 none [.ref (b + 5), .int (nI m0), .int x, .ref (b + 8 + 3 * t)] (Sh, J, R) (qv fun g => ∃ J2 : HI, g = (Sh, J2, R) ∧ FS tb ts b t f J2 ∧ rdE b t J J2) := by
  obtain ⟨_, z1, z2, z3, z4, z5, _, _, zz, _⟩ := rc.1
  have zT := zz t rc.2.2
  obtain ⟨_, _, _, _, _, _, _, _, w1, w2, w3, w0, _, _, wW, _⟩ := rc.2.1
  have wT := wW t rc.2.2
  have t6 := rc.2.2
  refine am_intro (by decide) (Nat.le_of_ble_eq_true rfl) ?_
  refine x_aload_n dX2_closeAll_0 0 rfl rfl ?_
  refine x_dup dX2_closeAll_1 rfl ?_
  refine x_gI (v := J (b + 5) 3) dX2_closeAll_2 fl_2_25 rfl z5 rfl ?_
  refine x_iload_n dX2_closeAll_5 1 rfl rfl ?_
  refine x_isub dX2_closeAll_6 ?_
  refine x_pI dX2_closeAll_7 fl_2_25 rfl rfl rfl z5 (fun Iq1 e_Iq1 => ?_)
  refine x_iconst (v := nI 0) dX2_closeAll_10 (by decide) ?_
  refine x_istore (lv' := [(4, .int (nI 0)), (0, .ref (b + 5)), (1, .int (nI m0)), (2, .int x), (3, .ref (b + 8 + 3 * t))]) dX2_closeAll_11 (by decide) rfl ?_
  refine x_sub [0, 1, 2, 3, 4] rfl ?_
  exact k_closeF_l (K := K) rc hm0 (m0 + 1) 0 Iq1 (by omega) (by omega) (hf.up (fun q hq => by rw [e_Iq1, u2_ne (by omega)])) (fun a q q1 q2 q3 => by rw [e_Iq1, u2_ne (by omega)])

set_option maxHeartbeats 4000000 in
set_option maxRecDepth 100000 in
theorem k_expectA {G : GG} {Sh : HS} {R : HR} {b t K ts : Nat} {tb : Nat → Int32} (rc : RC b t Sh R) {k p o : Nat} {C : List Int32} {J : HI} (hg : GS tb ts b t K k p o C J) {w : Int32} (hw : tkF tb ts p = w) (hne : ¬ endT w) : AM G 2 0 0 yX2_expect cX2_expect 2 none [.ref (b + 5), .int w] (Sh, J, R) (qv fun g => ∃ J2 : HI, g = (Sh, J2, R) ∧ GS tb ts b t K (k + 1) (nxF tb ts p) o C J2 ∧ rdE b t J J2) := by
  obtain ⟨_, z1, z2, z3, z4, z5, _, _, zz, _⟩ := rc.1
  have zT := zz t rc.2.2
  obtain ⟨_, _, _, _, _, _, _, _, w1, w2, w3, w0, _, _, wW, _⟩ := rc.2.1
  have wT := wW t rc.2.2
  have t6 := rc.2.2
  have hrd : rdE b t J J := rdE.rf
  refine am_intro (by decide) (Nat.le_of_ble_eq_true rfl) ?_
  refine x_aload_n dX2_expect_0 0 rfl rfl ?_
  refine x_gI (v := tkF tb ts p) dX2_expect_1 fl_2_46 rfl z5 hg.2.1 ?_
  refine x_iload_n dX2_expect_4 1 rfl rfl ?_
  refine x_icmp_ne (tgt := 21) dX2_expect_5 (by decide) (fun c_5 => False.elim (c_5 hw)) (fun c_5 => ?_)
  refine x_aload_n dX2_expect_8 0 rfl rfl ?_
  refine x_aload_n dX2_expect_9 0 rfl rfl ?_
  refine x_gI (v := nI k) dX2_expect_10 fl_2_62 rfl z5 hg.1 ?_
  refine x_iconst (v := nI 1) dX2_expect_13 (by decide) ?_
  refine x_iadd dX2_expect_14 ?_
  refine x_vali (nI_add k 1) ?_
  refine x_callV (k_goTo (G := G) (tb := tb) (ts := ts) (K := K) rc (J := J) (n := k + 1) (by have := hg.le; have := hg.2.2.2.2.2.2.1.1; have := hg.lt (by rw [hw]; exact hne); omega)) dX2_expect_15 crc_X2_goTo vc_2_32 z5 rfl rfl rfl rfl (Nat.le_of_ble_eq_true rfl) (roomy_k (by omega) (by decide)) (Nat.le_refl _) (Nat.le_refl _) ?_
  rintro _ _ ⟨rfl, eg9⟩
  obtain ⟨J13, e_J13⟩ : ∃ z : HI, z = u2 (u2 J (b + 5) 1 (nI (k + 1))) (b + 5) 2 (J (b + 3) (k + 1)) := ⟨_, rfl⟩
  rw [← e_J13] at eg9
  subst eg9
  have hg14' := GS.next hg (by rw [hw]; exact hne) e_J13
  have hg14 := hg14'.1
  have hrd := hrd.tr hg14'.2
  refine x_goto (tgt := 25) dX2_expect_18 (by decide) ?_
  refine x_vret dX2_expect_25 rfl (Nat.le_refl _) (Nat.le_refl _) ?_
  exact ⟨J13, rfl, hg14, hrd⟩

set_option maxHeartbeats 4000000 in
set_option maxRecDepth 100000 in
theorem k_expectB {G : GG} {Sh : HS} {R : HR} {b t K ts : Nat} {tb : Nat → Int32} (rc : RC b t Sh R) {k p o : Nat} {C : List Int32} {J : HI} (hg : GS tb ts b t K k p o C J) {w : Int32} (hw : ¬ tkF tb ts p = w) : AM G 2 0 0 yX2_expect cX2_expect 2 none [.ref (b + 5), .int w] (Sh, J, R) (qv fun g => ∃ J2 : HI, g = (Sh, J2, R) ∧ FS tb ts b t p J2 ∧ rdE b t J J2) := by
  obtain ⟨_, z1, z2, z3, z4, z5, _, _, zz, _⟩ := rc.1
  have zT := zz t rc.2.2
  obtain ⟨_, _, _, _, _, _, _, _, w1, w2, w3, w0, _, _, wW, _⟩ := rc.2.1
  have wT := wW t rc.2.2
  have t6 := rc.2.2
  have hrd : rdE b t J J := rdE.rf
  refine am_intro (by decide) (Nat.le_of_ble_eq_true rfl) ?_
  refine x_aload_n dX2_expect_0 0 rfl rfl ?_
  refine x_gI (v := tkF tb ts p) dX2_expect_1 fl_2_46 rfl z5 hg.2.1 ?_
  refine x_iload_n dX2_expect_4 1 rfl rfl ?_
  refine x_icmp_ne (tgt := 21) dX2_expect_5 (by decide) (fun c_5 => ?_) (fun c_5 => False.elim (hw c_5))
  refine x_aload_n dX2_expect_21 0 rfl rfl ?_
  refine x_callV (k_fail (G := G) rc hg) dX2_expect_22 crc_X2_fail vc_2_49 z5 rfl rfl rfl rfl (Nat.le_of_ble_eq_true rfl) (roomy_k (by omega) (by decide)) (Nat.le_refl _) (Nat.le_refl _) ?_
  rintro _ _ ⟨rfl, J15, rfl, hf16, e_J15⟩
  have hrd := hrd.tr e_J15
  refine x_vret dX2_expect_25 rfl (Nat.le_refl _) (Nat.le_refl _) ?_
  exact ⟨J15, rfl, hf16, hrd⟩

set_option maxHeartbeats 4000000 in
set_option maxRecDepth 100000 in
theorem k_expectF {G : GG} {Sh : HS} {R : HR} {b t K ts : Nat} {tb : Nat → Int32} (rc : RC b t Sh R) {f : Nat} {J : HI} (hf : FS tb ts b t f J) {w : Int32} (hne : ¬ endT w) : AM G 2 0 0 yX2_expect cX2_expect 2 none [.ref (b + 5), .int w] (Sh, J, R) (qv fun g => ∃ J2 : HI, g = (Sh, J2, R) ∧ FS tb ts b t f J2 ∧ rdE b t J J2) := by
  obtain ⟨_, z1, z2, z3, z4, z5, _, _, zz, _⟩ := rc.1
  have zT := zz t rc.2.2
  obtain ⟨_, _, _, _, _, _, _, _, w1, w2, w3, w0, _, _, wW, _⟩ := rc.2.1
  have wT := wW t rc.2.2
  have t6 := rc.2.2
  have hrd : rdE b t J J := rdE.rf
  refine am_intro (by decide) (Nat.le_of_ble_eq_true rfl) ?_
  refine x_aload_n dX2_expect_0 0 rfl rfl ?_
  refine x_gI (v := 2) dX2_expect_1 fl_2_46 rfl z5 hf.1 ?_
  refine x_iload_n dX2_expect_4 1 rfl rfl ?_
  refine x_icmp_ne (tgt := 21) dX2_expect_5 (by decide) (fun c_5 => ?_) (fun c_5 => False.elim (hne (Or.inr c_5.symm)))
  refine x_aload_n dX2_expect_21 0 rfl rfl ?_
  refine x_callV (k_failF (G := G) (K := K) rc hf) dX2_expect_22 crc_X2_fail vc_2_49 z5 rfl rfl rfl rfl (Nat.le_of_ble_eq_true rfl) (roomy_k (by omega) (by decide)) (Nat.le_refl _) (Nat.le_refl _) ?_
  rintro _ _ ⟨rfl, J17, rfl, hf18, e_J17⟩
  have hrd := hrd.tr e_J17
  refine x_vret dX2_expect_25 rfl (Nat.le_refl _) (Nat.le_refl _) ?_
  exact ⟨J17, rfl, hf18, hrd⟩

