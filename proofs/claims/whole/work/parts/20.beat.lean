set_option maxHeartbeats 4000000 in
set_option maxRecDepth 100000 in
theorem k_raise {G : GG} {Sh : HS} {I : HI} {R : HR} {S T n : Nat} {P : Nat → List Int32} {v : SV} (w : SW Sh I R S T n P) (hv : SR I S n v) {i : Nat} (hi : i < n) : AM G 6 0 0 yX4_raise cX4_raise 2 none [.ref S, .ref (S + 2 + i)] (Sh, I, R) (qv fun g => ∃ J : HI, g = (Sh, J, R) ∧ SR J S n (spadeF P n i v) ∧ frS T S I J) := by
  obtain ⟨hS, hR, hn, hn8, hrl, hT, hRT, hTX, hTS⟩ := id w
  refine am_intro (by decide) (Nat.le_of_ble_eq_true rfl) ?_
  refine x_aload_n dX4_raise_0 1 rfl rfl ?_
  refine x_bipush (v := 99) dX4_raise_1 (by decide) ?_
  refine x_aload_n dX4_raise_3 1 rfl rfl ?_
  refine x_gI (v := I (S + 2 + i) 4) dX4_raise_4 fl_4_60 rfl (hS.2.2 i (by omega)) rfl ?_
  refine x_aload_n dX4_raise_7 0 rfl rfl ?_
  refine x_aload_n dX4_raise_8 1 rfl rfl ?_
  refine x_callV (k_risesOf (G := G) (I := I) w (f := S + 2 + i) (hS.2.2 i (by omega)) (by omega)) dX4_raise_9 crc_X4_risesOf vc_4_81 hS.1 rfl rfl rfl rfl (Nat.le_of_ble_eq_true rfl) (roomy_k (by omega) (by decide)) (Nat.le_refl _) (Nat.le_refl _) ?_
  rintro _ _ ⟨r, rfl, hr, I2, hoff, rfl⟩
  refine x_iadd dX4_raise_12 ?_
  refine x_mmin dX4_raise_13 sc_4_85 (Nat.le_of_ble_eq_true rfl) (roomy_k (by omega) (by decide)) (Nat.le_refl _) (Nat.le_refl _) ?_
  refine x_pI dX4_raise_16 fl_4_60 rfl rfl rfl (hS.2.2 i (by omega)) (fun Iq1 e_Iq1 => ?_)
  refine x_vret dX4_raise_19 rfl (Nat.le_refl _) (Nat.le_refl _) ?_
  have hh := raise_ok hv hoff hTS hi hn8 hr
  rw [← e_Iq1] at hh
  exact ⟨_, rfl, hh.1, hh.2⟩

set_option maxHeartbeats 4000000 in
set_option maxRecDepth 100000 in
theorem k_beat_l2 {G : GG} {Sh : HS} {I : HI} {R : HR} {S T n : Nat} {P : Nat → List Int32} {v : SV} (w : SW Sh I R S T n P) (hv : SR I S n v) : ∀ (m : Nat) (i : Nat) (J : HI), (i ≤ n) → (n < i + m) → (bt2 T S n P v I J i) → X G (kM G 5 0 0 (qv fun g => ∃ J : HI, g = (Sh, J, R) ∧ SR J S n (beatF P n v) ∧ frS T S I J)) yX4_beat cX4_beat 3 none 0 0 63 [(1, .int (nI i)), (0, .ref S)] [] (Sh, J, R) := by
  intro m
  induction m with
  | zero =>
    intro i J hi hm hb
    exact absurd hm (by omega)
  | succ m ih =>
    intro i J hi hm hb
    obtain ⟨hS, hR, hn, hn8, hrl, hT, hRT, hTX, hTS⟩ := id w
    refine x_iload_n dX4_beat_63 0 rfl rfl ?_
    refine x_aload_n dX4_beat_64 1 rfl rfl ?_
    refine x_gI (v := nI n) dX4_beat_65 fl_4_22 rfl hS.1 (hb.1 S 1 (scr_no hTS (Nat.le_refl _)) (by omega) |>.trans hn) ?_
    refine x_icmp_ge (tgt := 107) dX4_beat_68 (by decide) (fun c_68 => ?_) (fun c_68 => ?_)
    · have c_68 : n ≤ i := (nI_leI (a := n) (b := i) (by omega) (by omega)).mp c_68
      refine x_aload_n dX4_beat_107 1 rfl rfl ?_
      refine x_dup dX4_beat_108 rfl ?_
      refine x_gI (v := J S 3) dX4_beat_109 fl_4_37 rfl hS.1 rfl ?_
      refine x_iconst (v := 1) dX4_beat_112 (by decide) ?_
      refine x_iadd dX4_beat_113 ?_
      refine x_pI dX4_beat_114 fl_4_37 rfl rfl rfl hS.1 (fun Iq1 e_Iq1 => ?_)
      refine x_vret dX4_beat_117 rfl (Nat.le_refl _) (Nat.le_refl _) ?_
      have hin : i = n := by omega
      subst hin
      have hh := hb.end_ hv hTS
      rw [← e_Iq1] at hh
      exact ⟨_, rfl, hh.1, hh.2⟩
    · have c_68 : ¬ n ≤ i := fun q => c_68 ((nI_leI (a := n) (b := i) (by omega) (by omega)).mpr q)
      refine x_iload_n dX4_beat_71 0 rfl rfl ?_
      refine x_bipush (v := 8) dX4_beat_72 (by decide) ?_
      refine x_icmp_ge (tgt := 107) dX4_beat_74 (by decide) (fun c_74 => ?_) (fun c_74 => ?_)
      · have c_74 : 8 ≤ i := (nI_leI (a := 8) (b := i) (by omega) (by omega)).mp c_74
        refine x_aload_n dX4_beat_107 1 rfl rfl ?_
        refine x_dup dX4_beat_108 rfl ?_
        refine x_gI (v := J S 3) dX4_beat_109 fl_4_37 rfl hS.1 rfl ?_
        refine x_iconst (v := 1) dX4_beat_112 (by decide) ?_
        refine x_iadd dX4_beat_113 ?_
        refine x_pI dX4_beat_114 fl_4_37 rfl rfl rfl hS.1 (fun Iq2 e_Iq2 => ?_)
        refine x_vret dX4_beat_117 rfl (Nat.le_refl _) (Nat.le_refl _) ?_
        have hin : i = n := by omega
        subst hin
        have hh := hb.end_ hv hTS
        rw [← e_Iq2] at hh
        exact ⟨_, rfl, hh.1, hh.2⟩
      · have c_74 : ¬ 8 ≤ i := fun q => c_74 ((nI_leI (a := 8) (b := i) (by omega) (by omega)).mpr q)
        refine x_aload_n dX4_beat_77 1 rfl rfl ?_
        refine x_gR (b := S + 1) dX4_beat_78 fl_4_11 rfl hS.1 hR.1 ?_
        refine x_iload_n dX4_beat_81 0 rfl rfl ?_
        refine x_aa (j := i) (b := S + 2 + i) dX4_beat_82 hS.2.1 (by decide) (by decide) rfl (by omega) (by omega) (hR.2 i (by omega)) ?_
        refine x_astore_n (lv' := [(2, .ref (S + 2 + i)), (1, .int (nI i)), (0, .ref S)]) dX4_beat_83 rfl (by decide) rfl ?_
        refine x_aload_n dX4_beat_84 0 rfl rfl ?_
        refine x_iconst (v := 0) dX4_beat_85 (by decide) ?_
        refine x_aload_n dX4_beat_86 0 rfl rfl ?_
        refine x_gI (v := J (S + 2 + i) 4) dX4_beat_87 fl_4_60 rfl (hS.2.2 i (by omega)) rfl ?_
        refine x_aload_n dX4_beat_90 0 rfl rfl ?_
        refine x_gI (v := J (S + 2 + i) 5) dX4_beat_91 fl_4_70 rfl (hS.2.2 i (by omega)) rfl ?_
        refine x_isub dX4_beat_94 ?_
        refine x_mmax dX4_beat_95 sc_4_73 (Nat.le_of_ble_eq_true rfl) (roomy_k (by omega) (by decide)) (Nat.le_refl _) (Nat.le_refl _) ?_
        refine x_pI dX4_beat_98 fl_4_60 rfl rfl rfl (hS.2.2 i (by omega)) (fun Iq3 e_Iq3 => ?_)
        refine x_iinc (v := nI (i + 1)) (lv' := [(1, .int (nI (i + 1))), (2, .ref (S + 2 + i)), (0, .ref S)]) dX4_beat_101 1 rfl (nI_1 i) (by decide) rfl ?_
        refine x_goto (tgt := 63) dX4_beat_104 (by decide) ?_
        refine x_sub [0, 2] rfl ?_
        exact ih (i + 1) Iq3 (by omega) (by omega) (by rw [e_Iq3]; exact hb.step (by omega) hn8 rfl)

set_option maxHeartbeats 4000000 in
set_option maxRecDepth 100000 in
theorem k_beat_l1 {G : GG} {Sh : HS} {I : HI} {R : HR} {S T n : Nat} {P : Nat → List Int32} {v : SV} (w : SW Sh I R S T n P) (hv : SR I S n v) : ∀ (m : Nat) (i : Nat) (J : HI), (i ≤ n) → (n < i + m) → (bt1 T S n P v I J i) → X G (kM G 5 0 0 (qv fun g => ∃ J : HI, g = (Sh, J, R) ∧ SR J S n (beatF P n v) ∧ frS T S I J)) yX4_beat cX4_beat 3 none 0 0 2 [(1, .int (nI i)), (0, .ref S)] [] (Sh, J, R) := by
  intro m
  induction m with
  | zero =>
    intro i J hi hm hb
    exact absurd hm (by omega)
  | succ m ih =>
    intro i J hi hm hb
    obtain ⟨hS, hR, hn, hn8, hrl, hT, hRT, hTX, hTS⟩ := id w
    refine x_iload_n dX4_beat_2 0 rfl rfl ?_
    refine x_aload_n dX4_beat_3 1 rfl rfl ?_
    refine x_gI (v := nI n) dX4_beat_4 fl_4_22 rfl hS.1 (hb.fr S 1 (scr_no hTS (Nat.le_refl _)) (by omega) (by omega) |>.trans hn) ?_
    refine x_icmp_ge (tgt := 61) dX4_beat_7 (by decide) (fun c_7 => ?_) (fun c_7 => ?_)
    · have c_7 : n ≤ i := (nI_leI (a := n) (b := i) (by omega) (by omega)).mp c_7
      refine x_iconst (v := 0) dX4_beat_61 (by decide) ?_
      refine x_istore_n (lv' := [(1, .int 0), (0, .ref S)]) dX4_beat_62 rfl (by decide) rfl ?_
      refine x_sub [0, 1] rfl ?_
      have hin : i = n := by omega
      subst hin
      exact k_beat_l2 w hv (i + 1) 0 J (by omega) (by omega) (hb.end_ hv hTS)
    · have c_7 : ¬ n ≤ i := fun q => c_7 ((nI_leI (a := n) (b := i) (by omega) (by omega)).mpr q)
      refine x_iload_n dX4_beat_10 0 rfl rfl ?_
      refine x_bipush (v := 8) dX4_beat_11 (by decide) ?_
      refine x_icmp_ge (tgt := 61) dX4_beat_13 (by decide) (fun c_13 => ?_) (fun c_13 => ?_)
      · have c_13 : 8 ≤ i := (nI_leI (a := 8) (b := i) (by omega) (by omega)).mp c_13
        refine x_iconst (v := 0) dX4_beat_61 (by decide) ?_
        refine x_istore_n (lv' := [(1, .int 0), (0, .ref S)]) dX4_beat_62 rfl (by decide) rfl ?_
        refine x_sub [0, 1] rfl ?_
        have hin : i = n := by omega
        subst hin
        exact k_beat_l2 w hv (i + 1) 0 J (by omega) (by omega) (hb.end_ hv hTS)
      · have c_13 : ¬ 8 ≤ i := fun q => c_13 ((nI_leI (a := 8) (b := i) (by omega) (by omega)).mpr q)
        refine x_aload_n dX4_beat_16 1 rfl rfl ?_
        refine x_gR (b := S + 1) dX4_beat_17 fl_4_11 rfl hS.1 hR.1 ?_
        refine x_iload_n dX4_beat_20 0 rfl rfl ?_
        refine x_aa (j := i) (b := S + 2 + i) dX4_beat_21 hS.2.1 (by decide) (by decide) rfl (by omega) (by omega) (hR.2 i (by omega)) ?_
        refine x_astore_n (lv' := [(2, .ref (S + 2 + i)), (1, .int (nI i)), (0, .ref S)]) dX4_beat_22 rfl (by decide) rfl ?_
        refine x_aload_n dX4_beat_23 0 rfl rfl ?_
        refine x_aload_n dX4_beat_24 0 rfl rfl ?_
        refine x_callV (k_stands (G := G) (Sh := Sh) (I := J) (R := R) (f := S + 2 + i) (hS.2.2 i (by omega))) dX4_beat_25 crc_X0_stands vc_4_66 (hS.2.2 i (by omega)) rfl rfl rfl rfl (Nat.le_of_ble_eq_true rfl) (roomy_k (by omega) (by decide)) (Nat.le_refl _) (Nat.le_refl _) ?_
        rintro _ _ ⟨rs, rfl, hrs, rfl⟩
        subst hrs
        refine x_if_eqB (tgt := 51) dX4_beat_28 (by decide) (fun c_28 => ?_) (fun c_28 => ?_)
        · refine x_iconst (v := 0) dX4_beat_51 (by decide) ?_
          refine x_pI dX4_beat_52 fl_4_70 rfl rfl rfl (hS.2.2 i (by omega)) (fun Iq1 e_Iq1 => ?_)
          refine x_iinc (v := nI (i + 1)) (lv' := [(1, .int (nI (i + 1))), (2, .ref (S + 2 + i)), (0, .ref S)]) dX4_beat_55 1 rfl (nI_1 i) (by decide) rfl ?_
          refine x_goto (tgt := 2) dX4_beat_58 (by decide) ?_
          refine x_sub [0, 2] rfl ?_
          exact ih (i + 1) Iq1 (by omega) (by omega) (by
            rw [e_Iq1]
            refine hb.step hTS offT.rf (by omega) hn8 ?_
            unfold leF
            rw [← (hb.sr hv hTS).1 i (by omega) 4 (by omega), if_neg c_28])
        · refine x_aload_n dX4_beat_31 0 rfl rfl ?_
          refine x_aload_n dX4_beat_32 2 rfl rfl ?_
          refine x_gR (b := T) dX4_beat_33 fl_4_17 rfl hS.1 hrl ?_
          refine x_aload_n dX4_beat_36 2 rfl rfl ?_
          refine x_aload_n dX4_beat_37 0 rfl rfl ?_
          refine x_callV (k_strikeOn (G := G) (I := J) (w.fr hb.fr) (f := S + 2 + i) (hS.2.2 i (by omega)) (by omega)) dX4_beat_38 crc_X6_strikeOn vc_4_40 hT.1 rfl rfl rfl rfl (Nat.le_of_ble_eq_true rfl) (roomy_k (by omega) (by decide)) (Nat.le_refl _) (Nat.le_refl _) ?_
          rintro _ _ ⟨r, rfl, hr, I2, hoff, rfl⟩
          refine x_aload_n dX4_beat_41 2 rfl rfl ?_
          refine x_gI (v := v.2.2) dX4_beat_42 fl_4_37 rfl hS.1 ((hoff.out (by omega)).trans (hb.sr hv hTS).2.2) ?_
          refine x_callV (k_lossBy (G := G) (Sh := Sh) (I := I2) (R := R) (f := S + 2 + i) (v := r) (w := v.2.2) (hS.2.2 i (by omega))) dX4_beat_45 crc_X0_lossBy vc_4_46 (hS.2.2 i (by omega)) rfl rfl rfl rfl (Nat.le_of_ble_eq_true rfl) (roomy_k (by omega) (by decide)) (Nat.le_refl _) (Nat.le_refl _) ?_
          rintro _ _ ⟨r2, rfl, hr2, rfl⟩
          refine x_goto (tgt := 52) dX4_beat_48 (by decide) ?_
          refine x_pI dX4_beat_52 fl_4_70 rfl rfl rfl (hS.2.2 i (by omega)) (fun Iq2 e_Iq2 => ?_)
          refine x_iinc (v := nI (i + 1)) (lv' := [(1, .int (nI (i + 1))), (2, .ref (S + 2 + i)), (0, .ref S)]) dX4_beat_55 1 rfl (nI_1 i) (by decide) rfl ?_
          refine x_goto (tgt := 2) dX4_beat_58 (by decide) ?_
          refine x_sub [0, 2] rfl ?_
          exact ih (i + 1) Iq2 (by omega) (by omega) (by
            rw [e_Iq2]
            refine hb.step hTS hoff (by omega) hn8 ?_
            have hs := hb.sr hv hTS
            unfold leF
            rw [← hs.1 i (by omega) 4 (by omega), if_pos c_28, hr2, hr, hoff.out (by omega), hoff.out (by omega), hs.1 i (by omega) 0 (by omega), hs.1 i (by omega) 1 (by omega), cx_cF hs (by omega)]
            rfl)

set_option maxHeartbeats 4000000 in
set_option maxRecDepth 100000 in
theorem k_beat {G : GG} {Sh : HS} {I : HI} {R : HR} {S T n : Nat} {P : Nat → List Int32} {v : SV} (w : SW Sh I R S T n P) (hv : SR I S n v) : AM G 5 0 0 yX4_beat cX4_beat 3 none [.ref S] (Sh, I, R) (qv fun g => ∃ J : HI, g = (Sh, J, R) ∧ SR J S n (beatF P n v) ∧ frS T S I J) := by
  refine am_intro (by decide) (Nat.le_of_ble_eq_true rfl) ?_
  refine x_iconst (v := nI 0) dX4_beat_0 (by decide) ?_
  refine x_istore_n (lv' := [(1, .int (nI 0)), (0, .ref S)]) dX4_beat_1 rfl (by decide) rfl ?_
  exact k_beat_l1 w hv (n + 1) 0 I (by omega) (by omega) ⟨fun _ _ _ _ => rfl, fun o ho => absurd ho (by omega)⟩

set_option maxHeartbeats 4000000 in
set_option maxRecDepth 100000 in
theorem k_pass_l {G : GG} {Sh : HS} {I : HI} {R : HR} {S T n : Nat} {P : Nat → List Int32} {v : SV} (w : SW Sh I R S T n P) (hv : SR I S n v) {k : Nat} (hk : k < 2147483648) : ∀ (m : Nat) (i : Nat) (J : HI), (i ≤ k) → (k < i + m) → (SR J S n (passF P n v i)) → (frS T S I J) → X G (kM G 6 0 0 (qv fun g => ∃ J : HI, g = (Sh, J, R) ∧ SR J S n (passF P n v k) ∧ frS T S I J)) yX4_pass cX4_pass 3 none 0 0 2 [(2, .int (nI i)), (0, .ref S), (1, .int (nI k))] [] (Sh, J, R) := by
  intro m
  induction m with
  | zero =>
    intro i J hi hm hs hfr
    exact absurd hm (by omega)
  | succ m ih =>
    intro i J hi hm hs hfr
    obtain ⟨hS, hR, hn, hn8, hrl, hT, hRT, hTX, hTS⟩ := id w
    refine x_iload_n dX4_pass_2 0 rfl rfl ?_
    refine x_iload_n dX4_pass_3 2 rfl rfl ?_
    refine x_icmp_ge (tgt := 17) dX4_pass_4 (by decide) (fun c_4 => ?_) (fun c_4 => ?_)
    · have c_4 : k ≤ i := (nI_leI (a := k) (b := i) (by omega) (by omega)).mp c_4
      refine x_vret dX4_pass_17 rfl (Nat.le_refl _) (Nat.le_refl _) ?_
      have hin : i = k := by omega
      subst hin
      exact ⟨J, rfl, hs, hfr⟩
    · have c_4 : ¬ k ≤ i := fun q => c_4 ((nI_leI (a := k) (b := i) (by omega) (by omega)).mpr q)
      refine x_aload_n dX4_pass_7 1 rfl rfl ?_
      refine x_callV (k_beat (G := G) (I := J) (w.fr hfr) hs) dX4_pass_8 crc_X4_beat vc_4_78 hS.1 rfl rfl rfl rfl (Nat.le_of_ble_eq_true rfl) (roomy_k (by omega) (by decide)) (Nat.le_refl _) (Nat.le_refl _) ?_
      rintro _ _ ⟨rfl, J2, rfl, hs2, hfr2⟩
      refine x_iinc (v := nI (i + 1)) (lv' := [(2, .int (nI (i + 1))), (0, .ref S), (1, .int (nI k))]) dX4_pass_11 0 rfl (nI_1 i) (by decide) rfl ?_
      refine x_goto (tgt := 2) dX4_pass_14 (by decide) ?_
      refine x_sub [0, 1, 2] rfl ?_
      exact ih (i + 1) J2 (by omega) (by omega) hs2 (hfr.tr hfr2)

set_option maxHeartbeats 4000000 in
set_option maxRecDepth 100000 in
theorem k_pass {G : GG} {Sh : HS} {I : HI} {R : HR} {S T n : Nat} {P : Nat → List Int32} {v : SV} (w : SW Sh I R S T n P) (hv : SR I S n v) {k : Nat} (hk : k < 2147483648) : AM G 6 0 0 yX4_pass cX4_pass 3 none [.ref S, .int (nI k)] (Sh, I, R) (qv fun g => ∃ J : HI, g = (Sh, J, R) ∧ SR J S n (passF P n v k) ∧ frS T S I J) := by
  refine am_intro (by decide) (Nat.le_of_ble_eq_true rfl) ?_
  refine x_iconst (v := nI 0) dX4_pass_0 (by decide) ?_
  refine x_istore_n (lv' := [(2, .int (nI 0)), (0, .ref S), (1, .int (nI k))]) dX4_pass_1 rfl (by decide) rfl ?_
  exact k_pass_l w hv hk (k + 1) 0 I (by omega) (by omega) hv frS.rf

set_option maxHeartbeats 4000000 in
set_option maxRecDepth 100000 in
theorem k_standing_l {G : GG} {Sh : HS} {I : HI} {R : HR} {S T n : Nat} {P : Nat → List Int32} {v : SV} (w : SW Sh I R S T n P) (hv : SR I S n v) : ∀ (m : Nat) (i : Nat) (acc : Int32), (i ≤ n) → (n < i + m) → (acc = standF i v) → X G (kM G 2 0 0 (qi fun r g => r = standF n v ∧ g = (Sh, I, R))) yX4_standing cX4_standing 3 (some .int) 0 0 4 [(2, .int (nI i)), (1, .int acc), (0, .ref S)] [] (Sh, I, R) := by
  intro m
  induction m with
  | zero =>
    intro i acc hi hm hacc
    exact absurd hm (by omega)
  | succ m ih =>
    intro i acc hi hm hacc
    obtain ⟨hS, hR, hn, hn8, hrl, hT, hRT, hTX, hTS⟩ := id w
    refine x_iload_n dX4_standing_4 0 rfl rfl ?_
    refine x_aload_n dX4_standing_5 2 rfl rfl ?_
    refine x_gI (v := nI n) dX4_standing_6 fl_4_22 rfl hS.1 hn ?_
    refine x_icmp_ge (tgt := 42) dX4_standing_9 (by decide) (fun c_9 => ?_) (fun c_9 => ?_)
    · have c_9 : n ≤ i := (nI_leI (a := n) (b := i) (by omega) (by omega)).mp c_9
      refine x_iload_n dX4_standing_42 1 rfl rfl ?_
      refine x_iret dX4_standing_43 rfl (Nat.le_refl _) (Nat.le_refl _) ?_
      have hin : i = n := by omega
      subst hin
      exact ⟨hacc, rfl⟩
    · have c_9 : ¬ n ≤ i := fun q => c_9 ((nI_leI (a := n) (b := i) (by omega) (by omega)).mpr q)
      refine x_iload_n dX4_standing_12 0 rfl rfl ?_
      refine x_bipush (v := 8) dX4_standing_13 (by decide) ?_
      refine x_icmp_ge (tgt := 42) dX4_standing_15 (by decide) (fun c_15 => ?_) (fun c_15 => ?_)
      · have c_15 : 8 ≤ i := (nI_leI (a := 8) (b := i) (by omega) (by omega)).mp c_15
        refine x_iload_n dX4_standing_42 1 rfl rfl ?_
        refine x_iret dX4_standing_43 rfl (Nat.le_refl _) (Nat.le_refl _) ?_
        have hin : i = n := by omega
        subst hin
        exact ⟨hacc, rfl⟩
      · have c_15 : ¬ 8 ≤ i := fun q => c_15 ((nI_leI (a := 8) (b := i) (by omega) (by omega)).mpr q)
        refine x_aload_n dX4_standing_18 2 rfl rfl ?_
        refine x_gR (b := S + 1) dX4_standing_19 fl_4_11 rfl hS.1 hR.1 ?_
        refine x_iload_n dX4_standing_22 0 rfl rfl ?_
        refine x_aa (j := i) (b := S + 2 + i) dX4_standing_23 hS.2.1 (by decide) (by decide) rfl (by omega) (by omega) (hR.2 i (by omega)) ?_
        refine x_callV (k_stands (G := G) (Sh := Sh) (I := I) (R := R) (f := S + 2 + i) (hS.2.2 i (by omega))) dX4_standing_24 crc_X0_stands vc_4_66 (hS.2.2 i (by omega)) rfl rfl rfl rfl (Nat.le_of_ble_eq_true rfl) (roomy_k (by omega) (by decide)) (Nat.le_refl _) (Nat.le_refl _) ?_
        rintro _ _ ⟨rs, rfl, hrs, rfl⟩
        subst hrs
        refine x_if_eqB (tgt := 36) dX4_standing_27 (by decide) (fun c_27 => ?_) (fun c_27 => ?_)
        · refine x_iinc (v := nI (i + 1)) (lv' := [(2, .int (nI (i + 1))), (1, .int acc), (0, .ref S)]) dX4_standing_36 0 rfl (nI_1 i) (by decide) rfl ?_
          refine x_goto (tgt := 4) dX4_standing_39 (by decide) ?_
          refine x_sub [0, 1, 2] rfl ?_
          exact ih (i + 1) acc (by omega) (by omega) (by
            unfold standF at *
            rw [fd_s, ← hacc, ← hv.1 i (by omega) 4 (by omega), if_neg c_27])
        · refine x_iload_n dX4_standing_30 1 rfl rfl ?_
          refine x_iconst (v := 1) dX4_standing_31 (by decide) ?_
          refine x_iload_n dX4_standing_32 0 rfl rfl ?_
          refine x_ishl dX4_standing_33 ?_
          refine x_ior dX4_standing_34 ?_
          refine x_topi (fun xq1 e_xq1 => ?_)
          refine x_istore_n (lv' := [(1, .int xq1), (2, .int (nI i)), (0, .ref S)]) dX4_standing_35 rfl (by decide) rfl ?_
          refine x_iinc (v := nI (i + 1)) (lv' := [(2, .int (nI (i + 1))), (1, .int xq1), (0, .ref S)]) dX4_standing_36 1 rfl (nI_1 i) (by decide) rfl ?_
          refine x_goto (tgt := 4) dX4_standing_39 (by decide) ?_
          refine x_sub [0, 1, 2] rfl ?_
          exact ih (i + 1) xq1 (by omega) (by omega) (by
            unfold standF at *
            rw [fd_s, ← hacc, ← hv.1 i (by omega) 4 (by omega), if_pos c_27]; exact e_xq1)

set_option maxHeartbeats 4000000 in
set_option maxRecDepth 100000 in
theorem k_standing {G : GG} {Sh : HS} {I : HI} {R : HR} {S T n : Nat} {P : Nat → List Int32} {v : SV} (w : SW Sh I R S T n P) (hv : SR I S n v) : AM G 2 0 0 yX4_standing cX4_standing 3 (some .int) [.ref S] (Sh, I, R) (qi fun r g => r = standF n v ∧ g = (Sh, I, R)) := by
  refine am_intro (by decide) (Nat.le_of_ble_eq_true rfl) ?_
  refine x_iconst (v := 0) dX4_standing_0 (by decide) ?_
  refine x_istore_n (lv' := [(1, .int 0), (0, .ref S)]) dX4_standing_1 rfl (by decide) rfl ?_
  refine x_iconst (v := 0) dX4_standing_2 (by decide) ?_
  refine x_istore_n (lv' := [(2, .int 0), (1, .int 0), (0, .ref S)]) dX4_standing_3 rfl (by decide) rfl ?_
  exact k_standing_l w hv (n + 1) 0 0 (by omega) (by omega) rfl

