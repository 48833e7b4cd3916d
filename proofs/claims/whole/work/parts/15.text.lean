set_option maxHeartbeats 4000000 in
set_option maxRecDepth 100000 in
theorem k_push {G : GG} {Sh : HS} {I : HI} {R : HR} {T : Nat} (hT : ShT Sh T) (hRT : RT R T) {v : Int32} {d : Nat} (hd : I T 6 = nI d) (hd2 : d < 40) : AM G 1 0 0 yX6_push cX6_push 2 none [.ref T, .int v] (Sh, I, R) (qv fun g => g = (Sh, u2 (u2 I (T + 2) d v) T 6 (nI (d + 1)), R)) := by
  refine am_intro (by decide) (Nat.le_of_ble_eq_true rfl) ?_
  refine x_aload_n dX6_push_0 0 rfl rfl ?_
  refine x_gI (v := nI d) dX6_push_1 fl_6_41 rfl hT.1 hd ?_
  refine x_if_lt (tgt := 36) dX6_push_4 (by decide) (fun c_4 => False.elim (nI_pos (by omega) c_4)) (fun c_4 => ?_)
  refine x_aload_n dX6_push_7 0 rfl rfl ?_
  refine x_gI (v := nI d) dX6_push_8 fl_6_41 rfl hT.1 hd ?_
  refine x_bipush (v := nI 40) dX6_push_11 (by decide) ?_
  refine x_icmp_ge (tgt := 36) dX6_push_13 (by decide) (fun c_13 => False.elim (by have := (nI_leI (a := 40) (b := d) (by omega) (by omega)).mp c_13; omega)) (fun c_13 => ?_)
  refine x_aload_n dX6_push_16 0 rfl rfl ?_
  refine x_gR (b := T + 2) dX6_push_17 fl_6_15 rfl hT.1 hRT.2 ?_
  refine x_aload_n dX6_push_20 0 rfl rfl ?_
  refine x_gI (v := nI d) dX6_push_21 fl_6_41 rfl hT.1 hd ?_
  refine x_iload_n dX6_push_24 1 rfl rfl ?_
  refine x_is (j := d) dX6_push_25 hT.2.2 rfl hd2 (by omega) (fun Iq1 e_Iq1 => ?_)
  refine x_aload_n dX6_push_26 0 rfl rfl ?_
  refine x_dup dX6_push_27 rfl ?_
  refine x_gI (v := nI d) dX6_push_28 fl_6_41 rfl hT.1 (by rw [e_Iq1, u2_ne (by omega)]; exact hd) ?_
  refine x_iconst (v := nI 1) dX6_push_31 (by decide) ?_
  refine x_iadd dX6_push_32 ?_
  refine x_vali (nI_add d 1) ?_
  refine x_pI dX6_push_33 fl_6_41 rfl rfl rfl hT.1 (fun Iq2 e_Iq2 => ?_)
  refine x_vret dX6_push_36 rfl (Nat.le_refl _) (Nat.le_refl _) ?_
  subst_vars
  rfl

set_option maxHeartbeats 4000000 in
set_option maxRecDepth 100000 in
theorem k_pop {G : GG} {Sh : HS} {I : HI} {R : HR} {T : Nat} (hT : ShT Sh T) (hRT : RT R T) {d : Nat} (hd : I T 6 = nI (d + 1)) (hd2 : d < 40) : AM G 1 0 0 yX6_pop cX6_pop 1 (some .int) [.ref T] (Sh, I, R) (qi fun r g => r = I (T + 2) d ∧ g = (Sh, u2 I T 6 (nI d), R)) := by
  refine am_intro (by decide) (Nat.le_of_ble_eq_true rfl) ?_
  refine x_aload_n dX6_pop_0 0 rfl rfl ?_
  refine x_gI (v := nI (d + 1)) dX6_pop_1 fl_6_41 rfl hT.1 hd ?_
  refine x_iconst (v := nI 1) dX6_pop_4 (by decide) ?_
  refine x_icmp_lt (tgt := 17) dX6_pop_5 (by decide) (fun c_5 => False.elim (by have := (nI_ltI (a := d + 1) (b := 1) (by omega) (by omega)).mp c_5; omega)) (fun c_5 => ?_)
  refine x_aload_n dX6_pop_8 0 rfl rfl ?_
  refine x_gI (v := nI (d + 1)) dX6_pop_9 fl_6_41 rfl hT.1 hd ?_
  refine x_bipush (v := nI 40) dX6_pop_12 (by decide) ?_
  refine x_icmp_le (tgt := 19) dX6_pop_14 (by decide) (fun c_14 => ?_) (fun c_14 => False.elim (c_14 ((nI_leI (a := d + 1) (b := 40) (by omega) (by omega)).mpr (by omega))))
  refine x_aload_n dX6_pop_19 0 rfl rfl ?_
  refine x_dup dX6_pop_20 rfl ?_
  refine x_gI (v := nI (d + 1)) dX6_pop_21 fl_6_41 rfl hT.1 hd ?_
  refine x_iconst (v := nI 1) dX6_pop_24 (by decide) ?_
  refine x_isub dX6_pop_25 ?_
  refine x_pI dX6_pop_26 fl_6_41 rfl rfl rfl hT.1 (fun Iq1 e_Iq1 => ?_)
  refine x_aload_n dX6_pop_29 0 rfl rfl ?_
  refine x_gR (b := T + 2) dX6_pop_30 fl_6_15 rfl hT.1 hRT.2 ?_
  refine x_aload_n dX6_pop_33 0 rfl rfl ?_
  refine x_gI (v := nI d) dX6_pop_34 fl_6_41 rfl hT.1 (by rw [e_Iq1, u2_same]; exact nI_pred d) ?_
  refine x_ia (j := d) (v := Iq1 (T + 2) d) dX6_pop_37 hT.2.2 rfl hd2 (by omega) rfl ?_
  refine x_iret dX6_pop_38 rfl (Nat.le_refl _) (Nat.le_refl _) ?_
  refine ⟨?_, ?_⟩
  · rw [e_Iq1]
    exact u2_ne (by omega)
  · rw [e_Iq1]
    rw [show nI (d + 1) - nI 1 = nI d from nI_pred d]

set_option maxHeartbeats 4000000 in
set_option maxRecDepth 100000 in
theorem k_truth {G : GG} {Sh : HS} {I : HI} {R : HR} {b : Int32} (hb : b = 0 ∨ b = 1) : AM G 1 0 0 yX6_truth cX6_truth 1 (some .int) [.int b] (Sh, I, R) (qi fun r g => r = b ∧ g = (Sh, I, R)) := by
  refine am_intro (by decide) (Nat.le_of_ble_eq_true rfl) ?_
  refine x_iload_n dX6_truth_0 0 rfl rfl ?_
  refine x_if_eq (tgt := 8) dX6_truth_1 (by decide) (fun c_1 => ?_) (fun c_1 => ?_)
  · refine x_iconst (v := 0) dX6_truth_8 (by decide) ?_
    refine x_iret dX6_truth_9 rfl (Nat.le_refl _) (Nat.le_refl _) ?_
    refine ⟨?_, rfl⟩
    rcases hb with rfl | rfl <;> simp_all
  · refine x_iconst (v := 1) dX6_truth_4 (by decide) ?_
    refine x_goto (tgt := 9) dX6_truth_5 (by decide) ?_
    refine x_iret dX6_truth_9 rfl (Nat.le_refl _) (Nat.le_refl _) ?_
    refine ⟨?_, rfl⟩
    rcases hb with rfl | rfl <;> simp_all

set_option maxHeartbeats 4000000 in
set_option maxRecDepth 100000 in
theorem k_joined {G : GG} {Sh : HS} {I : HI} {R : HR} {c a b : Int32} : AM G 2 0 0 yX6_joined cX6_joined 3 (some .int) [.int c, .int a, .int b] (Sh, I, R) (qi fun r g => r = jnF c a b ∧ g = (Sh, I, R)) := by
  refine am_intro (by decide) (Nat.le_of_ble_eq_true rfl) ?_
  refine x_iload_n dX6_joined_0 0 rfl rfl ?_
  refine x_tsw [(-14, 106), (-13, 102), (-12, 88), (-11, 74), (-10, 57), (-9, 40)] 110 dX6_joined_1 (by decide) (by decide +kernel) (fun c_1 => ?_) ?_
  · refine x_iload_n dX6_joined_110 1 rfl rfl ?_
    refine x_iload_n dX6_joined_111 2 rfl rfl ?_
    refine x_imul dX6_joined_112 ?_
    refine x_iret dX6_joined_113 rfl (Nat.le_refl _) (Nat.le_refl _) ?_
    refine ⟨?_, rfl⟩
    unfold jnF
    simp_all [bI]
  · refine List.forall_mem_cons.mpr ⟨fun c_1 => ?_, List.forall_mem_cons.mpr ⟨fun c_1 => ?_, List.forall_mem_cons.mpr ⟨fun c_1 => ?_, List.forall_mem_cons.mpr ⟨fun c_1 => ?_, List.forall_mem_cons.mpr ⟨fun c_1 => ?_, List.forall_mem_cons.mpr ⟨fun c_1 => ?_, fun _ h9 => absurd h9 List.not_mem_nil⟩⟩⟩⟩⟩⟩
    · have c_1 : c = (-14) := c_1.trans (by decide)
      refine x_iload_n dX6_joined_106 1 rfl rfl ?_
      refine x_iload_n dX6_joined_107 2 rfl rfl ?_
      refine x_isub dX6_joined_108 ?_
      refine x_iret dX6_joined_109 rfl (Nat.le_refl _) (Nat.le_refl _) ?_
      refine ⟨?_, rfl⟩
      unfold jnF
      simp_all [bI]
    · have c_1 : c = (-13) := c_1.trans (by decide)
      refine x_iload_n dX6_joined_102 1 rfl rfl ?_
      refine x_iload_n dX6_joined_103 2 rfl rfl ?_
      refine x_iadd dX6_joined_104 ?_
      refine x_iret dX6_joined_105 rfl (Nat.le_refl _) (Nat.le_refl _) ?_
      refine ⟨?_, rfl⟩
      unfold jnF
      simp_all [bI]
    · have c_1 : c = (-12) := c_1.trans (by decide)
      refine x_iload_n dX6_joined_88 1 rfl rfl ?_
      refine x_iload_n dX6_joined_89 2 rfl rfl ?_
      refine x_icmp_ne (tgt := 97) dX6_joined_90 (by decide) (fun c_90 => ?_) (fun c_90 => ?_)
      · refine x_iconst (v := 0) dX6_joined_97 (by decide) ?_
        refine x_callS (rest := []) (k_truth (G := G) (Sh := Sh) (I := I) (R := R) (b := 0) (by first | exact Or.inl rfl | exact Or.inr rfl)) dX6_joined_98 crc_X6_truth sc_6_56 rfl rfl (Nat.le_of_ble_eq_true rfl) (roomy_k (by omega) (by decide)) (Nat.le_refl _) (Nat.le_refl _) ?_
        rintro _ _ ⟨r, rfl, hr, rfl⟩
        subst hr
        refine x_iret dX6_joined_101 rfl (Nat.le_refl _) (Nat.le_refl _) ?_
        refine ⟨?_, rfl⟩
        unfold jnF
        simp_all [bI]
      · refine x_iconst (v := 1) dX6_joined_93 (by decide) ?_
        refine x_goto (tgt := 98) dX6_joined_94 (by decide) ?_
        refine x_callS (rest := []) (k_truth (G := G) (Sh := Sh) (I := I) (R := R) (b := 1) (by first | exact Or.inl rfl | exact Or.inr rfl)) dX6_joined_98 crc_X6_truth sc_6_56 rfl rfl (Nat.le_of_ble_eq_true rfl) (roomy_k (by omega) (by decide)) (Nat.le_refl _) (Nat.le_refl _) ?_
        rintro _ _ ⟨r, rfl, hr, rfl⟩
        subst hr
        refine x_iret dX6_joined_101 rfl (Nat.le_refl _) (Nat.le_refl _) ?_
        refine ⟨?_, rfl⟩
        unfold jnF
        simp_all [bI]
    · have c_1 : c = (-11) := c_1.trans (by decide)
      refine x_iload_n dX6_joined_74 1 rfl rfl ?_
      refine x_iload_n dX6_joined_75 2 rfl rfl ?_
      refine x_icmp_ge (tgt := 83) dX6_joined_76 (by decide) (fun c_76 => ?_) (fun c_76 => ?_)
      · refine x_iconst (v := 0) dX6_joined_83 (by decide) ?_
        refine x_callS (rest := []) (k_truth (G := G) (Sh := Sh) (I := I) (R := R) (b := 0) (by first | exact Or.inl rfl | exact Or.inr rfl)) dX6_joined_84 crc_X6_truth sc_6_56 rfl rfl (Nat.le_of_ble_eq_true rfl) (roomy_k (by omega) (by decide)) (Nat.le_refl _) (Nat.le_refl _) ?_
        rintro _ _ ⟨r, rfl, hr, rfl⟩
        subst hr
        refine x_iret dX6_joined_87 rfl (Nat.le_refl _) (Nat.le_refl _) ?_
        refine ⟨?_, rfl⟩
        unfold jnF
        simp_all [bI]
      · refine x_iconst (v := 1) dX6_joined_79 (by decide) ?_
        refine x_goto (tgt := 84) dX6_joined_80 (by decide) ?_
        refine x_callS (rest := []) (k_truth (G := G) (Sh := Sh) (I := I) (R := R) (b := 1) (by first | exact Or.inl rfl | exact Or.inr rfl)) dX6_joined_84 crc_X6_truth sc_6_56 rfl rfl (Nat.le_of_ble_eq_true rfl) (roomy_k (by omega) (by decide)) (Nat.le_refl _) (Nat.le_refl _) ?_
        rintro _ _ ⟨r, rfl, hr, rfl⟩
        subst hr
        refine x_iret dX6_joined_87 rfl (Nat.le_refl _) (Nat.le_refl _) ?_
        refine ⟨?_, rfl⟩
        unfold jnF
        simp_all [bI]
    · have c_1 : c = (-10) := c_1.trans (by decide)
      refine x_iload_n dX6_joined_57 1 rfl rfl ?_
      refine x_if_eq (tgt := 69) dX6_joined_58 (by decide) (fun c_58 => ?_) (fun c_58 => ?_)
      · refine x_iconst (v := 0) dX6_joined_69 (by decide) ?_
        refine x_callS (rest := []) (k_truth (G := G) (Sh := Sh) (I := I) (R := R) (b := 0) (by first | exact Or.inl rfl | exact Or.inr rfl)) dX6_joined_70 crc_X6_truth sc_6_56 rfl rfl (Nat.le_of_ble_eq_true rfl) (roomy_k (by omega) (by decide)) (Nat.le_refl _) (Nat.le_refl _) ?_
        rintro _ _ ⟨r, rfl, hr, rfl⟩
        subst hr
        refine x_iret dX6_joined_73 rfl (Nat.le_refl _) (Nat.le_refl _) ?_
        refine ⟨?_, rfl⟩
        unfold jnF
        simp_all [bI]
      · refine x_iload_n dX6_joined_61 2 rfl rfl ?_
        refine x_if_eq (tgt := 69) dX6_joined_62 (by decide) (fun c_62 => ?_) (fun c_62 => ?_)
        · refine x_iconst (v := 0) dX6_joined_69 (by decide) ?_
          refine x_callS (rest := []) (k_truth (G := G) (Sh := Sh) (I := I) (R := R) (b := 0) (by first | exact Or.inl rfl | exact Or.inr rfl)) dX6_joined_70 crc_X6_truth sc_6_56 rfl rfl (Nat.le_of_ble_eq_true rfl) (roomy_k (by omega) (by decide)) (Nat.le_refl _) (Nat.le_refl _) ?_
          rintro _ _ ⟨r, rfl, hr, rfl⟩
          subst hr
          refine x_iret dX6_joined_73 rfl (Nat.le_refl _) (Nat.le_refl _) ?_
          refine ⟨?_, rfl⟩
          unfold jnF
          simp_all [bI]
        · refine x_iconst (v := 1) dX6_joined_65 (by decide) ?_
          refine x_goto (tgt := 70) dX6_joined_66 (by decide) ?_
          refine x_callS (rest := []) (k_truth (G := G) (Sh := Sh) (I := I) (R := R) (b := 1) (by first | exact Or.inl rfl | exact Or.inr rfl)) dX6_joined_70 crc_X6_truth sc_6_56 rfl rfl (Nat.le_of_ble_eq_true rfl) (roomy_k (by omega) (by decide)) (Nat.le_refl _) (Nat.le_refl _) ?_
          rintro _ _ ⟨r, rfl, hr, rfl⟩
          subst hr
          refine x_iret dX6_joined_73 rfl (Nat.le_refl _) (Nat.le_refl _) ?_
          refine ⟨?_, rfl⟩
          unfold jnF
          simp_all [bI]
    · have c_1 : c = (-9) := c_1.trans (by decide)
      refine x_iload_n dX6_joined_40 1 rfl rfl ?_
      refine x_if_ne (tgt := 48) dX6_joined_41 (by decide) (fun c_41 => ?_) (fun c_41 => ?_)
      · refine x_iconst (v := 1) dX6_joined_48 (by decide) ?_
        refine x_goto (tgt := 53) dX6_joined_49 (by decide) ?_
        refine x_callS (rest := []) (k_truth (G := G) (Sh := Sh) (I := I) (R := R) (b := 1) (by first | exact Or.inl rfl | exact Or.inr rfl)) dX6_joined_53 crc_X6_truth sc_6_56 rfl rfl (Nat.le_of_ble_eq_true rfl) (roomy_k (by omega) (by decide)) (Nat.le_refl _) (Nat.le_refl _) ?_
        rintro _ _ ⟨r, rfl, hr, rfl⟩
        subst hr
        refine x_iret dX6_joined_56 rfl (Nat.le_refl _) (Nat.le_refl _) ?_
        refine ⟨?_, rfl⟩
        unfold jnF
        simp_all [bI]
      · refine x_iload_n dX6_joined_44 2 rfl rfl ?_
        refine x_if_eq (tgt := 52) dX6_joined_45 (by decide) (fun c_45 => ?_) (fun c_45 => ?_)
        · refine x_iconst (v := 0) dX6_joined_52 (by decide) ?_
          refine x_callS (rest := []) (k_truth (G := G) (Sh := Sh) (I := I) (R := R) (b := 0) (by first | exact Or.inl rfl | exact Or.inr rfl)) dX6_joined_53 crc_X6_truth sc_6_56 rfl rfl (Nat.le_of_ble_eq_true rfl) (roomy_k (by omega) (by decide)) (Nat.le_refl _) (Nat.le_refl _) ?_
          rintro _ _ ⟨r, rfl, hr, rfl⟩
          subst hr
          refine x_iret dX6_joined_56 rfl (Nat.le_refl _) (Nat.le_refl _) ?_
          refine ⟨?_, rfl⟩
          unfold jnF
          simp_all [bI]
        · refine x_iconst (v := 1) dX6_joined_48 (by decide) ?_
          refine x_goto (tgt := 53) dX6_joined_49 (by decide) ?_
          refine x_callS (rest := []) (k_truth (G := G) (Sh := Sh) (I := I) (R := R) (b := 1) (by first | exact Or.inl rfl | exact Or.inr rfl)) dX6_joined_53 crc_X6_truth sc_6_56 rfl rfl (Nat.le_of_ble_eq_true rfl) (roomy_k (by omega) (by decide)) (Nat.le_refl _) (Nat.le_refl _) ?_
          rintro _ _ ⟨r, rfl, hr, rfl⟩
          subst hr
          refine x_iret dX6_joined_56 rfl (Nat.le_refl _) (Nat.le_refl _) ?_
          refine ⟨?_, rfl⟩
          unfold jnF
          simp_all [bI]

set_option maxHeartbeats 4000000 in
set_option maxRecDepth 100000 in
theorem k_named {G : GG} {Sh : HS} {I : HI} {R : HR} {S n f : Nat} (hS : ShS Sh S) (hR : RS R S) (hn : I S 1 = nI n) (hn8 : n ≤ 8) (hf : Sh.2 f = (0, 6)) {x : Int32} : AM G 2 0 0 yX6_named cX6_named 3 (some .int) [.int x, .ref S, .ref f] (Sh, I, R) (qi fun r g => r = cxI I S f n x ∧ g = (Sh, I, R)) := by
  refine am_intro (by decide) (Nat.le_of_ble_eq_true rfl) ?_
  refine x_iload_n dX6_named_0 0 rfl rfl ?_
  refine x_tsw [(-5, 56), (-4, 51), (-3, 46), (-2, 41), (-1, 36)] 61 dX6_named_1 (by decide) (by decide +kernel) (fun c_1 => ?_) ?_
  · refine x_aload_n dX6_named_61 1 rfl rfl ?_
    refine x_aload_n dX6_named_62 2 rfl rfl ?_
    refine x_callV (k_shelterOf (G := G) hS hR hn hn8 hf) dX6_named_63 crc_X4_shelterOf vc_6_86 hS.1 rfl rfl rfl rfl (Nat.le_of_ble_eq_true rfl) (roomy_k (by omega) (by decide)) (Nat.le_refl _) (Nat.le_refl _) ?_
    rintro _ _ ⟨r, rfl, hr, rfl⟩
    refine x_iret dX6_named_66 rfl (Nat.le_refl _) (Nat.le_refl _) ?_
    refine ⟨?_, rfl⟩
    unfold cxI cxF
    simp_all
  · refine List.forall_mem_cons.mpr ⟨fun c_1 => ?_, List.forall_mem_cons.mpr ⟨fun c_1 => ?_, List.forall_mem_cons.mpr ⟨fun c_1 => ?_, List.forall_mem_cons.mpr ⟨fun c_1 => ?_, List.forall_mem_cons.mpr ⟨fun c_1 => ?_, fun _ h9 => absurd h9 List.not_mem_nil⟩⟩⟩⟩⟩
    · have c_1 : x = (-5) := c_1.trans (by decide)
      refine x_aload_n dX6_named_56 2 rfl rfl ?_
      refine x_gI (v := I f 4) dX6_named_57 fl_6_83 rfl hf rfl ?_
      refine x_iret dX6_named_60 rfl (Nat.le_refl _) (Nat.le_refl _) ?_
      refine ⟨?_, rfl⟩
      unfold cxI cxF
      simp_all
    · have c_1 : x = (-4) := c_1.trans (by decide)
      refine x_aload_n dX6_named_51 2 rfl rfl ?_
      refine x_gI (v := I f 1) dX6_named_52 fl_6_80 rfl hf rfl ?_
      refine x_iret dX6_named_55 rfl (Nat.le_refl _) (Nat.le_refl _) ?_
      refine ⟨?_, rfl⟩
      unfold cxI cxF
      simp_all
    · have c_1 : x = (-3) := c_1.trans (by decide)
      refine x_aload_n dX6_named_46 2 rfl rfl ?_
      refine x_gI (v := I f 2) dX6_named_47 fl_6_75 rfl hf rfl ?_
      refine x_iret dX6_named_50 rfl (Nat.le_refl _) (Nat.le_refl _) ?_
      refine ⟨?_, rfl⟩
      unfold cxI cxF
      simp_all
    · have c_1 : x = (-2) := c_1.trans (by decide)
      refine x_aload_n dX6_named_41 1 rfl rfl ?_
      refine x_gI (v := I S 2) dX6_named_42 fl_6_72 rfl hS.1 rfl ?_
      refine x_iret dX6_named_45 rfl (Nat.le_refl _) (Nat.le_refl _) ?_
      refine ⟨?_, rfl⟩
      unfold cxI cxF
      simp_all
    · have c_1 : x = (-1) := c_1.trans (by decide)
      refine x_aload_n dX6_named_36 1 rfl rfl ?_
      refine x_gI (v := I S 3) dX6_named_37 fl_6_67 rfl hS.1 rfl ?_
      refine x_iret dX6_named_40 rfl (Nat.le_refl _) (Nat.le_refl _) ?_
      refine ⟨?_, rfl⟩
      unfold cxI cxF
      simp_all

