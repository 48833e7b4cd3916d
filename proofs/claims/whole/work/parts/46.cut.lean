set_option maxHeartbeats 4000000 in
set_option maxRecDepth 100000 in
theorem k_isWord_l {G : GG} {Sh : HS} {I : HI} {R : HR} {Tp ts : Nat} {tb : Nat → Int32} (ht : TPp Sh I R Tp tb ts) {i f t : Nat} (hi : i < 14) (hft : f ≤ t) (htt : t ≤ ts) (hlen : t - f = kTn i) : ∀ (m : Nat) (j : Nat), (j ≤ kTn i) → (kTn i < j + m) → (∀ q, q < j → byF tb ts (f + q) = kC i q) → X G (kM G 5 0 0 (qi fun r g => r = bI (wdP tb ts i f t) ∧ g = (Sh, I, R))) yX5_isWord cX5_isWord 5 (some .boolean) 0 0 15 [(4, .int (nI j)), (0, .ref Tp), (1, .ref (gK G i)), (2, .int (nI f)), (3, .int (nI t))] [] (Sh, I, R) := by
  intro m
  induction m with
  | zero =>
    intro j hj hm hall
    exact absurd hm (by omega)
  | succ m ih =>
    intro j hj hm hall
    obtain ⟨t0, t1, t2, t3, q0, q2, q3, hts, hts2, hby⟩ := id ht
    have hn9 := kTn_le i hi
    refine x_iload dX5_isWord_15 0 rfl ?_
    refine x_aload_n dX5_isWord_17 2 rfl rfl ?_
    refine x_callT hi (k_slen (G := G) (Sh := Sh) (I := I) (R := R) hi) dX5_isWord_18 crc_J0_length_8abf5 vc_5_72 rfl rfl rfl (Nat.le_of_ble_eq_true rfl) (roomy_k (by omega) (by decide)) (Nat.le_refl _) (Nat.le_refl _) ?_
    rintro _ _ ⟨_, rfl, rfl, rfl⟩
    refine x_icmp_ge (tgt := 49) dX5_isWord_21 (by decide) (fun c_21 => ?_) (fun c_21 => ?_)
    · have c_21 : (kTn i) ≤ j := (nI_leI (a := (kTn i)) (b := j) (by omega) (by omega)).mp c_21
      refine x_iconst (v := nI 1) dX5_isWord_49 (by decide) ?_
      refine x_zret dX5_isWord_50 rfl rfl (Nat.le_refl _) (Nat.le_refl _) ?_
      have hjn : j = kTn i := by omega
      subst hjn
      exact ⟨(bI_t ⟨hlen, hall⟩).symm, rfl⟩
    · have c_21 : ¬ (kTn i) ≤ j := fun zz9 => c_21 ((nI_leI (a := (kTn i)) (b := j) (by omega) (by omega)).mpr zz9)
      refine x_aload_n dX5_isWord_24 1 rfl rfl ?_
      refine x_iload_n dX5_isWord_25 3 rfl rfl ?_
      refine x_iload dX5_isWord_26 0 rfl ?_
      refine x_iadd dX5_isWord_28 ?_
      refine x_vali (nI_add f j) ?_
      refine x_callV (k_byteAt (G := G) ht (p := (f + j)) (by omega)) dX5_isWord_29 crc_X5_byteAt vc_5_39 t0 rfl rfl rfl rfl (Nat.le_of_ble_eq_true rfl) (roomy_k (by omega) (by decide)) (Nat.le_refl _) (Nat.le_refl _) ?_
      rintro _ _ ⟨_, rfl, rfl, rfl⟩
      refine x_aload_n dX5_isWord_32 2 rfl rfl ?_
      refine x_iload dX5_isWord_33 0 rfl ?_
      refine x_callT hi (k_scharAt (G := G) (Sh := Sh) (I := I) (R := R) (j := j) hi (by omega)) dX5_isWord_35 crc_J0_charAt_5068e vc_5_78 rfl rfl rfl (Nat.le_of_ble_eq_true rfl) (roomy_k (by omega) (by decide)) (Nat.le_refl _) (Nat.le_refl _) ?_
      rintro _ _ ⟨_, rfl, rfl, rfl⟩
      refine x_icmp_eq (tgt := 43) dX5_isWord_38 (by decide) (fun c_38 => ?_) (fun c_38 => ?_)
      · refine x_iinc (v := nI (j + 1)) (lv' := [(4, .int (nI (j + 1))), (0, .ref Tp), (1, .ref (gK G i)), (2, .int (nI f)), (3, .int (nI t))]) dX5_isWord_43 0 rfl (nI_1 j) (by decide) rfl ?_
        refine x_goto (tgt := 15) dX5_isWord_46 (by decide) ?_
        refine x_sub [0, 1, 2, 3, 4] rfl ?_
        exact ih (j + 1) (by omega) (by omega) (fun q hq => by
          by_cases e : q = j
          · subst e
            exact c_38
          · exact hall q (by omega))
      · refine x_iconst (v := nI 0) dX5_isWord_41 (by decide) ?_
        refine x_zret dX5_isWord_42 rfl rfl (Nat.le_refl _) (Nat.le_refl _) ?_
        exact ⟨(bI_f (fun z => c_38 (z.2 j (by omega)))).symm, rfl⟩

set_option maxHeartbeats 4000000 in
set_option maxRecDepth 100000 in
theorem k_isWord {G : GG} {Sh : HS} {I : HI} {R : HR} {Tp ts : Nat} {tb : Nat → Int32} (ht : TPp Sh I R Tp tb ts) {i f t : Nat} (hi : i < 14) (hft : f ≤ t) (htt : t ≤ ts) : AM G 5 0 0 yX5_isWord cX5_isWord 5 (some .boolean) [.ref Tp, .ref (gK G i), .int (nI f), .int (nI t)] (Sh, I, R) (qi fun r g => r = bI (wdP tb ts i f t) ∧ g = (Sh, I, R)) := by
  obtain ⟨t0, t1, t2, t3, q0, q2, q3, hts, hts2, hby⟩ := id ht
  have hn9 := kTn_le i hi
  refine am_intro (by decide) (Nat.le_of_ble_eq_true rfl) ?_
  refine x_iload_n dX5_isWord_0 3 rfl rfl ?_
  refine x_iload_n dX5_isWord_1 2 rfl rfl ?_
  refine x_isub dX5_isWord_2 ?_
  refine x_vali (pk_sub hft) ?_
  refine x_aload_n dX5_isWord_3 1 rfl rfl ?_
  refine x_callT hi (k_slen (G := G) (Sh := Sh) (I := I) (R := R) hi) dX5_isWord_4 crc_J0_length_8abf5 vc_5_72 rfl rfl rfl (Nat.le_of_ble_eq_true rfl) (roomy_k (by omega) (by decide)) (Nat.le_refl _) (Nat.le_refl _) ?_
  rintro _ _ ⟨_, rfl, rfl, rfl⟩
  refine x_icmp_eq (tgt := 12) dX5_isWord_7 (by decide) (fun c_7 => ?_) (fun c_7 => ?_)
  · have c_7 : (t - f) = (kTn i) := (nI_eq (a := (t - f)) (b := (kTn i)) (by omega) (by omega)).mp c_7
    refine x_iconst (v := nI 0) dX5_isWord_12 (by decide) ?_
    refine x_istore (lv' := [(4, .int (nI 0)), (0, .ref Tp), (1, .ref (gK G i)), (2, .int (nI f)), (3, .int (nI t))]) dX5_isWord_13 (by decide) rfl ?_
    exact k_isWord_l ht hi hft htt c_7 (kTn i + 1) 0 (by omega) (by omega) (fun q hq => absurd hq (by omega))
  · have c_7 : ¬ (t - f) = (kTn i) := fun zz9 => c_7 ((nI_eq (a := (t - f)) (b := (kTn i)) (by omega) (by omega)).mpr zz9)
    refine x_iconst (v := nI 0) dX5_isWord_10 (by decide) ?_
    refine x_zret dX5_isWord_11 rfl rfl (Nat.le_refl _) (Nat.le_refl _) ?_
    exact ⟨(bI_f (fun z => c_7 z.1)).symm, rfl⟩

set_option maxHeartbeats 4000000 in
set_option maxRecDepth 100000 in
theorem k_wordToken {G : GG} {Sh : HS} {I : HI} {R : HR} {Tp ts : Nat} {tb : Nat → Int32} (ht : TPp Sh I R Tp tb ts) {f t : Nat} (hft : f ≤ t) (htt : t ≤ ts) : AM G 6 0 0 yX5_wordToken cX5_wordToken 3 (some .int) [.ref Tp, .int (nI f), .int (nI t)] (Sh, I, R) (qi fun r g => r = wtF tb ts f t ∧ g = (Sh, I, R)) := by
  obtain ⟨t0, t1, t2, t3, q0, q2, q3, hts, hts2, hby⟩ := id ht
  refine am_intro (by decide) (Nat.le_of_ble_eq_true rfl) ?_
  refine x_aload_n dX5_wordToken_0 0 rfl rfl ?_
  refine x_ldcS (i := 1) (tx := "strikes") dX5_wordToken_1 (by decide +kernel) ?_
  refine x_iload_n dX5_wordToken_3 1 rfl rfl ?_
  refine x_iload_n dX5_wordToken_4 2 rfl rfl ?_
  refine x_callV (k_isWord (G := G) ht (i := 1) (by decide) hft htt) dX5_wordToken_5 crc_X5_isWord vc_5_44 t0 rfl rfl rfl rfl (Nat.le_of_ble_eq_true rfl) (roomy_k (by omega) (by decide)) (Nat.le_refl _) (Nat.le_refl _) ?_
  rintro _ _ ⟨_, rfl, rfl, rfl⟩
  refine x_if_eqB (tgt := 13) dX5_wordToken_8 (by decide) (fun c_8 => ?_) (fun c_8 => ?_)
  · refine x_aload_n dX5_wordToken_13 0 rfl rfl ?_
    refine x_ldcS (i := 2) (tx := "raises") dX5_wordToken_14 (by decide +kernel) ?_
    refine x_iload_n dX5_wordToken_16 1 rfl rfl ?_
    refine x_iload_n dX5_wordToken_17 2 rfl rfl ?_
    refine x_callV (k_isWord (G := G) ht (i := 2) (by decide) hft htt) dX5_wordToken_18 crc_X5_isWord vc_5_44 t0 rfl rfl rfl rfl (Nat.le_of_ble_eq_true rfl) (roomy_k (by omega) (by decide)) (Nat.le_refl _) (Nat.le_refl _) ?_
    rintro _ _ ⟨_, rfl, rfl, rfl⟩
    refine x_if_eqB (tgt := 26) dX5_wordToken_21 (by decide) (fun c_21 => ?_) (fun c_21 => ?_)
    · refine x_aload_n dX5_wordToken_26 0 rfl rfl ?_
      refine x_ldcS (i := 3) (tx := "worth") dX5_wordToken_27 (by decide +kernel) ?_
      refine x_iload_n dX5_wordToken_29 1 rfl rfl ?_
      refine x_iload_n dX5_wordToken_30 2 rfl rfl ?_
      refine x_callV (k_isWord (G := G) ht (i := 3) (by decide) hft htt) dX5_wordToken_31 crc_X5_isWord vc_5_44 t0 rfl rfl rfl rfl (Nat.le_of_ble_eq_true rfl) (roomy_k (by omega) (by decide)) (Nat.le_refl _) (Nat.le_refl _) ?_
      rintro _ _ ⟨_, rfl, rfl, rfl⟩
      refine x_if_eqB (tgt := 39) dX5_wordToken_34 (by decide) (fun c_34 => ?_) (fun c_34 => ?_)
      · refine x_aload_n dX5_wordToken_39 0 rfl rfl ?_
        refine x_ldcS (i := 4) (tx := "or") dX5_wordToken_40 (by decide +kernel) ?_
        refine x_iload_n dX5_wordToken_42 1 rfl rfl ?_
        refine x_iload_n dX5_wordToken_43 2 rfl rfl ?_
        refine x_callV (k_isWord (G := G) ht (i := 4) (by decide) hft htt) dX5_wordToken_44 crc_X5_isWord vc_5_44 t0 rfl rfl rfl rfl (Nat.le_of_ble_eq_true rfl) (roomy_k (by omega) (by decide)) (Nat.le_refl _) (Nat.le_refl _) ?_
        rintro _ _ ⟨_, rfl, rfl, rfl⟩
        refine x_if_eqB (tgt := 53) dX5_wordToken_47 (by decide) (fun c_47 => ?_) (fun c_47 => ?_)
        · refine x_aload_n dX5_wordToken_53 0 rfl rfl ?_
          refine x_ldcS (i := 5) (tx := "and") dX5_wordToken_54 (by decide +kernel) ?_
          refine x_iload_n dX5_wordToken_56 1 rfl rfl ?_
          refine x_iload_n dX5_wordToken_57 2 rfl rfl ?_
          refine x_callV (k_isWord (G := G) ht (i := 5) (by decide) hft htt) dX5_wordToken_58 crc_X5_isWord vc_5_44 t0 rfl rfl rfl rfl (Nat.le_of_ble_eq_true rfl) (roomy_k (by omega) (by decide)) (Nat.le_refl _) (Nat.le_refl _) ?_
          rintro _ _ ⟨_, rfl, rfl, rfl⟩
          refine x_if_eqB (tgt := 67) dX5_wordToken_61 (by decide) (fun c_61 => ?_) (fun c_61 => ?_)
          · refine x_aload_n dX5_wordToken_67 0 rfl rfl ?_
            refine x_ldcS (i := 6) (tx := "not") dX5_wordToken_68 (by decide +kernel) ?_
            refine x_iload_n dX5_wordToken_70 1 rfl rfl ?_
            refine x_iload_n dX5_wordToken_71 2 rfl rfl ?_
            refine x_callV (k_isWord (G := G) ht (i := 6) (by decide) hft htt) dX5_wordToken_72 crc_X5_isWord vc_5_44 t0 rfl rfl rfl rfl (Nat.le_of_ble_eq_true rfl) (roomy_k (by omega) (by decide)) (Nat.le_refl _) (Nat.le_refl _) ?_
            rintro _ _ ⟨_, rfl, rfl, rfl⟩
            refine x_if_eqB (tgt := 81) dX5_wordToken_75 (by decide) (fun c_75 => ?_) (fun c_75 => ?_)
            · refine x_aload_n dX5_wordToken_81 0 rfl rfl ?_
              refine x_ldcS (i := 7) (tx := "wave") dX5_wordToken_82 (by decide +kernel) ?_
              refine x_iload_n dX5_wordToken_84 1 rfl rfl ?_
              refine x_iload_n dX5_wordToken_85 2 rfl rfl ?_
              refine x_callV (k_isWord (G := G) ht (i := 7) (by decide) hft htt) dX5_wordToken_86 crc_X5_isWord vc_5_44 t0 rfl rfl rfl rfl (Nat.le_of_ble_eq_true rfl) (roomy_k (by omega) (by decide)) (Nat.le_refl _) (Nat.le_refl _) ?_
              rintro _ _ ⟨_, rfl, rfl, rfl⟩
              refine x_if_eqB (tgt := 94) dX5_wordToken_89 (by decide) (fun c_89 => ?_) (fun c_89 => ?_)
              · refine x_aload_n dX5_wordToken_94 0 rfl rfl ?_
                refine x_ldcS (i := 8) (tx := "moon") dX5_wordToken_95 (by decide +kernel) ?_
                refine x_iload_n dX5_wordToken_97 1 rfl rfl ?_
                refine x_iload_n dX5_wordToken_98 2 rfl rfl ?_
                refine x_callV (k_isWord (G := G) ht (i := 8) (by decide) hft htt) dX5_wordToken_99 crc_X5_isWord vc_5_44 t0 rfl rfl rfl rfl (Nat.le_of_ble_eq_true rfl) (roomy_k (by omega) (by decide)) (Nat.le_refl _) (Nat.le_refl _) ?_
                rintro _ _ ⟨_, rfl, rfl, rfl⟩
                refine x_if_eqB (tgt := 108) dX5_wordToken_102 (by decide) (fun c_102 => ?_) (fun c_102 => ?_)
                · refine x_aload_n dX5_wordToken_108 0 rfl rfl ?_
                  refine x_ldcS (i := 9) (tx := "place") dX5_wordToken_109 (by decide +kernel) ?_
                  refine x_iload_n dX5_wordToken_111 1 rfl rfl ?_
                  refine x_iload_n dX5_wordToken_112 2 rfl rfl ?_
                  refine x_callV (k_isWord (G := G) ht (i := 9) (by decide) hft htt) dX5_wordToken_113 crc_X5_isWord vc_5_44 t0 rfl rfl rfl rfl (Nat.le_of_ble_eq_true rfl) (roomy_k (by omega) (by decide)) (Nat.le_refl _) (Nat.le_refl _) ?_
                  rintro _ _ ⟨_, rfl, rfl, rfl⟩
                  refine x_if_eqB (tgt := 122) dX5_wordToken_116 (by decide) (fun c_116 => ?_) (fun c_116 => ?_)
                  · refine x_aload_n dX5_wordToken_122 0 rfl rfl ?_
                    refine x_ldcS (i := 10) (tx := "number") dX5_wordToken_123 (by decide +kernel) ?_
                    refine x_iload_n dX5_wordToken_125 1 rfl rfl ?_
                    refine x_iload_n dX5_wordToken_126 2 rfl rfl ?_
                    refine x_callV (k_isWord (G := G) ht (i := 10) (by decide) hft htt) dX5_wordToken_127 crc_X5_isWord vc_5_44 t0 rfl rfl rfl rfl (Nat.le_of_ble_eq_true rfl) (roomy_k (by omega) (by decide)) (Nat.le_refl _) (Nat.le_refl _) ?_
                    rintro _ _ ⟨_, rfl, rfl, rfl⟩
                    refine x_if_eqB (tgt := 136) dX5_wordToken_130 (by decide) (fun c_130 => ?_) (fun c_130 => ?_)
                    · refine x_aload_n dX5_wordToken_136 0 rfl rfl ?_
                      refine x_ldcS (i := 11) (tx := "height") dX5_wordToken_137 (by decide +kernel) ?_
                      refine x_iload_n dX5_wordToken_139 1 rfl rfl ?_
                      refine x_iload_n dX5_wordToken_140 2 rfl rfl ?_
                      refine x_callV (k_isWord (G := G) ht (i := 11) (by decide) hft htt) dX5_wordToken_141 crc_X5_isWord vc_5_44 t0 rfl rfl rfl rfl (Nat.le_of_ble_eq_true rfl) (roomy_k (by omega) (by decide)) (Nat.le_refl _) (Nat.le_refl _) ?_
                      rintro _ _ ⟨_, rfl, rfl, rfl⟩
                      refine x_if_eqB (tgt := 150) dX5_wordToken_144 (by decide) (fun c_144 => ?_) (fun c_144 => ?_)
                      · refine x_aload_n dX5_wordToken_150 0 rfl rfl ?_
                        refine x_ldcS (i := 12) (tx := "shelter") dX5_wordToken_151 (by decide +kernel) ?_
                        refine x_iload_n dX5_wordToken_153 1 rfl rfl ?_
                        refine x_iload_n dX5_wordToken_154 2 rfl rfl ?_
                        refine x_callV (k_isWord (G := G) ht (i := 12) (by decide) hft htt) dX5_wordToken_155 crc_X5_isWord vc_5_44 t0 rfl rfl rfl rfl (Nat.le_of_ble_eq_true rfl) (roomy_k (by omega) (by decide)) (Nat.le_refl _) (Nat.le_refl _) ?_
                        rintro _ _ ⟨_, rfl, rfl, rfl⟩
                        refine x_if_eqB (tgt := 164) dX5_wordToken_158 (by decide) (fun c_158 => ?_) (fun c_158 => ?_)
                        · refine x_iconst (v := 2) dX5_wordToken_164 (by decide) ?_
                          refine x_iret dX5_wordToken_165 rfl (Nat.le_refl _) (Nat.le_refl _) ?_
                          refine ⟨?_, rfl⟩
                          unfold wtF
                          rw [if_neg c_8, if_neg c_21, if_neg c_34, if_neg c_47, if_neg c_61, if_neg c_75, if_neg c_89, if_neg c_102, if_neg c_116, if_neg c_130, if_neg c_144, if_neg c_158]
                        · refine x_bipush (v := (-6)) dX5_wordToken_161 (by decide) ?_
                          refine x_iret dX5_wordToken_163 rfl (Nat.le_refl _) (Nat.le_refl _) ?_
                          refine ⟨?_, rfl⟩
                          unfold wtF
                          rw [if_neg c_8, if_neg c_21, if_neg c_34, if_neg c_47, if_neg c_61, if_neg c_75, if_neg c_89, if_neg c_102, if_neg c_116, if_neg c_130, if_neg c_144, if_pos c_158]
                      · refine x_bipush (v := (-5)) dX5_wordToken_147 (by decide) ?_
                        refine x_iret dX5_wordToken_149 rfl (Nat.le_refl _) (Nat.le_refl _) ?_
                        refine ⟨?_, rfl⟩
                        unfold wtF
                        rw [if_neg c_8, if_neg c_21, if_neg c_34, if_neg c_47, if_neg c_61, if_neg c_75, if_neg c_89, if_neg c_102, if_neg c_116, if_neg c_130, if_pos c_144]
                    · refine x_bipush (v := (-4)) dX5_wordToken_133 (by decide) ?_
                      refine x_iret dX5_wordToken_135 rfl (Nat.le_refl _) (Nat.le_refl _) ?_
                      refine ⟨?_, rfl⟩
                      unfold wtF
                      rw [if_neg c_8, if_neg c_21, if_neg c_34, if_neg c_47, if_neg c_61, if_neg c_75, if_neg c_89, if_neg c_102, if_neg c_116, if_pos c_130]
                  · refine x_bipush (v := (-3)) dX5_wordToken_119 (by decide) ?_
                    refine x_iret dX5_wordToken_121 rfl (Nat.le_refl _) (Nat.le_refl _) ?_
                    refine ⟨?_, rfl⟩
                    unfold wtF
                    rw [if_neg c_8, if_neg c_21, if_neg c_34, if_neg c_47, if_neg c_61, if_neg c_75, if_neg c_89, if_neg c_102, if_pos c_116]
                · refine x_bipush (v := (-2)) dX5_wordToken_105 (by decide) ?_
                  refine x_iret dX5_wordToken_107 rfl (Nat.le_refl _) (Nat.le_refl _) ?_
                  refine ⟨?_, rfl⟩
                  unfold wtF
                  rw [if_neg c_8, if_neg c_21, if_neg c_34, if_neg c_47, if_neg c_61, if_neg c_75, if_neg c_89, if_pos c_102]
              · refine x_iconst (v := (-1)) dX5_wordToken_92 (by decide) ?_
                refine x_iret dX5_wordToken_93 rfl (Nat.le_refl _) (Nat.le_refl _) ?_
                refine ⟨?_, rfl⟩
                unfold wtF
                rw [if_neg c_8, if_neg c_21, if_neg c_34, if_neg c_47, if_neg c_61, if_neg c_75, if_pos c_89]
            · refine x_bipush (v := (-7)) dX5_wordToken_78 (by decide) ?_
              refine x_iret dX5_wordToken_80 rfl (Nat.le_refl _) (Nat.le_refl _) ?_
              refine ⟨?_, rfl⟩
              unfold wtF
              rw [if_neg c_8, if_neg c_21, if_neg c_34, if_neg c_47, if_neg c_61, if_pos c_75]
          · refine x_bipush (v := (-10)) dX5_wordToken_64 (by decide) ?_
            refine x_iret dX5_wordToken_66 rfl (Nat.le_refl _) (Nat.le_refl _) ?_
            refine ⟨?_, rfl⟩
            unfold wtF
            rw [if_neg c_8, if_neg c_21, if_neg c_34, if_neg c_47, if_pos c_61]
        · refine x_bipush (v := (-9)) dX5_wordToken_50 (by decide) ?_
          refine x_iret dX5_wordToken_52 rfl (Nat.le_refl _) (Nat.le_refl _) ?_
          refine ⟨?_, rfl⟩
          unfold wtF
          rw [if_neg c_8, if_neg c_21, if_neg c_34, if_pos c_47]
      · refine x_iconst (v := 5) dX5_wordToken_37 (by decide) ?_
        refine x_iret dX5_wordToken_38 rfl (Nat.le_refl _) (Nat.le_refl _) ?_
        refine ⟨?_, rfl⟩
        unfold wtF
        rw [if_neg c_8, if_neg c_21, if_pos c_34]
    · refine x_iconst (v := 4) dX5_wordToken_24 (by decide) ?_
      refine x_iret dX5_wordToken_25 rfl (Nat.le_refl _) (Nat.le_refl _) ?_
      refine ⟨?_, rfl⟩
      unfold wtF
      rw [if_neg c_8, if_pos c_21]
  · refine x_iconst (v := 3) dX5_wordToken_11 (by decide) ?_
    refine x_iret dX5_wordToken_12 rfl (Nat.le_refl _) (Nat.le_refl _) ?_
    refine ⟨?_, rfl⟩
    unfold wtF
    rw [if_pos c_8]

theorem po_le {tb : Nat → Int32} {ts : Nat} : ∀ k, poF tb ts k ≤ ts
  | 0 => Nat.zero_le _
  | k + 1 => (nx_le (po_le k)).2
def ctP (tb : Nat → Int32) (ts Tp : Nat) (J : HI) (k : Nat) : Prop := ∀ j, j < k → J (Tp + 2) j = tkF tb ts (poF tb ts j) ∧ J (Tp + 3) j = nI (fmF tb ts (poF tb ts j))
def offC (Tp : Nat) (I J : HI) : Prop := ∀ a k, a ≠ Tp + 2 → a ≠ Tp + 3 → J a k = I a k
/-- the tokens that a cut leaves -/
def cutP (tb : Nat → Int32) (ts Tp : Nat) (J : HI) (K : Nat) : Prop := K ≤ 160 ∧ ctP tb ts Tp J (K + 1) ∧ (∀ j, j < K → ¬ endT (tkF tb ts (poF tb ts j))) ∧ endT (tkF tb ts (poF tb ts K))
theorem TPp.off {Sh : HS} {I J : HI} {R : HR} {Tp ts : Nat} {tb : Nat → Int32} (h : TPp Sh I R Tp tb ts) (o : offC Tp I J) : TPp Sh J R Tp tb ts := by
  obtain ⟨t0, t1, t2, t3, q0, q2, q3, hts, hts2, hby⟩ := h
  exact ⟨t0, t1, t2, t3, q0, q2, q3, (o _ _ (by omega) (by omega)).trans hts, hts2, fun j hj => (o _ _ (by omega) (by omega)).trans (hby j hj)⟩

set_option maxHeartbeats 4000000 in
set_option maxRecDepth 100000 in
theorem k_cut_l {G : GG} {Sh : HS} {I : HI} {R : HR} {Tp ts : Nat} {tb : Nat → Int32} (ht : TPp Sh I R Tp tb ts) : ∀ (m : Nat) (k : Nat) (tok at_ : Int32) (J : HI), (k ≤ 161) → (161 < k + m) → (ctP tb ts Tp J k) → (∀ j, j + 1 < k → ¬ endT (tkF tb ts (poF tb ts j))) → ((k = 0 ∧ tok = 0) ∨ ∃ q, k = q + 1 ∧ tok = tkF tb ts (poF tb ts q)) → (¬ endT tok → at_ = nI (poF tb ts k) ∧ k ≤ (poF tb ts k)) → (offC Tp I J) → X G (kM G 7 0 0 (qv fun g => ∃ (J : HI) (K : Nat), g = (Sh, J, R) ∧ cutP tb ts Tp J K ∧ offC Tp I J)) yX5_cut cX5_cut 5 none 0 0 6 [(3, .int (nI k)), (2, .int at_), (1, .int tok), (0, .ref Tp)] [] (Sh, J, R) := by
  intro m
  induction m with
  | zero =>
    intro k tok at_ J hk hm hst hnon htok hat hoff
    exact absurd hm (by omega)
  | succ m ih =>
    intro k tok at_ J hk hm hst hnon htok hat hoff
    have htJ := ht.off hoff
    obtain ⟨t0, t1, t2, t3, q0, q2, q3, hts, hts2, hby⟩ := id htJ
    refine x_iload_n dX5_cut_6 0 rfl rfl ?_
    refine x_sipush (v := 160) dX5_cut_7 (by decide) ?_
    refine x_icmp_gt (tgt := 153) dX5_cut_10 (by decide) (fun c_10 => ?_) (fun c_10 => ?_)
    · have c_10 : 160 < k := (nI_ltI (a := 160) (b := k) (by omega) (by omega)).mp c_10
      refine x_vret dX5_cut_153 rfl (Nat.le_refl _) (Nat.le_refl _) ?_
      have he : endT tok := by
        apply Classical.byContradiction
        intro z
        have := (hat z).2
        have := po_le (tb := tb) (ts := ts) k
        omega
      rcases htok with ⟨rfl, rfl⟩ | ⟨q, rfl, rfl⟩
      · rcases he with z | z <;> exact absurd z (by decide)
      · exact ⟨J, q, rfl, ⟨by omega, hst, fun j hj => hnon j (by omega), he⟩, hoff⟩
    · have c_10 : ¬ 160 < k := fun zz9 => c_10 ((nI_ltI (a := 160) (b := k) (by omega) (by omega)).mpr zz9)
      refine x_iload_n dX5_cut_13 2 rfl rfl ?_
      refine x_iconst (v := 1) dX5_cut_14 (by decide) ?_
      refine x_icmp_eq (tgt := 153) dX5_cut_15 (by decide) (fun c_15 => ?_) (fun c_15 => ?_)
      · refine x_vret dX5_cut_153 rfl (Nat.le_refl _) (Nat.le_refl _) ?_
        have he : endT tok := Or.inl c_15
        rcases htok with ⟨rfl, rfl⟩ | ⟨q, rfl, rfl⟩
        · rcases he with z | z <;> exact absurd z (by decide)
        · exact ⟨J, q, rfl, ⟨by omega, hst, fun j hj => hnon j (by omega), he⟩, hoff⟩
      · refine x_iload_n dX5_cut_18 2 rfl rfl ?_
        refine x_iconst (v := 2) dX5_cut_19 (by decide) ?_
        refine x_icmp_eq (tgt := 153) dX5_cut_20 (by decide) (fun c_20 => ?_) (fun c_20 => ?_)
        · refine x_vret dX5_cut_153 rfl (Nat.le_refl _) (Nat.le_refl _) ?_
          have he : endT tok := Or.inr c_20
          rcases htok with ⟨rfl, rfl⟩ | ⟨q, rfl, rfl⟩
          · rcases he with z | z <;> exact absurd z (by decide)
          · exact ⟨J, q, rfl, ⟨by omega, hst, fun j hj => hnon j (by omega), he⟩, hoff⟩
        · have hnt : ¬ endT tok := fun z => z.elim c_15 c_20
          obtain ⟨rfl, hkp⟩ := hat hnt
          have hpl := po_le (tb := tb) (ts := ts) k
          have hfl := beh_le (tb := tb) (s := 0) hpl
          have hf1 := beh_le (tb := tb) (s := 1) hfl.2
          have hf2 := beh_le (tb := tb) (s := 2) hfl.2
          have hfm : fmF tb ts (poF tb ts k) = behF tb ts 0 (poF tb ts k) := rfl
          rw [← hfm] at hfl hf1 hf2
          refine x_aload_n dX5_cut_23 3 rfl rfl ?_
          refine x_iload_n dX5_cut_24 1 rfl rfl ?_
          refine x_iconst (v := 0) dX5_cut_25 (by decide) ?_
          refine x_callV (k_behind (G := G) htJ (p := (poF tb ts k)) (s := 0) (by omega)) dX5_cut_26 crc_X5_behind vc_5_25 t0 rfl rfl rfl rfl (Nat.le_of_ble_eq_true rfl) (roomy_k (by omega) (by decide)) (Nat.le_refl _) (Nat.le_refl _) ?_
          rintro _ _ ⟨_, rfl, rfl, rfl⟩
          refine x_istore (lv' := [(4, .int (nI (fmF tb ts (poF tb ts k)))), (3, .int (nI k)), (2, .int (nI (poF tb ts k))), (1, .int tok), (0, .ref Tp)]) dX5_cut_29 (by decide) rfl ?_
          refine x_aload_n dX5_cut_31 4 rfl rfl ?_
          refine x_iload dX5_cut_32 0 rfl ?_
          refine x_callV (k_sortAt (G := G) htJ (p := (fmF tb ts (poF tb ts k))) (by omega)) dX5_cut_34 crc_X5_sortAt vc_5_29 t0 rfl rfl rfl rfl (Nat.le_of_ble_eq_true rfl) (roomy_k (by omega) (by decide)) (Nat.le_refl _) (Nat.le_refl _) ?_
          rintro _ _ ⟨_, rfl, rfl, rfl⟩
          refine x_tsw [(1, 64), (2, 83), (3, 102)] 117 dX5_cut_37 (by decide) (by decide +kernel) (fun c_37 => ?_) ?_
          · have d_37 : ¬ srF (byF tb ts (fmF tb ts (poF tb ts k))) = 1 ∧ ¬ srF (byF tb ts (fmF tb ts (poF tb ts k))) = 2 ∧ ¬ srF (byF tb ts (fmF tb ts (poF tb ts k))) = 3 := ⟨fun q => c_37 (1, 64) (by simp) (q.trans (by decide)), fun q => c_37 (2, 83) (by simp) (q.trans (by decide)), fun q => c_37 (3, 102) (by simp) (q.trans (by decide))⟩
            refine x_iload dX5_cut_117 0 rfl ?_
            refine x_aload_n dX5_cut_119 4 rfl rfl ?_
            refine x_gI (v := nI ts) dX5_cut_120 fl_5_21 rfl t0 hts ?_
            refine x_icmp_ge (tgt := 130) dX5_cut_123 (by decide) (fun c_123 => ?_) (fun c_123 => ?_)
            · have c_123 : ts ≤ (fmF tb ts (poF tb ts k)) := (nI_leI (a := ts) (b := (fmF tb ts (poF tb ts k))) (by omega) (by omega)).mp c_123
              refine x_iconst (v := 1) dX5_cut_130 (by decide) ?_
              refine x_istore_n (lv' := [(1, .int 1), (4, .int (nI (fmF tb ts (poF tb ts k)))), (3, .int (nI k)), (2, .int (nI (poF tb ts k))), (0, .ref Tp)]) dX5_cut_131 rfl (by decide) rfl ?_
              refine x_aload_n dX5_cut_132 4 rfl rfl ?_
              refine x_gR (b := Tp + 2) dX5_cut_133 fl_5_15 rfl t0 q2 ?_
              refine x_iload_n dX5_cut_136 2 rfl rfl ?_
              refine x_iload_n dX5_cut_137 0 rfl rfl ?_
              refine x_is (j := k) dX5_cut_138 t2 rfl (by omega) (by omega) (fun Iq1 e_Iq1 => ?_)
              refine x_aload_n dX5_cut_139 4 rfl rfl ?_
              refine x_gR (b := Tp + 3) dX5_cut_140 fl_5_18 rfl t0 q3 ?_
              refine x_iload_n dX5_cut_143 2 rfl rfl ?_
              refine x_iload dX5_cut_144 1 rfl ?_
              refine x_is (j := k) dX5_cut_146 t3 rfl (by omega) (by omega) (fun Iq2 e_Iq2 => ?_)
              refine x_iinc (v := nI (k + 1)) (lv' := [(3, .int (nI (k + 1))), (1, .int 1), (4, .int (nI (fmF tb ts (poF tb ts k)))), (2, .int (nI (poF tb ts k))), (0, .ref Tp)]) dX5_cut_147 2 rfl (nI_1 k) (by decide) rfl ?_
              refine x_goto (tgt := 6) dX5_cut_150 (by decide) ?_
              refine x_sub [0, 3, 1, 4] rfl ?_
              have hT : 1 = tkF tb ts (poF tb ts k) := Eq.symm (by unfold tkF; rw [if_neg d_37.1, if_neg d_37.2.1, if_neg d_37.2.2, if_neg (by omega)])
              have hoff' : offC Tp I Iq2 := fun a q z1 z2 => by rw [e_Iq2, u2_ne (by omega), e_Iq1, u2_ne (by omega)]; exact hoff a q z1 z2
              have hst' : ctP tb ts Tp Iq2 (k + 1) := fun j hj => by
                by_cases e : j = k
                · subst e
                  refine ⟨?_, ?_⟩
                  · rw [e_Iq2, u2_ne (by omega), e_Iq1, u2_same, hT]
                  · rw [e_Iq2, u2_same]
                · rw [e_Iq2, u2_ne (by omega), u2_ne (by omega), e_Iq1, u2_ne (by omega), u2_ne (by omega)]
                  exact hst j (by omega)
              have hat' : ¬ endT 1 → nI (poF tb ts k) = nI (poF tb ts (k + 1)) ∧ k + 1 ≤ poF tb ts (k + 1) := fun z => absurd (Or.inl rfl) z
              exact ih (k + 1) 1 (nI (poF tb ts k)) Iq2 (by omega) (by omega) hst' (fun j hj => by
                by_cases e : j + 1 = k
                · rcases htok with ⟨z, _⟩ | ⟨q, z, z2⟩
                  · omega
                  · have hq : j = q := by omega
                    rw [hq, ← z2]
                    exact hnt
                · exact hnon j (by omega)) (Or.inr ⟨k, rfl, hT⟩) hat' hoff'
            · have c_123 : ¬ ts ≤ (fmF tb ts (poF tb ts k)) := fun zz9 => c_123 ((nI_leI (a := ts) (b := (fmF tb ts (poF tb ts k))) (by omega) (by omega)).mpr zz9)
              refine x_iconst (v := 2) dX5_cut_126 (by decide) ?_
              refine x_goto (tgt := 131) dX5_cut_127 (by decide) ?_
              refine x_istore_n (lv' := [(1, .int 2), (4, .int (nI (fmF tb ts (poF tb ts k)))), (3, .int (nI k)), (2, .int (nI (poF tb ts k))), (0, .ref Tp)]) dX5_cut_131 rfl (by decide) rfl ?_
              refine x_aload_n dX5_cut_132 4 rfl rfl ?_
              refine x_gR (b := Tp + 2) dX5_cut_133 fl_5_15 rfl t0 q2 ?_
              refine x_iload_n dX5_cut_136 2 rfl rfl ?_
              refine x_iload_n dX5_cut_137 0 rfl rfl ?_
              refine x_is (j := k) dX5_cut_138 t2 rfl (by omega) (by omega) (fun Iq3 e_Iq3 => ?_)
              refine x_aload_n dX5_cut_139 4 rfl rfl ?_
              refine x_gR (b := Tp + 3) dX5_cut_140 fl_5_18 rfl t0 q3 ?_
              refine x_iload_n dX5_cut_143 2 rfl rfl ?_
              refine x_iload dX5_cut_144 1 rfl ?_
              refine x_is (j := k) dX5_cut_146 t3 rfl (by omega) (by omega) (fun Iq4 e_Iq4 => ?_)
              refine x_iinc (v := nI (k + 1)) (lv' := [(3, .int (nI (k + 1))), (1, .int 2), (4, .int (nI (fmF tb ts (poF tb ts k)))), (2, .int (nI (poF tb ts k))), (0, .ref Tp)]) dX5_cut_147 2 rfl (nI_1 k) (by decide) rfl ?_
              refine x_goto (tgt := 6) dX5_cut_150 (by decide) ?_
              refine x_sub [0, 3, 1, 4] rfl ?_
              have hT : 2 = tkF tb ts (poF tb ts k) := Eq.symm (by unfold tkF; rw [if_neg d_37.1, if_neg d_37.2.1, if_neg d_37.2.2, if_pos (by omega)])
              have hoff' : offC Tp I Iq4 := fun a q z1 z2 => by rw [e_Iq4, u2_ne (by omega), e_Iq3, u2_ne (by omega)]; exact hoff a q z1 z2
              have hst' : ctP tb ts Tp Iq4 (k + 1) := fun j hj => by
                by_cases e : j = k
                · subst e
                  refine ⟨?_, ?_⟩
                  · rw [e_Iq4, u2_ne (by omega), e_Iq3, u2_same, hT]
                  · rw [e_Iq4, u2_same]
                · rw [e_Iq4, u2_ne (by omega), u2_ne (by omega), e_Iq3, u2_ne (by omega), u2_ne (by omega)]
                  exact hst j (by omega)
              have hat' : ¬ endT 2 → nI (poF tb ts k) = nI (poF tb ts (k + 1)) ∧ k + 1 ≤ poF tb ts (k + 1) := fun z => absurd (Or.inr rfl) z
              exact ih (k + 1) 2 (nI (poF tb ts k)) Iq4 (by omega) (by omega) hst' (fun j hj => by
                by_cases e : j + 1 = k
                · rcases htok with ⟨z, _⟩ | ⟨q, z, z2⟩
                  · omega
                  · have hq : j = q := by omega
                    rw [hq, ← z2]
                    exact hnt
                · exact hnon j (by omega)) (Or.inr ⟨k, rfl, hT⟩) hat' hoff'
          · refine List.forall_mem_cons.mpr ⟨fun c_37 => ?_, List.forall_mem_cons.mpr ⟨fun c_37 => ?_, List.forall_mem_cons.mpr ⟨fun c_37 => ?_, fun _ h9 => absurd h9 List.not_mem_nil⟩⟩⟩
            · have c_37 : srF (byF tb ts (fmF tb ts (poF tb ts k))) = 1 := c_37.trans (by decide)
              refine x_aload_n dX5_cut_64 4 rfl rfl ?_
              refine x_iload dX5_cut_65 0 rfl ?_
              refine x_iconst (v := 1) dX5_cut_67 (by decide) ?_
              refine x_callV (k_behind (G := G) htJ (p := (fmF tb ts (poF tb ts k))) (s := 1) (by omega)) dX5_cut_68 crc_X5_behind vc_5_25 t0 rfl rfl rfl rfl (Nat.le_of_ble_eq_true rfl) (roomy_k (by omega) (by decide)) (Nat.le_refl _) (Nat.le_refl _) ?_
              rintro _ _ ⟨_, rfl, rfl, rfl⟩
              refine x_istore_n (lv' := [(2, .int (nI (behF tb ts 1 (fmF tb ts (poF tb ts k))))), (4, .int (nI (fmF tb ts (poF tb ts k)))), (3, .int (nI k)), (1, .int tok), (0, .ref Tp)]) dX5_cut_71 rfl (by decide) rfl ?_
              refine x_aload_n dX5_cut_72 4 rfl rfl ?_
              refine x_iload dX5_cut_73 1 rfl ?_
              refine x_iload_n dX5_cut_75 0 rfl rfl ?_
              refine x_callV (k_numberToken (G := G) htJ (f := (fmF tb ts (poF tb ts k))) (t := (behF tb ts 1 (fmF tb ts (poF tb ts k)))) (by omega) (by omega)) dX5_cut_76 crc_X5_numberToken vc_5_33 t0 rfl rfl rfl rfl (Nat.le_of_ble_eq_true rfl) (roomy_k (by omega) (by decide)) (Nat.le_refl _) (Nat.le_refl _) ?_
              rintro _ _ ⟨_, rfl, rfl, rfl⟩
              refine x_topi (fun xq5 e_xq5 => ?_)
              refine x_istore_n (lv' := [(1, .int xq5), (2, .int (nI (behF tb ts 1 (fmF tb ts (poF tb ts k))))), (4, .int (nI (fmF tb ts (poF tb ts k)))), (3, .int (nI k)), (0, .ref Tp)]) dX5_cut_79 rfl (by decide) rfl ?_
              refine x_goto (tgt := 132) dX5_cut_80 (by decide) ?_
              refine x_aload_n dX5_cut_132 4 rfl rfl ?_
              refine x_gR (b := Tp + 2) dX5_cut_133 fl_5_15 rfl t0 q2 ?_
              refine x_iload_n dX5_cut_136 3 rfl rfl ?_
              refine x_iload_n dX5_cut_137 0 rfl rfl ?_
              refine x_is (j := k) dX5_cut_138 t2 rfl (by omega) (by omega) (fun Iq6 e_Iq6 => ?_)
              refine x_aload_n dX5_cut_139 4 rfl rfl ?_
              refine x_gR (b := Tp + 3) dX5_cut_140 fl_5_18 rfl t0 q3 ?_
              refine x_iload_n dX5_cut_143 3 rfl rfl ?_
              refine x_iload dX5_cut_144 2 rfl ?_
              refine x_is (j := k) dX5_cut_146 t3 rfl (by omega) (by omega) (fun Iq7 e_Iq7 => ?_)
              refine x_iinc (v := nI (k + 1)) (lv' := [(3, .int (nI (k + 1))), (1, .int xq5), (2, .int (nI (behF tb ts 1 (fmF tb ts (poF tb ts k))))), (4, .int (nI (fmF tb ts (poF tb ts k)))), (0, .ref Tp)]) dX5_cut_147 3 rfl (nI_1 k) (by decide) rfl ?_
              refine x_goto (tgt := 6) dX5_cut_150 (by decide) ?_
              refine x_sub [0, 2, 1, 4] rfl ?_
              have hT : xq5 = tkF tb ts (poF tb ts k) := e_xq5.trans (Eq.symm (by unfold tkF; rw [if_pos c_37]))
              have hoff' : offC Tp I Iq7 := fun a q z1 z2 => by rw [e_Iq7, u2_ne (by omega), e_Iq6, u2_ne (by omega)]; exact hoff a q z1 z2
              have hst' : ctP tb ts Tp Iq7 (k + 1) := fun j hj => by
                by_cases e : j = k
                · subst e
                  refine ⟨?_, ?_⟩
                  · rw [e_Iq7, u2_ne (by omega), e_Iq6, u2_same, hT]
                  · rw [e_Iq7, u2_same]
                · rw [e_Iq7, u2_ne (by omega), u2_ne (by omega), e_Iq6, u2_ne (by omega), u2_ne (by omega)]
                  exact hst j (by omega)
              have hat' : ¬ endT xq5 → nI (behF tb ts 1 (fmF tb ts (poF tb ts k))) = nI (poF tb ts (k + 1)) ∧ k + 1 ≤ poF tb ts (k + 1) := fun z => by
                have hlt := nx_lt (tb := tb) (po_le k) (by rw [← hT]; exact z)
                have hnx : behF tb ts 1 (fmF tb ts (poF tb ts k)) = nxF tb ts (poF tb ts k) := Eq.symm (by unfold nxF; rw [if_pos c_37])
                refine ⟨?_, ?_⟩
                · show _ = nI (nxF tb ts (poF tb ts k))
                  rw [← hnx]
                · show k + 1 ≤ nxF tb ts (poF tb ts k)
                  omega
              exact ih (k + 1) xq5 (nI (behF tb ts 1 (fmF tb ts (poF tb ts k)))) Iq7 (by omega) (by omega) hst' (fun j hj => by
                by_cases e : j + 1 = k
                · rcases htok with ⟨z, _⟩ | ⟨q, z, z2⟩
                  · omega
                  · have hq : j = q := by omega
                    rw [hq, ← z2]
                    exact hnt
                · exact hnon j (by omega)) (Or.inr ⟨k, rfl, hT⟩) hat' hoff'
            · have c_37 : srF (byF tb ts (fmF tb ts (poF tb ts k))) = 2 := c_37.trans (by decide)
              refine x_aload_n dX5_cut_83 4 rfl rfl ?_
              refine x_iload dX5_cut_84 0 rfl ?_
              refine x_iconst (v := 2) dX5_cut_86 (by decide) ?_
              refine x_callV (k_behind (G := G) htJ (p := (fmF tb ts (poF tb ts k))) (s := 2) (by omega)) dX5_cut_87 crc_X5_behind vc_5_25 t0 rfl rfl rfl rfl (Nat.le_of_ble_eq_true rfl) (roomy_k (by omega) (by decide)) (Nat.le_refl _) (Nat.le_refl _) ?_
              rintro _ _ ⟨_, rfl, rfl, rfl⟩
              refine x_istore_n (lv' := [(2, .int (nI (behF tb ts 2 (fmF tb ts (poF tb ts k))))), (4, .int (nI (fmF tb ts (poF tb ts k)))), (3, .int (nI k)), (1, .int tok), (0, .ref Tp)]) dX5_cut_90 rfl (by decide) rfl ?_
              refine x_aload_n dX5_cut_91 4 rfl rfl ?_
              refine x_iload dX5_cut_92 1 rfl ?_
              refine x_iload_n dX5_cut_94 0 rfl rfl ?_
              refine x_callV (k_wordToken (G := G) htJ (f := (fmF tb ts (poF tb ts k))) (t := (behF tb ts 2 (fmF tb ts (poF tb ts k)))) (by omega) (by omega)) dX5_cut_95 crc_X5_wordToken vc_5_36 t0 rfl rfl rfl rfl (Nat.le_of_ble_eq_true rfl) (roomy_k (by omega) (by decide)) (Nat.le_refl _) (Nat.le_refl _) ?_
              rintro _ _ ⟨_, rfl, rfl, rfl⟩
              refine x_topi (fun xq8 e_xq8 => ?_)
              refine x_istore_n (lv' := [(1, .int xq8), (2, .int (nI (behF tb ts 2 (fmF tb ts (poF tb ts k))))), (4, .int (nI (fmF tb ts (poF tb ts k)))), (3, .int (nI k)), (0, .ref Tp)]) dX5_cut_98 rfl (by decide) rfl ?_
              refine x_goto (tgt := 132) dX5_cut_99 (by decide) ?_
              refine x_aload_n dX5_cut_132 4 rfl rfl ?_
              refine x_gR (b := Tp + 2) dX5_cut_133 fl_5_15 rfl t0 q2 ?_
              refine x_iload_n dX5_cut_136 3 rfl rfl ?_
              refine x_iload_n dX5_cut_137 0 rfl rfl ?_
              refine x_is (j := k) dX5_cut_138 t2 rfl (by omega) (by omega) (fun Iq9 e_Iq9 => ?_)
              refine x_aload_n dX5_cut_139 4 rfl rfl ?_
              refine x_gR (b := Tp + 3) dX5_cut_140 fl_5_18 rfl t0 q3 ?_
              refine x_iload_n dX5_cut_143 3 rfl rfl ?_
              refine x_iload dX5_cut_144 2 rfl ?_
              refine x_is (j := k) dX5_cut_146 t3 rfl (by omega) (by omega) (fun Iq10 e_Iq10 => ?_)
              refine x_iinc (v := nI (k + 1)) (lv' := [(3, .int (nI (k + 1))), (1, .int xq8), (2, .int (nI (behF tb ts 2 (fmF tb ts (poF tb ts k))))), (4, .int (nI (fmF tb ts (poF tb ts k)))), (0, .ref Tp)]) dX5_cut_147 3 rfl (nI_1 k) (by decide) rfl ?_
              refine x_goto (tgt := 6) dX5_cut_150 (by decide) ?_
              refine x_sub [0, 2, 1, 4] rfl ?_
              have hT : xq8 = tkF tb ts (poF tb ts k) := e_xq8.trans (Eq.symm (by unfold tkF; rw [if_neg (by rw [c_37]; decide), if_pos c_37]))
              have hoff' : offC Tp I Iq10 := fun a q z1 z2 => by rw [e_Iq10, u2_ne (by omega), e_Iq9, u2_ne (by omega)]; exact hoff a q z1 z2
              have hst' : ctP tb ts Tp Iq10 (k + 1) := fun j hj => by
                by_cases e : j = k
                · subst e
                  refine ⟨?_, ?_⟩
                  · rw [e_Iq10, u2_ne (by omega), e_Iq9, u2_same, hT]
                  · rw [e_Iq10, u2_same]
                · rw [e_Iq10, u2_ne (by omega), u2_ne (by omega), e_Iq9, u2_ne (by omega), u2_ne (by omega)]
                  exact hst j (by omega)
              have hat' : ¬ endT xq8 → nI (behF tb ts 2 (fmF tb ts (poF tb ts k))) = nI (poF tb ts (k + 1)) ∧ k + 1 ≤ poF tb ts (k + 1) := fun z => by
                have hlt := nx_lt (tb := tb) (po_le k) (by rw [← hT]; exact z)
                have hnx : behF tb ts 2 (fmF tb ts (poF tb ts k)) = nxF tb ts (poF tb ts k) := Eq.symm (by unfold nxF; rw [if_neg (by rw [c_37]; decide), if_pos c_37])
                refine ⟨?_, ?_⟩
                · show _ = nI (nxF tb ts (poF tb ts k))
                  rw [← hnx]
                · show k + 1 ≤ nxF tb ts (poF tb ts k)
                  omega
              exact ih (k + 1) xq8 (nI (behF tb ts 2 (fmF tb ts (poF tb ts k)))) Iq10 (by omega) (by omega) hst' (fun j hj => by
                by_cases e : j + 1 = k
                · rcases htok with ⟨z, _⟩ | ⟨q, z, z2⟩
                  · omega
                  · have hq : j = q := by omega
                    rw [hq, ← z2]
                    exact hnt
                · exact hnon j (by omega)) (Or.inr ⟨k, rfl, hT⟩) hat' hoff'
            · have c_37 : srF (byF tb ts (fmF tb ts (poF tb ts k))) = 3 := c_37.trans (by decide)
              have hf3 := by_lt (tb := tb) (ts := ts) (p := fmF tb ts (poF tb ts k)) (by rw [c_37]; decide)
              refine x_iload dX5_cut_102 0 rfl ?_
              refine x_iconst (v := 1) dX5_cut_104 (by decide) ?_
              refine x_iadd dX5_cut_105 ?_
              refine x_topi (fun xq11 e_xq11 => ?_)
              refine x_istore_n (lv' := [(2, .int xq11), (4, .int (nI (fmF tb ts (poF tb ts k)))), (3, .int (nI k)), (1, .int tok), (0, .ref Tp)]) dX5_cut_106 rfl (by decide) rfl ?_
              refine x_aload_n dX5_cut_107 4 rfl rfl ?_
              refine x_iload dX5_cut_108 1 rfl ?_
              refine x_callV (k_byteAt (G := G) htJ (p := (fmF tb ts (poF tb ts k))) (by omega)) dX5_cut_110 crc_X5_byteAt vc_5_39 t0 rfl rfl rfl rfl (Nat.le_of_ble_eq_true rfl) (roomy_k (by omega) (by decide)) (Nat.le_refl _) (Nat.le_refl _) ?_
              rintro _ _ ⟨_, rfl, rfl, rfl⟩
              refine x_topi (fun xq12 e_xq12 => ?_)
              refine x_istore_n (lv' := [(1, .int xq12), (2, .int xq11), (4, .int (nI (fmF tb ts (poF tb ts k)))), (3, .int (nI k)), (0, .ref Tp)]) dX5_cut_113 rfl (by decide) rfl ?_
              refine x_goto (tgt := 132) dX5_cut_114 (by decide) ?_
              refine x_aload_n dX5_cut_132 4 rfl rfl ?_
              refine x_gR (b := Tp + 2) dX5_cut_133 fl_5_15 rfl t0 q2 ?_
              refine x_iload_n dX5_cut_136 3 rfl rfl ?_
              refine x_iload_n dX5_cut_137 0 rfl rfl ?_
              refine x_is (j := k) dX5_cut_138 t2 rfl (by omega) (by omega) (fun Iq13 e_Iq13 => ?_)
              refine x_aload_n dX5_cut_139 4 rfl rfl ?_
              refine x_gR (b := Tp + 3) dX5_cut_140 fl_5_18 rfl t0 q3 ?_
              refine x_iload_n dX5_cut_143 3 rfl rfl ?_
              refine x_iload dX5_cut_144 2 rfl ?_
              refine x_is (j := k) dX5_cut_146 t3 rfl (by omega) (by omega) (fun Iq14 e_Iq14 => ?_)
              refine x_iinc (v := nI (k + 1)) (lv' := [(3, .int (nI (k + 1))), (1, .int xq12), (2, .int xq11), (4, .int (nI (fmF tb ts (poF tb ts k)))), (0, .ref Tp)]) dX5_cut_147 3 rfl (nI_1 k) (by decide) rfl ?_
              refine x_goto (tgt := 6) dX5_cut_150 (by decide) ?_
              refine x_sub [0, 2, 1, 4] rfl ?_
              have hT : xq12 = tkF tb ts (poF tb ts k) := e_xq12.trans (Eq.symm (by unfold tkF; rw [if_neg (by rw [c_37]; decide), if_neg (by rw [c_37]; decide), if_pos c_37]))
              have hoff' : offC Tp I Iq14 := fun a q z1 z2 => by rw [e_Iq14, u2_ne (by omega), e_Iq13, u2_ne (by omega)]; exact hoff a q z1 z2
              have hst' : ctP tb ts Tp Iq14 (k + 1) := fun j hj => by
                by_cases e : j = k
                · subst e
                  refine ⟨?_, ?_⟩
                  · rw [e_Iq14, u2_ne (by omega), e_Iq13, u2_same, hT]
                  · rw [e_Iq14, u2_same]
                · rw [e_Iq14, u2_ne (by omega), u2_ne (by omega), e_Iq13, u2_ne (by omega), u2_ne (by omega)]
                  exact hst j (by omega)
              have hat' : ¬ endT xq12 → xq11 = nI (poF tb ts (k + 1)) ∧ k + 1 ≤ poF tb ts (k + 1) := fun z => by
                have hlt := nx_lt (tb := tb) (po_le k) (by rw [← hT]; exact z)
                have hnx : fmF tb ts (poF tb ts k) + 1 = nxF tb ts (poF tb ts k) := Eq.symm (by unfold nxF; rw [if_neg (by rw [c_37]; decide), if_neg (by rw [c_37]; decide), if_pos c_37])
                refine ⟨?_, ?_⟩
                · show _ = nI (nxF tb ts (poF tb ts k))
                  rw [← hnx]
                  exact e_xq11.trans (nI_1 _)
                · show k + 1 ≤ nxF tb ts (poF tb ts k)
                  omega
              exact ih (k + 1) xq12 xq11 Iq14 (by omega) (by omega) hst' (fun j hj => by
                by_cases e : j + 1 = k
                · rcases htok with ⟨z, _⟩ | ⟨q, z, z2⟩
                  · omega
                  · have hq : j = q := by omega
                    rw [hq, ← z2]
                    exact hnt
                · exact hnon j (by omega)) (Or.inr ⟨k, rfl, hT⟩) hat' hoff'

set_option maxHeartbeats 4000000 in
set_option maxRecDepth 100000 in
theorem k_cut {G : GG} {Sh : HS} {I : HI} {R : HR} {Tp ts : Nat} {tb : Nat → Int32} (ht : TPp Sh I R Tp tb ts) : AM G 7 0 0 yX5_cut cX5_cut 5 none [.ref Tp] (Sh, I, R) (qv fun g => ∃ (J : HI) (K : Nat), g = (Sh, J, R) ∧ cutP tb ts Tp J K ∧ offC Tp I J) := by
  obtain ⟨t0, t1, t2, t3, q0, q2, q3, hts, hts2, hby⟩ := id ht
  refine am_intro (by decide) (Nat.le_of_ble_eq_true rfl) ?_
  refine x_iconst (v := 0) dX5_cut_0 (by decide) ?_
  refine x_istore_n (lv' := [(1, .int 0), (0, .ref Tp)]) dX5_cut_1 rfl (by decide) rfl ?_
  refine x_iconst (v := 0) dX5_cut_2 (by decide) ?_
  refine x_istore_n (lv' := [(2, .int 0), (1, .int 0), (0, .ref Tp)]) dX5_cut_3 rfl (by decide) rfl ?_
  refine x_iconst (v := 0) dX5_cut_4 (by decide) ?_
  refine x_istore_n (lv' := [(3, .int 0), (2, .int 0), (1, .int 0), (0, .ref Tp)]) dX5_cut_5 rfl (by decide) rfl ?_
  exact k_cut_l ht 162 0 0 0 I (by omega) (by omega) (fun j hj => absurd hj (by omega)) (fun j hj => absurd hj (by omega)) (Or.inl ⟨rfl, rfl⟩) (fun _ => ⟨rfl, Nat.le_refl _⟩) (fun _ _ _ _ => rfl)

