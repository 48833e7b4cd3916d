theorem crc_J0_coder_7d493 : CRc yJ0_coder_7d493 cJ0_coder_7d493 1 (some .byte) 0 := CRc.at 201 78 (by decide +kernel) (by decide +kernel) (by decide +kernel)
theorem vc_J0_335 : VC yJ0_length_8abf5.cls 335 yJ0_coder_7d493 := VC.at 198 199 200 (by decide +kernel) (by decide +kernel) (by decide +kernel)
theorem crc_J0_isLatin1_aae02 : CRc yJ0_isLatin1_aae02 cJ0_isLatin1_aae02 1 (some .boolean) 0 := CRc.at 211 78 (by decide +kernel) (by decide +kernel) (by decide +kernel)
theorem vc_J0_492 : VC yJ0_charAt_5068e.cls 492 yJ0_isLatin1_aae02 := VC.at 208 209 210 (by decide +kernel) (by decide +kernel) (by decide +kernel)
theorem crc_J1_charAt_3b067 : CRc yJ1_charAt_3b067 cJ1_charAt_3b067 2 (some .char) 2 := CRc.at 214 79 (by decide +kernel) (by decide +kernel) (by decide +kernel)
theorem sc_J0_495 : SC yJ0_charAt_5068e.cls 495 yJ1_charAt_3b067 := SC.at 212 213 (by decide +kernel) (by decide +kernel)
theorem crc_J2_charAt_3b067 : CRc yJ2_charAt_3b067 cJ2_charAt_3b067 2 (some .char) 2 := CRc.at 225 81 (by decide +kernel) (by decide +kernel) (by decide +kernel)
theorem sc_J0_498 : SC yJ0_charAt_5068e.cls 498 yJ2_charAt_3b067 := SC.at 223 224 (by decide +kernel) (by decide +kernel)
theorem crc_J0_checkIndex_df160 : CRc yJ0_checkIndex_df160 cJ0_checkIndex_df160 2 none 2 := CRc.at 217 78 (by decide +kernel) (by decide +kernel) (by decide +kernel)
theorem sc_J1_9 : SC yJ1_charAt_3b067.cls 9 yJ0_checkIndex_df160 := SC.at 215 216 (by decide +kernel) (by decide +kernel)
theorem crc_J3_checkIndex_8e157 : CRc yJ3_checkIndex_8e157 cJ3_checkIndex_8e157 3 (some .int) 3 := CRc.at 222 80 (by decide +kernel) (by decide +kernel) (by decide +kernel)
theorem sc_J0_1059 : SC yJ0_checkIndex_df160.cls 1059 yJ3_checkIndex_8e157 := SC.at 220 221 (by decide +kernel) (by decide +kernel)
theorem crc_J0_indexOf_7cf53 : CRc yJ0_indexOf_7cf53 cJ0_indexOf_7cf53 3 (some .int) 2 := CRc.at 875 78 (by decide +kernel) (by decide +kernel) (by decide +kernel)
theorem vc_J0_633 : VC yJ0_indexOf_0f7a4.cls 633 yJ0_indexOf_7cf53 := VC.at 872 873 874 (by decide +kernel) (by decide +kernel) (by decide +kernel)
theorem vc_J0_505 : VC yJ0_indexOf_7cf53.cls 505 yJ0_length_8abf5 := VC.at 876 195 196 (by decide +kernel) (by decide +kernel) (by decide +kernel)
theorem crc_J1_indexOf_4cfef : CRc yJ1_indexOf_4cfef cJ1_indexOf_4cfef 4 (some .int) 4 := CRc.at 879 79 (by decide +kernel) (by decide +kernel) (by decide +kernel)
theorem sc_J0_637 : SC yJ0_indexOf_7cf53.cls 637 yJ1_indexOf_4cfef := SC.at 877 878 (by decide +kernel) (by decide +kernel)
theorem crc_J2_indexOf_4cfef : CRc yJ2_indexOf_4cfef cJ2_indexOf_4cfef 4 (some .int) 4 := CRc.at 890 81 (by decide +kernel) (by decide +kernel) (by decide +kernel)
theorem sc_J0_640 : SC yJ0_indexOf_7cf53.cls 640 yJ2_indexOf_4cfef := SC.at 888 889 (by decide +kernel) (by decide +kernel)
theorem crc_J1_canEncode_9a6ad : CRc yJ1_canEncode_9a6ad cJ1_canEncode_9a6ad 1 (some .boolean) 1 := CRc.at 882 79 (by decide +kernel) (by decide +kernel) (by decide +kernel)
theorem sc_J1_88 : SC yJ1_indexOf_4cfef.cls 88 yJ1_canEncode_9a6ad := SC.at 880 881 (by decide +kernel) (by decide +kernel)
theorem sc_J1_92 : SC yJ1_indexOf_4cfef.cls 92 yJ9_max_7cf53 := SC.at 883 531 (by decide +kernel) (by decide +kernel)
theorem sc_J1_38 : SC yJ1_indexOf_4cfef.cls 38 yJ9_min_7cf53 := SC.at 884 534 (by decide +kernel) (by decide +kernel)
theorem crc_J1_indexOfChar_4cfef : CRc yJ1_indexOfChar_4cfef cJ1_indexOfChar_4cfef 6 (some .int) 4 := CRc.at 887 79 (by decide +kernel) (by decide +kernel) (by decide +kernel)
theorem sc_J1_95 : SC yJ1_indexOf_4cfef.cls 95 yJ1_indexOfChar_4cfef := SC.at 885 886 (by decide +kernel) (by decide +kernel)
def kC (i j : Nat) : Int32 := (kTb i).getD j 0
theorem kTn_le : ∀ i : Nat, i < 14 → kTn i < 100 := by decide +kernel
theorem kC_char : ∀ i : Nat, i < 14 → ∀ j : Nat, j < kTn i → narrow .char (.int (((kTb i).getD j 0 &&& nI 255).toUInt32 % 65536).toInt32) = .int (((kTb i).getD j 0 &&& nI 255).toUInt32 % 65536).toInt32 ∧ (((kTb i).getD j 0 &&& nI 255).toUInt32 % 65536).toInt32 = kC i j ∧ narrow .char (.int (kC i j)) = .int (kC i j) := by decide +kernel
theorem kTn_shr : ∀ i : Nat, i < 14 → nI (kTn i) >>> ((0 : Int32) &&& 31) = nI (kTn i) := by decide +kernel

set_option maxHeartbeats 4000000 in
set_option maxRecDepth 100000 in
theorem k_coder {G : GG} {Sh : HS} {I : HI} {R : HR} {i : Nat} (hi : i < 14) : AM G 1 0 0 yJ0_coder_7d493 cJ0_coder_7d493 1 (some .byte) [.ref (gK G i)] (Sh, I, R) (qi fun r g => r = 0 ∧ g = (Sh, I, R)) := by
  refine am_intro (by decide) (Nat.le_of_ble_eq_true rfl) ?_
  refine x_gCS dJ0_coder_7d493_0 (tw_at 202 (by decide +kernel) rfl) ?_
  refine x_if_eq (tgt := 13) dJ0_coder_7d493_3 (by decide) (fun c_3 => False.elim (absurd c_3 (by decide))) (fun c_3 => ?_)
  refine x_aload_n dJ0_coder_7d493_6 0 rfl rfl ?_
  refine x_gSc hi dJ0_coder_7d493_7 (tw_at 1300 (by decide +kernel) rfl) ?_
  refine x_goto (tgt := 14) dJ0_coder_7d493_10 (by decide) ?_
  refine x_zret dJ0_coder_7d493_14 rfl rfl (Nat.le_refl _) (Nat.le_refl _) ?_
  exact ⟨rfl, rfl⟩

set_option maxHeartbeats 4000000 in
set_option maxRecDepth 100000 in
theorem k_latin {G : GG} {Sh : HS} {I : HI} {R : HR} {i : Nat} (hi : i < 14) : AM G 1 0 0 yJ0_isLatin1_aae02 cJ0_isLatin1_aae02 1 (some .boolean) [.ref (gK G i)] (Sh, I, R) (qi fun r g => r = 1 ∧ g = (Sh, I, R)) := by
  refine am_intro (by decide) (Nat.le_of_ble_eq_true rfl) ?_
  refine x_gCS dJ0_isLatin1_aae02_0 (tw_at 202 (by decide +kernel) rfl) ?_
  refine x_if_eq (tgt := 17) dJ0_isLatin1_aae02_3 (by decide) (fun c_3 => False.elim (absurd c_3 (by decide))) (fun c_3 => ?_)
  refine x_aload_n dJ0_isLatin1_aae02_6 0 rfl rfl ?_
  refine x_gSc hi dJ0_isLatin1_aae02_7 (tw_at 1300 (by decide +kernel) rfl) ?_
  refine x_if_ne (tgt := 17) dJ0_isLatin1_aae02_10 (by decide) (fun c_10 => False.elim (c_10 rfl)) (fun c_10 => ?_)
  refine x_iconst (v := 1) dJ0_isLatin1_aae02_13 (by decide) ?_
  refine x_goto (tgt := 18) dJ0_isLatin1_aae02_14 (by decide) ?_
  refine x_zret dJ0_isLatin1_aae02_18 rfl rfl (Nat.le_refl _) (Nat.le_refl _) ?_
  exact ⟨rfl, rfl⟩

set_option maxHeartbeats 4000000 in
set_option maxRecDepth 100000 in
theorem k_slen {G : GG} {Sh : HS} {I : HI} {R : HR} {i : Nat} (hi : i < 14) : AM G 2 0 0 yJ0_length_8abf5 cJ0_length_8abf5 1 (some .int) [.ref (gK G i)] (Sh, I, R) (qi fun r g => r = nI (kTn i) ∧ g = (Sh, I, R)) := by
  refine am_intro (by decide) (Nat.le_of_ble_eq_true rfl) ?_
  refine x_aload_n dJ0_length_8abf5_0 0 rfl rfl ?_
  refine x_gSv hi dJ0_length_8abf5_1 (tw_at 1299 (by decide +kernel) rfl) ?_
  refine x_tlen (i := i) hi dJ0_length_8abf5_4 ?_
  refine x_aload_n dJ0_length_8abf5_5 0 rfl rfl ?_
  refine x_callT hi (k_coder (G := G) (Sh := Sh) (I := I) (R := R) hi) dJ0_length_8abf5_6 crc_J0_coder_7d493 vc_J0_335 rfl rfl rfl (Nat.le_of_ble_eq_true rfl) (roomy_k (by omega) (by decide)) (Nat.le_refl _) (Nat.le_refl _) ?_
  rintro _ _ ⟨_, rfl, rfl, rfl⟩
  refine x_ishr dJ0_length_8abf5_9 ?_
  refine x_iret dJ0_length_8abf5_10 rfl (Nat.le_refl _) (Nat.le_refl _) ?_
  exact ⟨kTn_shr i hi, rfl⟩

set_option maxHeartbeats 4000000 in
set_option maxRecDepth 100000 in
theorem k_chk0 {G : GG} {Sh : HS} {I : HI} {R : HR} {j n : Nat} (hj : j < n) (hn : n < 1000) : AM G 1 0 0 yJ3_checkIndex_8e157 cJ3_checkIndex_8e157 3 (some .int) [.int (nI j), .int (nI n), .null] (Sh, I, R) (qi fun r g => g = (Sh, I, R)) := by
  refine am_intro (by decide) (Nat.le_of_ble_eq_true rfl) ?_
  refine x_iload_n dJ3_checkIndex_8e157_0 0 rfl rfl ?_
  refine x_if_lt (tgt := 9) dJ3_checkIndex_8e157_1 (by decide) (fun c_1 => False.elim (nI_pos (by omega) c_1)) (fun c_1 => ?_)
  refine x_iload_n dJ3_checkIndex_8e157_4 0 rfl rfl ?_
  refine x_iload_n dJ3_checkIndex_8e157_5 1 rfl rfl ?_
  refine x_icmp_lt (tgt := 16) dJ3_checkIndex_8e157_6 (by decide) (fun c_6 => ?_) (fun c_6 => False.elim (c_6 ((nI_ltI (by omega) (by omega)).mpr hj)))
  refine x_iload_n dJ3_checkIndex_8e157_16 0 rfl rfl ?_
  refine x_iret dJ3_checkIndex_8e157_17 rfl (Nat.le_refl _) (Nat.le_refl _) ?_
  rfl

set_option maxHeartbeats 4000000 in
set_option maxRecDepth 100000 in
theorem k_chk1 {G : GG} {Sh : HS} {I : HI} {R : HR} {j n : Nat} {t : Nat} (hj : j < n) (hn : n < 1000) : AM G 1 0 0 yJ3_checkIndex_8e157 cJ3_checkIndex_8e157 3 (some .int) [.int (nI j), .int (nI n), .ref t] (Sh, I, R) (qi fun r g => g = (Sh, I, R)) := by
  refine am_intro (by decide) (Nat.le_of_ble_eq_true rfl) ?_
  refine x_iload_n dJ3_checkIndex_8e157_0 0 rfl rfl ?_
  refine x_if_lt (tgt := 9) dJ3_checkIndex_8e157_1 (by decide) (fun c_1 => False.elim (nI_pos (by omega) c_1)) (fun c_1 => ?_)
  refine x_iload_n dJ3_checkIndex_8e157_4 0 rfl rfl ?_
  refine x_iload_n dJ3_checkIndex_8e157_5 1 rfl rfl ?_
  refine x_icmp_lt (tgt := 16) dJ3_checkIndex_8e157_6 (by decide) (fun c_6 => ?_) (fun c_6 => False.elim (c_6 ((nI_ltI (by omega) (by omega)).mpr hj)))
  refine x_iload_n dJ3_checkIndex_8e157_16 0 rfl rfl ?_
  refine x_iret dJ3_checkIndex_8e157_17 rfl (Nat.le_refl _) (Nat.le_refl _) ?_
  rfl

set_option maxHeartbeats 4000000 in
set_option maxRecDepth 100000 in
theorem k_chk {G : GG} {Sh : HS} {I : HI} {R : HR} {j n : Nat} (hj : j < n) (hn : n < 1000) : AM G 2 0 0 yJ0_checkIndex_df160 cJ0_checkIndex_df160 2 none [.int (nI j), .int (nI n)] (Sh, I, R) (qv fun g => g = (Sh, I, R)) := by
  refine am_intro (by decide) (Nat.le_of_ble_eq_true rfl) ?_
  refine x_iload_n dJ0_checkIndex_df160_0 0 rfl rfl ?_
  refine x_iload_n dJ0_checkIndex_df160_1 1 rfl rfl ?_
  refine x_gSI dJ0_checkIndex_df160_2 (tw_at 218 (by decide +kernel) rfl) ?_ (fun t9 => ?_)
  · refine x_callS (rest := []) (k_chk0 (G := G) (Sh := Sh) (I := I) (R := R) hj hn) dJ0_checkIndex_df160_5 crc_J3_checkIndex_8e157 sc_J0_1059 rfl rfl (Nat.le_of_ble_eq_true rfl) (roomy_k (by omega) (by decide)) (Nat.le_refl _) (Nat.le_refl _) ?_
    rintro _ _ ⟨r, rfl, rfl⟩
    refine x_pop dJ0_checkIndex_df160_8 rfl ?_
    refine x_vret dJ0_checkIndex_df160_9 rfl (Nat.le_refl _) (Nat.le_refl _) ?_
    rfl
  · refine x_callS (rest := []) (k_chk1 (G := G) (Sh := Sh) (I := I) (R := R) hj hn) dJ0_checkIndex_df160_5 crc_J3_checkIndex_8e157 sc_J0_1059 rfl rfl (Nat.le_of_ble_eq_true rfl) (roomy_k (by omega) (by decide)) (Nat.le_refl _) (Nat.le_refl _) ?_
    rintro _ _ ⟨r, rfl, rfl⟩
    refine x_pop dJ0_checkIndex_df160_8 rfl ?_
    refine x_vret dJ0_checkIndex_df160_9 rfl (Nat.le_refl _) (Nat.le_refl _) ?_
    rfl

set_option maxHeartbeats 4000000 in
set_option maxRecDepth 100000 in
theorem k_lcharAt {G : GG} {Sh : HS} {I : HI} {R : HR} {i j : Nat} (hi : i < 14) (hj : j < kTn i) : AM G 3 0 0 yJ1_charAt_3b067 cJ1_charAt_3b067 2 (some .char) [.ref (gV G i), .int (nI j)] (Sh, I, R) (qi fun r g => r = kC i j ∧ g = (Sh, I, R)) := by
  have hn9 := kTn_le i hi
  refine am_intro (by decide) (Nat.le_of_ble_eq_true rfl) ?_
  refine x_iload_n dJ1_charAt_3b067_0 1 rfl rfl ?_
  refine x_aload_n dJ1_charAt_3b067_1 0 rfl rfl ?_
  refine x_tlen (i := i) hi dJ1_charAt_3b067_2 ?_
  refine x_callS (rest := []) (k_chk (G := G) (Sh := Sh) (I := I) (R := R) hj (Nat.lt_trans (kTn_le i hi) (by decide))) dJ1_charAt_3b067_3 crc_J0_checkIndex_df160 sc_J1_9 rfl rfl (Nat.le_of_ble_eq_true rfl) (roomy_k (by omega) (by decide)) (Nat.le_refl _) (Nat.le_refl _) ?_
  rintro _ _ ⟨rfl, rfl⟩
  refine x_aload_n dJ1_charAt_3b067_6 0 rfl rfl ?_
  refine x_iload_n dJ1_charAt_3b067_7 1 rfl rfl ?_
  refine x_tb (i := i) (j := j) hi (by assumption) (Nat.lt_trans (kTn_le i hi) (by decide)) rfl dJ1_charAt_3b067_8 ?_
  refine x_sipush (v := nI 255) dJ1_charAt_3b067_9 (by decide) ?_
  refine x_iand dJ1_charAt_3b067_12 ?_
  refine x_i2c (v := ((((kTb i).getD j 0) &&& (nI 255) : Int32).toUInt32 % 65536).toInt32) dJ1_charAt_3b067_13 rfl ?_
  refine x_zret dJ1_charAt_3b067_14 rfl (kC_char i hi j hj).1 (Nat.le_refl _) (Nat.le_refl _) ?_
  exact ⟨(kC_char i hi j hj).2.1, rfl⟩

set_option maxHeartbeats 4000000 in
set_option maxRecDepth 100000 in
theorem k_scharAt {G : GG} {Sh : HS} {I : HI} {R : HR} {i j : Nat} (hi : i < 14) (hj : j < kTn i) : AM G 4 0 0 yJ0_charAt_5068e cJ0_charAt_5068e 2 (some .char) [.ref (gK G i), .int (nI j)] (Sh, I, R) (qi fun r g => r = kC i j ∧ g = (Sh, I, R)) := by
  have hn9 := kTn_le i hi
  refine am_intro (by decide) (Nat.le_of_ble_eq_true rfl) ?_
  refine x_aload_n dJ0_charAt_5068e_0 0 rfl rfl ?_
  refine x_callT hi (k_latin (G := G) (Sh := Sh) (I := I) (R := R) hi) dJ0_charAt_5068e_1 crc_J0_isLatin1_aae02 vc_J0_492 rfl rfl rfl (Nat.le_of_ble_eq_true rfl) (roomy_k (by omega) (by decide)) (Nat.le_refl _) (Nat.le_refl _) ?_
  rintro _ _ ⟨_, rfl, rfl, rfl⟩
  refine x_if_eq (tgt := 16) dJ0_charAt_5068e_4 (by decide) (fun c_4 => False.elim (absurd c_4 (by decide))) (fun c_4 => ?_)
  refine x_aload_n dJ0_charAt_5068e_7 0 rfl rfl ?_
  refine x_gSv hi dJ0_charAt_5068e_8 (tw_at 1299 (by decide +kernel) rfl) ?_
  refine x_iload_n dJ0_charAt_5068e_11 1 rfl rfl ?_
  refine x_callS (rest := []) (k_lcharAt (G := G) (Sh := Sh) (I := I) (R := R) hi hj) dJ0_charAt_5068e_12 crc_J1_charAt_3b067 sc_J0_495 rfl rfl (Nat.le_of_ble_eq_true rfl) (roomy_k (by omega) (by decide)) (Nat.le_refl _) (Nat.le_refl _) ?_
  rintro _ _ ⟨_, rfl, rfl, rfl⟩
  refine x_zret dJ0_charAt_5068e_15 rfl (kC_char i hi j hj).2.2 (Nat.le_refl _) (Nat.le_refl _) ?_
  exact ⟨rfl, rfl⟩

