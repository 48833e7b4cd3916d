/-! THE REFERENCE'S TOKENS -/
def TPm (m ts : Nat) (tb : Nat → Int32) (J : HI) : Prop := J m 9 = nI ts ∧ ts ≤ 160 ∧ (∀ j, j < ts → J (m + 6) j = tb j) ∧ ∀ j, j < ts → ∃ a, a < 256 ∧ tb j = nI a
def frX (m : Nat) (I J : HI) : Prop := ∀ a k, ¬ (a = m ∧ 16 ≤ k ∧ k ≤ 19) → J a k = I a k
theorem frX.rf {m : Nat} {I : HI} : frX m I I := fun _ _ _ => rfl
theorem frX.tr {m : Nat} {I J J2 : HI} (h : frX m I J) (h2 : frX m J J2) : frX m I J2 := fun a k q => (h2 a k q).trans (h a k q)
theorem TPm.fx {m ts : Nat} {tb : Nat → Int32} {I J : HI} (h : TPm m ts tb I) (e : frX m I J) : TPm m ts tb J :=
  ⟨(e _ _ (by omega)).trans h.1, h.2.1, fun j hj => (e _ _ (by omega)).trans (h.2.2.1 j hj), h.2.2.2⟩
/-- the reference's token for one of the class's -/
def mtF (t : Int32) : Int32 := if 1000 ≤ t then 48 else if t ≤ -1 ∨ t = 3 ∨ t = 4 ∨ t = 5 then 119 else if t = 2 then 120 else if t = 1 then 101 else t
def TOK (tb : Nat → Int32) (ts m p : Nat) (J : HI) : Prop := J m 16 = nI (fmF tb ts p) ∧ J m 18 = mtF (tkF tb ts p) ∧ (¬ endT (tkF tb ts p) → J m 17 = nI (nxF tb ts p)) ∧ (1000 ≤ tkF tb ts p → J m 19 = tkF tb ts p - 1000)
theorem sr_tab : ∀ a : Nat, a < 256 → (srF (nI a) = 0 ↔ nI a = 32 ∨ nI a = 10) ∧ (srF (nI a) = 1 ↔ 48 ≤ nI a ∧ nI a ≤ 57) ∧ (srF (nI a) = 2 ↔ 97 ≤ nI a ∧ nI a ≤ 122) ∧ (srF (nI a) = 3 ↔ ∃ j, j < 8 ∧ (kTb 13).getD j 0 = (nI a).toInt8.toInt32) ∧ (srF (nI a) = 3 → 0 < nI a ∧ mtF (nI a) = nI a ∧ ¬ 1000 ≤ nI a) := by decide +kernel
theorem by_in {tb : Nat → Int32} {ts p : Nat} (h : p < ts) : byF tb ts p = tb p := by
  unfold byF
  rw [if_pos h]
theorem sr_by {m ts : Nat} {tb : Nat → Int32} {J : HI} (h : TPm m ts tb J) {p : Nat} (hp : p < ts) : (srF (byF tb ts p) = 0 ↔ tb p = 32 ∨ tb p = 10) ∧ (srF (byF tb ts p) = 1 ↔ 48 ≤ tb p ∧ tb p ≤ 57) ∧ (srF (byF tb ts p) = 2 ↔ 97 ≤ tb p ∧ tb p ≤ 122) ∧ (srF (byF tb ts p) = 3 ↔ ∃ j, j < 8 ∧ (kTb 13).getD j 0 = (tb p).toInt8.toInt32) ∧ (srF (byF tb ts p) = 3 → 0 < tb p ∧ mtF (tb p) = tb p ∧ ¬ 1000 ≤ tb p) := by
  obtain ⟨a, ha, e⟩ := h.2.2.2 p hp
  rw [by_in hp, e]
  exact sr_tab a ha
theorem sr_out {tb : Nat → Int32} {ts p : Nat} (h : ¬ p < ts) : srF (byF tb ts p) = 4 := by
  unfold byF
  rw [if_neg h]
  exact sr_end

set_option maxHeartbeats 4000000 in
set_option maxRecDepth 100000 in
theorem k_ixc_l {G : GG} {Sh : HS} {I : HI} {R : HR} {c : Int32} : ∀ (m : Nat) (i : Nat), (i ≤ 8) → (8 < i + m) → (∀ j, j < i → ¬ (kTb 13).getD j 0 = c.toInt8.toInt32) → X G (kM G 1 0 0 (qi fun r g => ((0 ≤ r ∧ ∃ j, j < 8 ∧ (kTb 13).getD j 0 = c.toInt8.toInt32) ∨ (r = -1 ∧ ∀ j, j < 8 → ¬ (kTb 13).getD j 0 = c.toInt8.toInt32)) ∧ g = (Sh, I, R))) yJ1_indexOfChar_4cfef cJ1_indexOfChar_4cfef 6 (some .int) 0 0 7 [(5, .int (nI i)), (0, .ref (gV G 13)), (1, .int c), (2, .int (nI 0)), (3, .int (nI 8)), (4, .int (c.toInt8.toInt32))] [] (Sh, I, R) := by
  intro m
  induction m with
  | zero =>
    intro i hi hm hall
    exact absurd hm (by omega)
  | succ m ih =>
    intro i hi hm hall
    refine x_iload dJ1_indexOfChar_4cfef_7 0 rfl ?_
    refine x_iload_n dJ1_indexOfChar_4cfef_9 4 rfl rfl ?_
    refine x_icmp_ge (tgt := 31) dJ1_indexOfChar_4cfef_10 (by decide) (fun c_10 => ?_) (fun c_10 => ?_)
    · have c_10 : 8 ≤ i := (nI_leI (a := 8) (b := i) (by omega) (by omega)).mp c_10
      refine x_iconst (v := (-1)) dJ1_indexOfChar_4cfef_31 (by decide) ?_
      refine x_iret dJ1_indexOfChar_4cfef_32 rfl (Nat.le_refl _) (Nat.le_refl _) ?_
      exact ⟨Or.inr ⟨rfl, fun j hj => hall j (by omega)⟩, rfl⟩
    · have c_10 : ¬ 8 ≤ i := fun zz9 => c_10 ((nI_leI (a := 8) (b := i) (by omega) (by omega)).mpr zz9)
      refine x_aload_n dJ1_indexOfChar_4cfef_13 1 rfl rfl ?_
      refine x_iload dJ1_indexOfChar_4cfef_14 0 rfl ?_
      refine x_tb (i := 13) (j := i) (by decide) (show i < 8 by omega) (by decide) rfl dJ1_indexOfChar_4cfef_16 ?_
      refine x_iload dJ1_indexOfChar_4cfef_17 5 rfl ?_
      refine x_icmp_ne (tgt := 25) dJ1_indexOfChar_4cfef_19 (by decide) (fun c_19 => ?_) (fun c_19 => ?_)
      · refine x_iinc (v := nI (i + 1)) (lv' := [(5, .int (nI (i + 1))), (0, .ref (gV G 13)), (1, .int c), (2, .int (nI 0)), (3, .int (nI 8)), (4, .int (c.toInt8.toInt32))]) dJ1_indexOfChar_4cfef_25 0 rfl (nI_1 i) (by decide) rfl ?_
        refine x_goto (tgt := 7) dJ1_indexOfChar_4cfef_28 (by decide) ?_
        refine x_sub [0, 1, 2, 3, 4, 5] rfl ?_
        exact ih (i + 1) (by omega) (by omega) (fun j hj => by
          by_cases z : j = i
          · rw [z]; exact c_19
          · exact hall j (by omega))
      · refine x_iload dJ1_indexOfChar_4cfef_22 0 rfl ?_
        refine x_iret dJ1_indexOfChar_4cfef_24 rfl (Nat.le_refl _) (Nat.le_refl _) ?_
        exact ⟨Or.inl ⟨nI_pos' (by omega), i, by omega, c_19⟩, rfl⟩

set_option maxHeartbeats 4000000 in
set_option maxRecDepth 100000 in
theorem k_ixc {G : GG} {Sh : HS} {I : HI} {R : HR} {c : Int32} : AM G 1 0 0 yJ1_indexOfChar_4cfef cJ1_indexOfChar_4cfef 6 (some .int) [.ref (gV G 13), .int c, .int (nI 0), .int (nI 8)] (Sh, I, R) (qi fun r g => ((0 ≤ r ∧ ∃ j, j < 8 ∧ (kTb 13).getD j 0 = c.toInt8.toInt32) ∨ (r = -1 ∧ ∀ j, j < 8 → ¬ (kTb 13).getD j 0 = c.toInt8.toInt32)) ∧ g = (Sh, I, R)) := by
  refine am_intro (by decide) (Nat.le_of_ble_eq_true rfl) ?_
  refine x_iload_n dJ1_indexOfChar_4cfef_0 1 rfl rfl ?_
  refine x_i2b (v := c.toInt8.toInt32) dJ1_indexOfChar_4cfef_1 rfl ?_
  refine x_topi (fun cb e_cb => ?_)
  refine x_istore (lv' := [(4, .int cb), (0, .ref (gV G 13)), (1, .int c), (2, .int (nI 0)), (3, .int (nI 8))]) dJ1_indexOfChar_4cfef_2 (by decide) rfl ?_
  refine x_iload_n dJ1_indexOfChar_4cfef_4 3 rfl rfl ?_
  refine x_istore (lv' := [(5, .int (nI 0)), (4, .int cb), (0, .ref (gV G 13)), (1, .int c), (2, .int (nI 0)), (3, .int (nI 8))]) dJ1_indexOfChar_4cfef_5 (by decide) rfl ?_
  subst e_cb
  refine x_sub [0, 2, 3, 4, 5, 1] rfl ?_
  exact k_ixc_l 9 0 (by omega) (by omega) (fun j hj => absurd hj (by omega))

set_option maxHeartbeats 4000000 in
set_option maxRecDepth 100000 in
theorem k_ixe {G : GG} {Sh : HS} {I : HI} {R : HR} {c : Int32} (hc : ∃ a, a < 256 ∧ c = nI a) : AM G 1 0 0 yJ1_canEncode_9a6ad cJ1_canEncode_9a6ad 1 (some .boolean) [.int c] (Sh, I, R) (qi fun r g => r = 1 ∧ g = (Sh, I, R)) := by
  obtain ⟨a, ha, ea⟩ := hc
  have hcn : ¬ c < 0 := by rw [ea]; exact nI_pos (by omega)
  have hcm : ¬ 255 < c := by
    rw [ea]
    exact fun z => absurd ((nI_ltI (a := 255) (b := a) (by omega) (by omega)).mp z) (by omega)
  refine am_intro (by decide) (Nat.le_of_ble_eq_true rfl) ?_
  refine x_iload_n dJ1_canEncode_9a6ad_0 0 rfl rfl ?_
  refine x_if_lt (tgt := 15) dJ1_canEncode_9a6ad_1 (by decide) (fun c_1 => False.elim (hcn c_1)) (fun c_1 => ?_)
  refine x_iload_n dJ1_canEncode_9a6ad_4 0 rfl rfl ?_
  refine x_sipush (v := 255) dJ1_canEncode_9a6ad_5 (by decide) ?_
  refine x_icmp_gt (tgt := 15) dJ1_canEncode_9a6ad_8 (by decide) (fun c_8 => False.elim (hcm c_8)) (fun c_8 => ?_)
  refine x_iconst (v := 1) dJ1_canEncode_9a6ad_11 (by decide) ?_
  refine x_goto (tgt := 16) dJ1_canEncode_9a6ad_12 (by decide) ?_
  refine x_zret dJ1_canEncode_9a6ad_16 rfl rfl (Nat.le_refl _) (Nat.le_refl _) ?_
  exact ⟨rfl, rfl⟩

set_option maxHeartbeats 4000000 in
set_option maxRecDepth 100000 in
theorem k_ix1 {G : GG} {Sh : HS} {I : HI} {R : HR} {c : Int32} (hc : ∃ a, a < 256 ∧ c = nI a) : AM G 2 0 0 yJ1_indexOf_4cfef cJ1_indexOf_4cfef 4 (some .int) [.ref (gV G 13), .int c, .int (nI 0), .int (nI 8)] (Sh, I, R) (qi fun r g => ((0 ≤ r ∧ ∃ j, j < 8 ∧ (kTb 13).getD j 0 = c.toInt8.toInt32) ∨ (r = -1 ∧ ∀ j, j < 8 → ¬ (kTb 13).getD j 0 = c.toInt8.toInt32)) ∧ g = (Sh, I, R)) := by
  refine am_intro (by decide) (Nat.le_of_ble_eq_true rfl) ?_
  refine x_iload_n dJ1_indexOf_4cfef_0 1 rfl rfl ?_
  refine x_callS (rest := []) (k_ixe (G := G) (Sh := Sh) (I := I) (R := R) hc) dJ1_indexOf_4cfef_1 crc_J1_canEncode_9a6ad sc_J1_88 rfl rfl (Nat.le_of_ble_eq_true rfl) (roomy_k (by omega) (by decide)) (Nat.le_refl _) (Nat.le_refl _) ?_
  rintro _ _ ⟨_, rfl, rfl, rfl⟩
  refine x_if_ne (tgt := 9) dJ1_indexOf_4cfef_4 (by decide) (fun c_4 => ?_) (fun c_4 => False.elim (absurd c_4 (by decide)))
  refine x_iload_n dJ1_indexOf_4cfef_9 2 rfl rfl ?_
  refine x_iconst (v := 0) dJ1_indexOf_4cfef_10 (by decide) ?_
  refine x_mmax dJ1_indexOf_4cfef_11 sc_J1_92 (Nat.le_of_ble_eq_true rfl) (roomy_k (by omega) (by decide)) (Nat.le_refl _) (Nat.le_refl _) ?_
  refine x_topi (fun f9 e_f9 => ?_)
  refine x_istore_n (lv' := [(2, .int f9), (0, .ref (gV G 13)), (1, .int c), (3, .int (nI 8))]) dJ1_indexOf_4cfef_14 rfl (by decide) rfl ?_
  refine x_iload_n dJ1_indexOf_4cfef_15 3 rfl rfl ?_
  refine x_aload_n dJ1_indexOf_4cfef_16 1 rfl rfl ?_
  refine x_tlen (i := 13) (by decide) dJ1_indexOf_4cfef_17 ?_
  refine x_mmin dJ1_indexOf_4cfef_18 sc_J1_38 (Nat.le_of_ble_eq_true rfl) (roomy_k (by omega) (by decide)) (Nat.le_refl _) (Nat.le_refl _) ?_
  refine x_topi (fun t9 e_t9 => ?_)
  refine x_istore_n (lv' := [(3, .int t9), (2, .int f9), (0, .ref (gV G 13)), (1, .int c)]) dJ1_indexOf_4cfef_21 rfl (by decide) rfl ?_
  have e9 : f9 = nI 0 := by rw [e_f9]; decide
  have e8 : t9 = nI 8 := by rw [e_t9]; decide
  subst e9
  subst e8
  refine x_iload_n dJ1_indexOf_4cfef_22 1 rfl rfl ?_
  refine x_iload_n dJ1_indexOf_4cfef_23 0 rfl rfl ?_
  refine x_icmp_lt (tgt := 29) dJ1_indexOf_4cfef_24 (by decide) (fun c_24 => ?_) (fun c_24 => False.elim (c_24 (by decide)))
  refine x_aload_n dJ1_indexOf_4cfef_29 2 rfl rfl ?_
  refine x_iload_n dJ1_indexOf_4cfef_30 3 rfl rfl ?_
  refine x_iload_n dJ1_indexOf_4cfef_31 1 rfl rfl ?_
  refine x_iload_n dJ1_indexOf_4cfef_32 0 rfl rfl ?_
  refine x_callS (rest := []) (k_ixc (G := G) (Sh := Sh) (I := I) (R := R) (c := c)) dJ1_indexOf_4cfef_33 crc_J1_indexOfChar_4cfef sc_J1_95 rfl rfl (Nat.le_of_ble_eq_true rfl) (roomy_k (by omega) (by decide)) (Nat.le_refl _) (Nat.le_refl _) ?_
  rintro _ _ ⟨r, rfl, hr, rfl⟩
  refine x_iret dJ1_indexOf_4cfef_36 rfl (Nat.le_refl _) (Nat.le_refl _) ?_
  exact ⟨hr, rfl⟩

set_option maxHeartbeats 4000000 in
set_option maxRecDepth 100000 in
theorem k_ix2 {G : GG} {Sh : HS} {I : HI} {R : HR} {c : Int32} (hc : ∃ a, a < 256 ∧ c = nI a) : AM G 3 0 0 yJ0_indexOf_7cf53 cJ0_indexOf_7cf53 3 (some .int) [.ref (gK G 13), .int c, .int (nI 0)] (Sh, I, R) (qi fun r g => ((0 ≤ r ∧ ∃ j, j < 8 ∧ (kTb 13).getD j 0 = c.toInt8.toInt32) ∨ (r = -1 ∧ ∀ j, j < 8 → ¬ (kTb 13).getD j 0 = c.toInt8.toInt32)) ∧ g = (Sh, I, R)) := by
  refine am_intro (by decide) (Nat.le_of_ble_eq_true rfl) ?_
  refine x_aload_n dJ0_indexOf_7cf53_0 0 rfl rfl ?_
  refine x_callT (by decide) (k_latin (G := G) (Sh := Sh) (I := I) (R := R) (i := 13) (by decide)) dJ0_indexOf_7cf53_1 crc_J0_isLatin1_aae02 vc_J0_492 rfl rfl rfl (Nat.le_of_ble_eq_true rfl) (roomy_k (by omega) (by decide)) (Nat.le_refl _) (Nat.le_refl _) ?_
  rintro _ _ ⟨_, rfl, rfl, rfl⟩
  refine x_if_eq (tgt := 23) dJ0_indexOf_7cf53_4 (by decide) (fun c_4 => False.elim (absurd c_4 (by decide))) (fun c_4 => ?_)
  refine x_aload_n dJ0_indexOf_7cf53_7 0 rfl rfl ?_
  refine x_gSv (by decide) dJ0_indexOf_7cf53_8 (tw_at 1299 (by decide +kernel) rfl) ?_
  refine x_iload_n dJ0_indexOf_7cf53_11 1 rfl rfl ?_
  refine x_iload_n dJ0_indexOf_7cf53_12 2 rfl rfl ?_
  refine x_aload_n dJ0_indexOf_7cf53_13 0 rfl rfl ?_
  refine x_callT (by decide) (k_slen (G := G) (Sh := Sh) (I := I) (R := R) (i := 13) (by decide)) dJ0_indexOf_7cf53_14 crc_J0_length_8abf5 vc_J0_505 rfl rfl rfl (Nat.le_of_ble_eq_true rfl) (roomy_k (by omega) (by decide)) (Nat.le_refl _) (Nat.le_refl _) ?_
  rintro _ _ ⟨_, rfl, rfl, rfl⟩
  refine x_callS (rest := []) (k_ix1 (G := G) (Sh := Sh) (I := I) (R := R) hc) dJ0_indexOf_7cf53_17 crc_J1_indexOf_4cfef sc_J0_637 rfl rfl (Nat.le_of_ble_eq_true rfl) (roomy_k (by omega) (by decide)) (Nat.le_refl _) (Nat.le_refl _) ?_
  rintro _ _ ⟨r, rfl, hr, rfl⟩
  refine x_goto (tgt := 36) dJ0_indexOf_7cf53_20 (by decide) ?_
  refine x_iret dJ0_indexOf_7cf53_36 rfl (Nat.le_refl _) (Nat.le_refl _) ?_
  exact ⟨hr, rfl⟩

set_option maxHeartbeats 4000000 in
set_option maxRecDepth 100000 in
theorem k_ix {G : GG} {Sh : HS} {I : HI} {R : HR} {c : Int32} (hc : ∃ a, a < 256 ∧ c = nI a) : AM G 4 0 0 yJ0_indexOf_0f7a4 cJ0_indexOf_0f7a4 2 (some .int) [.ref (gK G 13), .int c] (Sh, I, R) (qi fun r g => ((0 ≤ r ∧ ∃ j, j < 8 ∧ (kTb 13).getD j 0 = c.toInt8.toInt32) ∨ (r = -1 ∧ ∀ j, j < 8 → ¬ (kTb 13).getD j 0 = c.toInt8.toInt32)) ∧ g = (Sh, I, R)) := by
  refine am_intro (by decide) (Nat.le_of_ble_eq_true rfl) ?_
  refine x_aload_n dJ0_indexOf_0f7a4_0 0 rfl rfl ?_
  refine x_iload_n dJ0_indexOf_0f7a4_1 1 rfl rfl ?_
  refine x_iconst (v := nI 0) dJ0_indexOf_0f7a4_2 (by decide) ?_
  refine x_callT (by decide) (k_ix2 (G := G) (Sh := Sh) (I := I) (R := R) hc) dJ0_indexOf_0f7a4_3 crc_J0_indexOf_7cf53 vc_J0_633 rfl rfl rfl (Nat.le_of_ble_eq_true rfl) (roomy_k (by omega) (by decide)) (Nat.le_refl _) (Nat.le_refl _) ?_
  rintro _ _ ⟨r, rfl, hr, rfl⟩
  refine x_iret dJ0_indexOf_0f7a4_6 rfl (Nat.le_refl _) (Nat.le_refl _) ?_
  exact ⟨hr, rfl⟩

set_option maxHeartbeats 4000000 in
set_option maxRecDepth 100000 in
theorem k_misLetter {G : GG} {Sh : HS} {I : HI} {R : HR} {c : Int32} : AM G 1 0 0 yX8_isLetter cX8_isLetter 1 (some .boolean) [.int c] (Sh, I, R) (qi fun r g => r = bI (97 ≤ c ∧ c ≤ 122) ∧ g = (Sh, I, R)) := by
  refine am_intro (by decide) (Nat.le_of_ble_eq_true rfl) ?_
  refine x_iload_n dX8_isLetter_0 0 rfl rfl ?_
  refine x_bipush (v := 97) dX8_isLetter_1 (by decide) ?_
  refine x_icmp_lt (tgt := 16) dX8_isLetter_3 (by decide) (fun c_3 => ?_) (fun c_3 => ?_)
  · refine x_iconst (v := 0) dX8_isLetter_16 (by decide) ?_
    refine x_zret dX8_isLetter_17 rfl rfl (Nat.le_refl _) (Nat.le_refl _) ?_
    exact ⟨(bI_f (fun z => absurd c_3 (Int32.not_lt.mpr z.1))).symm, rfl⟩
  · refine x_iload_n dX8_isLetter_6 0 rfl rfl ?_
    refine x_bipush (v := 122) dX8_isLetter_7 (by decide) ?_
    refine x_icmp_gt (tgt := 16) dX8_isLetter_9 (by decide) (fun c_9 => ?_) (fun c_9 => ?_)
    · refine x_iconst (v := 0) dX8_isLetter_16 (by decide) ?_
      refine x_zret dX8_isLetter_17 rfl rfl (Nat.le_refl _) (Nat.le_refl _) ?_
      exact ⟨(bI_f (fun z => absurd c_9 (Int32.not_lt.mpr z.2))).symm, rfl⟩
    · refine x_iconst (v := 1) dX8_isLetter_12 (by decide) ?_
      refine x_goto (tgt := 17) dX8_isLetter_13 (by decide) ?_
      refine x_zret dX8_isLetter_17 rfl rfl (Nat.le_refl _) (Nat.le_refl _) ?_
      exact ⟨(bI_t ⟨Int32.not_lt.mp c_3, Int32.not_lt.mp c_9⟩).symm, rfl⟩

set_option maxHeartbeats 4000000 in
set_option maxRecDepth 100000 in
theorem k_misDigit {G : GG} {Sh : HS} {I : HI} {R : HR} {c : Int32} : AM G 1 0 0 yX8_isDigit cX8_isDigit 1 (some .boolean) [.int c] (Sh, I, R) (qi fun r g => r = bI (48 ≤ c ∧ c ≤ 57) ∧ g = (Sh, I, R)) := by
  refine am_intro (by decide) (Nat.le_of_ble_eq_true rfl) ?_
  refine x_iload_n dX8_isDigit_0 0 rfl rfl ?_
  refine x_bipush (v := 48) dX8_isDigit_1 (by decide) ?_
  refine x_icmp_lt (tgt := 16) dX8_isDigit_3 (by decide) (fun c_3 => ?_) (fun c_3 => ?_)
  · refine x_iconst (v := 0) dX8_isDigit_16 (by decide) ?_
    refine x_zret dX8_isDigit_17 rfl rfl (Nat.le_refl _) (Nat.le_refl _) ?_
    exact ⟨(bI_f (fun z => absurd c_3 (Int32.not_lt.mpr z.1))).symm, rfl⟩
  · refine x_iload_n dX8_isDigit_6 0 rfl rfl ?_
    refine x_bipush (v := 57) dX8_isDigit_7 (by decide) ?_
    refine x_icmp_gt (tgt := 16) dX8_isDigit_9 (by decide) (fun c_9 => ?_) (fun c_9 => ?_)
    · refine x_iconst (v := 0) dX8_isDigit_16 (by decide) ?_
      refine x_zret dX8_isDigit_17 rfl rfl (Nat.le_refl _) (Nat.le_refl _) ?_
      exact ⟨(bI_f (fun z => absurd c_9 (Int32.not_lt.mpr z.2))).symm, rfl⟩
    · refine x_iconst (v := 1) dX8_isDigit_12 (by decide) ?_
      refine x_goto (tgt := 17) dX8_isDigit_13 (by decide) ?_
      refine x_zret dX8_isDigit_17 rfl rfl (Nat.le_refl _) (Nat.le_refl _) ?_
      exact ⟨(bI_t ⟨Int32.not_lt.mp c_3, Int32.not_lt.mp c_9⟩).symm, rfl⟩

set_option maxHeartbeats 4000000 in
set_option maxRecDepth 100000 in
theorem k_misWord_l {G : GG} {Sh : HS} {I : HI} {R : HR} {m ts : Nat} {tb : Nat → Int32} (hsh : MSh Sh m) (hrf : MRf R m) (ht : TPm m ts tb I) {i f t : Nat} (hi : i < 14) (hf : I m 16 = nI f) (ht7 : I m 17 = nI t) (hft : f ≤ t) (htt : t ≤ ts) (htk : I m 18 = 119) (hlen : t - f = kTn i) : ∀ (m9 : Nat) (j : Nat), (j ≤ kTn i) → (kTn i < j + m9) → (∀ q, q < j → byF tb ts (f + q) = kC i q) → X G (kM G 5 0 0 (qi fun r g => r = bI (I m 18 = 119 ∧ wdP tb ts i f t) ∧ g = (Sh, I, R))) yX8_isWord cX8_isWord 3 (some .boolean) 0 0 29 [(2, .int (nI j)), (0, .ref m), (1, .ref (gK G i))] [] (Sh, I, R) := by
  intro m9
  induction m9 with
  | zero =>
    intro j hj hm hall
    exact absurd hm (by omega)
  | succ m9 ih =>
    intro j hj hm hall
    obtain ⟨ht9, hts, htb, hby⟩ := id ht
    obtain ⟨z0, z1, z6, z7, z8, z9, z10, z11, z12, z13, z14, z15, z16, z17⟩ := id hsh
    obtain ⟨y1, y6, y7, y8, y9, y10, y11, y12, y13, y14, y15, y16, y17⟩ := id hrf
    have hn9 := kTn_le i hi
    refine x_iload_n dX8_isWord_29 0 rfl rfl ?_
    refine x_aload_n dX8_isWord_30 2 rfl rfl ?_
    refine x_callT hi (k_slen (G := G) (Sh := Sh) (I := I) (R := R) hi) dX8_isWord_31 crc_J0_length_8abf5 vc_8_63 rfl rfl rfl (Nat.le_of_ble_eq_true rfl) (roomy_k (by omega) (by decide)) (Nat.le_refl _) (Nat.le_refl _) ?_
    rintro _ _ ⟨_, rfl, rfl, rfl⟩
    refine x_icmp_ge (tgt := 64) dX8_isWord_34 (by decide) (fun c_34 => ?_) (fun c_34 => ?_)
    · have c_34 : (kTn i) ≤ j := (nI_leI (a := (kTn i)) (b := j) (by omega) (by omega)).mp c_34
      refine x_iconst (v := 1) dX8_isWord_64 (by decide) ?_
      refine x_zret dX8_isWord_65 rfl rfl (Nat.le_refl _) (Nat.le_refl _) ?_
      have hjn : j = kTn i := by omega
      subst hjn
      exact ⟨(bI_t ⟨htk, hlen, hall⟩).symm, rfl⟩
    · have c_34 : ¬ (kTn i) ≤ j := fun zz9 => c_34 ((nI_leI (a := (kTn i)) (b := j) (by omega) (by omega)).mpr zz9)
      refine x_aload_n dX8_isWord_37 1 rfl rfl ?_
      refine x_gR (b := m + 6) dX8_isWord_38 fl_8_25 rfl z0 y6 ?_
      refine x_aload_n dX8_isWord_41 1 rfl rfl ?_
      refine x_gI (v := nI f) dX8_isWord_42 fl_8_123 rfl z0 hf ?_
      refine x_iload_n dX8_isWord_45 0 rfl rfl ?_
      refine x_iadd dX8_isWord_46 ?_
      refine x_vali (nI_add f j) ?_
      refine x_ia (j := f + j) (v := tb (f + j)) dX8_isWord_47 z6 rfl (by omega) (by omega) (htb _ (by omega)) ?_
      refine x_aload_n dX8_isWord_48 2 rfl rfl ?_
      refine x_iload_n dX8_isWord_49 0 rfl rfl ?_
      refine x_callT hi (k_scharAt (G := G) (Sh := Sh) (I := I) (R := R) (j := j) hi (by omega)) dX8_isWord_50 crc_J0_charAt_5068e vc_8_68 rfl rfl rfl (Nat.le_of_ble_eq_true rfl) (roomy_k (by omega) (by decide)) (Nat.le_refl _) (Nat.le_refl _) ?_
      rintro _ _ ⟨_, rfl, rfl, rfl⟩
      refine x_icmp_eq (tgt := 58) dX8_isWord_53 (by decide) (fun c_53 => ?_) (fun c_53 => ?_)
      · refine x_iinc (v := nI (j + 1)) (lv' := [(2, .int (nI (j + 1))), (0, .ref m), (1, .ref (gK G i))]) dX8_isWord_58 0 rfl (nI_1 j) (by decide) rfl ?_
        refine x_goto (tgt := 29) dX8_isWord_61 (by decide) ?_
        refine x_sub [0, 1, 2] rfl ?_
        exact ih (j + 1) (by omega) (by omega) (fun q hq => by
          by_cases e : q = j
          · rw [e, by_in (by omega)]
            exact c_53
          · exact hall q (by omega))
      · refine x_iconst (v := 0) dX8_isWord_56 (by decide) ?_
        refine x_zret dX8_isWord_57 rfl rfl (Nat.le_refl _) (Nat.le_refl _) ?_
        exact ⟨(bI_f (fun z => c_53 ((by_in (by omega)).symm.trans (z.2.2 j (by omega))))).symm, rfl⟩

set_option maxHeartbeats 4000000 in
set_option maxRecDepth 100000 in
theorem k_misWord {G : GG} {Sh : HS} {I : HI} {R : HR} {m ts : Nat} {tb : Nat → Int32} (hsh : MSh Sh m) (hrf : MRf R m) (ht : TPm m ts tb I) {i f t : Nat} (hi : i < 14) (hf : I m 16 = nI f) (ht7 : I m 17 = nI t) (hft : f ≤ t) (htt : t ≤ ts) : AM G 5 0 0 yX8_isWord cX8_isWord 3 (some .boolean) [.ref m, .ref (gK G i)] (Sh, I, R) (qi fun r g => r = bI (I m 18 = 119 ∧ wdP tb ts i f t) ∧ g = (Sh, I, R)) := by
  obtain ⟨ht9, hts, htb, hby⟩ := id ht
  obtain ⟨z0, z1, z6, z7, z8, z9, z10, z11, z12, z13, z14, z15, z16, z17⟩ := id hsh
  obtain ⟨y1, y6, y7, y8, y9, y10, y11, y12, y13, y14, y15, y16, y17⟩ := id hrf
  have hn9 := kTn_le i hi
  refine am_intro (by decide) (Nat.le_of_ble_eq_true rfl) ?_
  refine x_aload_n dX8_isWord_0 0 rfl rfl ?_
  refine x_gI (v := I m 18) dX8_isWord_1 fl_8_117 rfl z0 rfl ?_
  refine x_bipush (v := 119) dX8_isWord_4 (by decide) ?_
  refine x_icmp_ne (tgt := 25) dX8_isWord_6 (by decide) (fun c_6 => ?_) (fun c_6 => ?_)
  · refine x_iconst (v := 0) dX8_isWord_25 (by decide) ?_
    refine x_zret dX8_isWord_26 rfl rfl (Nat.le_refl _) (Nat.le_refl _) ?_
    exact ⟨(bI_f (fun z => c_6 z.1)).symm, rfl⟩
  · refine x_aload_n dX8_isWord_9 0 rfl rfl ?_
    refine x_gI (v := nI t) dX8_isWord_10 fl_8_120 rfl z0 ht7 ?_
    refine x_aload_n dX8_isWord_13 0 rfl rfl ?_
    refine x_gI (v := nI f) dX8_isWord_14 fl_8_123 rfl z0 hf ?_
    refine x_isub dX8_isWord_17 ?_
    refine x_vali (pk_sub hft) ?_
    refine x_aload_n dX8_isWord_18 1 rfl rfl ?_
    refine x_callT hi (k_slen (G := G) (Sh := Sh) (I := I) (R := R) hi) dX8_isWord_19 crc_J0_length_8abf5 vc_8_63 rfl rfl rfl (Nat.le_of_ble_eq_true rfl) (roomy_k (by omega) (by decide)) (Nat.le_refl _) (Nat.le_refl _) ?_
    rintro _ _ ⟨_, rfl, rfl, rfl⟩
    refine x_icmp_eq (tgt := 27) dX8_isWord_22 (by decide) (fun c_22 => ?_) (fun c_22 => ?_)
    · have c_22 : (t - f) = (kTn i) := (nI_eq (a := (t - f)) (b := (kTn i)) (by omega) (by omega)).mp c_22
      refine x_iconst (v := nI 0) dX8_isWord_27 (by decide) ?_
      refine x_istore_n (lv' := [(2, .int (nI 0)), (0, .ref m), (1, .ref (gK G i))]) dX8_isWord_28 rfl (by decide) rfl ?_
      exact k_misWord_l hsh hrf ht hi hf ht7 hft htt c_6 c_22 (kTn i + 1) 0 (by omega) (by omega) (fun q hq => absurd hq (by omega))
    · have c_22 : ¬ (t - f) = (kTn i) := fun zz9 => c_22 ((nI_eq (a := (t - f)) (b := (kTn i)) (by omega) (by omega)).mpr zz9)
      refine x_iconst (v := 0) dX8_isWord_25 (by decide) ?_
      refine x_zret dX8_isWord_26 rfl rfl (Nat.le_refl _) (Nat.le_refl _) ?_
      exact ⟨(bI_f (fun z => c_22 z.2.1)).symm, rfl⟩

set_option maxHeartbeats 4000000 in
set_option maxRecDepth 100000 in
theorem k_mname {G : GG} {Sh : HS} {I : HI} {R : HR} {k : Nat} (hk : k ≤ 5) : AM G 1 0 0 yX8_name cX8_name 1 (some (.object "java/lang/String")) [.int (nI k)] (Sh, I, R) (qa fun r g => r = some (gK G (7 + k)) ∧ g = (Sh, I, R)) := by
  refine am_intro (by decide) (Nat.le_of_ble_eq_true rfl) ?_
  refine x_iload_n dX8_name_0 0 rfl rfl ?_
  refine x_if_ne (tgt := 9) dX8_name_1 (by decide) (fun c_1 => ?_) (fun c_1 => ?_)
  · have c_1 : ¬ k = 0 := fun zz9 => c_1 ((nI_eq (a := k) (b := 0) (by omega) (by omega)).mpr zz9)
    refine x_iload_n dX8_name_9 0 rfl rfl ?_
    refine x_iconst (v := 1) dX8_name_10 (by decide) ?_
    refine x_icmp_ne (tgt := 19) dX8_name_11 (by decide) (fun c_11 => ?_) (fun c_11 => ?_)
    · have c_11 : ¬ k = 1 := fun zz9 => c_11 ((nI_eq (a := k) (b := 1) (by omega) (by omega)).mpr zz9)
      refine x_iload_n dX8_name_19 0 rfl rfl ?_
      refine x_iconst (v := 2) dX8_name_20 (by decide) ?_
      refine x_icmp_ne (tgt := 29) dX8_name_21 (by decide) (fun c_21 => ?_) (fun c_21 => ?_)
      · have c_21 : ¬ k = 2 := fun zz9 => c_21 ((nI_eq (a := k) (b := 2) (by omega) (by omega)).mpr zz9)
        refine x_iload_n dX8_name_29 0 rfl rfl ?_
        refine x_iconst (v := 3) dX8_name_30 (by decide) ?_
        refine x_icmp_ne (tgt := 39) dX8_name_31 (by decide) (fun c_31 => ?_) (fun c_31 => ?_)
        · have c_31 : ¬ k = 3 := fun zz9 => c_31 ((nI_eq (a := k) (b := 3) (by omega) (by omega)).mpr zz9)
          refine x_iload_n dX8_name_39 0 rfl rfl ?_
          refine x_iconst (v := 4) dX8_name_40 (by decide) ?_
          refine x_icmp_ne (tgt := 49) dX8_name_41 (by decide) (fun c_41 => ?_) (fun c_41 => ?_)
          · have c_41 : ¬ k = 4 := fun zz9 => c_41 ((nI_eq (a := k) (b := 4) (by omega) (by omega)).mpr zz9)
            refine x_ldcS (i := 12) (tx := "shelter") dX8_name_49 (by decide +kernel) ?_
            refine x_aret dX8_name_51 rfl (Or.inl ⟨_, rfl⟩) (Nat.le_refl _) (Nat.le_refl _) ?_
            exact ⟨by rw [show k = 5 by omega], rfl⟩
          · have c_41 : k = 4 := (nI_eq (a := k) (b := 4) (by omega) (by omega)).mp c_41
            refine x_ldcS (i := 11) (tx := "height") dX8_name_44 (by decide +kernel) ?_
            refine x_goto (tgt := 51) dX8_name_46 (by decide) ?_
            refine x_aret dX8_name_51 rfl (Or.inl ⟨_, rfl⟩) (Nat.le_refl _) (Nat.le_refl _) ?_
            exact ⟨by rw [show k = 4 by omega], rfl⟩
        · have c_31 : k = 3 := (nI_eq (a := k) (b := 3) (by omega) (by omega)).mp c_31
          refine x_ldcS (i := 10) (tx := "number") dX8_name_34 (by decide +kernel) ?_
          refine x_goto (tgt := 51) dX8_name_36 (by decide) ?_
          refine x_aret dX8_name_51 rfl (Or.inl ⟨_, rfl⟩) (Nat.le_refl _) (Nat.le_refl _) ?_
          exact ⟨by rw [show k = 3 by omega], rfl⟩
      · have c_21 : k = 2 := (nI_eq (a := k) (b := 2) (by omega) (by omega)).mp c_21
        refine x_ldcS (i := 9) (tx := "place") dX8_name_24 (by decide +kernel) ?_
        refine x_goto (tgt := 51) dX8_name_26 (by decide) ?_
        refine x_aret dX8_name_51 rfl (Or.inl ⟨_, rfl⟩) (Nat.le_refl _) (Nat.le_refl _) ?_
        exact ⟨by rw [show k = 2 by omega], rfl⟩
    · have c_11 : k = 1 := (nI_eq (a := k) (b := 1) (by omega) (by omega)).mp c_11
      refine x_ldcS (i := 8) (tx := "moon") dX8_name_14 (by decide +kernel) ?_
      refine x_goto (tgt := 51) dX8_name_16 (by decide) ?_
      refine x_aret dX8_name_51 rfl (Or.inl ⟨_, rfl⟩) (Nat.le_refl _) (Nat.le_refl _) ?_
      exact ⟨by rw [show k = 1 by omega], rfl⟩
  · have c_1 : k = 0 := (nI_eq (a := k) (b := 0) (by omega) (by omega)).mp c_1
    refine x_ldcS (i := 7) (tx := "wave") dX8_name_4 (by decide +kernel) ?_
    refine x_goto (tgt := 51) dX8_name_6 (by decide) ?_
    refine x_aret dX8_name_51 rfl (Or.inl ⟨_, rfl⟩) (Nat.le_refl _) (Nat.le_refl _) ?_
    exact ⟨by rw [show k = 0 by omega], rfl⟩

def nmF (tb : Nat → Int32) (ts f t : Nat) (r : Int32) (k : Nat) : Prop := (∃ j, k ≤ j ∧ j ≤ 5 ∧ r = nI j ∧ wdP tb ts (7 + j) f t) ∨ (r = -1 ∧ ∀ j, k ≤ j → j ≤ 5 → ¬ wdP tb ts (7 + j) f t)

set_option maxHeartbeats 4000000 in
set_option maxRecDepth 100000 in
theorem k_mnamed_l {G : GG} {Sh : HS} {I : HI} {R : HR} {m ts : Nat} {tb : Nat → Int32} (hsh : MSh Sh m) (hrf : MRf R m) (ht : TPm m ts tb I) {f t : Nat} (hf : I m 16 = nI f) (ht7 : I m 17 = nI t) (hft : f ≤ t) (htt : t ≤ ts) (htk : I m 18 = 119) : ∀ (m9 : Nat) (k : Nat), (k ≤ 6) → (6 < k + m9) → (∀ j, j < k → ¬ wdP tb ts (7 + j) f t) → X G (kM G 6 0 0 (qi fun r g => nmF tb ts f t r 0 ∧ g = (Sh, I, R))) yX8_named cX8_named 2 (some .int) 0 0 2 [(1, .int (nI k)), (0, .ref m)] [] (Sh, I, R) := by
  intro m9
  induction m9 with
  | zero =>
    intro k hk hm hno
    exact absurd hm (by omega)
  | succ m9 ih =>
    intro k hk hm hno
    obtain ⟨z0, z1, z6, z7, z8, z9, z10, z11, z12, z13, z14, z15, z16, z17⟩ := id hsh
    obtain ⟨y1, y6, y7, y8, y9, y10, y11, y12, y13, y14, y15, y16, y17⟩ := id hrf
    refine x_iload_n dX8_named_2 0 rfl rfl ?_
    refine x_iconst (v := 5) dX8_named_3 (by decide) ?_
    refine x_icmp_gt (tgt := 26) dX8_named_4 (by decide) (fun c_4 => ?_) (fun c_4 => ?_)
    · have c_4 : 5 < k := (nI_ltI (a := 5) (b := k) (by omega) (by omega)).mp c_4
      refine x_iconst (v := (-1)) dX8_named_26 (by decide) ?_
      refine x_iret dX8_named_27 rfl (Nat.le_refl _) (Nat.le_refl _) ?_
      exact ⟨Or.inr ⟨rfl, fun j h1 h2 => hno j (by omega)⟩, rfl⟩
    · have c_4 : ¬ 5 < k := fun zz9 => c_4 ((nI_ltI (a := 5) (b := k) (by omega) (by omega)).mpr zz9)
      refine x_aload_n dX8_named_7 1 rfl rfl ?_
      refine x_iload_n dX8_named_8 0 rfl rfl ?_
      refine x_callS (rest := [.ref m]) (k_mname (G := G) (Sh := Sh) (I := I) (R := R) (k := k) (by omega)) dX8_named_9 crc_X8_name sc_8_132 rfl rfl (Nat.le_of_ble_eq_true rfl) (roomy_k (by omega) (by decide)) (Nat.le_refl _) (Nat.le_refl _) ?_
      rintro _ _ ⟨_, rfl, rfl, rfl⟩
      refine x_callV (k_misWord (G := G) hsh hrf ht (i := 7 + k) (by omega) hf ht7 hft htt) dX8_named_12 crc_X8_isWord vc_8_136 z0 rfl rfl rfl rfl (Nat.le_of_ble_eq_true rfl) (roomy_k (by omega) (by decide)) (Nat.le_refl _) (Nat.le_refl _) ?_
      rintro _ _ ⟨_, rfl, rfl, rfl⟩
      refine x_if_eqB (tgt := 20) dX8_named_15 (by decide) (fun c_15 => ?_) (fun c_15 => ?_)
      · refine x_iinc (v := nI (k + 1)) (lv' := [(1, .int (nI (k + 1))), (0, .ref m)]) dX8_named_20 0 rfl (nI_1 k) (by decide) rfl ?_
        refine x_goto (tgt := 2) dX8_named_23 (by decide) ?_
        refine x_sub [0, 1] rfl ?_
        exact ih (k + 1) (by omega) (by omega) (fun j hj => by
          by_cases e : j = k
          · rw [e]; exact fun z => c_15 ⟨htk, z⟩
          · exact hno j (by omega))
      · refine x_iload_n dX8_named_18 0 rfl rfl ?_
        refine x_iret dX8_named_19 rfl (Nat.le_refl _) (Nat.le_refl _) ?_
        exact ⟨Or.inl ⟨k, by omega, by omega, rfl, c_15.2⟩, rfl⟩

set_option maxHeartbeats 4000000 in
set_option maxRecDepth 100000 in
theorem k_mnamed {G : GG} {Sh : HS} {I : HI} {R : HR} {m ts : Nat} {tb : Nat → Int32} (hsh : MSh Sh m) (hrf : MRf R m) (ht : TPm m ts tb I) {f t : Nat} (hf : I m 16 = nI f) (ht7 : I m 17 = nI t) (hft : f ≤ t) (htt : t ≤ ts) (htk : I m 18 = 119) : AM G 6 0 0 yX8_named cX8_named 2 (some .int) [.ref m] (Sh, I, R) (qi fun r g => nmF tb ts f t r 0 ∧ g = (Sh, I, R)) := by
  refine am_intro (by decide) (Nat.le_of_ble_eq_true rfl) ?_
  refine x_iconst (v := nI 0) dX8_named_0 (by decide) ?_
  refine x_istore_n (lv' := [(1, .int (nI 0)), (0, .ref m)]) dX8_named_1 rfl (by decide) rfl ?_
  exact k_mnamed_l hsh hrf ht hf ht7 hft htt htk 7 0 (by omega) (by omega) (fun j hj => absurd hj (by omega))

