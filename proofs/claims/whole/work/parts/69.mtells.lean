theorem fo_go {P : Nat → List Int32} {n i c q : Nat} {ro : Nat → Int32} {v : SV} (h : (beatF P n v).1 i 4 = ro q) : foF P n i ro (c + 1) q v = foF P n i ro c (q + 1) (beatF P n v) := by
  conv => lhs; unfold foF
  rw [if_pos h]
theorem fo_no {P : Nat → List Int32} {n i c q : Nat} {ro : Nat → Int32} {v : SV} (h : ¬ (beatF P n v).1 i 4 = ro q) : foF P n i ro (c + 1) q v = nI q := by
  conv => lhs; unfold foF
  rw [if_neg h]
/-- a sheet's row -/
def rowP (m s9 sz : Nat) (ro : Nat → Int32) (I : HI) : Prop := I (m + 16) s9 = nI sz ∧ sz ≤ 40 ∧ ∀ j, j < 40 → I (m + 17) (40 * s9 + j) = ro j
theorem rowP.up {m s9 sz : Nat} {ro : Nat → Int32} {I J : HI} (h : rowP m s9 sz ro I) (e : ∀ a k, a = m + 16 ∨ a = m + 17 → J a k = I a k) : rowP m s9 sz ro J :=
  ⟨(e _ _ (Or.inl rfl)).trans h.1, h.2.1, fun j hj => (e _ _ (Or.inr rfl)).trans (h.2.2 j hj)⟩
theorem TK.row {m s9 sz : Nat} {ro : Nat → Int32} {I J : HI} (h : rowP m s9 sz ro I) (e : TK m I J) : rowP m s9 sz ro J := h.up (fun a k z => e.2.2.2 a k (by unfold prM; omega) (by omega) (by omega))

set_option maxHeartbeats 4000000 in
set_option maxRecDepth 100000 in
theorem k_other_l {G : GG} {Sh : HS} {I : HI} {R : HR} {m n t : Nat} {P : Nat → List Int32} (w : MW Sh I R m n t P) {v : SV} (hs : MS I m n v) (hnb : NB n v) {s9 sz : Nat} {ro : Nat → Int32} (hs4 : s9 < 4) (hrow : rowP m s9 sz ro I) {i : Nat} (hi : i < n) : ∀ (m9 : Nat) (q : Nat) (fo : Int32) (u : SV) (J : HI), (q ≤ sz) → (sz < q + m9) → ((fo = -1 ∧ foF P n i ro (sz - q) q u = foF P n i ro sz 0 v) ∨ (¬ fo = -1 ∧ fo = foF P n i ro sz 0 v)) → (TK m I J) → (MS J m n u) → (NB n u) → X G (kM G 5 0 0 (qi (qryM m Sh I R (foF P n i ro sz 0 v)))) yX8_otherwise cX8_otherwise 5 (some .int) 0 0 9 [(4, .int (nI q)), (3, .int fo), (0, .ref m), (1, .int (nI s9)), (2, .int (nI i))] [] (Sh, J, R) := by
  intro m9
  induction m9 with
  | zero =>
    intro q fo u J hq hm hfo htk hsu hnu
    exact absurd hm (by omega)
  | succ m9 ih =>
    intro q fo u J hq hm hfo htk hsu hnu
    obtain ⟨hsh, hrf, hn, hn8, hru, hr6, cd9, hcd9, htx⟩ := id w
    obtain ⟨z0, z1, z6, z7, z8, z9, z10, z11, z12, z13, z14, z15, z16, z17⟩ := id hsh
    obtain ⟨y1, y6, y7, y8, y9, y10, y11, y12, y13, y14, y15, y16, y17⟩ := id hrf
    have hsz := hrow.2.1
    refine x_iload dX8_otherwise_9 0 rfl ?_
    refine x_aload_n dX8_otherwise_11 2 rfl rfl ?_
    refine x_gR (b := m + 16) dX8_otherwise_12 fl_8_55 rfl z0 y16 ?_
    refine x_iload_n dX8_otherwise_15 3 rfl rfl ?_
    refine x_ia (j := s9) (v := nI sz) dX8_otherwise_16 z16 rfl (by omega) (by omega) (htk.row hrow).1 ?_
    refine x_icmp_ge (tgt := 59) dX8_otherwise_17 (by decide) (fun c_17 => ?_) (fun c_17 => ?_)
    · have c_17 : sz ≤ q := (nI_leI (a := sz) (b := q) (by omega) (by omega)).mp c_17
      refine x_aload_n dX8_otherwise_59 2 rfl rfl ?_
      refine x_callV (k_again (G := G) hsh hrf (J := J) htk) dX8_otherwise_60 crc_X8_again vc_8_274 z0 rfl rfl rfl rfl (Nat.le_of_ble_eq_true rfl) (roomy_k (by omega) (by decide)) (Nat.le_refl _) (Nat.le_refl _) ?_
      rintro _ _ ⟨rfl, J9, rfl, hp9⟩
      refine x_iload_n dX8_otherwise_63 1 rfl rfl ?_
      refine x_iret dX8_otherwise_64 rfl (Nat.le_refl _) (Nat.le_refl _) ?_
      have hqs : q = sz := by omega
      subst hqs
      refine ⟨?_, J9, rfl, hp9⟩
      rcases hfo with ⟨z, z2⟩ | ⟨z, z2⟩
      · rw [z, ← z2, Nat.sub_self]
        rfl
      · exact z2
    · have c_17 : ¬ sz ≤ q := fun zz9 => c_17 ((nI_leI (a := sz) (b := q) (by omega) (by omega)).mpr zz9)
      refine x_iload_n dX8_otherwise_20 1 rfl rfl ?_
      refine x_iconst (v := (-1)) dX8_otherwise_21 (by decide) ?_
      refine x_icmp_ne (tgt := 59) dX8_otherwise_22 (by decide) (fun c_22 => ?_) (fun c_22 => ?_)
      · refine x_aload_n dX8_otherwise_59 2 rfl rfl ?_
        refine x_callV (k_again (G := G) hsh hrf (J := J) htk) dX8_otherwise_60 crc_X8_again vc_8_274 z0 rfl rfl rfl rfl (Nat.le_of_ble_eq_true rfl) (roomy_k (by omega) (by decide)) (Nat.le_refl _) (Nat.le_refl _) ?_
        rintro _ _ ⟨rfl, J9, rfl, hp9⟩
        refine x_iload_n dX8_otherwise_63 1 rfl rfl ?_
        refine x_iret dX8_otherwise_64 rfl (Nat.le_refl _) (Nat.le_refl _) ?_
        refine ⟨?_, J9, rfl, hp9⟩
        rcases hfo with ⟨z, z2⟩ | ⟨z, z2⟩
        · exact absurd z c_22
        · exact z2
      · have hfo' : foF P n i ro (sz - q) q u = foF P n i ro sz 0 v := by
          rcases hfo with ⟨z, z2⟩ | ⟨z, z2⟩
          · exact z2
          · exact absurd c_22 z
        refine x_aload_n dX8_otherwise_25 2 rfl rfl ?_
        refine x_callV (k_comes (G := G) (I := J) (htk.mw w) hsu hnu) dX8_otherwise_26 crc_X8_comes vc_8_236 z0 rfl rfl rfl rfl (Nat.le_of_ble_eq_true rfl) (roomy_k (by omega) (by decide)) (Nat.le_refl _) (Nat.le_refl _) ?_
        rintro _ _ ⟨rfl, J6, rfl, hs6, hf6⟩
        have htk6 := htk.fr hf6
        refine x_aload_n dX8_otherwise_29 2 rfl rfl ?_
        refine x_gR (b := m + 1 + 4) dX8_otherwise_30 fl_8_22 rfl z0 (y1 4 (by omega)) ?_
        refine x_iload_n dX8_otherwise_33 4 rfl rfl ?_
        refine x_ia (j := i) (v := (beatF P n u).1 i 4) dX8_otherwise_34 (z1 4 (by omega)) rfl (by omega) (by omega) (hs6.1 i hi 4 (by omega)) ?_
        refine x_aload_n dX8_otherwise_35 2 rfl rfl ?_
        refine x_gR (b := m + 17) dX8_otherwise_36 fl_8_58 rfl z0 y17 ?_
        refine x_bipush (v := nI 40) dX8_otherwise_39 (by decide) ?_
        refine x_iload_n dX8_otherwise_41 3 rfl rfl ?_
        refine x_imul dX8_otherwise_42 ?_
        refine x_vali (pk_mul 40 s9) ?_
        refine x_iload dX8_otherwise_43 0 rfl ?_
        refine x_iadd dX8_otherwise_45 ?_
        refine x_vali (nI_add (40 * s9) q) ?_
        refine x_ia (j := 40 * s9 + q) (v := ro q) dX8_otherwise_46 z17 rfl (by omega) (by omega) ((htk6.row hrow).2.2 q (by omega)) ?_
        refine x_icmp_eq (tgt := 53) dX8_otherwise_47 (by decide) (fun c_47 => ?_) (fun c_47 => ?_)
        · refine x_iinc (v := nI (q + 1)) (lv' := [(4, .int (nI (q + 1))), (3, .int fo), (0, .ref m), (1, .int (nI s9)), (2, .int (nI i))]) dX8_otherwise_53 0 rfl (nI_1 q) (by decide) rfl ?_
          refine x_goto (tgt := 9) dX8_otherwise_56 (by decide) ?_
          refine x_sub [0, 1, 2, 3, 4] rfl ?_
          exact ih (q + 1) fo (beatF P n u) J6 (by omega) (by omega) (Or.inl ⟨c_22, by
            rw [← hfo', show sz - q = (sz - (q + 1)) + 1 by omega, fo_go c_47]⟩) htk6 hs6 hnu.beat
        · refine x_iload dX8_otherwise_50 0 rfl ?_
          refine x_istore_n (lv' := [(3, .int (nI q)), (4, .int (nI q)), (0, .ref m), (1, .int (nI s9)), (2, .int (nI i))]) dX8_otherwise_52 rfl (by decide) rfl ?_
          refine x_iinc (v := nI (q + 1)) (lv' := [(4, .int (nI (q + 1))), (3, .int (nI q)), (0, .ref m), (1, .int (nI s9)), (2, .int (nI i))]) dX8_otherwise_53 1 rfl (nI_1 q) (by decide) rfl ?_
          refine x_goto (tgt := 9) dX8_otherwise_56 (by decide) ?_
          refine x_sub [0, 1, 2, 3, 4] rfl ?_
          exact ih (q + 1) (nI q) (beatF P n u) J6 (by omega) (by omega) (Or.inr ⟨(fun z => nI_pos (n := q) (by omega) (by rw [z]; decide)), by
            rw [← hfo', show sz - q = (sz - (q + 1)) + 1 by omega, fo_no c_47]⟩) htk6 hs6 hnu.beat

set_option maxHeartbeats 4000000 in
set_option maxRecDepth 100000 in
theorem k_other {G : GG} {Sh : HS} {I : HI} {R : HR} {m n t : Nat} {P : Nat → List Int32} (w : MW Sh I R m n t P) {v : SV} (hs : MS I m n v) (hnb : NB n v) {s9 sz : Nat} {ro : Nat → Int32} (hs4 : s9 < 4) (hrow : rowP m s9 sz ro I) {i : Nat} (hi : i < n) : AM G 5 0 0 yX8_otherwise cX8_otherwise 5 (some .int) [.ref m, .int (nI s9), .int (nI i)] (Sh, I, R) (qi (qryM m Sh I R (foF P n i ro sz 0 v))) := by
  obtain ⟨hsh, hrf, hn, hn8, hru, hr6, cd9, hcd9, htx⟩ := id w
  obtain ⟨z0, z1, z6, z7, z8, z9, z10, z11, z12, z13, z14, z15, z16, z17⟩ := id hsh
  obtain ⟨y1, y6, y7, y8, y9, y10, y11, y12, y13, y14, y15, y16, y17⟩ := id hrf
  have hsz := hrow.2.1
  refine am_intro (by decide) (Nat.le_of_ble_eq_true rfl) ?_
  refine x_aload_n dX8_otherwise_0 0 rfl rfl ?_
  refine x_callV (k_keep (G := G) (I := I) hsh hrf) dX8_otherwise_1 crc_X8_keep vc_8_265 z0 rfl rfl rfl rfl (Nat.le_of_ble_eq_true rfl) (roomy_k (by omega) (by decide)) (Nat.le_refl _) (Nat.le_refl _) ?_
  rintro _ _ ⟨rfl, J1, rfl, htk, hp1⟩
  have hs1 := hs.pv hp1
  refine x_iconst (v := (-1)) dX8_otherwise_4 (by decide) ?_
  refine x_istore_n (lv' := [(3, .int (-1)), (0, .ref m), (1, .int (nI s9)), (2, .int (nI i))]) dX8_otherwise_5 rfl (by decide) rfl ?_
  refine x_iconst (v := nI 0) dX8_otherwise_6 (by decide) ?_
  refine x_istore (lv' := [(4, .int (nI 0)), (3, .int (-1)), (0, .ref m), (1, .int (nI s9)), (2, .int (nI i))]) dX8_otherwise_7 (by decide) rfl ?_
  refine x_sub [0, 1, 2, 3, 4] rfl ?_
  exact k_other_l w hs hnb hs4 hrow hi (sz + 1) 0 (-1) v J1 (by omega) (by omega) (Or.inl ⟨rfl, by rw [Nat.sub_zero]⟩) htk hs1 hnb

set_option maxHeartbeats 4000000 in
set_option maxRecDepth 100000 in
theorem k_isSo {G : GG} {Sh : HS} {I : HI} {R : HR} {m n t : Nat} {P : Nat → List Int32} (w : MW Sh I R m n t P) {v : SV} (hs : MS I m n v) (hnb : NB n v) {s9 sz : Nat} {ro : Nat → Int32} (hs4 : s9 < 4) (hrow : rowP m s9 sz ro I) {i : Nat} (hi : i < n) : AM G 6 0 0 yX8_isSo cX8_isSo 3 (some .boolean) [.ref m, .int (nI s9), .int (nI i)] (Sh, I, R) (qi fun r g => r = bI (foF P n i ro sz 0 v = -1) ∧ ∃ J : HI, g = (Sh, J, R) ∧ pvM m I J) := by
  obtain ⟨hsh, hrf, hn, hn8, hru, hr6, cd9, hcd9, htx⟩ := id w
  obtain ⟨z0, z1, z6, z7, z8, z9, z10, z11, z12, z13, z14, z15, z16, z17⟩ := id hsh
  obtain ⟨y1, y6, y7, y8, y9, y10, y11, y12, y13, y14, y15, y16, y17⟩ := id hrf
  refine am_intro (by decide) (Nat.le_of_ble_eq_true rfl) ?_
  refine x_aload_n dX8_isSo_0 0 rfl rfl ?_
  refine x_iload_n dX8_isSo_1 1 rfl rfl ?_
  refine x_iload_n dX8_isSo_2 2 rfl rfl ?_
  refine x_callV (k_other (G := G) w hs hnb hs4 hrow hi) dX8_isSo_3 crc_X8_otherwise vc_8_292 z0 rfl rfl rfl rfl (Nat.le_of_ble_eq_true rfl) (roomy_k (by omega) (by decide)) (Nat.le_refl _) (Nat.le_refl _) ?_
  rintro _ _ ⟨r9, rfl, hr9, J9, rfl, hp9⟩
  refine x_iconst (v := (-1)) dX8_isSo_6 (by decide) ?_
  refine x_icmp_ne (tgt := 14) dX8_isSo_7 (by decide) (fun c_7 => ?_) (fun c_7 => ?_)
  · refine x_iconst (v := 0) dX8_isSo_14 (by decide) ?_
    refine x_zret dX8_isSo_15 rfl rfl (Nat.le_refl _) (Nat.le_refl _) ?_
    refine ⟨?_, J9, rfl, hp9⟩
    exact (bI_f (fun z => c_7 (hr9.trans z))).symm
  · refine x_iconst (v := 1) dX8_isSo_10 (by decide) ?_
    refine x_goto (tgt := 15) dX8_isSo_11 (by decide) ?_
    refine x_zret dX8_isSo_15 rfl rfl (Nat.le_refl _) (Nat.le_refl _) ?_
    refine ⟨?_, J9, rfl, hp9⟩
    exact (bI_t (hr9.symm.trans c_7)).symm

set_option maxHeartbeats 4000000 in
set_option maxRecDepth 100000 in
theorem k_becomes {G : GG} {Sh : HS} {I : HI} {R : HR} {m i : Nat} (hsh : MSh Sh m) (hrf : MRf R m) (hi : i < 8) {w x : Int32} (hw : w = 1 ∨ w = 2 ∨ w = 3 ∨ w = 4 ∨ w = 5) : AM G 1 0 0 yX8_becomes cX8_becomes 4 none [.ref m, .int (nI i), .int w, .int x] (Sh, I, R) (qv fun g => g = (Sh, u2 I (if w = 3 then m else if w = 5 then m else m + 1 + (if w = 1 then 0 else if w = 2 then 1 else 2)) (if w = 3 then 0 else if w = 5 then 8 else i) x, R)) := by
  obtain ⟨z0, z1, z6, z7, z8, z9, z10, z11, z12, z13, z14, z15, z16, z17⟩ := id hsh
  obtain ⟨y1, y6, y7, y8, y9, y10, y11, y12, y13, y14, y15, y16, y17⟩ := id hrf
  refine am_intro (by decide) (Nat.le_of_ble_eq_true rfl) ?_
  refine x_iload_n dX8_becomes_0 2 rfl rfl ?_
  refine x_tsw [(1, 32), (2, 40), (3, 48), (4, 54)] 62 dX8_becomes_1 (by decide) (by decide +kernel) (fun c_1 => ?_) ?_
  · have d_1 : ¬ w = 1 ∧ ¬ w = 2 ∧ ¬ w = 3 ∧ ¬ w = 4 := ⟨fun q => c_1 (1, 32) (by simp) (q.trans (by decide)), fun q => c_1 (2, 40) (by simp) (q.trans (by decide)), fun q => c_1 (3, 48) (by simp) (q.trans (by decide)), fun q => c_1 (4, 54) (by simp) (q.trans (by decide))⟩
    refine x_aload_n dX8_becomes_62 0 rfl rfl ?_
    refine x_iload_n dX8_becomes_63 3 rfl rfl ?_
    refine x_pI dX8_becomes_64 fl_8_218 rfl rfl rfl z0 (fun Iq1 e_Iq1 => ?_)
    refine x_vret dX8_becomes_67 rfl (Nat.le_refl _) (Nat.le_refl _) ?_
    have hw5 : w = 5 := hw.resolve_left d_1.1 |>.resolve_left d_1.2.1 |>.resolve_left d_1.2.2.1 |>.resolve_left d_1.2.2.2
    subst hw5
    rw [e_Iq1]
    rfl
  · refine List.forall_mem_cons.mpr ⟨fun c_1 => ?_, List.forall_mem_cons.mpr ⟨fun c_1 => ?_, List.forall_mem_cons.mpr ⟨fun c_1 => ?_, List.forall_mem_cons.mpr ⟨fun c_1 => ?_, fun _ h9 => absurd h9 List.not_mem_nil⟩⟩⟩⟩
    · have c_1 : w = 1 := c_1.trans (by decide)
      refine x_aload_n dX8_becomes_32 0 rfl rfl ?_
      refine x_gR (b := m + 1 + 0) dX8_becomes_33 fl_8_7 rfl z0 (y1 0 (by omega)) ?_
      refine x_iload_n dX8_becomes_36 1 rfl rfl ?_
      refine x_iload_n dX8_becomes_37 3 rfl rfl ?_
      refine x_is (j := i) dX8_becomes_38 (z1 0 (by omega)) rfl (by omega) (by omega) (fun Iq2 e_Iq2 => ?_)
      refine x_vret dX8_becomes_39 rfl (Nat.le_refl _) (Nat.le_refl _) ?_
      subst c_1
      rw [e_Iq2]
      rfl
    · have c_1 : w = 2 := c_1.trans (by decide)
      refine x_aload_n dX8_becomes_40 0 rfl rfl ?_
      refine x_gR (b := m + 1 + 1) dX8_becomes_41 fl_8_13 rfl z0 (y1 1 (by omega)) ?_
      refine x_iload_n dX8_becomes_44 1 rfl rfl ?_
      refine x_iload_n dX8_becomes_45 3 rfl rfl ?_
      refine x_is (j := i) dX8_becomes_46 (z1 1 (by omega)) rfl (by omega) (by omega) (fun Iq3 e_Iq3 => ?_)
      refine x_vret dX8_becomes_47 rfl (Nat.le_refl _) (Nat.le_refl _) ?_
      subst c_1
      rw [e_Iq3]
      rfl
    · have c_1 : w = 3 := c_1.trans (by decide)
      refine x_aload_n dX8_becomes_48 0 rfl rfl ?_
      refine x_iload_n dX8_becomes_49 3 rfl rfl ?_
      refine x_pI dX8_becomes_50 fl_8_86 rfl rfl rfl z0 (fun Iq4 e_Iq4 => ?_)
      refine x_vret dX8_becomes_53 rfl (Nat.le_refl _) (Nat.le_refl _) ?_
      subst c_1
      rw [e_Iq4]
      rfl
    · have c_1 : w = 4 := c_1.trans (by decide)
      refine x_aload_n dX8_becomes_54 0 rfl rfl ?_
      refine x_gR (b := m + 1 + 2) dX8_becomes_55 fl_8_16 rfl z0 (y1 2 (by omega)) ?_
      refine x_iload_n dX8_becomes_58 1 rfl rfl ?_
      refine x_iload_n dX8_becomes_59 3 rfl rfl ?_
      refine x_is (j := i) dX8_becomes_60 (z1 2 (by omega)) rfl (by omega) (by omega) (fun Iq5 e_Iq5 => ?_)
      refine x_vret dX8_becomes_61 rfl (Nat.le_refl _) (Nat.le_refl _) ?_
      subst c_1
      rw [e_Iq5]
      rfl

/-- the cell that a supposition changes -/
def cel0 (m : Nat) (w : Int32) : Nat := if w = 3 then m else if w = 5 then m else m + 1 + (if w = 1 then 0 else if w = 2 then 1 else 2)
def celk (i : Nat) (w : Int32) : Nat := if w = 3 then 0 else if w = 5 then 8 else i
theorem su_mw {m : Nat} {Sh : HS} {I J : HI} {R : HR} {σ : SG} {i c : Nat} {w : Int32} (h : MI m Sh I R σ) (hw0 : WI σ) (hi : i < gN σ) (hw : w = 1 ∨ w = 2 ∨ w = 3 ∨ w = 4 ∨ w = 5) (hc : c < chF σ w) (e : pvH m (cel0 m w) (celk i w) I J) (ex : J (cel0 m w) (celk i w) = nI c) : MW Sh J R m (gN σ) (suF σ i w c).1 (gPP σ (suF σ i w c).1) ∧ MS J m (gN σ) (suF σ i w c).2 ∧ NB (gN σ) (suF σ i w c).2 := by
  have hmw := h.mw
  have hnb := hw0.nb
  obtain ⟨h1, h2, h3, h4, h5, h6, ⟨c0, h7, h8, h9⟩, hA, hB, hC⟩ := h
  rcases hw with rfl | rfl | rfl | rfl | rfl
  · exact ⟨hmw.h (a0 := m + 1 + 0) (k0 := i) e (by omega), h4.h (k0 := 0) (f0 := i) e (by omega) ex, hnb.up (by decide)⟩
  · exact ⟨hmw.h (a0 := m + 1 + 1) (k0 := i) e (by omega), h4.h (k0 := 1) (f0 := i) e (by omega) ex, hnb.up1 hc⟩
  · have e : pvH m m 0 I J := e
    have ex : J m 0 = nI c := ex
    exact ⟨hmw.h e (by omega), ⟨fun j hj k hk => (e _ _ (by unfold prM; omega) (by omega)).trans (h4.1 j hj k hk), ex, (e _ _ (by unfold prM; omega) (by omega)).trans h4.2.2⟩, hnb⟩
  · exact ⟨hmw.h (a0 := m + 1 + 2) (k0 := i) e (by omega), h4.h (k0 := 2) (f0 := i) e (by omega) ex, hnb.up (by decide)⟩
  · have e : pvH m m 8 I J := e
    have ex : J m 8 = nI c := ex
    have hc : c < gTc σ := hc
    exact ⟨⟨h1, h2, (e _ _ (by unfold prM; omega) (by omega)).trans h3.1, h3.2, ex, (by show c < 6; omega), c0, by omega, (h9 c hc).same (fun a k q1 q2 => e a k (by unfold prM; omega) (by omega))⟩, ⟨fun j hj k hk => (e _ _ (by unfold prM; omega) (by omega)).trans (h4.1 j hj k hk), (e _ _ (by unfold prM; omega) (by omega)).trans h4.2.1, (e _ _ (by unfold prM; omega) (by omega)).trans h4.2.2⟩, hnb⟩
theorem cel_row {m i s9 sz : Nat} {ro : Nat → Int32} {I J : HI} {w : Int32} (h : rowP m s9 sz ro I) (e : pvH m (cel0 m w) (celk i w) I J) : rowP m s9 sz ro J := by
  have hc : cel0 m w ≤ m + 5 := by
    unfold cel0
    split
    · omega
    · split
      · omega
      · split
        · omega
        · split <;> omega
  exact h.up (fun a k z => e a k (by unfold prM; omega) (by omega))
theorem MI.row {m s9 : Nat} {Sh : HS} {I : HI} {R : HR} {σ : SG} (h : MI m Sh I R σ) (hs : s9 < 4) : rowP m s9 (gSz σ s9) (gRo σ s9) I := by
  have := h.2.2.2.2.2.2.2.2.2 s9 hs
  exact ⟨this.2.1, this.2.2.1, this.2.2.2⟩

theorem ch_le {σ : SG} {w : Int32} (h : gTc σ ≤ 6) : chF σ w ≤ 16 := by
  unfold chF
  split
  · omega
  · split
    · omega
    · split
      · omega
      · split <;> omega

set_option maxHeartbeats 4000000 in
set_option maxRecDepth 100000 in
theorem k_mtells_l {G : GG} {Sh : HS} {I : HI} {R : HR} {m : Nat} {σ : SG} (hm0 : MI m Sh I R σ) (hw0 : WI σ) {s9 i : Nat} (hi_s9 : s9 < 4) (hi : i < gN σ) {w had : Int32} (hw : w = 1 ∨ w = 2 ∨ w = 3 ∨ w = 4 ∨ w = 5) (hhad : had = I (cel0 m w) (celk i w)) : ∀ (m9 : Nat) (q : Nat) (acc : Int32) (J : HI), (q ≤ chF σ w) → (chF σ w < q + m9) → (acc = tellsG σ s9 i w q) → (pvH m (cel0 m w) (celk i w) I J) → X G (kM G 8 0 0 (qi (qryM m Sh I R (tellsG σ s9 i w (chF σ w))))) yX8_tells cX8_tells 8 (some .int) 0 0 152 [(7, .int (nI q)), (6, .int acc), (0, .ref m), (1, .int (nI s9)), (2, .int (nI i)), (3, .int w), (4, .int had), (5, .int (nI (chF σ w)))] [] (Sh, J, R) := by
  intro m9
  induction m9 with
  | zero =>
    intro q acc J hq hm hacc hph
    exact absurd hm (by omega)
  | succ m9 ih =>
    intro q acc J hq hm hacc hph
    obtain ⟨hsh, hrf, ⟨hn, hn8⟩, hs, ⟨hru, hrt⟩, ⟨htc, htc6⟩, hmt, hmp, him, hse⟩ := id hm0
    have hmw := hm0.mw
    have hnb := hw0.nb
    obtain ⟨z0, z1, z6, z7, z8, z9, z10, z11, z12, z13, z14, z15, z16, z17⟩ := id hsh
    obtain ⟨y1, y6, y7, y8, y9, y10, y11, y12, y13, y14, y15, y16, y17⟩ := id hrf
    have hch := ch_le (w := w) htc6
    refine x_iload dX8_tells_152 0 rfl ?_
    refine x_iload dX8_tells_154 7 rfl ?_
    refine x_icmp_ge (tgt := 191) dX8_tells_156 (by decide) (fun c_156 => ?_) (fun c_156 => ?_)
    · have c_156 : (chF σ w) ≤ q := (nI_leI (a := (chF σ w)) (b := q) (by omega) (by omega)).mp c_156
      refine x_aload_n dX8_tells_191 2 rfl rfl ?_
      refine x_iload_n dX8_tells_192 4 rfl rfl ?_
      refine x_iload_n dX8_tells_193 5 rfl rfl ?_
      refine x_iload dX8_tells_194 6 rfl ?_
      refine x_callV (k_becomes (G := G) (I := J) hsh hrf (i := i) (by omega) (w := w) (x := had) hw) dX8_tells_196 crc_X8_becomes vc_8_295 z0 rfl rfl rfl rfl (Nat.le_of_ble_eq_true rfl) (roomy_k (by omega) (by decide)) (Nat.le_refl _) (Nat.le_refl _) ?_
      rintro _ _ ⟨rfl, rfl⟩
      obtain ⟨J5, e_J5⟩ : ∃ z : HI, z = u2 J (cel0 m w) (celk i w) (had) := ⟨_, rfl⟩
      refine x_eq (g := (Sh, J5, R)) (by rw [e_J5]; rfl) ?_
      have hph5 : pvH m (cel0 m w) (celk i w) I J5 := by
        rw [e_J5]
        exact hph.set
      refine x_iload dX8_tells_199 1 rfl ?_
      refine x_iret dX8_tells_201 rfl (Nat.le_refl _) (Nat.le_refl _) ?_
      have hqn : q = chF σ w := by omega
      refine ⟨by rw [← hqn]; exact hacc, J5, rfl, hph5.fin (by rw [e_J5, u2_same, hhad])⟩
    · have c_156 : ¬ (chF σ w) ≤ q := fun zz9 => c_156 ((nI_leI (a := (chF σ w)) (b := q) (by omega) (by omega)).mpr zz9)
      refine x_aload_n dX8_tells_159 2 rfl rfl ?_
      refine x_iload_n dX8_tells_160 4 rfl rfl ?_
      refine x_iload_n dX8_tells_161 5 rfl rfl ?_
      refine x_iload dX8_tells_162 0 rfl ?_
      refine x_callV (k_becomes (G := G) (I := J) hsh hrf (i := i) (by omega) (w := w) (x := nI q) hw) dX8_tells_164 crc_X8_becomes vc_8_295 z0 rfl rfl rfl rfl (Nat.le_of_ble_eq_true rfl) (roomy_k (by omega) (by decide)) (Nat.le_refl _) (Nat.le_refl _) ?_
      rintro _ _ ⟨rfl, rfl⟩
      obtain ⟨J5, e_J5⟩ : ∃ z : HI, z = u2 J (cel0 m w) (celk i w) (nI q) := ⟨_, rfl⟩
      refine x_eq (g := (Sh, J5, R)) (by rw [e_J5]; rfl) ?_
      have hph5 : pvH m (cel0 m w) (celk i w) I J5 := by
        rw [e_J5]
        exact hph.set
      have hsu := su_mw hm0 hw0 hi hw (c := q) (by omega) hph5 (by rw [e_J5, u2_same])
      refine x_aload_n dX8_tells_167 2 rfl rfl ?_
      refine x_iload_n dX8_tells_168 3 rfl rfl ?_
      refine x_iload_n dX8_tells_169 4 rfl rfl ?_
      refine x_callV (k_isSo (G := G) hsu.1 hsu.2.1 hsu.2.2 hi_s9 (cel_row (hm0.row hi_s9) hph5) hi) dX8_tells_170 crc_X8_isSo vc_8_298 z0 rfl rfl rfl rfl (Nat.le_of_ble_eq_true rfl) (roomy_k (by omega) (by decide)) (Nat.le_refl _) (Nat.le_refl _) ?_
      rintro _ _ ⟨r9, rfl, hr9, J9, rfl, hp9⟩
      subst hr9
      refine x_if_eqB (tgt := 185) dX8_tells_173 (by decide) (fun c_173 => ?_) (fun c_173 => ?_)
      · refine x_iinc (v := nI (q + 1)) (lv' := [(7, .int (nI (q + 1))), (6, .int acc), (0, .ref m), (1, .int (nI s9)), (2, .int (nI i)), (3, .int w), (4, .int had), (5, .int (nI (chF σ w)))]) dX8_tells_185 0 rfl (nI_1 q) (by decide) rfl ?_
        refine x_goto (tgt := 152) dX8_tells_188 (by decide) ?_
        refine x_sub [0, 1, 2, 3, 4, 5, 6, 7] rfl ?_
        exact ih (q + 1) acc J9 (by omega) (by omega) (by
          unfold tellsG at *
          rw [fd_s, ← hacc]
          rw [if_neg c_173]) (hph5.tr hp9)
      · refine x_iload dX8_tells_176 1 rfl ?_
        refine x_iconst (v := 1) dX8_tells_178 (by decide) ?_
        refine x_iload dX8_tells_179 0 rfl ?_
        refine x_ishl dX8_tells_181 ?_
        refine x_ior dX8_tells_182 ?_
        refine x_topi (fun xq1 e_xq1 => ?_)
        refine x_istore (lv' := [(6, .int xq1), (7, .int (nI q)), (0, .ref m), (1, .int (nI s9)), (2, .int (nI i)), (3, .int w), (4, .int had), (5, .int (nI (chF σ w)))]) dX8_tells_183 (by decide) rfl ?_
        refine x_iinc (v := nI (q + 1)) (lv' := [(7, .int (nI (q + 1))), (6, .int xq1), (0, .ref m), (1, .int (nI s9)), (2, .int (nI i)), (3, .int w), (4, .int had), (5, .int (nI (chF σ w)))]) dX8_tells_185 1 rfl (nI_1 q) (by decide) rfl ?_
        refine x_goto (tgt := 152) dX8_tells_188 (by decide) ?_
        refine x_sub [0, 1, 2, 3, 4, 5, 6, 7] rfl ?_
        exact ih (q + 1) xq1 J9 (by omega) (by omega) (by
          unfold tellsG at *
          rw [fd_s, ← hacc]
          rw [if_pos c_173]; exact e_xq1) (hph5.tr hp9)

theorem toldX2 {σ : SG} {i : Nat} (hi : i < gN σ) (hn8 : gN σ ≤ 8) : toldF σ (nI i) 2 = (gW σ).1 i 1 := by
  unfold toldF
  rw [idF_in hi hn8]
  rfl
theorem toldX3 {σ : SG} {i : Nat} (hi : i < gN σ) (hn8 : gN σ ≤ 8) : toldF σ (nI i) 3 = (gW σ).1 i 2 := by
  unfold toldF
  rw [idF_in hi hn8]
  rfl

set_option maxHeartbeats 4000000 in
set_option maxRecDepth 100000 in
theorem k_mtells {G : GG} {Sh : HS} {I : HI} {R : HR} {m : Nat} {σ : SG} (hm0 : MI m Sh I R σ) (hw0 : WI σ) {s f w : Int32} : AM G 8 0 0 yX8_tells cX8_tells 8 (some .int) [.ref m, .int s, .int f, .int w] (Sh, I, R) (qi (qryM m Sh I R (tellsF σ s f w))) := by
  obtain ⟨hsh, hrf, ⟨hn, hn8⟩, hs, ⟨hru, hrt⟩, ⟨htc, htc6⟩, hmt, hmp, him, hse⟩ := id hm0
  have hmw := hm0.mw
  have hnb := hw0.nb
  obtain ⟨z0, z1, z6, z7, z8, z9, z10, z11, z12, z13, z14, z15, z16, z17⟩ := id hsh
  obtain ⟨y1, y6, y7, y8, y9, y10, y11, y12, y13, y14, y15, y16, y17⟩ := id hrf
  refine am_intro (by decide) (Nat.le_of_ble_eq_true rfl) ?_
  refine x_iload_n dX8_tells_0 1 rfl rfl ?_
  refine x_callS (rest := []) (k_misSheet (G := G) (Sh := Sh) (I := I) (R := R) (s := s)) dX8_tells_1 crc_X8_isSheet sc_8_277 rfl rfl (Nat.le_of_ble_eq_true rfl) (roomy_k (by omega) (by decide)) (Nat.le_refl _) (Nat.le_refl _) ?_
  rintro _ _ ⟨rs, rfl, hrs, rfl⟩
  subst hrs
  refine x_if_eqB (tgt := 24) dX8_tells_4 (by decide) (fun c_4 => ?_) (fun c_4 => ?_)
  · refine x_bipush (v := (-2)) dX8_tells_24 (by decide) ?_
    refine x_iret dX8_tells_26 rfl (Nat.le_refl _) (Nat.le_refl _) ?_
    refine ⟨?_, I, rfl, pvM.rf⟩
    unfold tellsF
    rw [Option.not_isSome_iff_eq_none.mp c_4]
  · refine x_aload_n dX8_tells_7 0 rfl rfl ?_
    refine x_iload_n dX8_tells_8 2 rfl rfl ?_
    refine x_callV (k_misFort (G := G) (Sh := Sh) (I := I) (R := R) hsh hn hn8 (f := f)) dX8_tells_9 crc_X8_isFort vc_8_102 z0 rfl rfl rfl rfl (Nat.le_of_ble_eq_true rfl) (roomy_k (by omega) (by decide)) (Nat.le_refl _) (Nat.le_refl _) ?_
    rintro _ _ ⟨ri, rfl, hri, rfl⟩
    subst hri
    refine x_if_eqB (tgt := 24) dX8_tells_12 (by decide) (fun c_12 => ?_) (fun c_12 => ?_)
    · refine x_bipush (v := (-2)) dX8_tells_24 (by decide) ?_
      refine x_iret dX8_tells_26 rfl (Nat.le_refl _) (Nat.le_refl _) ?_
      refine ⟨?_, I, rfl, pvM.rf⟩
      unfold tellsF
      obtain ⟨s9, hid⟩ := Option.isSome_iff_exists.mp c_4
      rw [hid, Option.not_isSome_iff_eq_none.mp c_12]
    · refine x_iload_n dX8_tells_15 3 rfl rfl ?_
      refine x_iconst (v := 0) dX8_tells_16 (by decide) ?_
      refine x_iconst (v := 5) dX8_tells_17 (by decide) ?_
      refine x_callS (rest := []) (k_mwithin (G := G) (Sh := Sh) (I := I) (R := R) (v := w) (lo := 0) (hi := 5)) dX8_tells_18 crc_X8_within sc_8_82 rfl rfl (Nat.le_of_ble_eq_true rfl) (roomy_k (by omega) (by decide)) (Nat.le_refl _) (Nat.le_refl _) ?_
      rintro _ _ ⟨rw, rfl, hrw, rfl⟩
      subst hrw
      refine x_if_neB (tgt := 27) dX8_tells_21 (by decide) (fun c_21 => ?_) (fun c_21 => ?_)
      · obtain ⟨s9, hid_s9⟩ := Option.isSome_iff_exists.mp c_4
        obtain ⟨hi_s9, hie_s9⟩ := idF_some (by omega) hid_s9
        subst hie_s9
        have hse9 := hse s9 hi_s9
        obtain ⟨i, hid_i⟩ := Option.isSome_iff_exists.mp c_12
        obtain ⟨hi_i, hie_i⟩ := idF_some hn8 hid_i
        subst hie_i
        have hi := hi_i
        have wno : ¬ (w < 0 ∨ 5 < w) := fun z => z.elim (fun y => absurd c_21.1 (Int32.not_le.mpr y)) (fun y => absurd c_21.2 (Int32.not_le.mpr y))
        refine x_aload_n dX8_tells_27 0 rfl rfl ?_
        refine x_gR (b := m + 15) dX8_tells_28 fl_8_52 rfl z0 y15 ?_
        refine x_iload_n dX8_tells_31 1 rfl rfl ?_
        refine x_ia (j := s9) (v := gSo σ s9) dX8_tells_32 z15 rfl (by omega) (by omega) hse9.1 ?_
        refine x_if_ge (tgt := 39) dX8_tells_33 (by decide) (fun c_33 => ?_) (fun c_33 => ?_)
        · refine x_iload_n dX8_tells_39 3 rfl rfl ?_
          refine x_if_ne (tgt := 47) dX8_tells_40 (by decide) (fun c_40 => ?_) (fun c_40 => ?_)
          · refine x_iload_n dX8_tells_47 3 rfl rfl ?_
            refine x_iconst (v := 1) dX8_tells_48 (by decide) ?_
            refine x_icmp_ne (tgt := 61) dX8_tells_49 (by decide) (fun c_49 => ?_) (fun c_49 => ?_)
            · refine x_iload_n dX8_tells_61 3 rfl rfl ?_
              refine x_iconst (v := 5) dX8_tells_62 (by decide) ?_
              refine x_icmp_ne (tgt := 73) dX8_tells_63 (by decide) (fun c_63 => ?_) (fun c_63 => ?_)
              · refine x_aload_n dX8_tells_73 0 rfl rfl ?_
                refine x_iload_n dX8_tells_74 2 rfl rfl ?_
                refine x_iload_n dX8_tells_75 3 rfl rfl ?_
                refine x_iconst (v := 2) dX8_tells_76 (by decide) ?_
                refine x_icmp_ne (tgt := 84) dX8_tells_77 (by decide) (fun c_77 => ?_) (fun c_77 => ?_)
                · refine x_iload_n dX8_tells_84 3 rfl rfl ?_
                  refine x_iconst (v := 3) dX8_tells_85 (by decide) ?_
                  refine x_icmp_ne (tgt := 93) dX8_tells_86 (by decide) (fun c_86 => ?_) (fun c_86 => ?_)
                  · refine x_iconst (v := 3) dX8_tells_93 (by decide) ?_
                    refine x_callV (k_mget (G := G) hm0 hw0 (of := nI i) (w := 3) (Or.inr (Or.inr ⟨i, hi, rfl⟩)) (by decide)) dX8_tells_94 crc_X8_get vc_8_109 z0 rfl rfl rfl rfl (Nat.le_of_ble_eq_true rfl) (roomy_k (by omega) (by decide)) (Nat.le_refl _) (Nat.le_refl _) ?_
                    rintro _ _ ⟨r, rfl, hr, J9, rfl, hp9⟩
                    refine x_istore (lv' := [(4, .int r), (0, .ref m), (1, .int (nI s9)), (2, .int (nI i)), (3, .int w)]) dX8_tells_97 (by decide) rfl ?_
                    refine x_iload_n dX8_tells_99 4 rfl rfl ?_
                    refine x_iconst (v := 1) dX8_tells_100 (by decide) ?_
                    refine x_icmp_ne (tgt := 109) dX8_tells_101 (by decide) (fun c_101 => ?_) (fun c_101 => False.elim (c_49 c_101))
                    refine x_iload_n dX8_tells_109 4 rfl rfl ?_
                    refine x_iconst (v := 4) dX8_tells_110 (by decide) ?_
                    refine x_icmp_ne (tgt := 119) dX8_tells_111 (by decide) (fun c_111 => ?_) (fun c_111 => ?_)
                    · refine x_iload_n dX8_tells_119 4 rfl rfl ?_
                      refine x_iconst (v := 5) dX8_tells_120 (by decide) ?_
                      refine x_icmp_ne (tgt := 131) dX8_tells_121 (by decide) (fun c_121 => ?_) (fun c_121 => False.elim (c_63 c_121))
                      refine x_bipush (v := 10) dX8_tells_131 (by decide) ?_
                      refine x_istore (lv' := [(5, .int 10), (4, .int r), (0, .ref m), (1, .int (nI s9)), (2, .int (nI i)), (3, .int w)]) dX8_tells_133 (by decide) rfl ?_
                      refine x_iconst (v := 0) dX8_tells_135 (by decide) ?_
                      refine x_istore (lv' := [(6, .int 0), (5, .int 10), (4, .int r), (0, .ref m), (1, .int (nI s9)), (2, .int (nI i)), (3, .int w)]) dX8_tells_136 (by decide) rfl ?_
                      refine x_iload_n dX8_tells_138 6 rfl rfl ?_
                      refine x_if_ne (tgt := 149) dX8_tells_139 (by decide) (fun c_139 => ?_) (fun c_139 => False.elim (c_40 c_139))
                      refine x_iconst (v := nI 0) dX8_tells_149 (by decide) ?_
                      refine x_istore (lv' := [(7, .int (nI 0)), (6, .int 0), (5, .int 10), (4, .int r), (0, .ref m), (1, .int (nI s9)), (2, .int (nI i)), (3, .int w)]) dX8_tells_150 (by decide) rfl ?_
                      have hw : w = 1 ∨ w = 2 ∨ w = 3 ∨ w = 4 ∨ w = 5 := by
                        obtain ⟨a, ha, rfl⟩ := nI_of2 (M := 5) (n := 5) (by decide) (Int32.not_lt.mpr c_21.1) c_21.2
                        have h0 : ¬ a = 0 := fun z => c_139 (by rw [z]; rfl)
                        have : a = 1 ∨ a = 2 ∨ a = 3 ∨ a = 4 ∨ a = 5 := by omega
                        rcases this with rfl | rfl | rfl | rfl | rfl <;> decide
                      have hw4 : w = 4 := by
                        rcases hw with z | z | z | z | z
                        · exact absurd z c_49
                        · exact absurd z c_77
                        · exact absurd z c_86
                        · exact z
                        · exact absurd z c_63
                      exact absurd hw4 c_111
                    · refine x_bipush (v := 16) dX8_tells_114 (by decide) ?_
                      refine x_goto (tgt := 133) dX8_tells_116 (by decide) ?_
                      refine x_istore (lv' := [(5, .int 16), (4, .int r), (0, .ref m), (1, .int (nI s9)), (2, .int (nI i)), (3, .int w)]) dX8_tells_133 (by decide) rfl ?_
                      refine x_iconst (v := 0) dX8_tells_135 (by decide) ?_
                      refine x_istore (lv' := [(6, .int 0), (5, .int 16), (4, .int r), (0, .ref m), (1, .int (nI s9)), (2, .int (nI i)), (3, .int w)]) dX8_tells_136 (by decide) rfl ?_
                      refine x_iload_n dX8_tells_138 6 rfl rfl ?_
                      refine x_if_ne (tgt := 149) dX8_tells_139 (by decide) (fun c_139 => ?_) (fun c_139 => False.elim (c_40 c_139))
                      refine x_iconst (v := nI 0) dX8_tells_149 (by decide) ?_
                      refine x_istore (lv' := [(7, .int (nI 0)), (6, .int 0), (5, .int 16), (4, .int r), (0, .ref m), (1, .int (nI s9)), (2, .int (nI i)), (3, .int w)]) dX8_tells_150 (by decide) rfl ?_
                      refine x_sub [0, 1, 4, 5, 6, 7, 3, 2] rfl ?_
                      have hw : w = 1 ∨ w = 2 ∨ w = 3 ∨ w = 4 ∨ w = 5 := by
                        obtain ⟨a, ha, rfl⟩ := nI_of2 (M := 5) (n := 5) (by decide) (Int32.not_lt.mpr c_21.1) c_21.2
                        have h0 : ¬ a = 0 := fun z => c_139 (by rw [z]; rfl)
                        have : a = 1 ∨ a = 2 ∨ a = 3 ∨ a = 4 ∨ a = 5 := by omega
                        rcases this with rfl | rfl | rfl | rfl | rfl <;> decide
                      have hw4 : w = 4 := by
                        rcases hw with z | z | z | z | z
                        · exact absurd z c_49
                        · exact absurd z c_77
                        · exact absurd z c_86
                        · exact z
                        · exact absurd z c_63
                      have hso : ¬ gSo σ s9 = -1 := fun z => absurd (show gSo σ s9 < 0 by rw [z]; decide) (Int32.not_lt.mpr c_33)
                      have hfin : tellsF σ (nI s9) (nI i) w = tellsG σ s9 i w (chF σ w) := by
                        unfold tellsF
                        rw [idF_in hi_s9 (by omega), idF_in hi hn8]
                        show ite _ _ _ = _
                        rw [if_neg wno, if_neg hso, if_neg c_139]
                      rw [hfin]
                      have hmany : 16 = nI (chF σ w) := (by rw [hw4]; rfl)
                      show X _ _ _ _ _ _ _ _ _ [(7, .int (nI 0)), (6, .int 0), (0, .ref m), (1, .int (nI s9)), (2, .int (nI i)), (3, .int w), (4, .int r), (5, .int 16)] _ _
                      rw [hmany]
                      exact k_mtells_l hm0 hw0 hi_s9 hi hw (had := r) (by rw [hr, hw4]; rw [toldX3 hi hn8]; exact (hs.1 i hi 2 (by omega)).symm) (chF σ w + 1) 0 0 J9 (by omega) (by omega) rfl hp9.h
                  · refine x_iconst (v := 0) dX8_tells_89 (by decide) ?_
                    refine x_goto (tgt := 94) dX8_tells_90 (by decide) ?_
                    refine x_callV (k_mget (G := G) hm0 hw0 (of := nI i) (w := 0) (Or.inr (Or.inr ⟨i, hi, rfl⟩)) (by decide)) dX8_tells_94 crc_X8_get vc_8_109 z0 rfl rfl rfl rfl (Nat.le_of_ble_eq_true rfl) (roomy_k (by omega) (by decide)) (Nat.le_refl _) (Nat.le_refl _) ?_
                    rintro _ _ ⟨r, rfl, hr, J9, rfl, hp9⟩
                    refine x_istore (lv' := [(4, .int r), (0, .ref m), (1, .int (nI s9)), (2, .int (nI i)), (3, .int w)]) dX8_tells_97 (by decide) rfl ?_
                    refine x_iload_n dX8_tells_99 4 rfl rfl ?_
                    refine x_iconst (v := 1) dX8_tells_100 (by decide) ?_
                    refine x_icmp_ne (tgt := 109) dX8_tells_101 (by decide) (fun c_101 => ?_) (fun c_101 => False.elim (absurd (c_86.symm.trans c_101) (by decide)))
                    refine x_iload_n dX8_tells_109 4 rfl rfl ?_
                    refine x_iconst (v := 4) dX8_tells_110 (by decide) ?_
                    refine x_icmp_ne (tgt := 119) dX8_tells_111 (by decide) (fun c_111 => ?_) (fun c_111 => False.elim (absurd (c_86.symm.trans c_111) (by decide)))
                    refine x_iload_n dX8_tells_119 4 rfl rfl ?_
                    refine x_iconst (v := 5) dX8_tells_120 (by decide) ?_
                    refine x_icmp_ne (tgt := 131) dX8_tells_121 (by decide) (fun c_121 => ?_) (fun c_121 => False.elim (absurd (c_86.symm.trans c_121) (by decide)))
                    refine x_bipush (v := 10) dX8_tells_131 (by decide) ?_
                    refine x_istore (lv' := [(5, .int 10), (4, .int r), (0, .ref m), (1, .int (nI s9)), (2, .int (nI i)), (3, .int w)]) dX8_tells_133 (by decide) rfl ?_
                    refine x_iconst (v := 0) dX8_tells_135 (by decide) ?_
                    refine x_istore (lv' := [(6, .int 0), (5, .int 10), (4, .int r), (0, .ref m), (1, .int (nI s9)), (2, .int (nI i)), (3, .int w)]) dX8_tells_136 (by decide) rfl ?_
                    refine x_iload_n dX8_tells_138 6 rfl rfl ?_
                    refine x_if_ne (tgt := 149) dX8_tells_139 (by decide) (fun c_139 => ?_) (fun c_139 => False.elim (absurd (c_86.symm.trans c_139) (by decide)))
                    refine x_iconst (v := nI 0) dX8_tells_149 (by decide) ?_
                    refine x_istore (lv' := [(7, .int (nI 0)), (6, .int 0), (5, .int 10), (4, .int r), (0, .ref m), (1, .int (nI s9)), (2, .int (nI i)), (3, .int w)]) dX8_tells_150 (by decide) rfl ?_
                    refine x_sub [0, 1, 4, 5, 6, 7, 3, 2] rfl ?_
                    have hw : w = 1 ∨ w = 2 ∨ w = 3 ∨ w = 4 ∨ w = 5 := by
                      obtain ⟨a, ha, rfl⟩ := nI_of2 (M := 5) (n := 5) (by decide) (Int32.not_lt.mpr c_21.1) c_21.2
                      have h0 : ¬ a = 0 := fun z => c_139 (by rw [z]; rfl)
                      have : a = 1 ∨ a = 2 ∨ a = 3 ∨ a = 4 ∨ a = 5 := by omega
                      rcases this with rfl | rfl | rfl | rfl | rfl <;> decide
                    have hso : ¬ gSo σ s9 = -1 := fun z => absurd (show gSo σ s9 < 0 by rw [z]; decide) (Int32.not_lt.mpr c_33)
                    have hfin : tellsF σ (nI s9) (nI i) w = tellsG σ s9 i w (chF σ w) := by
                      unfold tellsF
                      rw [idF_in hi_s9 (by omega), idF_in hi hn8]
                      show ite _ _ _ = _
                      rw [if_neg wno, if_neg hso, if_neg c_139]
                    rw [hfin]
                    have hmany : 10 = nI (chF σ w) := (by rw [c_86]; rfl)
                    show X _ _ _ _ _ _ _ _ _ [(7, .int (nI 0)), (6, .int 0), (0, .ref m), (1, .int (nI s9)), (2, .int (nI i)), (3, .int w), (4, .int r), (5, .int 10)] _ _
                    rw [hmany]
                    exact k_mtells_l hm0 hw0 hi_s9 hi hw (had := r) (by rw [hr]; subst c_86; exact hs.2.1.symm) (chF σ w + 1) 0 0 J9 (by omega) (by omega) rfl hp9.h
                · refine x_iconst (v := 2) dX8_tells_80 (by decide) ?_
                  refine x_goto (tgt := 94) dX8_tells_81 (by decide) ?_
                  refine x_callV (k_mget (G := G) hm0 hw0 (of := nI i) (w := 2) (Or.inr (Or.inr ⟨i, hi, rfl⟩)) (by decide)) dX8_tells_94 crc_X8_get vc_8_109 z0 rfl rfl rfl rfl (Nat.le_of_ble_eq_true rfl) (roomy_k (by omega) (by decide)) (Nat.le_refl _) (Nat.le_refl _) ?_
                  rintro _ _ ⟨r, rfl, hr, J9, rfl, hp9⟩
                  refine x_istore (lv' := [(4, .int r), (0, .ref m), (1, .int (nI s9)), (2, .int (nI i)), (3, .int w)]) dX8_tells_97 (by decide) rfl ?_
                  refine x_iload_n dX8_tells_99 4 rfl rfl ?_
                  refine x_iconst (v := 1) dX8_tells_100 (by decide) ?_
                  refine x_icmp_ne (tgt := 109) dX8_tells_101 (by decide) (fun c_101 => ?_) (fun c_101 => False.elim (absurd (c_77.symm.trans c_101) (by decide)))
                  refine x_iload_n dX8_tells_109 4 rfl rfl ?_
                  refine x_iconst (v := 4) dX8_tells_110 (by decide) ?_
                  refine x_icmp_ne (tgt := 119) dX8_tells_111 (by decide) (fun c_111 => ?_) (fun c_111 => False.elim (absurd (c_77.symm.trans c_111) (by decide)))
                  refine x_iload_n dX8_tells_119 4 rfl rfl ?_
                  refine x_iconst (v := 5) dX8_tells_120 (by decide) ?_
                  refine x_icmp_ne (tgt := 131) dX8_tells_121 (by decide) (fun c_121 => ?_) (fun c_121 => False.elim (absurd (c_77.symm.trans c_121) (by decide)))
                  refine x_bipush (v := 10) dX8_tells_131 (by decide) ?_
                  refine x_istore (lv' := [(5, .int 10), (4, .int r), (0, .ref m), (1, .int (nI s9)), (2, .int (nI i)), (3, .int w)]) dX8_tells_133 (by decide) rfl ?_
                  refine x_iconst (v := 0) dX8_tells_135 (by decide) ?_
                  refine x_istore (lv' := [(6, .int 0), (5, .int 10), (4, .int r), (0, .ref m), (1, .int (nI s9)), (2, .int (nI i)), (3, .int w)]) dX8_tells_136 (by decide) rfl ?_
                  refine x_iload_n dX8_tells_138 6 rfl rfl ?_
                  refine x_if_ne (tgt := 149) dX8_tells_139 (by decide) (fun c_139 => ?_) (fun c_139 => False.elim (absurd (c_77.symm.trans c_139) (by decide)))
                  refine x_iconst (v := nI 0) dX8_tells_149 (by decide) ?_
                  refine x_istore (lv' := [(7, .int (nI 0)), (6, .int 0), (5, .int 10), (4, .int r), (0, .ref m), (1, .int (nI s9)), (2, .int (nI i)), (3, .int w)]) dX8_tells_150 (by decide) rfl ?_
                  refine x_sub [0, 1, 4, 5, 6, 7, 3, 2] rfl ?_
                  have hw : w = 1 ∨ w = 2 ∨ w = 3 ∨ w = 4 ∨ w = 5 := by
                    obtain ⟨a, ha, rfl⟩ := nI_of2 (M := 5) (n := 5) (by decide) (Int32.not_lt.mpr c_21.1) c_21.2
                    have h0 : ¬ a = 0 := fun z => c_139 (by rw [z]; rfl)
                    have : a = 1 ∨ a = 2 ∨ a = 3 ∨ a = 4 ∨ a = 5 := by omega
                    rcases this with rfl | rfl | rfl | rfl | rfl <;> decide
                  have hso : ¬ gSo σ s9 = -1 := fun z => absurd (show gSo σ s9 < 0 by rw [z]; decide) (Int32.not_lt.mpr c_33)
                  have hfin : tellsF σ (nI s9) (nI i) w = tellsG σ s9 i w (chF σ w) := by
                    unfold tellsF
                    rw [idF_in hi_s9 (by omega), idF_in hi hn8]
                    show ite _ _ _ = _
                    rw [if_neg wno, if_neg hso, if_neg c_139]
                  rw [hfin]
                  have hmany : 10 = nI (chF σ w) := (by rw [c_77]; rfl)
                  show X _ _ _ _ _ _ _ _ _ [(7, .int (nI 0)), (6, .int 0), (0, .ref m), (1, .int (nI s9)), (2, .int (nI i)), (3, .int w), (4, .int r), (5, .int 10)] _ _
                  rw [hmany]
                  exact k_mtells_l hm0 hw0 hi_s9 hi hw (had := r) (by rw [hr]; subst c_77; rw [toldX2 hi hn8]; exact (hs.1 i hi 1 (by omega)).symm) (chF σ w + 1) 0 0 J9 (by omega) (by omega) rfl hp9.h
              · refine x_aload_n dX8_tells_66 0 rfl rfl ?_
                refine x_gI (v := nI (gRu σ)) dX8_tells_67 fl_8_218 rfl z0 hru ?_
                refine x_goto (tgt := 97) dX8_tells_70 (by decide) ?_
                refine x_istore (lv' := [(4, .int (nI (gRu σ))), (0, .ref m), (1, .int (nI s9)), (2, .int (nI i)), (3, .int w)]) dX8_tells_97 (by decide) rfl ?_
                refine x_iload_n dX8_tells_99 4 rfl rfl ?_
                refine x_iconst (v := 1) dX8_tells_100 (by decide) ?_
                refine x_icmp_ne (tgt := 109) dX8_tells_101 (by decide) (fun c_101 => ?_) (fun c_101 => False.elim (absurd (c_63.symm.trans c_101) (by decide)))
                refine x_iload_n dX8_tells_109 4 rfl rfl ?_
                refine x_iconst (v := 4) dX8_tells_110 (by decide) ?_
                refine x_icmp_ne (tgt := 119) dX8_tells_111 (by decide) (fun c_111 => ?_) (fun c_111 => False.elim (absurd (c_63.symm.trans c_111) (by decide)))
                refine x_iload_n dX8_tells_119 4 rfl rfl ?_
                refine x_iconst (v := 5) dX8_tells_120 (by decide) ?_
                refine x_icmp_ne (tgt := 131) dX8_tells_121 (by decide) (fun c_121 => False.elim (c_121 c_63)) (fun c_121 => ?_)
                refine x_aload_n dX8_tells_124 1 rfl rfl ?_
                refine x_gI (v := nI (gTc σ)) dX8_tells_125 fl_8_211 rfl z0 htc ?_
                refine x_goto (tgt := 133) dX8_tells_128 (by decide) ?_
                refine x_istore (lv' := [(5, .int (nI (gTc σ))), (4, .int (nI (gRu σ))), (0, .ref m), (1, .int (nI s9)), (2, .int (nI i)), (3, .int w)]) dX8_tells_133 (by decide) rfl ?_
                refine x_iconst (v := 0) dX8_tells_135 (by decide) ?_
                refine x_istore (lv' := [(6, .int 0), (5, .int (nI (gTc σ))), (4, .int (nI (gRu σ))), (0, .ref m), (1, .int (nI s9)), (2, .int (nI i)), (3, .int w)]) dX8_tells_136 (by decide) rfl ?_
                refine x_iload_n dX8_tells_138 6 rfl rfl ?_
                refine x_if_ne (tgt := 149) dX8_tells_139 (by decide) (fun c_139 => ?_) (fun c_139 => False.elim (absurd (c_63.symm.trans c_139) (by decide)))
                refine x_iconst (v := nI 0) dX8_tells_149 (by decide) ?_
                refine x_istore (lv' := [(7, .int (nI 0)), (6, .int 0), (5, .int (nI (gTc σ))), (4, .int (nI (gRu σ))), (0, .ref m), (1, .int (nI s9)), (2, .int (nI i)), (3, .int w)]) dX8_tells_150 (by decide) rfl ?_
                refine x_sub [0, 1, 4, 5, 6, 7, 3, 2] rfl ?_
                have hw : w = 1 ∨ w = 2 ∨ w = 3 ∨ w = 4 ∨ w = 5 := by
                  obtain ⟨a, ha, rfl⟩ := nI_of2 (M := 5) (n := 5) (by decide) (Int32.not_lt.mpr c_21.1) c_21.2
                  have h0 : ¬ a = 0 := fun z => c_139 (by rw [z]; rfl)
                  have : a = 1 ∨ a = 2 ∨ a = 3 ∨ a = 4 ∨ a = 5 := by omega
                  rcases this with rfl | rfl | rfl | rfl | rfl <;> decide
                have hso : ¬ gSo σ s9 = -1 := fun z => absurd (show gSo σ s9 < 0 by rw [z]; decide) (Int32.not_lt.mpr c_33)
                have hfin : tellsF σ (nI s9) (nI i) w = tellsG σ s9 i w (chF σ w) := by
                  unfold tellsF
                  rw [idF_in hi_s9 (by omega), idF_in hi hn8]
                  show ite _ _ _ = _
                  rw [if_neg wno, if_neg hso, if_neg c_139]
                rw [hfin]
                have hmany : (nI (gTc σ)) = nI (chF σ w) := (by rw [c_63]; rfl)
                show X _ _ _ _ _ _ _ _ _ [(7, .int (nI 0)), (6, .int 0), (0, .ref m), (1, .int (nI s9)), (2, .int (nI i)), (3, .int w), (4, .int (nI (gRu σ))), (5, .int (nI (gTc σ)))] _ _
                rw [hmany]
                exact k_mtells_l hm0 hw0 hi_s9 hi hw (had := (nI (gRu σ))) (by rw [c_63]; exact hru.symm) (chF σ w + 1) 0 0 I (by omega) (by omega) rfl pvM.rf.h
            · refine x_aload_n dX8_tells_52 0 rfl rfl ?_
              refine x_gR (b := m + 1 + 0) dX8_tells_53 fl_8_7 rfl z0 (y1 0 (by omega)) ?_
              refine x_iload_n dX8_tells_56 2 rfl rfl ?_
              refine x_ia (j := i) (v := I (m + 1 + 0) i) dX8_tells_57 (z1 0 (by omega)) rfl (by omega) (by omega) rfl ?_
              refine x_goto (tgt := 97) dX8_tells_58 (by decide) ?_
              refine x_topi (fun xq1 e_xq1 => ?_)
              refine x_istore (lv' := [(4, .int xq1), (0, .ref m), (1, .int (nI s9)), (2, .int (nI i)), (3, .int w)]) dX8_tells_97 (by decide) rfl ?_
              refine x_iload_n dX8_tells_99 4 rfl rfl ?_
              refine x_iconst (v := 1) dX8_tells_100 (by decide) ?_
              refine x_icmp_ne (tgt := 109) dX8_tells_101 (by decide) (fun c_101 => False.elim (c_101 c_49)) (fun c_101 => ?_)
              refine x_bipush (v := 6) dX8_tells_104 (by decide) ?_
              refine x_goto (tgt := 133) dX8_tells_106 (by decide) ?_
              refine x_istore (lv' := [(5, .int 6), (4, .int xq1), (0, .ref m), (1, .int (nI s9)), (2, .int (nI i)), (3, .int w)]) dX8_tells_133 (by decide) rfl ?_
              refine x_iconst (v := 0) dX8_tells_135 (by decide) ?_
              refine x_istore (lv' := [(6, .int 0), (5, .int 6), (4, .int xq1), (0, .ref m), (1, .int (nI s9)), (2, .int (nI i)), (3, .int w)]) dX8_tells_136 (by decide) rfl ?_
              refine x_iload_n dX8_tells_138 6 rfl rfl ?_
              refine x_if_ne (tgt := 149) dX8_tells_139 (by decide) (fun c_139 => ?_) (fun c_139 => False.elim (absurd (c_49.symm.trans c_139) (by decide)))
              refine x_iconst (v := nI 0) dX8_tells_149 (by decide) ?_
              refine x_istore (lv' := [(7, .int (nI 0)), (6, .int 0), (5, .int 6), (4, .int xq1), (0, .ref m), (1, .int (nI s9)), (2, .int (nI i)), (3, .int w)]) dX8_tells_150 (by decide) rfl ?_
              refine x_sub [0, 1, 4, 5, 6, 7, 3, 2] rfl ?_
              have hw : w = 1 ∨ w = 2 ∨ w = 3 ∨ w = 4 ∨ w = 5 := by
                obtain ⟨a, ha, rfl⟩ := nI_of2 (M := 5) (n := 5) (by decide) (Int32.not_lt.mpr c_21.1) c_21.2
                have h0 : ¬ a = 0 := fun z => c_139 (by rw [z]; rfl)
                have : a = 1 ∨ a = 2 ∨ a = 3 ∨ a = 4 ∨ a = 5 := by omega
                rcases this with rfl | rfl | rfl | rfl | rfl <;> decide
              have hso : ¬ gSo σ s9 = -1 := fun z => absurd (show gSo σ s9 < 0 by rw [z]; decide) (Int32.not_lt.mpr c_33)
              have hfin : tellsF σ (nI s9) (nI i) w = tellsG σ s9 i w (chF σ w) := by
                unfold tellsF
                rw [idF_in hi_s9 (by omega), idF_in hi hn8]
                show ite _ _ _ = _
                rw [if_neg wno, if_neg hso, if_neg c_139]
              rw [hfin]
              have hmany : 6 = nI (chF σ w) := (by rw [c_49]; rfl)
              show X _ _ _ _ _ _ _ _ _ [(7, .int (nI 0)), (6, .int 0), (0, .ref m), (1, .int (nI s9)), (2, .int (nI i)), (3, .int w), (4, .int xq1), (5, .int 6)] _ _
              rw [hmany]
              exact k_mtells_l hm0 hw0 hi_s9 hi hw (had := xq1) (by rw [c_49]; exact e_xq1) (chF σ w + 1) 0 0 I (by omega) (by omega) rfl pvM.rf.h
          · refine x_iconst (v := 0) dX8_tells_43 (by decide) ?_
            refine x_goto (tgt := 97) dX8_tells_44 (by decide) ?_
            refine x_istore (lv' := [(4, .int 0), (0, .ref m), (1, .int (nI s9)), (2, .int (nI i)), (3, .int w)]) dX8_tells_97 (by decide) rfl ?_
            refine x_iload_n dX8_tells_99 4 rfl rfl ?_
            refine x_iconst (v := 1) dX8_tells_100 (by decide) ?_
            refine x_icmp_ne (tgt := 109) dX8_tells_101 (by decide) (fun c_101 => ?_) (fun c_101 => False.elim (absurd (c_40.symm.trans c_101) (by decide)))
            refine x_iload_n dX8_tells_109 4 rfl rfl ?_
            refine x_iconst (v := 4) dX8_tells_110 (by decide) ?_
            refine x_icmp_ne (tgt := 119) dX8_tells_111 (by decide) (fun c_111 => ?_) (fun c_111 => False.elim (absurd (c_40.symm.trans c_111) (by decide)))
            refine x_iload_n dX8_tells_119 4 rfl rfl ?_
            refine x_iconst (v := 5) dX8_tells_120 (by decide) ?_
            refine x_icmp_ne (tgt := 131) dX8_tells_121 (by decide) (fun c_121 => ?_) (fun c_121 => False.elim (absurd (c_40.symm.trans c_121) (by decide)))
            refine x_bipush (v := 10) dX8_tells_131 (by decide) ?_
            refine x_istore (lv' := [(5, .int 10), (4, .int 0), (0, .ref m), (1, .int (nI s9)), (2, .int (nI i)), (3, .int w)]) dX8_tells_133 (by decide) rfl ?_
            refine x_iconst (v := 0) dX8_tells_135 (by decide) ?_
            refine x_istore (lv' := [(6, .int 0), (5, .int 10), (4, .int 0), (0, .ref m), (1, .int (nI s9)), (2, .int (nI i)), (3, .int w)]) dX8_tells_136 (by decide) rfl ?_
            refine x_iload_n dX8_tells_138 6 rfl rfl ?_
            refine x_if_ne (tgt := 149) dX8_tells_139 (by decide) (fun c_139 => False.elim (c_139 c_40)) (fun c_139 => ?_)
            refine x_aload_n dX8_tells_142 3 rfl rfl ?_
            refine x_iload_n dX8_tells_143 4 rfl rfl ?_
            refine x_iload_n dX8_tells_144 5 rfl rfl ?_
            have hso : ¬ gSo σ s9 = -1 := fun z => absurd (show gSo σ s9 < 0 by rw [z]; decide) (Int32.not_lt.mpr c_33)
            refine x_callV (k_other (G := G) hmw hs hnb hi_s9 (hm0.row hi_s9) hi) dX8_tells_145 crc_X8_otherwise vc_8_292 z0 rfl rfl rfl rfl (Nat.le_of_ble_eq_true rfl) (roomy_k (by omega) (by decide)) (Nat.le_refl _) (Nat.le_refl _) ?_
            rintro _ _ ⟨r9, rfl, hr9, J9, rfl, hp9⟩
            refine x_iret dX8_tells_148 rfl (Nat.le_refl _) (Nat.le_refl _) ?_
            refine ⟨?_, J9, rfl, hp9⟩
            unfold tellsF
            rw [idF_in hi_s9 (by omega), idF_in hi hn8]
            show _ = ite _ _ _
            rw [if_neg wno, if_neg hso, if_pos c_139]
            exact hr9
        · refine x_bipush (v := (-11)) dX8_tells_36 (by decide) ?_
          refine x_iret dX8_tells_38 rfl (Nat.le_refl _) (Nat.le_refl _) ?_
          refine ⟨?_, I, rfl, pvM.rf⟩
          unfold tellsF
          rw [idF_in hi_s9 (by omega), idF_in hi hn8]
          show _ = ite _ _ _
          rw [if_neg wno, if_pos ((so_neg hw0 hi_s9).mp (Int32.not_le.mp c_33))]
      · refine x_bipush (v := (-2)) dX8_tells_24 (by decide) ?_
        refine x_iret dX8_tells_26 rfl (Nat.le_refl _) (Nat.le_refl _) ?_
        refine ⟨?_, I, rfl, pvM.rf⟩
        unfold tellsF
        obtain ⟨s9, hid⟩ := Option.isSome_iff_exists.mp c_4
        obtain ⟨i, hid2⟩ := Option.isSome_iff_exists.mp c_12
        rw [hid, hid2]
        show _ = ite _ _ _
        rw [if_pos (by
          by_cases z : w < 0
          · exact Or.inl z
          · exact Or.inr (Int32.not_le.mp (fun z2 => c_21 ⟨Int32.not_lt.mp z, z2⟩)))]

