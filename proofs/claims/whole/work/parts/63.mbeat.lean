theorem nb_ne {n f : Nat} {v : SV} (h : NB n v) (hf : f < n) : ¬ v.1 f 1 + 2 = 0 := by
  obtain ⟨a, ha, e⟩ := h f hf
  rw [e, show nI a + 2 = nI (a + 2) from nI_add a 2]
  exact nI_ne0 (by omega) (by omega)
theorem nb_pos {n f : Nat} {v : SV} (h : NB n v) (hf : f < n) : 0 < v.1 f 1 + 2 := by
  obtain ⟨a, ha, e⟩ := h f hf
  rw [e, show nI a + 2 = nI (a + 2) from nI_add a 2]
  exact (nI_ltI (a := 0) (by omega) (by omega)).mpr (by omega)
theorem NB.beat {P : Nat → List Int32} {n : Nat} {v : SV} (h : NB n v) : NB n (beatF P n v) := fun i hi => by
  obtain ⟨a, ha, e⟩ := h i hi
  exact ⟨a, ha, e⟩
theorem NB.spade {P : Nat → List Int32} {n i : Nat} {v : SV} (h : NB n v) : NB n (spadeF P n i v) := fun j hj => by
  obtain ⟨a, ha, e⟩ := h j hj
  refine ⟨a, ha, ?_⟩
  show (if j = i ∧ 1 = 4 then _ else v.1 j 1) = _
  rw [if_neg (by omega)]
  exact e
theorem NB.pass {P : Nat → List Int32} {n : Nat} {v : SV} (h : NB n v) : ∀ k, NB n (passF P n v k)
  | 0 => h
  | k + 1 => by
    exact NB.beat (P := P) (v := passF P n v k) (NB.pass (P := P) h k)
/-- the losses are counted up to i -/
def mb1 (m n : Nat) (P : Nat → List Int32) (v : SV) (I J : HI) (i : Nat) : Prop := (∀ a k, ¬ a = m + 10 → ¬ a = m + 13 → J a k = I a k) ∧ ∀ o, o < i → J (m + 13) o = leF P n v o
theorem mb1.fr {m n i : Nat} {P : Nat → List Int32} {v : SV} {I J : HI} (h : mb1 m n P v I J i) : frM m I J := fun a k q1 q2 _ _ => h.1 a k q1 q2
theorem mb1.ms {m n i : Nat} {P : Nat → List Int32} {v : SV} {I J : HI} (h : mb1 m n P v I J i) (hs : MS I m n v) : MS J m n v :=
  ⟨fun j hj k hk => (h.1 _ _ (by omega) (by omega)).trans (hs.1 j hj k hk), (h.1 _ _ (by omega) (by omega)).trans hs.2.1, (h.1 _ _ (by omega) (by omega)).trans hs.2.2⟩
theorem mb1.step {m n i : Nat} {P : Nat → List Int32} {v : SV} {I J J2 : HI} {x : Int32} (h : mb1 m n P v I J i) (o : offK m J J2) (hx : x = leF P n v i) : mb1 m n P v I (u2 J2 (m + 13) i x) (i + 1) := by
  refine ⟨fun a k q1 q2 => ?_, fun j hj => ?_⟩
  · rw [u2_ne (by omega), o a k q1]
    exact h.1 a k q1 q2
  · by_cases e : j = i
    · subst e
      rw [u2_same]
      exact hx
    · rw [u2_ne (by omega), o _ _ (by omega)]
      exact h.2 j (by omega)
/-- the heights have fallen up to i -/
def mb2 (m n : Nat) (P : Nat → List Int32) (v : SV) (I J : HI) (i : Nat) : Prop := (∀ a k, ¬ a = m + 10 → ¬ a = m + 13 → ¬ (a = m + 1 + 4 ∧ k < 8) → J a k = I a k) ∧ (∀ o, o < n → J (m + 13) o = leF P n v o) ∧ (∀ o, o < i → J (m + 1 + 4) o = mxI 0 (v.1 o 4 - leF P n v o)) ∧ ∀ o, i ≤ o → o < n → J (m + 1 + 4) o = v.1 o 4
theorem mb1.end_ {m n : Nat} {P : Nat → List Int32} {v : SV} {I J : HI} (h : mb1 m n P v I J n) (hs : MS I m n v) : mb2 m n P v I J 0 :=
  ⟨fun a k q1 q2 _ => h.1 a k q1 q2, h.2, fun o ho => absurd ho (by omega), fun o _ ho => (h.ms hs).1 o ho 4 (by omega)⟩
theorem mb2.step {m n i : Nat} {P : Nat → List Int32} {v : SV} {I J : HI} {x : Int32} (h : mb2 m n P v I J i) (hi : i < n) (hn8 : n ≤ 8) (hx : x = mxI 0 (J (m + 1 + 4) i - J (m + 13) i)) : mb2 m n P v I (u2 J (m + 1 + 4) i x) (i + 1) := by
  refine ⟨fun a k q1 q2 q3 => ?_, fun j hj => ?_, fun j hj => ?_, fun j hj hj2 => ?_⟩
  · rw [u2_ne (by omega)]
    exact h.1 a k q1 q2 q3
  · rw [u2_ne (by omega)]
    exact h.2.1 j hj
  · by_cases e : j = i
    · subst e
      rw [u2_same, hx, h.2.2.2 j (by omega) hi, h.2.1 j hi]
    · rw [u2_ne (by omega)]
      exact h.2.2.1 j (by omega)
  · rw [u2_ne (by omega)]
    exact h.2.2.2 j (by omega) hj2
theorem mb2.end_ {m n : Nat} {P : Nat → List Int32} {v : SV} {I J : HI} (h : mb2 m n P v I J n) (hs : MS I m n v) : MS (u2 J m 1 (J m 1 + 1)) m n (beatF P n v) ∧ frM m I (u2 J m 1 (J m 1 + 1)) := by
  have hw : J m 1 = v.2.2 := (h.1 m 1 (by omega) (by omega) (by omega)).trans hs.2.2
  refine ⟨⟨fun j hj k hk => ?_, ?_, ?_⟩, fun a k q1 q2 q3 q4 => ?_⟩
  · rw [u2_ne (by omega)]
    unfold beatF
    by_cases e : k = 4
    · subst e
      rw [h.2.2.1 j hj]
      simp
    · rw [h.1 _ _ (by omega) (by omega) (by omega), hs.1 j hj k hk]
      simp [e]
  · rw [u2_ne (by omega)]
    exact (h.1 m 0 (by omega) (by omega) (by omega)).trans hs.2.1
  · rw [u2_same, hw]
    rfl
  · rw [u2_ne (by omega)]
    exact h.1 a k q1 q2 q3
theorem mraise_ok {m n i : Nat} {I I2 : HI} {v : SV} {P : Nat → List Int32} {r : Int32} (h : MS I m n v) (o : offK m I I2) (hi : i < n) (hn8 : n ≤ 8) (hr : r = riF P n v i) : MS (u2 I2 (m + 1 + 4) i (mnI 99 (v.1 i 4 + r))) m n (spadeF P n i v) ∧ frM m I (u2 I2 (m + 1 + 4) i (mnI 99 (v.1 i 4 + r))) := by
  have h2 := h.off o
  refine ⟨⟨fun j hj k hk => ?_, ?_, ?_⟩, fun a k q1 q2 q3 q4 => ?_⟩
  · unfold spadeF
    by_cases e : j = i ∧ k = 4
    · obtain ⟨rfl, rfl⟩ := e
      rw [u2_same, hr]
      simp
    · rw [u2_ne (by omega), h2.1 j hj k hk]
      simp [e]
  · rw [u2_ne (by omega)]
    exact h2.2.1
  · rw [u2_ne (by omega)]
    exact h2.2.2
  · rw [u2_ne (by omega)]
    exact o a k q1

set_option maxHeartbeats 4000000 in
set_option maxRecDepth 100000 in
theorem k_mloses {G : GG} {Sh : HS} {I : HI} {R : HR} {m n t : Nat} {P : Nat → List Int32} (w : MW Sh I R m n t P) {v : SV} (hs : MS I m n v) (hnb : NB n v) {f : Nat} (hfn : f < n) : AM G 3 0 0 yX8_loses cX8_loses 4 (some .int) [.ref m, .int (nI f)] (Sh, I, R) (qi fun r g => r = loF P n v f ∧ ∃ I2 : HI, offK m I I2 ∧ g = (Sh, I2, R)) := by
  obtain ⟨hsh, hrf, hn, hn8, hru, hr6, cd9, hcd9, htx⟩ := id w
  obtain ⟨z0, z1, z6, z7, z8, z9, z10, z11, z12, z13, z14, z15, z16, z17⟩ := id hsh
  obtain ⟨y1, y6, y7, y8, y9, y10, y11, y12, y13, y14, y15, y16, y17⟩ := id hrf
  refine am_intro (by decide) (Nat.le_of_ble_eq_true rfl) ?_
  refine x_aload_n dX8_loses_0 0 rfl rfl ?_
  refine x_iconst (v := nI 0) dX8_loses_1 (by decide) ?_
  refine x_iload_n dX8_loses_2 1 rfl rfl ?_
  refine x_bipush (v := 99) dX8_loses_3 (by decide) ?_
  refine x_callV (k_says (G := G) (I := I) w (f := f) (q := 0) (by omega) (by omega) (mo := 99)) dX8_loses_5 crc_X8_says vc_8_233 z0 rfl rfl rfl rfl (Nat.le_of_ble_eq_true rfl) (roomy_k (by omega) (by decide)) (Nat.le_refl _) (Nat.le_refl _) ?_
  rintro _ _ ⟨r, rfl, hr, I2, hoff, rfl⟩
  have hr : r = stF P n v f := by
    rw [hr, mx_mn (by decide), cxM_cF hs hfn]
    rfl
  have hs2 := hs.off hoff
  refine x_istore_n (lv' := [(2, .int r), (0, .ref m), (1, .int (nI f))]) dX8_loses_8 rfl (by decide) rfl ?_
  refine x_aload_n dX8_loses_9 1 rfl rfl ?_
  refine x_gI (v := v.2.2) dX8_loses_10 fl_8_89 rfl z0 hs2.2.2 ?_
  refine x_aload_n dX8_loses_13 1 rfl rfl ?_
  refine x_gR (b := m + 1 + 1) dX8_loses_14 fl_8_13 rfl z0 (y1 1 (by omega)) ?_
  refine x_iload_n dX8_loses_17 2 rfl rfl ?_
  refine x_ia (j := f) (v := v.1 f 1) dX8_loses_18 (z1 1 (by omega)) rfl (by omega) (by omega) (hs2.1 f hfn 1 (by omega)) ?_
  refine x_iconst (v := 2) dX8_loses_19 (by decide) ?_
  refine x_iadd dX8_loses_20 ?_
  refine x_irem dX8_loses_21 (nb_ne hnb hfn) ?_
  refine x_if_ne (tgt := 29) dX8_loses_22 (by decide) (fun c_22 => ?_) (fun c_22 => ?_)
  · refine x_iload_n dX8_loses_29 0 rfl rfl ?_
    refine x_istore_n (lv' := [(3, .int r), (2, .int r), (0, .ref m), (1, .int (nI f))]) dX8_loses_30 rfl (by decide) rfl ?_
    refine x_aload_n dX8_loses_31 2 rfl rfl ?_
    refine x_gR (b := m + 1 + 0) dX8_loses_32 fl_8_7 rfl z0 (y1 0 (by omega)) ?_
    refine x_iload_n dX8_loses_35 3 rfl rfl ?_
    refine x_ia (j := f) (v := v.1 f 0) dX8_loses_36 (z1 0 (by omega)) rfl (by omega) (by omega) (hs2.1 f hfn 0 (by omega)) ?_
    refine x_tsw [(1, 72), (2, 76), (3, 78), (4, 89), (5, 93)] 106 dX8_loses_37 (by decide) (by decide +kernel) (fun c_37 => ?_) ?_
    · have d_37 : ¬ v.1 f 0 = 1 ∧ ¬ v.1 f 0 = 2 ∧ ¬ v.1 f 0 = 3 ∧ ¬ v.1 f 0 = 4 ∧ ¬ v.1 f 0 = 5 := ⟨fun q => c_37 (1, 72) (by simp) (q.trans (by decide)), fun q => c_37 (2, 76) (by simp) (q.trans (by decide)), fun q => c_37 (3, 78) (by simp) (q.trans (by decide)), fun q => c_37 (4, 89) (by simp) (q.trans (by decide)), fun q => c_37 (5, 93) (by simp) (q.trans (by decide))⟩
      refine x_iload_n dX8_loses_106 1 rfl rfl ?_
      refine x_iret dX8_loses_107 rfl (Nat.le_refl _) (Nat.le_refl _) ?_
      refine ⟨?_, I2, hoff, rfl⟩
      subst hr
      have hpos := nb_pos hnb hfn
      unfold loF lossF dryF
      simp_all
    · refine List.forall_mem_cons.mpr ⟨fun c_37 => ?_, List.forall_mem_cons.mpr ⟨fun c_37 => ?_, List.forall_mem_cons.mpr ⟨fun c_37 => ?_, List.forall_mem_cons.mpr ⟨fun c_37 => ?_, List.forall_mem_cons.mpr ⟨fun c_37 => ?_, fun _ h9 => absurd h9 List.not_mem_nil⟩⟩⟩⟩⟩
      · have c_37 : v.1 f 0 = 1 := c_37.trans (by decide)
        refine x_iload_n dX8_loses_72 1 rfl rfl ?_
        refine x_iconst (v := 2) dX8_loses_73 (by decide) ?_
        refine x_idiv dX8_loses_74 (by decide) ?_
        refine x_iret dX8_loses_75 rfl (Nat.le_refl _) (Nat.le_refl _) ?_
        refine ⟨?_, I2, hoff, rfl⟩
        subst hr
        have hpos := nb_pos hnb hfn
        unfold loF lossF dryF
        simp_all
      · have c_37 : v.1 f 0 = 2 := c_37.trans (by decide)
        refine x_iload_n dX8_loses_76 0 rfl rfl ?_
        refine x_iret dX8_loses_77 rfl (Nat.le_refl _) (Nat.le_refl _) ?_
        refine ⟨?_, I2, hoff, rfl⟩
        subst hr
        have hpos := nb_pos hnb hfn
        unfold loF lossF dryF
        simp_all
      · have c_37 : v.1 f 0 = 3 := c_37.trans (by decide)
        refine x_iload_n dX8_loses_78 1 rfl rfl ?_
        refine x_iconst (v := 2) dX8_loses_79 (by decide) ?_
        refine x_idiv dX8_loses_80 (by decide) ?_
        refine x_aload_n dX8_loses_81 2 rfl rfl ?_
        refine x_gR (b := m + 1 + 1) dX8_loses_82 fl_8_13 rfl z0 (y1 1 (by omega)) ?_
        refine x_iload_n dX8_loses_85 3 rfl rfl ?_
        refine x_ia (j := f) (v := v.1 f 1) dX8_loses_86 (z1 1 (by omega)) rfl (by omega) (by omega) (hs2.1 f hfn 1 (by omega)) ?_
        refine x_iadd dX8_loses_87 ?_
        refine x_iret dX8_loses_88 rfl (Nat.le_refl _) (Nat.le_refl _) ?_
        refine ⟨?_, I2, hoff, rfl⟩
        subst hr
        have hpos := nb_pos hnb hfn
        unfold loF lossF dryF
        simp_all
      · have c_37 : v.1 f 0 = 4 := c_37.trans (by decide)
        refine x_iconst (v := 2) dX8_loses_89 (by decide) ?_
        refine x_iload_n dX8_loses_90 0 rfl rfl ?_
        refine x_imul dX8_loses_91 ?_
        refine x_iret dX8_loses_92 rfl (Nat.le_refl _) (Nat.le_refl _) ?_
        refine ⟨?_, I2, hoff, rfl⟩
        subst hr
        have hpos := nb_pos hnb hfn
        unfold loF lossF dryF
        simp_all
      · have c_37 : v.1 f 0 = 5 := c_37.trans (by decide)
        refine x_iconst (v := 0) dX8_loses_93 (by decide) ?_
        refine x_iload_n dX8_loses_94 1 rfl rfl ?_
        refine x_aload_n dX8_loses_95 2 rfl rfl ?_
        refine x_gR (b := m + 1 + 1) dX8_loses_96 fl_8_13 rfl z0 (y1 1 (by omega)) ?_
        refine x_iload_n dX8_loses_99 3 rfl rfl ?_
        refine x_ia (j := f) (v := v.1 f 1) dX8_loses_100 (z1 1 (by omega)) rfl (by omega) (by omega) (hs2.1 f hfn 1 (by omega)) ?_
        refine x_isub dX8_loses_101 ?_
        refine x_mmax dX8_loses_102 sc_8_230 (Nat.le_of_ble_eq_true rfl) (roomy_k (by omega) (by decide)) (Nat.le_refl _) (Nat.le_refl _) ?_
        refine x_iret dX8_loses_105 rfl (Nat.le_refl _) (Nat.le_refl _) ?_
        refine ⟨?_, I2, hoff, rfl⟩
        subst hr
        have hpos := nb_pos hnb hfn
        unfold loF lossF dryF
        simp_all
  · refine x_iconst (v := 0) dX8_loses_25 (by decide) ?_
    refine x_goto (tgt := 30) dX8_loses_26 (by decide) ?_
    refine x_istore_n (lv' := [(3, .int 0), (2, .int r), (0, .ref m), (1, .int (nI f))]) dX8_loses_30 rfl (by decide) rfl ?_
    refine x_aload_n dX8_loses_31 2 rfl rfl ?_
    refine x_gR (b := m + 1 + 0) dX8_loses_32 fl_8_7 rfl z0 (y1 0 (by omega)) ?_
    refine x_iload_n dX8_loses_35 3 rfl rfl ?_
    refine x_ia (j := f) (v := v.1 f 0) dX8_loses_36 (z1 0 (by omega)) rfl (by omega) (by omega) (hs2.1 f hfn 0 (by omega)) ?_
    refine x_tsw [(1, 72), (2, 76), (3, 78), (4, 89), (5, 93)] 106 dX8_loses_37 (by decide) (by decide +kernel) (fun c_37 => ?_) ?_
    · have d_37 : ¬ v.1 f 0 = 1 ∧ ¬ v.1 f 0 = 2 ∧ ¬ v.1 f 0 = 3 ∧ ¬ v.1 f 0 = 4 ∧ ¬ v.1 f 0 = 5 := ⟨fun q => c_37 (1, 72) (by simp) (q.trans (by decide)), fun q => c_37 (2, 76) (by simp) (q.trans (by decide)), fun q => c_37 (3, 78) (by simp) (q.trans (by decide)), fun q => c_37 (4, 89) (by simp) (q.trans (by decide)), fun q => c_37 (5, 93) (by simp) (q.trans (by decide))⟩
      refine x_iload_n dX8_loses_106 1 rfl rfl ?_
      refine x_iret dX8_loses_107 rfl (Nat.le_refl _) (Nat.le_refl _) ?_
      refine ⟨?_, I2, hoff, rfl⟩
      subst hr
      have hpos := nb_pos hnb hfn
      unfold loF lossF dryF
      simp_all
    · refine List.forall_mem_cons.mpr ⟨fun c_37 => ?_, List.forall_mem_cons.mpr ⟨fun c_37 => ?_, List.forall_mem_cons.mpr ⟨fun c_37 => ?_, List.forall_mem_cons.mpr ⟨fun c_37 => ?_, List.forall_mem_cons.mpr ⟨fun c_37 => ?_, fun _ h9 => absurd h9 List.not_mem_nil⟩⟩⟩⟩⟩
      · have c_37 : v.1 f 0 = 1 := c_37.trans (by decide)
        refine x_iload_n dX8_loses_72 1 rfl rfl ?_
        refine x_iconst (v := 2) dX8_loses_73 (by decide) ?_
        refine x_idiv dX8_loses_74 (by decide) ?_
        refine x_iret dX8_loses_75 rfl (Nat.le_refl _) (Nat.le_refl _) ?_
        refine ⟨?_, I2, hoff, rfl⟩
        subst hr
        have hpos := nb_pos hnb hfn
        unfold loF lossF dryF
        simp_all
      · have c_37 : v.1 f 0 = 2 := c_37.trans (by decide)
        refine x_iload_n dX8_loses_76 0 rfl rfl ?_
        refine x_iret dX8_loses_77 rfl (Nat.le_refl _) (Nat.le_refl _) ?_
        refine ⟨?_, I2, hoff, rfl⟩
        subst hr
        have hpos := nb_pos hnb hfn
        unfold loF lossF dryF
        simp_all
      · have c_37 : v.1 f 0 = 3 := c_37.trans (by decide)
        refine x_iload_n dX8_loses_78 1 rfl rfl ?_
        refine x_iconst (v := 2) dX8_loses_79 (by decide) ?_
        refine x_idiv dX8_loses_80 (by decide) ?_
        refine x_aload_n dX8_loses_81 2 rfl rfl ?_
        refine x_gR (b := m + 1 + 1) dX8_loses_82 fl_8_13 rfl z0 (y1 1 (by omega)) ?_
        refine x_iload_n dX8_loses_85 3 rfl rfl ?_
        refine x_ia (j := f) (v := v.1 f 1) dX8_loses_86 (z1 1 (by omega)) rfl (by omega) (by omega) (hs2.1 f hfn 1 (by omega)) ?_
        refine x_iadd dX8_loses_87 ?_
        refine x_iret dX8_loses_88 rfl (Nat.le_refl _) (Nat.le_refl _) ?_
        refine ⟨?_, I2, hoff, rfl⟩
        subst hr
        have hpos := nb_pos hnb hfn
        unfold loF lossF dryF
        simp_all
      · have c_37 : v.1 f 0 = 4 := c_37.trans (by decide)
        refine x_iconst (v := 2) dX8_loses_89 (by decide) ?_
        refine x_iload_n dX8_loses_90 0 rfl rfl ?_
        refine x_imul dX8_loses_91 ?_
        refine x_iret dX8_loses_92 rfl (Nat.le_refl _) (Nat.le_refl _) ?_
        refine ⟨?_, I2, hoff, rfl⟩
        subst hr
        have hpos := nb_pos hnb hfn
        unfold loF lossF dryF
        simp_all
      · have c_37 : v.1 f 0 = 5 := c_37.trans (by decide)
        refine x_iconst (v := 0) dX8_loses_93 (by decide) ?_
        refine x_iload_n dX8_loses_94 1 rfl rfl ?_
        refine x_aload_n dX8_loses_95 2 rfl rfl ?_
        refine x_gR (b := m + 1 + 1) dX8_loses_96 fl_8_13 rfl z0 (y1 1 (by omega)) ?_
        refine x_iload_n dX8_loses_99 3 rfl rfl ?_
        refine x_ia (j := f) (v := v.1 f 1) dX8_loses_100 (z1 1 (by omega)) rfl (by omega) (by omega) (hs2.1 f hfn 1 (by omega)) ?_
        refine x_isub dX8_loses_101 ?_
        refine x_mmax dX8_loses_102 sc_8_230 (Nat.le_of_ble_eq_true rfl) (roomy_k (by omega) (by decide)) (Nat.le_refl _) (Nat.le_refl _) ?_
        refine x_iret dX8_loses_105 rfl (Nat.le_refl _) (Nat.le_refl _) ?_
        refine ⟨?_, I2, hoff, rfl⟩
        subst hr
        have hpos := nb_pos hnb hfn
        unfold loF lossF dryF
        simp_all

set_option maxHeartbeats 4000000 in
set_option maxRecDepth 100000 in
theorem k_mrises {G : GG} {Sh : HS} {I : HI} {R : HR} {m n t : Nat} {P : Nat → List Int32} (w : MW Sh I R m n t P) {v : SV} (hs : MS I m n v) {f : Nat} (hfn : f < n) : AM G 3 0 0 yX8_rises cX8_rises 3 (some .int) [.ref m, .int (nI f)] (Sh, I, R) (qi fun r g => r = riF P n v f ∧ ∃ I2 : HI, offK m I I2 ∧ g = (Sh, I2, R)) := by
  obtain ⟨hsh, hrf, hn, hn8, hru, hr6, cd9, hcd9, htx⟩ := id w
  obtain ⟨z0, z1, z6, z7, z8, z9, z10, z11, z12, z13, z14, z15, z16, z17⟩ := id hsh
  obtain ⟨y1, y6, y7, y8, y9, y10, y11, y12, y13, y14, y15, y16, y17⟩ := id hrf
  refine am_intro (by decide) (Nat.le_of_ble_eq_true rfl) ?_
  refine x_aload_n dX8_rises_0 0 rfl rfl ?_
  refine x_iconst (v := nI 1) dX8_rises_1 (by decide) ?_
  refine x_iload_n dX8_rises_2 1 rfl rfl ?_
  refine x_bipush (v := 20) dX8_rises_3 (by decide) ?_
  refine x_callV (k_says (G := G) (I := I) w (f := f) (q := 1) (by omega) (by omega) (mo := 20)) dX8_rises_5 crc_X8_says vc_8_233 z0 rfl rfl rfl rfl (Nat.le_of_ble_eq_true rfl) (roomy_k (by omega) (by decide)) (Nat.le_refl _) (Nat.le_refl _) ?_
  rintro _ _ ⟨r, rfl, hr, I2, hoff, rfl⟩
  have hr : r = raF P n v f := by
    rw [hr, mx_mn (by decide), cxM_cF hs hfn]
    rfl
  have hs2 := hs.off hoff
  refine x_istore_n (lv' := [(2, .int r), (0, .ref m), (1, .int (nI f))]) dX8_rises_8 rfl (by decide) rfl ?_
  refine x_aload_n dX8_rises_9 1 rfl rfl ?_
  refine x_gR (b := m + 1 + 0) dX8_rises_10 fl_8_7 rfl z0 (y1 0 (by omega)) ?_
  refine x_iload_n dX8_rises_13 2 rfl rfl ?_
  refine x_ia (j := f) (v := v.1 f 0) dX8_rises_14 (z1 0 (by omega)) rfl (by omega) (by omega) (hs2.1 f hfn 0 (by omega)) ?_
  refine x_tsw [(1, 44), (2, 48), (3, 44), (4, 52)] 58 dX8_rises_15 (by decide) (by decide +kernel) (fun c_15 => ?_) ?_
  · have d_15 : ¬ v.1 f 0 = 1 ∧ ¬ v.1 f 0 = 2 ∧ ¬ v.1 f 0 = 3 ∧ ¬ v.1 f 0 = 4 := ⟨fun q => c_15 (1, 44) (by simp) (q.trans (by decide)), fun q => c_15 (2, 48) (by simp) (q.trans (by decide)), fun q => c_15 (3, 44) (by simp) (q.trans (by decide)), fun q => c_15 (4, 52) (by simp) (q.trans (by decide))⟩
    refine x_iload_n dX8_rises_58 0 rfl rfl ?_
    refine x_iret dX8_rises_59 rfl (Nat.le_refl _) (Nat.le_refl _) ?_
    refine ⟨?_, I2, hoff, rfl⟩
    subst hr
    unfold riF riseF
    simp_all
  · refine List.forall_mem_cons.mpr ⟨fun c_15 => ?_, List.forall_mem_cons.mpr ⟨fun c_15 => ?_, List.forall_mem_cons.mpr ⟨fun c_15 => ?_, List.forall_mem_cons.mpr ⟨fun c_15 => ?_, fun _ h9 => absurd h9 List.not_mem_nil⟩⟩⟩⟩
    · have c_15 : v.1 f 0 = 1 := c_15.trans (by decide)
      refine x_iload_n dX8_rises_44 0 rfl rfl ?_
      refine x_iconst (v := 1) dX8_rises_45 (by decide) ?_
      refine x_iadd dX8_rises_46 ?_
      refine x_iret dX8_rises_47 rfl (Nat.le_refl _) (Nat.le_refl _) ?_
      refine ⟨?_, I2, hoff, rfl⟩
      subst hr
      unfold riF riseF
      simp_all
    · have c_15 : v.1 f 0 = 2 := c_15.trans (by decide)
      refine x_iload_n dX8_rises_48 0 rfl rfl ?_
      refine x_iconst (v := 2) dX8_rises_49 (by decide) ?_
      refine x_idiv dX8_rises_50 (by decide) ?_
      refine x_iret dX8_rises_51 rfl (Nat.le_refl _) (Nat.le_refl _) ?_
      refine ⟨?_, I2, hoff, rfl⟩
      subst hr
      unfold riF riseF
      simp_all
    · have c_15 : v.1 f 0 = 3 := c_15.trans (by decide)
      refine x_iload_n dX8_rises_44 0 rfl rfl ?_
      refine x_iconst (v := 1) dX8_rises_45 (by decide) ?_
      refine x_iadd dX8_rises_46 ?_
      refine x_iret dX8_rises_47 rfl (Nat.le_refl _) (Nat.le_refl _) ?_
      refine ⟨?_, I2, hoff, rfl⟩
      subst hr
      unfold riF riseF
      simp_all
    · have c_15 : v.1 f 0 = 4 := c_15.trans (by decide)
      refine x_iload_n dX8_rises_52 0 rfl rfl ?_
      refine x_iconst (v := 2) dX8_rises_53 (by decide) ?_
      refine x_idiv dX8_rises_54 (by decide) ?_
      refine x_iconst (v := 1) dX8_rises_55 (by decide) ?_
      refine x_iadd dX8_rises_56 ?_
      refine x_iret dX8_rises_57 rfl (Nat.le_refl _) (Nat.le_refl _) ?_
      refine ⟨?_, I2, hoff, rfl⟩
      subst hr
      unfold riF riseF
      simp_all

set_option maxHeartbeats 4000000 in
set_option maxRecDepth 100000 in
theorem k_comes_l2 {G : GG} {Sh : HS} {I : HI} {R : HR} {m n t : Nat} {P : Nat → List Int32} (w : MW Sh I R m n t P) {v : SV} (hs : MS I m n v) : ∀ (m9 : Nat) (i : Nat) (J : HI), (i ≤ n) → (n < i + m9) → (mb2 m n P v I J i) → X G (kM G 4 0 0 (qv fun g => ∃ J : HI, g = (Sh, J, R) ∧ MS J m n (beatF P n v) ∧ frM m I J)) yX8_comes cX8_comes 2 none 0 0 42 [(1, .int (nI i)), (0, .ref m)] [] (Sh, J, R) := by
  intro m9
  induction m9 with
  | zero =>
    intro i J hi hm hb
    exact absurd hm (by omega)
  | succ m9 ih =>
    intro i J hi hm hb
    obtain ⟨hsh, hrf, hn, hn8, hru, hr6, cd9, hcd9, htx⟩ := id w
    obtain ⟨z0, z1, z6, z7, z8, z9, z10, z11, z12, z13, z14, z15, z16, z17⟩ := id hsh
    obtain ⟨y1, y6, y7, y8, y9, y10, y11, y12, y13, y14, y15, y16, y17⟩ := id hrf
    refine x_iload_n dX8_comes_42 0 rfl rfl ?_
    refine x_aload_n dX8_comes_43 1 rfl rfl ?_
    refine x_gI (v := nI n) dX8_comes_44 fl_8_79 rfl z0 ((hb.1 _ _ (by omega) (by omega) (by omega)).trans hn) ?_
    refine x_icmp_ge (tgt := 79) dX8_comes_47 (by decide) (fun c_47 => ?_) (fun c_47 => ?_)
    · have c_47 : n ≤ i := (nI_leI (a := n) (b := i) (by omega) (by omega)).mp c_47
      refine x_aload_n dX8_comes_79 1 rfl rfl ?_
      refine x_dup dX8_comes_80 rfl ?_
      refine x_gI (v := J m 1) dX8_comes_81 fl_8_89 rfl z0 rfl ?_
      refine x_iconst (v := 1) dX8_comes_84 (by decide) ?_
      refine x_iadd dX8_comes_85 ?_
      refine x_pI dX8_comes_86 fl_8_89 rfl rfl rfl z0 (fun Iq1 e_Iq1 => ?_)
      refine x_vret dX8_comes_89 rfl (Nat.le_refl _) (Nat.le_refl _) ?_
      have hin : i = n := by omega
      subst hin
      have hh := hb.end_ hs
      rw [← e_Iq1] at hh
      exact ⟨_, rfl, hh.1, hh.2⟩
    · have c_47 : ¬ n ≤ i := fun zz9 => c_47 ((nI_leI (a := n) (b := i) (by omega) (by omega)).mpr zz9)
      refine x_aload_n dX8_comes_50 1 rfl rfl ?_
      refine x_gR (b := m + 1 + 4) dX8_comes_51 fl_8_22 rfl z0 (y1 4 (by omega)) ?_
      refine x_iload_n dX8_comes_54 0 rfl rfl ?_
      refine x_iconst (v := 0) dX8_comes_55 (by decide) ?_
      refine x_aload_n dX8_comes_56 1 rfl rfl ?_
      refine x_gR (b := m + 1 + 4) dX8_comes_57 fl_8_22 rfl z0 (y1 4 (by omega)) ?_
      refine x_iload_n dX8_comes_60 0 rfl rfl ?_
      refine x_ia (j := i) (v := J (m + 1 + 4) i) dX8_comes_61 (z1 4 (by omega)) rfl (by omega) (by omega) rfl ?_
      refine x_aload_n dX8_comes_62 1 rfl rfl ?_
      refine x_gR (b := m + 13) dX8_comes_63 fl_8_46 rfl z0 y13 ?_
      refine x_iload_n dX8_comes_66 0 rfl rfl ?_
      refine x_ia (j := i) (v := J (m + 13) i) dX8_comes_67 z13 rfl (by omega) (by omega) rfl ?_
      refine x_isub dX8_comes_68 ?_
      refine x_mmax dX8_comes_69 sc_8_230 (Nat.le_of_ble_eq_true rfl) (roomy_k (by omega) (by decide)) (Nat.le_refl _) (Nat.le_refl _) ?_
      refine x_is (j := i) dX8_comes_72 (z1 4 (by omega)) rfl (by omega) (by omega) (fun Iq2 e_Iq2 => ?_)
      refine x_iinc (v := nI (i + 1)) (lv' := [(1, .int (nI (i + 1))), (0, .ref m)]) dX8_comes_73 0 rfl (nI_1 i) (by decide) rfl ?_
      refine x_goto (tgt := 42) dX8_comes_76 (by decide) ?_
      refine x_sub [0, 1] rfl ?_
      exact ih (i + 1) Iq2 (by omega) (by omega) (by rw [e_Iq2]; exact hb.step (by omega) hn8 rfl)

set_option maxHeartbeats 4000000 in
set_option maxRecDepth 100000 in
theorem k_comes_l1 {G : GG} {Sh : HS} {I : HI} {R : HR} {m n t : Nat} {P : Nat → List Int32} (w : MW Sh I R m n t P) {v : SV} (hs : MS I m n v) (hnb : NB n v) : ∀ (m9 : Nat) (i : Nat) (J : HI), (i ≤ n) → (n < i + m9) → (mb1 m n P v I J i) → X G (kM G 4 0 0 (qv fun g => ∃ J : HI, g = (Sh, J, R) ∧ MS J m n (beatF P n v) ∧ frM m I J)) yX8_comes cX8_comes 2 none 0 0 2 [(1, .int (nI i)), (0, .ref m)] [] (Sh, J, R) := by
  intro m9
  induction m9 with
  | zero =>
    intro i J hi hm hb
    exact absurd hm (by omega)
  | succ m9 ih =>
    intro i J hi hm hb
    obtain ⟨hsh, hrf, hn, hn8, hru, hr6, cd9, hcd9, htx⟩ := id w
    obtain ⟨z0, z1, z6, z7, z8, z9, z10, z11, z12, z13, z14, z15, z16, z17⟩ := id hsh
    obtain ⟨y1, y6, y7, y8, y9, y10, y11, y12, y13, y14, y15, y16, y17⟩ := id hrf
    refine x_iload_n dX8_comes_2 0 rfl rfl ?_
    refine x_aload_n dX8_comes_3 1 rfl rfl ?_
    refine x_gI (v := nI n) dX8_comes_4 fl_8_79 rfl z0 ((hb.1 _ _ (by omega) (by omega)).trans hn) ?_
    refine x_icmp_ge (tgt := 40) dX8_comes_7 (by decide) (fun c_7 => ?_) (fun c_7 => ?_)
    · have c_7 : n ≤ i := (nI_leI (a := n) (b := i) (by omega) (by omega)).mp c_7
      refine x_iconst (v := nI 0) dX8_comes_40 (by decide) ?_
      refine x_istore_n (lv' := [(1, .int (nI 0)), (0, .ref m)]) dX8_comes_41 rfl (by decide) rfl ?_
      refine x_sub [0, 1] rfl ?_
      have hin : i = n := by omega
      subst hin
      exact k_comes_l2 w hs (i + 1) 0 J (by omega) (by omega) (hb.end_ hs)
    · have c_7 : ¬ n ≤ i := fun zz9 => c_7 ((nI_leI (a := n) (b := i) (by omega) (by omega)).mpr zz9)
      refine x_aload_n dX8_comes_10 1 rfl rfl ?_
      refine x_gR (b := m + 13) dX8_comes_11 fl_8_46 rfl z0 y13 ?_
      refine x_iload_n dX8_comes_14 0 rfl rfl ?_
      refine x_aload_n dX8_comes_15 1 rfl rfl ?_
      refine x_gR (b := m + 1 + 4) dX8_comes_16 fl_8_22 rfl z0 (y1 4 (by omega)) ?_
      refine x_iload_n dX8_comes_19 0 rfl rfl ?_
      refine x_ia (j := i) (v := v.1 i 4) dX8_comes_20 (z1 4 (by omega)) rfl (by omega) (by omega) ((hb.ms hs).1 i (by omega) 4 (by omega)) ?_
      refine x_if_le (tgt := 32) dX8_comes_21 (by decide) (fun c_21 => ?_) (fun c_21 => ?_)
      · refine x_iconst (v := 0) dX8_comes_32 (by decide) ?_
        refine x_is (j := i) dX8_comes_33 z13 rfl (by omega) (by omega) (fun Iq1 e_Iq1 => ?_)
        refine x_iinc (v := nI (i + 1)) (lv' := [(1, .int (nI (i + 1))), (0, .ref m)]) dX8_comes_34 0 rfl (nI_1 i) (by decide) rfl ?_
        refine x_goto (tgt := 2) dX8_comes_37 (by decide) ?_
        refine x_sub [0, 1] rfl ?_
        exact ih (i + 1) Iq1 (by omega) (by omega) (by
          rw [e_Iq1]
          refine hb.step offK.rf ?_
          unfold leF
          rw [if_neg (Int32.not_lt.mpr c_21)])
      · refine x_aload_n dX8_comes_24 1 rfl rfl ?_
        refine x_iload_n dX8_comes_25 0 rfl rfl ?_
        refine x_callV (k_mloses (G := G) (I := J) (w.fr hb.fr) (hb.ms hs) hnb (f := i) (by omega)) dX8_comes_26 crc_X8_loses vc_8_92 z0 rfl rfl rfl rfl (Nat.le_of_ble_eq_true rfl) (roomy_k (by omega) (by decide)) (Nat.le_refl _) (Nat.le_refl _) ?_
        rintro _ _ ⟨r, rfl, hr, I2, hoff, rfl⟩
        refine x_goto (tgt := 33) dX8_comes_29 (by decide) ?_
        refine x_is (j := i) dX8_comes_33 z13 rfl (by omega) (by omega) (fun Iq2 e_Iq2 => ?_)
        refine x_iinc (v := nI (i + 1)) (lv' := [(1, .int (nI (i + 1))), (0, .ref m)]) dX8_comes_34 0 rfl (nI_1 i) (by decide) rfl ?_
        refine x_goto (tgt := 2) dX8_comes_37 (by decide) ?_
        refine x_sub [0, 1] rfl ?_
        exact ih (i + 1) Iq2 (by omega) (by omega) (by
          rw [e_Iq2]
          refine hb.step hoff ?_
          unfold leF
          rw [if_pos (Int32.not_le.mp c_21), hr])

set_option maxHeartbeats 4000000 in
set_option maxRecDepth 100000 in
theorem k_comes {G : GG} {Sh : HS} {I : HI} {R : HR} {m n t : Nat} {P : Nat → List Int32} (w : MW Sh I R m n t P) {v : SV} (hs : MS I m n v) (hnb : NB n v) : AM G 4 0 0 yX8_comes cX8_comes 2 none [.ref m] (Sh, I, R) (qv fun g => ∃ J : HI, g = (Sh, J, R) ∧ MS J m n (beatF P n v) ∧ frM m I J) := by
  refine am_intro (by decide) (Nat.le_of_ble_eq_true rfl) ?_
  refine x_iconst (v := nI 0) dX8_comes_0 (by decide) ?_
  refine x_istore_n (lv' := [(1, .int (nI 0)), (0, .ref m)]) dX8_comes_1 rfl (by decide) rfl ?_
  exact k_comes_l1 w hs hnb (n + 1) 0 I (by omega) (by omega) ⟨fun _ _ _ _ => rfl, fun o ho => absurd ho (by omega)⟩

set_option maxHeartbeats 4000000 in
set_option maxRecDepth 100000 in
theorem k_raised {G : GG} {Sh : HS} {I : HI} {R : HR} {m n t : Nat} {P : Nat → List Int32} (w : MW Sh I R m n t P) {v : SV} (hs : MS I m n v) {f : Nat} (hfn : f < n) : AM G 4 0 0 yX8_raised cX8_raised 2 none [.ref m, .int (nI f)] (Sh, I, R) (qv fun g => ∃ J : HI, g = (Sh, J, R) ∧ MS J m n (spadeF P n f v) ∧ frM m I J) := by
  obtain ⟨hsh, hrf, hn, hn8, hru, hr6, cd9, hcd9, htx⟩ := id w
  obtain ⟨z0, z1, z6, z7, z8, z9, z10, z11, z12, z13, z14, z15, z16, z17⟩ := id hsh
  obtain ⟨y1, y6, y7, y8, y9, y10, y11, y12, y13, y14, y15, y16, y17⟩ := id hrf
  refine am_intro (by decide) (Nat.le_of_ble_eq_true rfl) ?_
  refine x_aload_n dX8_raised_0 0 rfl rfl ?_
  refine x_gR (b := m + 1 + 4) dX8_raised_1 fl_8_22 rfl z0 (y1 4 (by omega)) ?_
  refine x_iload_n dX8_raised_4 1 rfl rfl ?_
  refine x_bipush (v := 99) dX8_raised_5 (by decide) ?_
  refine x_aload_n dX8_raised_7 0 rfl rfl ?_
  refine x_gR (b := m + 1 + 4) dX8_raised_8 fl_8_22 rfl z0 (y1 4 (by omega)) ?_
  refine x_iload_n dX8_raised_11 1 rfl rfl ?_
  refine x_ia (j := f) (v := v.1 f 4) dX8_raised_12 (z1 4 (by omega)) rfl (by omega) (by omega) (hs.1 f hfn 4 (by omega)) ?_
  refine x_aload_n dX8_raised_13 0 rfl rfl ?_
  refine x_iload_n dX8_raised_14 1 rfl rfl ?_
  refine x_callV (k_mrises (G := G) (I := I) w hs (f := f) hfn) dX8_raised_15 crc_X8_rises vc_8_96 z0 rfl rfl rfl rfl (Nat.le_of_ble_eq_true rfl) (roomy_k (by omega) (by decide)) (Nat.le_refl _) (Nat.le_refl _) ?_
  rintro _ _ ⟨r, rfl, hr, I2, hoff, rfl⟩
  refine x_iadd dX8_raised_18 ?_
  refine x_mmin dX8_raised_19 sc_8_225 (Nat.le_of_ble_eq_true rfl) (roomy_k (by omega) (by decide)) (Nat.le_refl _) (Nat.le_refl _) ?_
  refine x_is (j := f) dX8_raised_22 (z1 4 (by omega)) rfl (by omega) (by omega) (fun Iq1 e_Iq1 => ?_)
  refine x_vret dX8_raised_23 rfl (Nat.le_refl _) (Nat.le_refl _) ?_
  have hh := mraise_ok hs hoff hfn hn8 hr
  rw [← e_Iq1] at hh
  exact ⟨_, rfl, hh.1, hh.2⟩

set_option maxHeartbeats 4000000 in
set_option maxRecDepth 100000 in
theorem k_mwaves_l {G : GG} {Sh : HS} {I : HI} {R : HR} {m n t : Nat} {P : Nat → List Int32} (w : MW Sh I R m n t P) {v : SV} (hs : MS I m n v) (hnb : NB n v) {k : Nat} (hk : k < 2147483648) : ∀ (m9 : Nat) (i : Nat) (J : HI), (i ≤ k) → (k < i + m9) → (MS J m n (passF P n v i)) → (frM m I J) → X G (kM G 5 0 0 (qv fun g => ∃ J : HI, g = (Sh, J, R) ∧ MS J m n (passF P n v k) ∧ frM m I J)) yX8_waves cX8_waves 3 none 0 0 2 [(2, .int (nI i)), (0, .ref m), (1, .int (nI k))] [] (Sh, J, R) := by
  intro m9
  induction m9 with
  | zero =>
    intro i J hi hm hs3 hfr
    exact absurd hm (by omega)
  | succ m9 ih =>
    intro i J hi hm hs3 hfr
    obtain ⟨hsh, hrf, hn, hn8, hru, hr6, cd9, hcd9, htx⟩ := id w
    obtain ⟨z0, z1, z6, z7, z8, z9, z10, z11, z12, z13, z14, z15, z16, z17⟩ := id hsh
    obtain ⟨y1, y6, y7, y8, y9, y10, y11, y12, y13, y14, y15, y16, y17⟩ := id hrf
    refine x_iload_n dX8_waves_2 0 rfl rfl ?_
    refine x_iload_n dX8_waves_3 2 rfl rfl ?_
    refine x_icmp_ge (tgt := 17) dX8_waves_4 (by decide) (fun c_4 => ?_) (fun c_4 => ?_)
    · have c_4 : k ≤ i := (nI_leI (a := k) (b := i) (by omega) (by omega)).mp c_4
      refine x_vret dX8_waves_17 rfl (Nat.le_refl _) (Nat.le_refl _) ?_
      have hin : i = k := by omega
      subst hin
      exact ⟨J, rfl, hs3, hfr⟩
    · have c_4 : ¬ k ≤ i := fun zz9 => c_4 ((nI_leI (a := k) (b := i) (by omega) (by omega)).mpr zz9)
      refine x_aload_n dX8_waves_7 1 rfl rfl ?_
      refine x_callV (k_comes (G := G) (I := J) (w.fr hfr) hs3 (hnb.pass i)) dX8_waves_8 crc_X8_comes vc_8_236 z0 rfl rfl rfl rfl (Nat.le_of_ble_eq_true rfl) (roomy_k (by omega) (by decide)) (Nat.le_refl _) (Nat.le_refl _) ?_
      rintro _ _ ⟨rfl, J2, rfl, hs2, hfr2⟩
      refine x_iinc (v := nI (i + 1)) (lv' := [(2, .int (nI (i + 1))), (0, .ref m), (1, .int (nI k))]) dX8_waves_11 0 rfl (nI_1 i) (by decide) rfl ?_
      refine x_goto (tgt := 2) dX8_waves_14 (by decide) ?_
      refine x_sub [0, 1, 2] rfl ?_
      exact ih (i + 1) J2 (by omega) (by omega) hs2 (hfr.tr hfr2)

set_option maxHeartbeats 4000000 in
set_option maxRecDepth 100000 in
theorem k_mwaves {G : GG} {Sh : HS} {I : HI} {R : HR} {m n t : Nat} {P : Nat → List Int32} (w : MW Sh I R m n t P) {v : SV} (hs : MS I m n v) (hnb : NB n v) {k : Nat} (hk : k < 2147483648) : AM G 5 0 0 yX8_waves cX8_waves 3 none [.ref m, .int (nI k)] (Sh, I, R) (qv fun g => ∃ J : HI, g = (Sh, J, R) ∧ MS J m n (passF P n v k) ∧ frM m I J) := by
  refine am_intro (by decide) (Nat.le_of_ble_eq_true rfl) ?_
  refine x_iconst (v := nI 0) dX8_waves_0 (by decide) ?_
  refine x_istore_n (lv' := [(2, .int (nI 0)), (0, .ref m), (1, .int (nI k))]) dX8_waves_1 rfl (by decide) rfl ?_
  exact k_mwaves_l w hs hnb hk (k + 1) 0 I (by omega) (by omega) hs frM.rf

set_option maxHeartbeats 4000000 in
set_option maxRecDepth 100000 in
theorem k_mstanding_l {G : GG} {Sh : HS} {I : HI} {R : HR} {m n t : Nat} {P : Nat → List Int32} (w : MW Sh I R m n t P) {v : SV} (hs : MS I m n v) : ∀ (m9 : Nat) (i : Nat) (acc : Int32), (i ≤ n) → (n < i + m9) → (acc = standF i v) → X G (kM G 1 0 0 (qi fun r g => r = standF n v ∧ g = (Sh, I, R))) yX8_standing cX8_standing 3 (some .int) 0 0 4 [(2, .int (nI i)), (1, .int acc), (0, .ref m)] [] (Sh, I, R) := by
  intro m9
  induction m9 with
  | zero =>
    intro i acc hi hm hacc
    exact absurd hm (by omega)
  | succ m9 ih =>
    intro i acc hi hm hacc
    obtain ⟨hsh, hrf, hn, hn8, hru, hr6, cd9, hcd9, htx⟩ := id w
    obtain ⟨z0, z1, z6, z7, z8, z9, z10, z11, z12, z13, z14, z15, z16, z17⟩ := id hsh
    obtain ⟨y1, y6, y7, y8, y9, y10, y11, y12, y13, y14, y15, y16, y17⟩ := id hrf
    refine x_iload_n dX8_standing_4 0 rfl rfl ?_
    refine x_aload_n dX8_standing_5 2 rfl rfl ?_
    refine x_gI (v := nI n) dX8_standing_6 fl_8_79 rfl z0 hn ?_
    refine x_icmp_ge (tgt := 33) dX8_standing_9 (by decide) (fun c_9 => ?_) (fun c_9 => ?_)
    · have c_9 : n ≤ i := (nI_leI (a := n) (b := i) (by omega) (by omega)).mp c_9
      refine x_iload_n dX8_standing_33 1 rfl rfl ?_
      refine x_iret dX8_standing_34 rfl (Nat.le_refl _) (Nat.le_refl _) ?_
      have hin : i = n := by omega
      subst hin
      exact ⟨hacc, rfl⟩
    · have c_9 : ¬ n ≤ i := fun zz9 => c_9 ((nI_leI (a := n) (b := i) (by omega) (by omega)).mpr zz9)
      refine x_aload_n dX8_standing_12 2 rfl rfl ?_
      refine x_gR (b := m + 1 + 4) dX8_standing_13 fl_8_22 rfl z0 (y1 4 (by omega)) ?_
      refine x_iload_n dX8_standing_16 0 rfl rfl ?_
      refine x_ia (j := i) (v := v.1 i 4) dX8_standing_17 (z1 4 (by omega)) rfl (by omega) (by omega) (hs.1 i (by omega) 4 (by omega)) ?_
      refine x_if_le (tgt := 27) dX8_standing_18 (by decide) (fun c_18 => ?_) (fun c_18 => ?_)
      · refine x_iinc (v := nI (i + 1)) (lv' := [(2, .int (nI (i + 1))), (1, .int acc), (0, .ref m)]) dX8_standing_27 0 rfl (nI_1 i) (by decide) rfl ?_
        refine x_goto (tgt := 4) dX8_standing_30 (by decide) ?_
        refine x_sub [0, 1, 2] rfl ?_
        exact ih (i + 1) acc (by omega) (by omega) (by
          unfold standF at *
          rw [fd_s, ← hacc]
          rw [if_neg (Int32.not_lt.mpr c_18)])
      · refine x_iload_n dX8_standing_21 1 rfl rfl ?_
        refine x_iconst (v := 1) dX8_standing_22 (by decide) ?_
        refine x_iload_n dX8_standing_23 0 rfl rfl ?_
        refine x_ishl dX8_standing_24 ?_
        refine x_ior dX8_standing_25 ?_
        refine x_topi (fun xq1 e_xq1 => ?_)
        refine x_istore_n (lv' := [(1, .int xq1), (2, .int (nI i)), (0, .ref m)]) dX8_standing_26 rfl (by decide) rfl ?_
        refine x_iinc (v := nI (i + 1)) (lv' := [(2, .int (nI (i + 1))), (1, .int xq1), (0, .ref m)]) dX8_standing_27 1 rfl (nI_1 i) (by decide) rfl ?_
        refine x_goto (tgt := 4) dX8_standing_30 (by decide) ?_
        refine x_sub [0, 1, 2] rfl ?_
        exact ih (i + 1) xq1 (by omega) (by omega) (by
          unfold standF at *
          rw [fd_s, ← hacc]
          rw [if_pos (Int32.not_le.mp c_18)]; exact e_xq1)

set_option maxHeartbeats 4000000 in
set_option maxRecDepth 100000 in
theorem k_mstanding {G : GG} {Sh : HS} {I : HI} {R : HR} {m n t : Nat} {P : Nat → List Int32} (w : MW Sh I R m n t P) {v : SV} (hs : MS I m n v) : AM G 1 0 0 yX8_standing cX8_standing 3 (some .int) [.ref m] (Sh, I, R) (qi fun r g => r = standF n v ∧ g = (Sh, I, R)) := by
  refine am_intro (by decide) (Nat.le_of_ble_eq_true rfl) ?_
  refine x_iconst (v := 0) dX8_standing_0 (by decide) ?_
  refine x_istore_n (lv' := [(1, .int 0), (0, .ref m)]) dX8_standing_1 rfl (by decide) rfl ?_
  refine x_iconst (v := nI 0) dX8_standing_2 (by decide) ?_
  refine x_istore_n (lv' := [(2, .int (nI 0)), (1, .int 0), (0, .ref m)]) dX8_standing_3 rfl (by decide) rfl ?_
  exact k_mstanding_l w hs (n + 1) 0 0 (by omega) (by omega) rfl

set_option maxHeartbeats 4000000 in
set_option maxRecDepth 100000 in
theorem k_mbay_l {G : GG} {Sh : HS} {I : HI} {R : HR} {m n t : Nat} {P : Nat → List Int32} (w : MW Sh I R m n t P) {v : SV} (hs : MS I m n v) : ∀ (m9 : Nat) (i : Nat) (acc qcc : Int32), (i ≤ n) → (n < i + m9) → (acc = bayM v i) → (qcc = bayQ v i) → X G (kM G 1 0 0 (qi fun r g => r = bayF n v ∧ g = (Sh, I, R))) yX8_bay cX8_bay 5 (some .int) 0 0 6 [(3, .int (nI i)), (2, .int qcc), (1, .int acc), (0, .ref m)] [] (Sh, I, R) := by
  intro m9
  induction m9 with
  | zero =>
    intro i acc qcc hi hm hacc hqcc
    exact absurd hm (by omega)
  | succ m9 ih =>
    intro i acc qcc hi hm hacc hqcc
    obtain ⟨hsh, hrf, hn, hn8, hru, hr6, cd9, hcd9, htx⟩ := id w
    obtain ⟨z0, z1, z6, z7, z8, z9, z10, z11, z12, z13, z14, z15, z16, z17⟩ := id hsh
    obtain ⟨y1, y6, y7, y8, y9, y10, y11, y12, y13, y14, y15, y16, y17⟩ := id hrf
    refine x_iload_n dX8_bay_6 0 rfl rfl ?_
    refine x_aload_n dX8_bay_7 3 rfl rfl ?_
    refine x_gI (v := nI n) dX8_bay_8 fl_8_79 rfl z0 hn ?_
    refine x_icmp_ge (tgt := 62) dX8_bay_11 (by decide) (fun c_11 => ?_) (fun c_11 => ?_)
    · have c_11 : n ≤ i := (nI_leI (a := n) (b := i) (by omega) (by omega)).mp c_11
      refine x_iload_n dX8_bay_62 2 rfl rfl ?_
      refine x_if_eq (tgt := 70) dX8_bay_63 (by decide) (fun c_63 => ?_) (fun c_63 => ?_)
      · refine x_iload_n dX8_bay_70 1 rfl rfl ?_
        refine x_istore_n (lv' := [(3, .int qcc), (2, .int qcc), (1, .int acc), (0, .ref m)]) dX8_bay_71 rfl (by decide) rfl ?_
        refine x_iload_n dX8_bay_72 0 rfl rfl ?_
        refine x_if_le (tgt := 80) dX8_bay_73 (by decide) (fun c_73 => ?_) (fun c_73 => ?_)
        · refine x_iload_n dX8_bay_80 0 rfl rfl ?_
          refine x_if_ge (tgt := 88) dX8_bay_81 (by decide) (fun c_81 => ?_) (fun c_81 => ?_)
          · refine x_iconst (v := (-1)) dX8_bay_88 (by decide) ?_
            refine x_iret dX8_bay_89 rfl (Nat.le_refl _) (Nat.le_refl _) ?_
            have hin : i = n := by omega
            subst hin
            refine ⟨?_, rfl⟩
            have hL : (if ¬ acc = 0 then acc else qcc) = qcc := if_neg (fun z => z c_63)
            unfold bayF bayX
            rw [← hacc, ← hqcc, hL]
            have hz : qcc = 0 := Int32.le_antisymm c_73 c_81
            rw [if_pos hz]
          · refine x_iconst (v := 1) dX8_bay_84 (by decide) ?_
            refine x_goto (tgt := 89) dX8_bay_85 (by decide) ?_
            refine x_iret dX8_bay_89 rfl (Nat.le_refl _) (Nat.le_refl _) ?_
            have hin : i = n := by omega
            subst hin
            refine ⟨?_, rfl⟩
            have hL : (if ¬ acc = 0 then acc else qcc) = qcc := if_neg (fun z => z c_63)
            unfold bayF bayX
            rw [← hacc, ← hqcc, hL]
            rw [if_neg (fun z => c_81 (by rw [z]; decide)), if_neg (Int32.not_lt.mpr c_73)]
        · refine x_iconst (v := 0) dX8_bay_76 (by decide) ?_
          refine x_goto (tgt := 89) dX8_bay_77 (by decide) ?_
          refine x_iret dX8_bay_89 rfl (Nat.le_refl _) (Nat.le_refl _) ?_
          have hin : i = n := by omega
          subst hin
          refine ⟨?_, rfl⟩
          have hL : (if ¬ acc = 0 then acc else qcc) = qcc := if_neg (fun z => z c_63)
          unfold bayF bayX
          rw [← hacc, ← hqcc, hL]
          rw [if_neg (fun z => absurd (Int32.not_le.mp c_73) (by rw [z]; decide)), if_pos (Int32.not_le.mp c_73)]
      · refine x_iload_n dX8_bay_66 2 rfl rfl ?_
        refine x_goto (tgt := 71) dX8_bay_67 (by decide) ?_
        refine x_istore_n (lv' := [(3, .int acc), (2, .int qcc), (1, .int acc), (0, .ref m)]) dX8_bay_71 rfl (by decide) rfl ?_
        refine x_iload_n dX8_bay_72 0 rfl rfl ?_
        refine x_if_le (tgt := 80) dX8_bay_73 (by decide) (fun c_73 => ?_) (fun c_73 => ?_)
        · refine x_iload_n dX8_bay_80 0 rfl rfl ?_
          refine x_if_ge (tgt := 88) dX8_bay_81 (by decide) (fun c_81 => ?_) (fun c_81 => ?_)
          · refine x_iconst (v := (-1)) dX8_bay_88 (by decide) ?_
            refine x_iret dX8_bay_89 rfl (Nat.le_refl _) (Nat.le_refl _) ?_
            have hin : i = n := by omega
            subst hin
            refine ⟨?_, rfl⟩
            have hL : (if ¬ acc = 0 then acc else qcc) = acc := if_pos c_63
            unfold bayF bayX
            rw [← hacc, ← hqcc, hL]
            have hz : acc = 0 := Int32.le_antisymm c_73 c_81
            rw [if_pos hz]
          · refine x_iconst (v := 1) dX8_bay_84 (by decide) ?_
            refine x_goto (tgt := 89) dX8_bay_85 (by decide) ?_
            refine x_iret dX8_bay_89 rfl (Nat.le_refl _) (Nat.le_refl _) ?_
            have hin : i = n := by omega
            subst hin
            refine ⟨?_, rfl⟩
            have hL : (if ¬ acc = 0 then acc else qcc) = acc := if_pos c_63
            unfold bayF bayX
            rw [← hacc, ← hqcc, hL]
            rw [if_neg (fun z => c_81 (by rw [z]; decide)), if_neg (Int32.not_lt.mpr c_73)]
        · refine x_iconst (v := 0) dX8_bay_76 (by decide) ?_
          refine x_goto (tgt := 89) dX8_bay_77 (by decide) ?_
          refine x_iret dX8_bay_89 rfl (Nat.le_refl _) (Nat.le_refl _) ?_
          have hin : i = n := by omega
          subst hin
          refine ⟨?_, rfl⟩
          have hL : (if ¬ acc = 0 then acc else qcc) = acc := if_pos c_63
          unfold bayF bayX
          rw [← hacc, ← hqcc, hL]
          rw [if_neg (fun z => absurd (Int32.not_le.mp c_73) (by rw [z]; decide)), if_pos (Int32.not_le.mp c_73)]
    · have c_11 : ¬ n ≤ i := fun zz9 => c_11 ((nI_leI (a := n) (b := i) (by omega) (by omega)).mpr zz9)
      refine x_aload_n dX8_bay_14 3 rfl rfl ?_
      refine x_gR (b := m + 1 + 3) dX8_bay_15 fl_8_19 rfl z0 (y1 3 (by omega)) ?_
      refine x_iload_n dX8_bay_18 0 rfl rfl ?_
      refine x_ia (j := i) (v := v.1 i 3) dX8_bay_19 (z1 3 (by omega)) rfl (by omega) (by omega) (hs.1 i (by omega) 3 (by omega)) ?_
      refine x_if_ne (tgt := 27) dX8_bay_20 (by decide) (fun c_20 => ?_) (fun c_20 => ?_)
      · refine x_iconst (v := (-1)) dX8_bay_27 (by decide) ?_
        refine x_istore (lv' := [(4, .int (-1)), (3, .int (nI i)), (2, .int qcc), (1, .int acc), (0, .ref m)]) dX8_bay_28 (by decide) rfl ?_
        refine x_aload_n dX8_bay_30 4 rfl rfl ?_
        refine x_gR (b := m + 1 + 4) dX8_bay_31 fl_8_22 rfl z0 (y1 4 (by omega)) ?_
        refine x_iload_n dX8_bay_34 1 rfl rfl ?_
        refine x_ia (j := i) (v := v.1 i 4) dX8_bay_35 (z1 4 (by omega)) rfl (by omega) (by omega) (hs.1 i (by omega) 4 (by omega)) ?_
        refine x_if_le (tgt := 44) dX8_bay_36 (by decide) (fun c_36 => ?_) (fun c_36 => ?_)
        · refine x_iload_n dX8_bay_44 2 rfl rfl ?_
          refine x_iload dX8_bay_45 0 rfl ?_
          refine x_aload_n dX8_bay_47 4 rfl rfl ?_
          refine x_gR (b := m + 1 + 4) dX8_bay_48 fl_8_22 rfl z0 (y1 4 (by omega)) ?_
          refine x_iload_n dX8_bay_51 1 rfl rfl ?_
          refine x_ia (j := i) (v := v.1 i 4) dX8_bay_52 (z1 4 (by omega)) rfl (by omega) (by omega) (hs.1 i (by omega) 4 (by omega)) ?_
          refine x_imul dX8_bay_53 ?_
          refine x_iadd dX8_bay_54 ?_
          refine x_topi (fun xq1 e_xq1 => ?_)
          refine x_istore_n (lv' := [(2, .int xq1), (4, .int (-1)), (3, .int (nI i)), (1, .int acc), (0, .ref m)]) dX8_bay_55 rfl (by decide) rfl ?_
          refine x_iinc (v := nI (i + 1)) (lv' := [(3, .int (nI (i + 1))), (2, .int xq1), (4, .int (-1)), (1, .int acc), (0, .ref m)]) dX8_bay_56 2 rfl (nI_1 i) (by decide) rfl ?_
          refine x_goto (tgt := 6) dX8_bay_59 (by decide) ?_
          refine x_sub [0, 1, 3, 4] rfl ?_
          have hsd : sideF v i = -1 := by
            unfold sideF
            rw [if_neg c_20]
          exact ih (i + 1) acc xq1 (by omega) (by omega) (by
            unfold bayM at *
            rw [fd_s, ← hacc]
            rw [if_neg (Int32.not_lt.mpr c_36)]) (by
            unfold bayQ at *
            rw [fd_s, ← hqcc, hsd]
            exact e_xq1)
        · refine x_iload_n dX8_bay_39 3 rfl rfl ?_
          refine x_iload dX8_bay_40 0 rfl ?_
          refine x_iadd dX8_bay_42 ?_
          refine x_topi (fun xq2 e_xq2 => ?_)
          refine x_istore_n (lv' := [(1, .int xq2), (4, .int (-1)), (3, .int (nI i)), (2, .int qcc), (0, .ref m)]) dX8_bay_43 rfl (by decide) rfl ?_
          refine x_iload_n dX8_bay_44 3 rfl rfl ?_
          refine x_iload dX8_bay_45 1 rfl ?_
          refine x_aload_n dX8_bay_47 4 rfl rfl ?_
          refine x_gR (b := m + 1 + 4) dX8_bay_48 fl_8_22 rfl z0 (y1 4 (by omega)) ?_
          refine x_iload_n dX8_bay_51 2 rfl rfl ?_
          refine x_ia (j := i) (v := v.1 i 4) dX8_bay_52 (z1 4 (by omega)) rfl (by omega) (by omega) (hs.1 i (by omega) 4 (by omega)) ?_
          refine x_imul dX8_bay_53 ?_
          refine x_iadd dX8_bay_54 ?_
          refine x_topi (fun xq3 e_xq3 => ?_)
          refine x_istore_n (lv' := [(2, .int xq3), (1, .int xq2), (4, .int (-1)), (3, .int (nI i)), (0, .ref m)]) dX8_bay_55 rfl (by decide) rfl ?_
          refine x_iinc (v := nI (i + 1)) (lv' := [(3, .int (nI (i + 1))), (2, .int xq3), (1, .int xq2), (4, .int (-1)), (0, .ref m)]) dX8_bay_56 3 rfl (nI_1 i) (by decide) rfl ?_
          refine x_goto (tgt := 6) dX8_bay_59 (by decide) ?_
          refine x_sub [0, 1, 2, 4] rfl ?_
          have hsd : sideF v i = -1 := by
            unfold sideF
            rw [if_neg c_20]
          exact ih (i + 1) xq2 xq3 (by omega) (by omega) (by
            unfold bayM at *
            rw [fd_s, ← hacc]
            rw [if_pos (Int32.not_le.mp c_36), hsd]; exact e_xq2) (by
            unfold bayQ at *
            rw [fd_s, ← hqcc, hsd]
            exact e_xq3)
      · refine x_iconst (v := 1) dX8_bay_23 (by decide) ?_
        refine x_goto (tgt := 28) dX8_bay_24 (by decide) ?_
        refine x_istore (lv' := [(4, .int 1), (3, .int (nI i)), (2, .int qcc), (1, .int acc), (0, .ref m)]) dX8_bay_28 (by decide) rfl ?_
        refine x_aload_n dX8_bay_30 4 rfl rfl ?_
        refine x_gR (b := m + 1 + 4) dX8_bay_31 fl_8_22 rfl z0 (y1 4 (by omega)) ?_
        refine x_iload_n dX8_bay_34 1 rfl rfl ?_
        refine x_ia (j := i) (v := v.1 i 4) dX8_bay_35 (z1 4 (by omega)) rfl (by omega) (by omega) (hs.1 i (by omega) 4 (by omega)) ?_
        refine x_if_le (tgt := 44) dX8_bay_36 (by decide) (fun c_36 => ?_) (fun c_36 => ?_)
        · refine x_iload_n dX8_bay_44 2 rfl rfl ?_
          refine x_iload dX8_bay_45 0 rfl ?_
          refine x_aload_n dX8_bay_47 4 rfl rfl ?_
          refine x_gR (b := m + 1 + 4) dX8_bay_48 fl_8_22 rfl z0 (y1 4 (by omega)) ?_
          refine x_iload_n dX8_bay_51 1 rfl rfl ?_
          refine x_ia (j := i) (v := v.1 i 4) dX8_bay_52 (z1 4 (by omega)) rfl (by omega) (by omega) (hs.1 i (by omega) 4 (by omega)) ?_
          refine x_imul dX8_bay_53 ?_
          refine x_iadd dX8_bay_54 ?_
          refine x_topi (fun xq4 e_xq4 => ?_)
          refine x_istore_n (lv' := [(2, .int xq4), (4, .int 1), (3, .int (nI i)), (1, .int acc), (0, .ref m)]) dX8_bay_55 rfl (by decide) rfl ?_
          refine x_iinc (v := nI (i + 1)) (lv' := [(3, .int (nI (i + 1))), (2, .int xq4), (4, .int 1), (1, .int acc), (0, .ref m)]) dX8_bay_56 2 rfl (nI_1 i) (by decide) rfl ?_
          refine x_goto (tgt := 6) dX8_bay_59 (by decide) ?_
          refine x_sub [0, 1, 3, 4] rfl ?_
          have hsd : sideF v i = 1 := by
            unfold sideF
            rw [if_pos c_20]
          exact ih (i + 1) acc xq4 (by omega) (by omega) (by
            unfold bayM at *
            rw [fd_s, ← hacc]
            rw [if_neg (Int32.not_lt.mpr c_36)]) (by
            unfold bayQ at *
            rw [fd_s, ← hqcc, hsd]
            exact e_xq4)
        · refine x_iload_n dX8_bay_39 3 rfl rfl ?_
          refine x_iload dX8_bay_40 0 rfl ?_
          refine x_iadd dX8_bay_42 ?_
          refine x_topi (fun xq5 e_xq5 => ?_)
          refine x_istore_n (lv' := [(1, .int xq5), (4, .int 1), (3, .int (nI i)), (2, .int qcc), (0, .ref m)]) dX8_bay_43 rfl (by decide) rfl ?_
          refine x_iload_n dX8_bay_44 3 rfl rfl ?_
          refine x_iload dX8_bay_45 1 rfl ?_
          refine x_aload_n dX8_bay_47 4 rfl rfl ?_
          refine x_gR (b := m + 1 + 4) dX8_bay_48 fl_8_22 rfl z0 (y1 4 (by omega)) ?_
          refine x_iload_n dX8_bay_51 2 rfl rfl ?_
          refine x_ia (j := i) (v := v.1 i 4) dX8_bay_52 (z1 4 (by omega)) rfl (by omega) (by omega) (hs.1 i (by omega) 4 (by omega)) ?_
          refine x_imul dX8_bay_53 ?_
          refine x_iadd dX8_bay_54 ?_
          refine x_topi (fun xq6 e_xq6 => ?_)
          refine x_istore_n (lv' := [(2, .int xq6), (1, .int xq5), (4, .int 1), (3, .int (nI i)), (0, .ref m)]) dX8_bay_55 rfl (by decide) rfl ?_
          refine x_iinc (v := nI (i + 1)) (lv' := [(3, .int (nI (i + 1))), (2, .int xq6), (1, .int xq5), (4, .int 1), (0, .ref m)]) dX8_bay_56 3 rfl (nI_1 i) (by decide) rfl ?_
          refine x_goto (tgt := 6) dX8_bay_59 (by decide) ?_
          refine x_sub [0, 1, 2, 4] rfl ?_
          have hsd : sideF v i = 1 := by
            unfold sideF
            rw [if_pos c_20]
          exact ih (i + 1) xq5 xq6 (by omega) (by omega) (by
            unfold bayM at *
            rw [fd_s, ← hacc]
            rw [if_pos (Int32.not_le.mp c_36), hsd]; exact e_xq5) (by
            unfold bayQ at *
            rw [fd_s, ← hqcc, hsd]
            exact e_xq6)

set_option maxHeartbeats 4000000 in
set_option maxRecDepth 100000 in
theorem k_mbay {G : GG} {Sh : HS} {I : HI} {R : HR} {m n t : Nat} {P : Nat → List Int32} (w : MW Sh I R m n t P) {v : SV} (hs : MS I m n v) : AM G 1 0 0 yX8_bay cX8_bay 5 (some .int) [.ref m] (Sh, I, R) (qi fun r g => r = bayF n v ∧ g = (Sh, I, R)) := by
  refine am_intro (by decide) (Nat.le_of_ble_eq_true rfl) ?_
  refine x_iconst (v := 0) dX8_bay_0 (by decide) ?_
  refine x_istore_n (lv' := [(1, .int 0), (0, .ref m)]) dX8_bay_1 rfl (by decide) rfl ?_
  refine x_iconst (v := 0) dX8_bay_2 (by decide) ?_
  refine x_istore_n (lv' := [(2, .int 0), (1, .int 0), (0, .ref m)]) dX8_bay_3 rfl (by decide) rfl ?_
  refine x_iconst (v := nI 0) dX8_bay_4 (by decide) ?_
  refine x_istore_n (lv' := [(3, .int (nI 0)), (2, .int 0), (1, .int 0), (0, .ref m)]) dX8_bay_5 rfl (by decide) rfl ?_
  refine x_sub [0, 1, 2, 3] rfl ?_
  exact k_mbay_l w hs (n + 1) 0 0 0 (by omega) (by omega) rfl rfl

theorem neg1_mul {x : Int32} : -1 * x = -x := by
  rw [Int32.neg_mul, Int32.one_mul]

set_option maxHeartbeats 4000000 in
set_option maxRecDepth 100000 in
theorem k_mvalueOf_l {G : GG} {Sh : HS} {I : HI} {R : HR} {m n t : Nat} {P : Nat → List Int32} (w : MW Sh I R m n t P) {v : SV} (hs : MS I m n v) {r : Int32} : ∀ (m9 : Nat) (i : Nat) (acc : Int32) (J : HI), (i ≤ n) → (n < i + m9) → (acc = valueG P n r v i) → (offK m I J) → X G (kM G 3 0 0 (qi fun x g => x = valueF P n r v ∧ ∃ I2 : HI, offK m I I2 ∧ g = (Sh, I2, R))) yX8_valueOf cX8_valueOf 4 (some .int) 0 0 4 [(3, .int (nI i)), (2, .int acc), (0, .ref m), (1, .int r)] [] (Sh, J, R) := by
  intro m9
  induction m9 with
  | zero =>
    intro i acc J hi hm hacc hoff
    exact absurd hm (by omega)
  | succ m9 ih =>
    intro i acc J hi hm hacc hoff
    obtain ⟨hsh, hrf, hn, hn8, hru, hr6, cd9, hcd9, htx⟩ := id w
    obtain ⟨z0, z1, z6, z7, z8, z9, z10, z11, z12, z13, z14, z15, z16, z17⟩ := id hsh
    obtain ⟨y1, y6, y7, y8, y9, y10, y11, y12, y13, y14, y15, y16, y17⟩ := id hrf
    refine x_iload_n dX8_valueOf_4 0 rfl rfl ?_
    refine x_aload_n dX8_valueOf_5 2 rfl rfl ?_
    refine x_gI (v := nI n) dX8_valueOf_6 fl_8_79 rfl z0 ((hoff _ _ (by omega)).trans hn) ?_
    refine x_icmp_ge (tgt := 54) dX8_valueOf_9 (by decide) (fun c_9 => ?_) (fun c_9 => ?_)
    · have c_9 : n ≤ i := (nI_leI (a := n) (b := i) (by omega) (by omega)).mp c_9
      refine x_iload_n dX8_valueOf_54 1 rfl rfl ?_
      refine x_iret dX8_valueOf_55 rfl (Nat.le_refl _) (Nat.le_refl _) ?_
      have hin : i = n := by omega
      subst hin
      exact ⟨hacc, J, hoff, rfl⟩
    · have c_9 : ¬ n ≤ i := fun zz9 => c_9 ((nI_leI (a := n) (b := i) (by omega) (by omega)).mpr zz9)
      refine x_aload_n dX8_valueOf_12 2 rfl rfl ?_
      refine x_gR (b := m + 1 + 4) dX8_valueOf_13 fl_8_22 rfl z0 (y1 4 (by omega)) ?_
      refine x_iload_n dX8_valueOf_16 0 rfl rfl ?_
      refine x_ia (j := i) (v := v.1 i 4) dX8_valueOf_17 (z1 4 (by omega)) rfl (by omega) (by omega) ((hs.off hoff).1 i (by omega) 4 (by omega)) ?_
      refine x_if_le (tgt := 48) dX8_valueOf_18 (by decide) (fun c_18 => ?_) (fun c_18 => ?_)
      · refine x_iinc (v := nI (i + 1)) (lv' := [(3, .int (nI (i + 1))), (2, .int acc), (0, .ref m), (1, .int r)]) dX8_valueOf_48 0 rfl (nI_1 i) (by decide) rfl ?_
        refine x_goto (tgt := 4) dX8_valueOf_51 (by decide) ?_
        refine x_sub [0, 1, 2, 3] rfl ?_
        exact ih (i + 1) acc J (by omega) (by omega) (by
          unfold valueG at *
          rw [fd_s, ← hacc]
          rw [if_neg (Int32.not_lt.mpr c_18)]) hoff
      · refine x_iload_n dX8_valueOf_21 1 rfl rfl ?_
        refine x_aload_n dX8_valueOf_22 2 rfl rfl ?_
        refine x_gR (b := m + 1 + 3) dX8_valueOf_23 fl_8_19 rfl z0 (y1 3 (by omega)) ?_
        refine x_iload_n dX8_valueOf_26 0 rfl rfl ?_
        refine x_ia (j := i) (v := v.1 i 3) dX8_valueOf_27 (z1 3 (by omega)) rfl (by omega) (by omega) ((hs.off hoff).1 i (by omega) 3 (by omega)) ?_
        refine x_iload_n dX8_valueOf_28 3 rfl rfl ?_
        refine x_icmp_ne (tgt := 36) dX8_valueOf_29 (by decide) (fun c_29 => ?_) (fun c_29 => ?_)
        · refine x_iconst (v := (-1)) dX8_valueOf_36 (by decide) ?_
          refine x_aload_n dX8_valueOf_37 2 rfl rfl ?_
          refine x_iconst (v := nI 2) dX8_valueOf_38 (by decide) ?_
          refine x_iload_n dX8_valueOf_39 0 rfl rfl ?_
          refine x_bipush (v := 99) dX8_valueOf_40 (by decide) ?_
          refine x_callV (k_says (G := G) (I := J) (w.fr hoff.fr) (f := i) (q := 2) (by omega) (by omega) (mo := 99)) dX8_valueOf_42 crc_X8_says vc_8_233 z0 rfl rfl rfl rfl (Nat.le_of_ble_eq_true rfl) (roomy_k (by omega) (by decide)) (Nat.le_refl _) (Nat.le_refl _) ?_
          rintro _ _ ⟨x9, rfl, hx9, J2, hoff2, rfl⟩
          have hx9 : x9 = woF P n v i := by
            rw [hx9, mx_mn (by decide), cxM_cF (hs.off hoff) (by omega)]
            rfl
          refine x_imul dX8_valueOf_45 ?_
          refine x_iadd dX8_valueOf_46 ?_
          refine x_topi (fun xq1 e_xq1 => ?_)
          refine x_istore_n (lv' := [(2, .int xq1), (3, .int (nI i)), (0, .ref m), (1, .int r)]) dX8_valueOf_47 rfl (by decide) rfl ?_
          refine x_iinc (v := nI (i + 1)) (lv' := [(3, .int (nI (i + 1))), (2, .int xq1), (0, .ref m), (1, .int r)]) dX8_valueOf_48 1 rfl (nI_1 i) (by decide) rfl ?_
          refine x_goto (tgt := 4) dX8_valueOf_51 (by decide) ?_
          refine x_sub [0, 1, 2, 3] rfl ?_
          exact ih (i + 1) xq1 J2 (by omega) (by omega) (by
            unfold valueG at *
            rw [fd_s, ← hacc]
            rw [if_pos (Int32.not_le.mp c_18), if_neg c_29, e_xq1, hx9, neg1_mul]) (hoff.tr hoff2)
        · refine x_iconst (v := 1) dX8_valueOf_32 (by decide) ?_
          refine x_goto (tgt := 37) dX8_valueOf_33 (by decide) ?_
          refine x_aload_n dX8_valueOf_37 2 rfl rfl ?_
          refine x_iconst (v := nI 2) dX8_valueOf_38 (by decide) ?_
          refine x_iload_n dX8_valueOf_39 0 rfl rfl ?_
          refine x_bipush (v := 99) dX8_valueOf_40 (by decide) ?_
          refine x_callV (k_says (G := G) (I := J) (w.fr hoff.fr) (f := i) (q := 2) (by omega) (by omega) (mo := 99)) dX8_valueOf_42 crc_X8_says vc_8_233 z0 rfl rfl rfl rfl (Nat.le_of_ble_eq_true rfl) (roomy_k (by omega) (by decide)) (Nat.le_refl _) (Nat.le_refl _) ?_
          rintro _ _ ⟨x9, rfl, hx9, J2, hoff2, rfl⟩
          have hx9 : x9 = woF P n v i := by
            rw [hx9, mx_mn (by decide), cxM_cF (hs.off hoff) (by omega)]
            rfl
          refine x_imul dX8_valueOf_45 ?_
          refine x_iadd dX8_valueOf_46 ?_
          refine x_topi (fun xq2 e_xq2 => ?_)
          refine x_istore_n (lv' := [(2, .int xq2), (3, .int (nI i)), (0, .ref m), (1, .int r)]) dX8_valueOf_47 rfl (by decide) rfl ?_
          refine x_iinc (v := nI (i + 1)) (lv' := [(3, .int (nI (i + 1))), (2, .int xq2), (0, .ref m), (1, .int r)]) dX8_valueOf_48 1 rfl (nI_1 i) (by decide) rfl ?_
          refine x_goto (tgt := 4) dX8_valueOf_51 (by decide) ?_
          refine x_sub [0, 1, 2, 3] rfl ?_
          exact ih (i + 1) xq2 J2 (by omega) (by omega) (by
            unfold valueG at *
            rw [fd_s, ← hacc]
            rw [if_pos (Int32.not_le.mp c_18), if_pos c_29, e_xq2, hx9, Int32.one_mul]) (hoff.tr hoff2)

set_option maxHeartbeats 4000000 in
set_option maxRecDepth 100000 in
theorem k_mvalueOf {G : GG} {Sh : HS} {I : HI} {R : HR} {m n t : Nat} {P : Nat → List Int32} (w : MW Sh I R m n t P) {v : SV} (hs : MS I m n v) {r : Int32} : AM G 3 0 0 yX8_valueOf cX8_valueOf 4 (some .int) [.ref m, .int r] (Sh, I, R) (qi fun x g => x = valueF P n r v ∧ ∃ I2 : HI, offK m I I2 ∧ g = (Sh, I2, R)) := by
  refine am_intro (by decide) (Nat.le_of_ble_eq_true rfl) ?_
  refine x_iconst (v := 0) dX8_valueOf_0 (by decide) ?_
  refine x_istore_n (lv' := [(2, .int 0), (0, .ref m), (1, .int r)]) dX8_valueOf_1 rfl (by decide) rfl ?_
  refine x_iconst (v := nI 0) dX8_valueOf_2 (by decide) ?_
  refine x_istore_n (lv' := [(3, .int (nI 0)), (2, .int 0), (0, .ref m), (1, .int r)]) dX8_valueOf_3 rfl (by decide) rfl ?_
  refine x_sub [0, 1, 2, 3] rfl ?_
  exact k_mvalueOf_l w hs (n + 1) 0 0 I (by omega) (by omega) rfl offK.rf

