/-! THE REFERENCE'S UPDATES -/
def FrM (m : Nat) (I J : HI) : Prop := ∀ a k, ¬ (m ≤ a ∧ a < m + 18) → J a k = I a k
theorem FrM.rf {m : Nat} {I : HI} : FrM m I I := fun _ _ _ => rfl
theorem FrM.tr {m : Nat} {I J J2 : HI} (h : FrM m I J) (h2 : FrM m J J2) : FrM m I J2 := fun a k q => (h2 a k q).trans (h a k q)
theorem pvM.fm {m : Nat} {I J : HI} (h : pvM m I J) : FrM m I J := fun a k q => h a k (by unfold prM; omega)
def updM (m : Nat) (Sh : HS) (I : HI) (R : HR) (val : Int32) (σ : SG) : Int32 → AH → Prop := fun r g => r = val ∧ ∃ J : HI, g = (Sh, J, R) ∧ MI m Sh J R σ ∧ FrM m I J
theorem qry_updM {m : Nat} {Sh : HS} {I : HI} {R : HR} {val : Int32} {σ : SG} (h : MI m Sh I R σ) {r : Int32} {g : AH} (q : qryM m Sh I R val r g) : updM m Sh I R val σ r g := by
  obtain ⟨h1, J, h2, h3⟩ := q
  exact ⟨h1, J, h2, h.pv h3, h3.fm⟩
theorem MTs.eq {m : Nat} {I J : HI} {σ : SG} (h : MTs m I σ) (e : J m 15 = I m 15) (e2 : ∀ a k, m + 7 ≤ a → a ≤ m + 9 → J a k = I a k) : MTs m J σ := by
  obtain ⟨c, h7, h8, h9⟩ := h
  exact ⟨c, e.trans h7, h8, fun t ht => (h9 t ht).same e2⟩
theorem MTp.eq {m : Nat} {I J : HI} {σ : SG} (h : MTp m I σ) (e : J m 9 = I m 9) (e2 : ∀ k, J (m + 6) k = I (m + 6) k) : MTp m J σ :=
  ⟨e.trans h.1, h.2.1, fun j hj => (e2 j).trans (h.2.2 j hj)⟩
theorem MIm.eq {m : Nat} {I J : HI} {σ : SG} (h : MIm m I σ) (e : J m 29 = I m 29) (e2 : J m 30 = I m 30) (e3 : ∀ k, J (m + 14) k = I (m + 14) k) : MIm m J σ := by
  unfold MIm at *
  cases hi : gIm σ with
  | none =>
    rw [hi] at h
    exact e.trans h
  | some x =>
    rw [hi] at h
    obtain ⟨b1, b2, b3, b4, b5, b6, b7, b8⟩ := h
    exact ⟨e.trans b1, e2.trans b2, b3, fun i hi => ⟨(e3 _).trans (b4 i hi).1, (e3 _).trans (b4 i hi).2.1, (e3 _).trans (b4 i hi).2.2.1, (e3 _).trans (b4 i hi).2.2.2⟩, (e3 _).trans b5, (e3 _).trans b6, (e3 _).trans b7, b8⟩
theorem MSe.eq {m : Nat} {I J : HI} {σ : SG} (h : MSe m I σ) (e : ∀ a k, m + 15 ≤ a → a ≤ m + 17 → J a k = I a k) : MSe m J σ := fun s hs =>
  ⟨(e _ _ (by omega) (by omega)).trans (h s hs).1, (e _ _ (by omega) (by omega)).trans (h s hs).2.1, (h s hs).2.2.1, fun j hj => (e _ _ (by omega) (by omega)).trans ((h s hs).2.2.2 j hj)⟩
/-- the strand has changed -/
theorem MI.strand {m : Nat} {Sh : HS} {I J : HI} {R : HR} {σ : SG} {x : Nat × SV × Nat} (h : MI m Sh I R σ) (e : ∀ a k, ¬ prM m a k → ¬ (m + 1 ≤ a ∧ a ≤ m + 5) → ¬ (a = m ∧ (k ≤ 2 ∨ k = 8)) → J a k = I a k) (h2 : J m 2 = nI x.1) (h8 : x.1 ≤ 8) (hs : MS J m x.1 x.2.1) (hr : J m 8 = nI x.2.2) (hrt : x.2.2 < gTc σ) : MI m Sh J R (withX σ x) := by
  obtain ⟨a1, a2, a3, a4, a5, a6, a7, aA, aB, aC⟩ := h
  have q : ∀ a k, ¬ (a = m + 10 ∨ a = m + 11 ∨ a = m + 12 ∨ a = m + 13 ∨ (a = m ∧ ((16 ≤ k ∧ k ≤ 21) ∨ k = 24 ∨ k = 25 ∨ k = 27))) → ¬ (m + 1 ≤ a ∧ a ≤ m + 5) → ¬ (a = m ∧ (k ≤ 2 ∨ k = 8)) → J a k = I a k := e
  exact ⟨a1, a2, ⟨h2, h8⟩, hs, ⟨hr, hrt⟩, ⟨(q _ _ (by omega) (by omega) (by omega)).trans a6.1, a6.2⟩, a7.eq (q _ _ (by omega) (by omega) (by omega)) (fun a k z1 z2 => q a k (by omega) (by omega) (by omega)), aA.eq (q _ _ (by omega) (by omega) (by omega)) (fun k => q _ _ (by omega) (by omega) (by omega)), aB.eq (q _ _ (by omega) (by omega) (by omega)) (q _ _ (by omega) (by omega) (by omega)) (fun k => q _ _ (by omega) (by omega) (by omega)), aC.eq (fun a k z1 z2 => q a k (by omega) (by omega) (by omega))⟩
theorem MI.own {m : Nat} {Sh : HS} {I J : HI} {R : HR} {σ : SG} {v : SV} (h : MI m Sh I R σ) (e : ∀ a k, ¬ prM m a k → ¬ (m + 1 ≤ a ∧ a ≤ m + 5) → ¬ (a = m ∧ k ≤ 1) → J a k = I a k) (hs : MS J m (gN σ) v) : MI m Sh J R (withV σ v) :=
  h.strand (x := (gN σ, v, gRu σ)) (fun a k q1 q2 q3 => e a k q1 q2 (by omega)) ((e _ _ (by unfold prM; omega) (by omega) (by omega)).trans h.2.2.1.1) h.2.2.1.2 hs ((e _ _ (by unfold prM; omega) (by omega) (by omega)).trans h.2.2.2.2.1.1) h.2.2.2.2.1.2
theorem MI.fr {m : Nat} {Sh : HS} {I J : HI} {R : HR} {σ : SG} {v : SV} (h : MI m Sh I R σ) (e : frM m I J) (hs : MS J m (gN σ) v) : MI m Sh J R (withV σ v) ∧ FrM m I J :=
  ⟨h.own (fun a k q1 q2 q3 => e a k (by unfold prM at q1; omega) (by unfold prM at q1; omega) (by omega) (by omega)) hs, fun a k q => e a k (by omega) (by omega) (by omega) (by omega)⟩
theorem MI.put {m i k : Nat} {Sh : HS} {I : HI} {R : HR} {σ : SG} {x : Int32} (h : MI m Sh I R σ) (hk : k < 5) : MI m Sh (u2 I (m + 1 + k) i x) R (withV σ (upV (gW σ) i k x)) :=
  h.own (fun a q q1 q2 q3 => u2_ne (by omega)) (h.2.2.2.1.put hk)
noncomputable def putS (σ : SG) (w of v : Int32) : SG := if w = 0 then withV σ ((gW σ).1, v, (gW σ).2.2) else if w = 1 then withV σ ((gW σ).1, (gW σ).2.1, v) else match idF (gN σ) of with
    | some i => withV σ (upV (gW σ) i (flF w) v)
    | none => σ

set_option maxHeartbeats 4000000 in
set_option maxRecDepth 100000 in
theorem k_mput {G : GG} {Sh : HS} {I : HI} {R : HR} {m : Nat} {σ : SG} (hm0 : MI m Sh I R σ) (hw0 : WI σ) {w of v : Int32} (hof : w = 0 ∨ w = 1 ∨ ∃ i, i < gN σ ∧ of = nI i) (hw : 0 ≤ w ∧ w ≤ 5) : AM G 1 0 0 yX8_put cX8_put 4 none [.ref m, .int w, .int of, .int v] (Sh, I, R) (qv fun g => ∃ J : HI, g = (Sh, J, R) ∧ MI m Sh J R (putS σ w of v) ∧ FrM m I J) := by
  obtain ⟨hsh, hrf, ⟨hn, hn8⟩, hs, ⟨hru, hrt⟩, ⟨htc, htc6⟩, hmt, hmp, him, hse⟩ := id hm0
  have hmw := hm0.mw
  have hnb := hw0.nb
  obtain ⟨z0, z1, z6, z7, z8, z9, z10, z11, z12, z13, z14, z15, z16, z17⟩ := id hsh
  obtain ⟨y1, y6, y7, y8, y9, y10, y11, y12, y13, y14, y15, y16, y17⟩ := id hrf
  refine am_intro (by decide) (Nat.le_of_ble_eq_true rfl) ?_
  refine x_iload_n dX8_put_0 1 rfl rfl ?_
  refine x_tsw [(0, 36), (1, 42), (2, 48), (3, 56), (4, 64)] 72 dX8_put_1 (by decide) (by decide +kernel) (fun c_1 => ?_) ?_
  · have d_1 : ¬ w = 0 ∧ ¬ w = 1 ∧ ¬ w = 2 ∧ ¬ w = 3 ∧ ¬ w = 4 := ⟨fun q => c_1 (0, 36) (by simp) (q.trans (by decide)), fun q => c_1 (1, 42) (by simp) (q.trans (by decide)), fun q => c_1 (2, 48) (by simp) (q.trans (by decide)), fun q => c_1 (3, 56) (by simp) (q.trans (by decide)), fun q => c_1 (4, 64) (by simp) (q.trans (by decide))⟩
    obtain ⟨i, hi, hoe⟩ : ∃ i, i < gN σ ∧ of = nI i := by
      rcases hof with z | z | z
      · exact absurd z d_1.1
      · exact absurd z d_1.2.1
      · exact z
    subst hoe
    refine x_aload_n dX8_put_72 0 rfl rfl ?_
    refine x_gR (b := m + 1 + 4) dX8_put_73 fl_8_22 rfl z0 (y1 4 (by omega)) ?_
    refine x_iload_n dX8_put_76 2 rfl rfl ?_
    refine x_iload_n dX8_put_77 3 rfl rfl ?_
    refine x_is (j := i) dX8_put_78 (z1 4 (by omega)) rfl (by omega) (by omega) (fun Iq1 e_Iq1 => ?_)
    refine x_vret dX8_put_79 rfl (Nat.le_refl _) (Nat.le_refl _) ?_
    have hw5 : w = 5 := by
      obtain ⟨j, hj, e⟩ := nI_of2 (M := 5) (n := 5) (by decide) (Int32.not_lt.mpr hw.1) hw.2
      obtain ⟨q0, q1, q2, q3, q4⟩ := d_1
      rw [e] at q0 q1 q2 q3 q4 ⊢
      have : j = 0 ∨ j = 1 ∨ j = 2 ∨ j = 3 ∨ j = 4 ∨ j = 5 := by omega
      rcases this with rfl | rfl | rfl | rfl | rfl | rfl
      · exact absurd rfl q0
      · exact absurd rfl q1
      · exact absurd rfl q2
      · exact absurd rfl q3
      · exact absurd rfl q4
      · rfl
    subst hw5
    refine ⟨_, rfl, ?_, fun a k q => by rw [e_Iq1, u2_ne (by omega)]⟩
    have hp : putS σ 5 (nI i) v = withV σ (upV (gW σ) i 4 v) := by
      unfold putS
      rw [idF_in hi hn8]
      rfl
    rw [e_Iq1, hp]
    exact hm0.put (k := 4) (by omega)
  · refine List.forall_mem_cons.mpr ⟨fun c_1 => ?_, List.forall_mem_cons.mpr ⟨fun c_1 => ?_, List.forall_mem_cons.mpr ⟨fun c_1 => ?_, List.forall_mem_cons.mpr ⟨fun c_1 => ?_, List.forall_mem_cons.mpr ⟨fun c_1 => ?_, fun _ h9 => absurd h9 List.not_mem_nil⟩⟩⟩⟩⟩
    · have c_1 : w = 0 := c_1.trans (by decide)
      refine x_aload_n dX8_put_36 0 rfl rfl ?_
      refine x_iload_n dX8_put_37 3 rfl rfl ?_
      refine x_pI dX8_put_38 fl_8_86 rfl rfl rfl z0 (fun Iq2 e_Iq2 => ?_)
      refine x_vret dX8_put_41 rfl (Nat.le_refl _) (Nat.le_refl _) ?_
      subst c_1
      refine ⟨_, rfl, ?_, fun a k q => by rw [e_Iq2, u2_ne (by omega)]⟩
      rw [e_Iq2]
      exact hm0.own (fun a q q1 q2 q3 => u2_ne (by omega)) ⟨fun j hj k hk => (u2_ne (by omega)).trans (hs.1 j hj k hk), u2_same, (u2_ne (by omega)).trans hs.2.2⟩
    · have c_1 : w = 1 := c_1.trans (by decide)
      refine x_aload_n dX8_put_42 0 rfl rfl ?_
      refine x_iload_n dX8_put_43 3 rfl rfl ?_
      refine x_pI dX8_put_44 fl_8_89 rfl rfl rfl z0 (fun Iq3 e_Iq3 => ?_)
      refine x_vret dX8_put_47 rfl (Nat.le_refl _) (Nat.le_refl _) ?_
      subst c_1
      refine ⟨_, rfl, ?_, fun a k q => by rw [e_Iq3, u2_ne (by omega)]⟩
      rw [e_Iq3]
      exact hm0.own (fun a q q1 q2 q3 => u2_ne (by omega)) ⟨fun j hj k hk => (u2_ne (by omega)).trans (hs.1 j hj k hk), (u2_ne (by omega)).trans hs.2.1, u2_same⟩
    · have c_1 : w = 2 := c_1.trans (by decide)
      obtain ⟨i, hi, hoe⟩ : ∃ i, i < gN σ ∧ of = nI i := by
        rcases hof with z | z | z
        · exact absurd (z.symm.trans c_1) (by decide)
        · exact absurd (z.symm.trans c_1) (by decide)
        · exact z
      subst hoe
      refine x_aload_n dX8_put_48 0 rfl rfl ?_
      refine x_gR (b := m + 1 + 1) dX8_put_49 fl_8_13 rfl z0 (y1 1 (by omega)) ?_
      refine x_iload_n dX8_put_52 2 rfl rfl ?_
      refine x_iload_n dX8_put_53 3 rfl rfl ?_
      refine x_is (j := i) dX8_put_54 (z1 1 (by omega)) rfl (by omega) (by omega) (fun Iq4 e_Iq4 => ?_)
      refine x_vret dX8_put_55 rfl (Nat.le_refl _) (Nat.le_refl _) ?_
      subst c_1
      refine ⟨_, rfl, ?_, fun a k q => by rw [e_Iq4, u2_ne (by omega)]⟩
      have hp : putS σ 2 (nI i) v = withV σ (upV (gW σ) i 1 v) := by
        unfold putS
        rw [idF_in hi hn8]
        rfl
      rw [e_Iq4, hp]
      exact hm0.put (k := 1) (by omega)
    · have c_1 : w = 3 := c_1.trans (by decide)
      obtain ⟨i, hi, hoe⟩ : ∃ i, i < gN σ ∧ of = nI i := by
        rcases hof with z | z | z
        · exact absurd (z.symm.trans c_1) (by decide)
        · exact absurd (z.symm.trans c_1) (by decide)
        · exact z
      subst hoe
      refine x_aload_n dX8_put_56 0 rfl rfl ?_
      refine x_gR (b := m + 1 + 2) dX8_put_57 fl_8_16 rfl z0 (y1 2 (by omega)) ?_
      refine x_iload_n dX8_put_60 2 rfl rfl ?_
      refine x_iload_n dX8_put_61 3 rfl rfl ?_
      refine x_is (j := i) dX8_put_62 (z1 2 (by omega)) rfl (by omega) (by omega) (fun Iq5 e_Iq5 => ?_)
      refine x_vret dX8_put_63 rfl (Nat.le_refl _) (Nat.le_refl _) ?_
      subst c_1
      refine ⟨_, rfl, ?_, fun a k q => by rw [e_Iq5, u2_ne (by omega)]⟩
      have hp : putS σ 3 (nI i) v = withV σ (upV (gW σ) i 2 v) := by
        unfold putS
        rw [idF_in hi hn8]
        rfl
      rw [e_Iq5, hp]
      exact hm0.put (k := 2) (by omega)
    · have c_1 : w = 4 := c_1.trans (by decide)
      obtain ⟨i, hi, hoe⟩ : ∃ i, i < gN σ ∧ of = nI i := by
        rcases hof with z | z | z
        · exact absurd (z.symm.trans c_1) (by decide)
        · exact absurd (z.symm.trans c_1) (by decide)
        · exact z
      subst hoe
      refine x_aload_n dX8_put_64 0 rfl rfl ?_
      refine x_gR (b := m + 1 + 3) dX8_put_65 fl_8_19 rfl z0 (y1 3 (by omega)) ?_
      refine x_iload_n dX8_put_68 2 rfl rfl ?_
      refine x_iload_n dX8_put_69 3 rfl rfl ?_
      refine x_is (j := i) dX8_put_70 (z1 3 (by omega)) rfl (by omega) (by omega) (fun Iq6 e_Iq6 => ?_)
      refine x_vret dX8_put_71 rfl (Nat.le_refl _) (Nat.le_refl _) ?_
      subst c_1
      refine ⟨_, rfl, ?_, fun a k q => by rw [e_Iq6, u2_ne (by omega)]⟩
      have hp : putS σ 4 (nI i) v = withV σ (upV (gW σ) i 3 v) := by
        unfold putS
        rw [idF_in hi hn8]
        rfl
      rw [e_Iq6, hp]
      exact hm0.put (k := 3) (by omega)

def moF (w : Int32) : Int32 := if w = 1 then 999 else if w = 3 then 15 else if w = 4 then 1 else if w = 5 then 99 else 9

set_option maxHeartbeats 4000000 in
set_option maxRecDepth 100000 in
theorem k_mmost {G : GG} {Sh : HS} {I : HI} {R : HR} {w : Int32} : AM G 1 0 0 yX8_most cX8_most 1 (some .int) [.int w] (Sh, I, R) (qi fun r g => r = moF w ∧ g = (Sh, I, R)) := by
  refine am_intro (by decide) (Nat.le_of_ble_eq_true rfl) ?_
  refine x_iload_n dX8_most_0 0 rfl rfl ?_
  refine x_tsw [(1, 36), (2, 48), (3, 40), (4, 43), (5, 45)] 48 dX8_most_1 (by decide) (by decide +kernel) (fun c_1 => ?_) ?_
  · have d_1 : ¬ w = 1 ∧ ¬ w = 2 ∧ ¬ w = 3 ∧ ¬ w = 4 ∧ ¬ w = 5 := ⟨fun q => c_1 (1, 36) (by simp) (q.trans (by decide)), fun q => c_1 (2, 48) (by simp) (q.trans (by decide)), fun q => c_1 (3, 40) (by simp) (q.trans (by decide)), fun q => c_1 (4, 43) (by simp) (q.trans (by decide)), fun q => c_1 (5, 45) (by simp) (q.trans (by decide))⟩
    refine x_bipush (v := 9) dX8_most_48 (by decide) ?_
    refine x_iret dX8_most_50 rfl (Nat.le_refl _) (Nat.le_refl _) ?_
    refine ⟨?_, rfl⟩
    unfold moF
    rw [if_neg d_1.1, if_neg d_1.2.2.1, if_neg d_1.2.2.2.1, if_neg d_1.2.2.2.2]
  · refine List.forall_mem_cons.mpr ⟨fun c_1 => ?_, List.forall_mem_cons.mpr ⟨fun c_1 => ?_, List.forall_mem_cons.mpr ⟨fun c_1 => ?_, List.forall_mem_cons.mpr ⟨fun c_1 => ?_, List.forall_mem_cons.mpr ⟨fun c_1 => ?_, fun _ h9 => absurd h9 List.not_mem_nil⟩⟩⟩⟩⟩
    · have c_1 : w = 1 := c_1.trans (by decide)
      refine x_sipush (v := 999) dX8_most_36 (by decide) ?_
      refine x_iret dX8_most_39 rfl (Nat.le_refl _) (Nat.le_refl _) ?_
      refine ⟨?_, rfl⟩
      subst c_1
      rfl
    · have c_1 : w = 2 := c_1.trans (by decide)
      refine x_bipush (v := 9) dX8_most_48 (by decide) ?_
      refine x_iret dX8_most_50 rfl (Nat.le_refl _) (Nat.le_refl _) ?_
      refine ⟨?_, rfl⟩
      subst c_1
      rfl
    · have c_1 : w = 3 := c_1.trans (by decide)
      refine x_bipush (v := 15) dX8_most_40 (by decide) ?_
      refine x_iret dX8_most_42 rfl (Nat.le_refl _) (Nat.le_refl _) ?_
      refine ⟨?_, rfl⟩
      subst c_1
      rfl
    · have c_1 : w = 4 := c_1.trans (by decide)
      refine x_iconst (v := 1) dX8_most_43 (by decide) ?_
      refine x_iret dX8_most_44 rfl (Nat.le_refl _) (Nat.le_refl _) ?_
      refine ⟨?_, rfl⟩
      subst c_1
      rfl
    · have c_1 : w = 5 := c_1.trans (by decide)
      refine x_bipush (v := 99) dX8_most_45 (by decide) ?_
      refine x_iret dX8_most_47 rfl (Nat.le_refl _) (Nat.le_refl _) ?_
      refine ⟨?_, rfl⟩
      subst c_1
      rfl

theorem mo_bo {w v : Int32} (hw : 0 ≤ w ∧ w ≤ 5) : (0 ≤ v ∧ v ≤ moF w) ↔ (¬ v < 0 ∧ ¬ boF w ≤ v) := by
  have key : ∀ a b : Int32, a.toInt + 1 = b.toInt → ((0 ≤ v ∧ v ≤ a) ↔ (¬ v < 0 ∧ ¬ b ≤ v)) := by
    intro a b h
    simp only [Int32.lt_iff_toInt_lt, Int32.le_iff_toInt_le]
    omega
  obtain ⟨a, ha, rfl⟩ := nI_of2 (M := 5) (n := 5) (by decide) (Int32.not_lt.mpr hw.1) hw.2
  have : a = 0 ∨ a = 1 ∨ a = 2 ∨ a = 3 ∨ a = 4 ∨ a = 5 := by omega
  rcases this with rfl | rfl | rfl | rfl | rfl | rfl
  · exact key 9 10 (by decide)
  · exact key 999 1000 (by decide)
  · exact key 9 10 (by decide)
  · exact key 15 16 (by decide)
  · exact key 1 2 (by decide)
  · exact key 99 100 (by decide)
theorem bo_out {w v : Int32} (h : ¬ (0 ≤ w ∧ w ≤ 5)) (hv : ¬ v < 0) : boF w ≤ v := by
  have e : ∀ k : Int32, (0 ≤ k ∧ k ≤ 5) → ¬ w = k := fun k hk z => h (by rw [z]; exact hk)
  unfold boF
  rw [if_neg (e 0 (by decide)), if_neg (e 1 (by decide)), if_neg (e 2 (by decide)), if_neg (e 3 (by decide)), if_neg (e 4 (by decide)), if_neg (e 5 (by decide))]
  exact Int32.not_lt.mp hv
theorem nI_ne2 {a : Nat} (h : a < 2147483648) : ¬ nI a = -2 := fun z => nI_pos h (by rw [z]; decide)
theorem told_ok {σ : SG} {of w : Int32} (h : WI σ) (hn8 : gN σ ≤ 8) (hof : w = 0 ∨ w = 1 ∨ ∃ i, i < gN σ ∧ of = nI i) (hw : 0 ≤ w ∧ w ≤ 5) : ¬ toldF σ of w = -2 := by
  obtain ⟨a, ha, rfl⟩ := nI_of2 (M := 5) (n := 5) (by decide) (Int32.not_lt.mpr hw.1) hw.2
  have hc : a = 0 ∨ a = 1 ∨ a = 2 ∨ a = 3 ∨ a = 4 ∨ a = 5 := by omega
  obtain ⟨⟨wf, ⟨x, hx, ex⟩, ⟨y, hy, ey⟩⟩, -⟩ := h
  have go : ∀ k, (∃ b, b < 100 ∧ ∃ i, i < gN σ ∧ of = nI i ∧ (gW σ).1 i k = nI b) → ∃ b, b < 100 ∧ ∃ i, i < gN σ ∧ of = nI i ∧ (gW σ).1 i k = nI b := fun _ z => z
  have hi2 : ¬ a = 0 → ¬ a = 1 → ∃ i, i < gN σ ∧ of = nI i := by
    intro h0 h1
    rcases hof with z | z | z
    · exact absurd ((nI_eq (a := a) (b := 0) (by omega) (by omega)).mp z) h0
    · exact absurd ((nI_eq (a := a) (b := 1) (by omega) (by omega)).mp z) h1
    · exact z
  rcases hc with rfl | rfl | rfl | rfl | rfl | rfl
  · show ¬ (gW σ).2.1 = -2
    rw [ex]; exact nI_ne2 (by omega)
  · show ¬ (gW σ).2.2 = -2
    rw [ey]; exact nI_ne2 (by omega)
  all_goals
    obtain ⟨i, hi, rfl⟩ := hi2 (by decide) (by decide)
    obtain ⟨-, ⟨b1, c1, e1⟩, ⟨b2, c2, e2⟩, ⟨b3, c3, e3⟩, ⟨b4, c4, e4⟩⟩ := wf i hi
    unfold toldF
    rw [idF_in hi hn8]
  · show ¬ (gW σ).1 i 1 = -2
    rw [e1]; exact nI_ne2 (by omega)
  · show ¬ (gW σ).1 i 2 = -2
    rw [e2]; exact nI_ne2 (by omega)
  · show ¬ (gW σ).1 i 3 = -2
    rw [e3]; exact nI_ne2 (by omega)
  · show ¬ (gW σ).1 i 4 = -2
    rw [e4]; exact nI_ne2 (by omega)
theorem told_no {σ : SG} {of w : Int32} (hw : ¬ w ≤ 1) (h : idF (gN σ) of = none) : toldF σ of w = -2 := by
  unfold toldF
  rw [if_neg (fun z => hw (by rw [z]; decide)), if_neg (fun z => hw (by rw [z]; decide)), h]
theorem set_ok {σ : SG} {w of v : Int32} (h : setOk σ w of v) : setV σ w of v = toldF σ of w ∧ setS σ w of v = putS σ w of v := by
  unfold setV setS putS
  rw [if_pos h, if_pos h]
  exact ⟨rfl, rfl⟩
theorem set_no {σ : SG} {w of v : Int32} (h : ¬ setOk σ w of v) : setV σ w of v = -2 ∧ setS σ w of v = σ := by
  unfold setV setS
  rw [if_neg h, if_neg h]
  exact ⟨rfl, rfl⟩
theorem le1_01 {w : Int32} (h0 : 0 ≤ w) (h : w ≤ 1) : w = 0 ∨ w = 1 := lt2_01 h0 (lt2_of h)

set_option maxHeartbeats 4000000 in
set_option maxRecDepth 100000 in
theorem k_mset {G : GG} {Sh : HS} {I : HI} {R : HR} {m : Nat} {σ : SG} (hm0 : MI m Sh I R σ) (hw0 : WI σ) {w of v : Int32} : AM G 5 0 0 yX8_set cX8_set 5 (some .int) [.ref m, .int w, .int of, .int v] (Sh, I, R) (qi (updM m Sh I R (setV σ w of v) (setS σ w of v))) := by
  obtain ⟨hsh, hrf, ⟨hn, hn8⟩, hs, ⟨hru, hrt⟩, ⟨htc, htc6⟩, hmt, hmp, him, hse⟩ := id hm0
  have hmw := hm0.mw
  have hnb := hw0.nb
  obtain ⟨z0, z1, z6, z7, z8, z9, z10, z11, z12, z13, z14, z15, z16, z17⟩ := id hsh
  obtain ⟨y1, y6, y7, y8, y9, y10, y11, y12, y13, y14, y15, y16, y17⟩ := id hrf
  refine am_intro (by decide) (Nat.le_of_ble_eq_true rfl) ?_
  refine x_iload_n dX8_set_0 1 rfl rfl ?_
  refine x_iconst (v := 0) dX8_set_1 (by decide) ?_
  refine x_iconst (v := 5) dX8_set_2 (by decide) ?_
  refine x_callS (rest := []) (k_mwithin (G := G) (Sh := Sh) (I := I) (R := R) (v := w) (lo := 0) (hi := 5)) dX8_set_3 crc_X8_within sc_8_82 rfl rfl (Nat.le_of_ble_eq_true rfl) (roomy_k (by omega) (by decide)) (Nat.le_refl _) (Nat.le_refl _) ?_
  rintro _ _ ⟨rw, rfl, hrw, rfl⟩
  subst hrw
  refine x_if_eqB (tgt := 34) dX8_set_6 (by decide) (fun c_6 => ?_) (fun c_6 => ?_)
  · refine x_bipush (v := (-2)) dX8_set_34 (by decide) ?_
    refine x_iret dX8_set_36 rfl (Nat.le_refl _) (Nat.le_refl _) ?_
    have hno : ¬ setOk σ w of v := fun z => z.2.1 (bo_out c_6 z.1)
    refine ⟨(set_no hno).1.symm, I, rfl, ?_, FrM.rf⟩
    rw [(set_no hno).2]
    exact hm0
  · refine x_iload_n dX8_set_9 1 rfl rfl ?_
    refine x_iconst (v := 1) dX8_set_10 (by decide) ?_
    refine x_icmp_le (tgt := 22) dX8_set_11 (by decide) (fun c_11 => ?_) (fun c_11 => ?_)
    · refine x_iload_n dX8_set_22 3 rfl rfl ?_
      refine x_iconst (v := 0) dX8_set_23 (by decide) ?_
      refine x_iload_n dX8_set_24 1 rfl rfl ?_
      refine x_callS (rest := [.int 0, .int v]) (k_mmost (G := G) (Sh := Sh) (I := I) (R := R) (w := w)) dX8_set_25 crc_X8_most sc_8_106 rfl rfl (Nat.le_of_ble_eq_true rfl) (roomy_k (by omega) (by decide)) (Nat.le_refl _) (Nat.le_refl _) ?_
      rintro _ _ ⟨rq, rfl, hrq, rfl⟩
      subst hrq
      refine x_callS (rest := []) (k_mwithin (G := G) (Sh := Sh) (I := I) (R := R) (v := v) (lo := 0) (hi := moF w)) dX8_set_28 crc_X8_within sc_8_82 rfl rfl (Nat.le_of_ble_eq_true rfl) (roomy_k (by omega) (by decide)) (Nat.le_refl _) (Nat.le_refl _) ?_
      rintro _ _ ⟨rw, rfl, hrw, rfl⟩
      subst hrw
      refine x_if_neB (tgt := 37) dX8_set_31 (by decide) (fun c_31 => ?_) (fun c_31 => ?_)
      · refine x_aload_n dX8_set_37 0 rfl rfl ?_
        refine x_iload_n dX8_set_38 2 rfl rfl ?_
        refine x_iload_n dX8_set_39 1 rfl rfl ?_
        have hof : w = 0 ∨ w = 1 ∨ ∃ i, i < gN σ ∧ of = nI i := by
          rcases le1_01 c_6.1 c_11 with z | z
          · exact Or.inl z
          · exact Or.inr (Or.inl z)
        have hok : setOk σ w of v := ⟨((mo_bo c_6).mp c_31).1, ((mo_bo c_6).mp c_31).2, told_ok hw0 hn8 hof c_6⟩
        refine x_callV (k_mget (G := G) hm0 hw0 (of := of) (w := w) hof ⟨c_6.1, Int32.le_trans c_6.2 (by decide)⟩) dX8_set_40 crc_X8_get vc_8_109 z0 rfl rfl rfl rfl (Nat.le_of_ble_eq_true rfl) (roomy_k (by omega) (by decide)) (Nat.le_refl _) (Nat.le_refl _) ?_
        rintro _ _ ⟨r, rfl, hr, J9, rfl, hp9⟩
        refine x_istore (lv' := [(4, .int r), (0, .ref m), (1, .int w), (2, .int of), (3, .int v)]) dX8_set_43 (by decide) rfl ?_
        refine x_aload_n dX8_set_45 1 rfl rfl ?_
        refine x_iload_n dX8_set_46 2 rfl rfl ?_
        refine x_iload_n dX8_set_47 3 rfl rfl ?_
        refine x_iload_n dX8_set_48 4 rfl rfl ?_
        refine x_callV (k_mput (G := G) (hm0.pv hp9) hw0 (of := of) (w := w) (v := v) hof c_6) dX8_set_49 crc_X8_put vc_8_113 z0 rfl rfl rfl rfl (Nat.le_of_ble_eq_true rfl) (roomy_k (by omega) (by decide)) (Nat.le_refl _) (Nat.le_refl _) ?_
        rintro _ _ ⟨rfl, J7, rfl, hm7, hf7⟩
        refine x_iload dX8_set_52 0 rfl ?_
        refine x_iret dX8_set_54 rfl (Nat.le_refl _) (Nat.le_refl _) ?_
        refine ⟨hr.trans (set_ok hok).1.symm, J7, rfl, ?_, hp9.fm.tr hf7⟩
        rw [(set_ok hok).2]
        exact hm7
      · refine x_bipush (v := (-2)) dX8_set_34 (by decide) ?_
        refine x_iret dX8_set_36 rfl (Nat.le_refl _) (Nat.le_refl _) ?_
        have hno : ¬ setOk σ w of v := fun z => c_31 ((mo_bo c_6).mpr ⟨z.1, z.2.1⟩)
        refine ⟨(set_no hno).1.symm, I, rfl, ?_, FrM.rf⟩
        rw [(set_no hno).2]
        exact hm0
    · refine x_aload_n dX8_set_14 0 rfl rfl ?_
      refine x_iload_n dX8_set_15 2 rfl rfl ?_
      refine x_callV (k_misFort (G := G) (Sh := Sh) (I := I) (R := R) hsh hn hn8 (f := of)) dX8_set_16 crc_X8_isFort vc_8_102 z0 rfl rfl rfl rfl (Nat.le_of_ble_eq_true rfl) (roomy_k (by omega) (by decide)) (Nat.le_refl _) (Nat.le_refl _) ?_
      rintro _ _ ⟨ri, rfl, hri, rfl⟩
      subst hri
      refine x_if_eqB (tgt := 34) dX8_set_19 (by decide) (fun c_19 => ?_) (fun c_19 => ?_)
      · refine x_bipush (v := (-2)) dX8_set_34 (by decide) ?_
        refine x_iret dX8_set_36 rfl (Nat.le_refl _) (Nat.le_refl _) ?_
        have hno : ¬ setOk σ w of v := fun z => z.2.2 (told_no c_11 (Option.not_isSome_iff_eq_none.mp c_19))
        refine ⟨(set_no hno).1.symm, I, rfl, ?_, FrM.rf⟩
        rw [(set_no hno).2]
        exact hm0
      · refine x_iload_n dX8_set_22 3 rfl rfl ?_
        refine x_iconst (v := 0) dX8_set_23 (by decide) ?_
        refine x_iload_n dX8_set_24 1 rfl rfl ?_
        refine x_callS (rest := [.int 0, .int v]) (k_mmost (G := G) (Sh := Sh) (I := I) (R := R) (w := w)) dX8_set_25 crc_X8_most sc_8_106 rfl rfl (Nat.le_of_ble_eq_true rfl) (roomy_k (by omega) (by decide)) (Nat.le_refl _) (Nat.le_refl _) ?_
        rintro _ _ ⟨rq, rfl, hrq, rfl⟩
        subst hrq
        refine x_callS (rest := []) (k_mwithin (G := G) (Sh := Sh) (I := I) (R := R) (v := v) (lo := 0) (hi := moF w)) dX8_set_28 crc_X8_within sc_8_82 rfl rfl (Nat.le_of_ble_eq_true rfl) (roomy_k (by omega) (by decide)) (Nat.le_refl _) (Nat.le_refl _) ?_
        rintro _ _ ⟨rw, rfl, hrw, rfl⟩
        subst hrw
        refine x_if_neB (tgt := 37) dX8_set_31 (by decide) (fun c_31 => ?_) (fun c_31 => ?_)
        · refine x_aload_n dX8_set_37 0 rfl rfl ?_
          refine x_iload_n dX8_set_38 2 rfl rfl ?_
          refine x_iload_n dX8_set_39 1 rfl rfl ?_
          have hof : w = 0 ∨ w = 1 ∨ ∃ i, i < gN σ ∧ of = nI i := by
            obtain ⟨i, hid⟩ := Option.isSome_iff_exists.mp c_19
            obtain ⟨hi, hie⟩ := idF_some hn8 hid
            exact Or.inr (Or.inr ⟨i, hi, hie⟩)
          have hok : setOk σ w of v := ⟨((mo_bo c_6).mp c_31).1, ((mo_bo c_6).mp c_31).2, told_ok hw0 hn8 hof c_6⟩
          refine x_callV (k_mget (G := G) hm0 hw0 (of := of) (w := w) hof ⟨c_6.1, Int32.le_trans c_6.2 (by decide)⟩) dX8_set_40 crc_X8_get vc_8_109 z0 rfl rfl rfl rfl (Nat.le_of_ble_eq_true rfl) (roomy_k (by omega) (by decide)) (Nat.le_refl _) (Nat.le_refl _) ?_
          rintro _ _ ⟨r, rfl, hr, J9, rfl, hp9⟩
          refine x_istore (lv' := [(4, .int r), (0, .ref m), (1, .int w), (2, .int of), (3, .int v)]) dX8_set_43 (by decide) rfl ?_
          refine x_aload_n dX8_set_45 1 rfl rfl ?_
          refine x_iload_n dX8_set_46 2 rfl rfl ?_
          refine x_iload_n dX8_set_47 3 rfl rfl ?_
          refine x_iload_n dX8_set_48 4 rfl rfl ?_
          refine x_callV (k_mput (G := G) (hm0.pv hp9) hw0 (of := of) (w := w) (v := v) hof c_6) dX8_set_49 crc_X8_put vc_8_113 z0 rfl rfl rfl rfl (Nat.le_of_ble_eq_true rfl) (roomy_k (by omega) (by decide)) (Nat.le_refl _) (Nat.le_refl _) ?_
          rintro _ _ ⟨rfl, J7, rfl, hm7, hf7⟩
          refine x_iload dX8_set_52 0 rfl ?_
          refine x_iret dX8_set_54 rfl (Nat.le_refl _) (Nat.le_refl _) ?_
          refine ⟨hr.trans (set_ok hok).1.symm, J7, rfl, ?_, hp9.fm.tr hf7⟩
          rw [(set_ok hok).2]
          exact hm7
        · refine x_bipush (v := (-2)) dX8_set_34 (by decide) ?_
          refine x_iret dX8_set_36 rfl (Nat.le_refl _) (Nat.le_refl _) ?_
          have hno : ¬ setOk σ w of v := fun z => c_31 ((mo_bo c_6).mpr ⟨z.1, z.2.1⟩)
          refine ⟨(set_no hno).1.symm, I, rfl, ?_, FrM.rf⟩
          rw [(set_no hno).2]
          exact hm0

theorem fort_iff {k nu p : Int32} : ((0 ≤ k ∧ k ≤ 5) ∧ (0 ≤ nu ∧ nu ≤ 9) ∧ 0 ≤ p ∧ p ≤ 15) ↔ fortP k nu p := by
  unfold fortP
  have e5 : (5 : Int32).toInt = 5 := by decide
  have e6 : (6 : Int32).toInt = 6 := by decide
  have e9 : (9 : Int32).toInt = 9 := by decide
  have eA : (10 : Int32).toInt = 10 := by decide
  have eF : (15 : Int32).toInt = 15 := by decide
  have e16 : (16 : Int32).toInt = 16 := by decide
  have e0 : (0 : Int32).toInt = 0 := by decide
  simp only [Int32.lt_iff_toInt_lt, Int32.le_iff_toInt_le]
  omega
theorem add_ms {m n : Nat} {I : HI} {v : SV} {k nu p : Int32} (h : MS I m n v) : MS (u2 (u2 (u2 (u2 (u2 (u2 I (m + 1 + 0) n k) (m + 1 + 1) n nu) (m + 1 + 2) n p) (m + 1 + 3) n 0) (m + 1 + 4) n 20) m 2 (nI (n + 1))) m (n + 1) (addV v n k nu p) := by
  refine ⟨fun j hj q hq => ?_, ?_, ?_⟩
  · unfold addV
    by_cases e : j = n
    · subst e
      have hc : q = 0 ∨ q = 1 ∨ q = 2 ∨ q = 3 ∨ q = 4 := by omega
      rcases hc with rfl | rfl | rfl | rfl | rfl
      · rw [u2_ne (by omega), u2_ne (by omega), u2_ne (by omega), u2_ne (by omega), u2_ne (by omega), u2_same]
        simp
      · rw [u2_ne (by omega), u2_ne (by omega), u2_ne (by omega), u2_ne (by omega), u2_same]
        simp
      · rw [u2_ne (by omega), u2_ne (by omega), u2_ne (by omega), u2_same]
        simp
      · rw [u2_ne (by omega), u2_ne (by omega), u2_same]
        simp
      · rw [u2_ne (by omega), u2_same]
        simp
    · rw [u2_ne (by omega), u2_ne (by omega), u2_ne (by omega), u2_ne (by omega), u2_ne (by omega), u2_ne (by omega), h.1 j (by omega) q hq]
      simp [e]
  · rw [u2_ne (by omega), u2_ne (by omega), u2_ne (by omega), u2_ne (by omega), u2_ne (by omega), u2_ne (by omega)]
    exact h.2.1
  · rw [u2_ne (by omega), u2_ne (by omega), u2_ne (by omega), u2_ne (by omega), u2_ne (by omega), u2_ne (by omega)]
    exact h.2.2

set_option maxHeartbeats 4000000 in
set_option maxRecDepth 100000 in
theorem k_mfort {G : GG} {Sh : HS} {I : HI} {R : HR} {m : Nat} {σ : SG} (hm0 : MI m Sh I R σ) (hw0 : WI σ) {k nu p : Int32} : AM G 2 0 0 yX8_fort cX8_fort 4 (some .int) [.ref m, .int k, .int nu, .int p] (Sh, I, R) (qi (updM m Sh I R (fortV σ k nu p) (fortS σ k nu p))) := by
  obtain ⟨hsh, hrf, ⟨hn, hn8⟩, hs, ⟨hru, hrt⟩, ⟨htc, htc6⟩, hmt, hmp, him, hse⟩ := id hm0
  have hmw := hm0.mw
  have hnb := hw0.nb
  obtain ⟨z0, z1, z6, z7, z8, z9, z10, z11, z12, z13, z14, z15, z16, z17⟩ := id hsh
  obtain ⟨y1, y6, y7, y8, y9, y10, y11, y12, y13, y14, y15, y16, y17⟩ := id hrf
  refine am_intro (by decide) (Nat.le_of_ble_eq_true rfl) ?_
  refine x_iload_n dX8_fort_0 1 rfl rfl ?_
  refine x_iconst (v := 0) dX8_fort_1 (by decide) ?_
  refine x_iconst (v := 5) dX8_fort_2 (by decide) ?_
  refine x_callS (rest := []) (k_mwithin (G := G) (Sh := Sh) (I := I) (R := R) (v := k) (lo := 0) (hi := 5)) dX8_fort_3 crc_X8_within sc_8_82 rfl rfl (Nat.le_of_ble_eq_true rfl) (roomy_k (by omega) (by decide)) (Nat.le_refl _) (Nat.le_refl _) ?_
  rintro _ _ ⟨rw, rfl, hrw, rfl⟩
  subst hrw
  refine x_if_eqB (tgt := 29) dX8_fort_6 (by decide) (fun c_6 => ?_) (fun c_6 => ?_)
  · refine x_bipush (v := (-2)) dX8_fort_29 (by decide) ?_
    refine x_iret dX8_fort_31 rfl (Nat.le_refl _) (Nat.le_refl _) ?_
    refine ⟨?_, I, rfl, ?_, FrM.rf⟩
    · unfold fortV
      rw [if_neg (fun z => c_6 (fort_iff.mpr z).1)]
    · unfold fortS
      rw [if_neg (fun z => c_6 (fort_iff.mpr z.1).1)]
      exact hm0
  · refine x_iload_n dX8_fort_9 2 rfl rfl ?_
    refine x_iconst (v := 0) dX8_fort_10 (by decide) ?_
    refine x_bipush (v := 9) dX8_fort_11 (by decide) ?_
    refine x_callS (rest := []) (k_mwithin (G := G) (Sh := Sh) (I := I) (R := R) (v := nu) (lo := 0) (hi := 9)) dX8_fort_13 crc_X8_within sc_8_82 rfl rfl (Nat.le_of_ble_eq_true rfl) (roomy_k (by omega) (by decide)) (Nat.le_refl _) (Nat.le_refl _) ?_
    rintro _ _ ⟨rw, rfl, hrw, rfl⟩
    subst hrw
    refine x_if_eqB (tgt := 29) dX8_fort_16 (by decide) (fun c_16 => ?_) (fun c_16 => ?_)
    · refine x_bipush (v := (-2)) dX8_fort_29 (by decide) ?_
      refine x_iret dX8_fort_31 rfl (Nat.le_refl _) (Nat.le_refl _) ?_
      refine ⟨?_, I, rfl, ?_, FrM.rf⟩
      · unfold fortV
        rw [if_neg (fun z => c_16 (fort_iff.mpr z).2.1)]
      · unfold fortS
        rw [if_neg (fun z => c_16 (fort_iff.mpr z.1).2.1)]
        exact hm0
    · refine x_iload_n dX8_fort_19 3 rfl rfl ?_
      refine x_iconst (v := 0) dX8_fort_20 (by decide) ?_
      refine x_bipush (v := 15) dX8_fort_21 (by decide) ?_
      refine x_callS (rest := []) (k_mwithin (G := G) (Sh := Sh) (I := I) (R := R) (v := p) (lo := 0) (hi := 15)) dX8_fort_23 crc_X8_within sc_8_82 rfl rfl (Nat.le_of_ble_eq_true rfl) (roomy_k (by omega) (by decide)) (Nat.le_refl _) (Nat.le_refl _) ?_
      rintro _ _ ⟨rw, rfl, hrw, rfl⟩
      subst hrw
      refine x_if_neB (tgt := 32) dX8_fort_26 (by decide) (fun c_26 => ?_) (fun c_26 => ?_)
      · refine x_aload_n dX8_fort_32 0 rfl rfl ?_
        refine x_gI (v := nI (gN σ)) dX8_fort_33 fl_8_79 rfl z0 hn ?_
        refine x_bipush (v := nI 8) dX8_fort_36 (by decide) ?_
        refine x_icmp_ne (tgt := 44) dX8_fort_38 (by decide) (fun c_38 => ?_) (fun c_38 => ?_)
        · have c_38 : ¬ (gN σ) = 8 := fun zz9 => c_38 ((nI_eq (a := (gN σ)) (b := 8) (by omega) (by omega)).mpr zz9)
          refine x_aload_n dX8_fort_44 0 rfl rfl ?_
          refine x_gR (b := m + 1 + 0) dX8_fort_45 fl_8_7 rfl z0 (y1 0 (by omega)) ?_
          refine x_aload_n dX8_fort_48 0 rfl rfl ?_
          refine x_gI (v := nI (gN σ)) dX8_fort_49 fl_8_79 rfl z0 hn ?_
          refine x_iload_n dX8_fort_52 1 rfl rfl ?_
          refine x_is (j := gN σ) dX8_fort_53 (z1 0 (by omega)) rfl (by omega) (by omega) (fun Iq1 e_Iq1 => ?_)
          refine x_aload_n dX8_fort_54 0 rfl rfl ?_
          refine x_gR (b := m + 1 + 1) dX8_fort_55 fl_8_13 rfl z0 (y1 1 (by omega)) ?_
          refine x_aload_n dX8_fort_58 0 rfl rfl ?_
          refine x_gI (v := nI (gN σ)) dX8_fort_59 fl_8_79 rfl z0 (by rw [e_Iq1, u2_ne (by omega)]; exact hn) ?_
          refine x_iload_n dX8_fort_62 2 rfl rfl ?_
          refine x_is (j := gN σ) dX8_fort_63 (z1 1 (by omega)) rfl (by omega) (by omega) (fun Iq2 e_Iq2 => ?_)
          refine x_aload_n dX8_fort_64 0 rfl rfl ?_
          refine x_gR (b := m + 1 + 2) dX8_fort_65 fl_8_16 rfl z0 (y1 2 (by omega)) ?_
          refine x_aload_n dX8_fort_68 0 rfl rfl ?_
          refine x_gI (v := nI (gN σ)) dX8_fort_69 fl_8_79 rfl z0 (by rw [e_Iq2, u2_ne (by omega), e_Iq1, u2_ne (by omega)]; exact hn) ?_
          refine x_iload_n dX8_fort_72 3 rfl rfl ?_
          refine x_is (j := gN σ) dX8_fort_73 (z1 2 (by omega)) rfl (by omega) (by omega) (fun Iq3 e_Iq3 => ?_)
          refine x_aload_n dX8_fort_74 0 rfl rfl ?_
          refine x_gR (b := m + 1 + 3) dX8_fort_75 fl_8_19 rfl z0 (y1 3 (by omega)) ?_
          refine x_aload_n dX8_fort_78 0 rfl rfl ?_
          refine x_gI (v := nI (gN σ)) dX8_fort_79 fl_8_79 rfl z0 (by rw [e_Iq3, u2_ne (by omega), e_Iq2, u2_ne (by omega), e_Iq1, u2_ne (by omega)]; exact hn) ?_
          refine x_iconst (v := 0) dX8_fort_82 (by decide) ?_
          refine x_is (j := gN σ) dX8_fort_83 (z1 3 (by omega)) rfl (by omega) (by omega) (fun Iq4 e_Iq4 => ?_)
          refine x_aload_n dX8_fort_84 0 rfl rfl ?_
          refine x_gR (b := m + 1 + 4) dX8_fort_85 fl_8_22 rfl z0 (y1 4 (by omega)) ?_
          refine x_aload_n dX8_fort_88 0 rfl rfl ?_
          refine x_gI (v := nI (gN σ)) dX8_fort_89 fl_8_79 rfl z0 (by rw [e_Iq4, u2_ne (by omega), e_Iq3, u2_ne (by omega), e_Iq2, u2_ne (by omega), e_Iq1, u2_ne (by omega)]; exact hn) ?_
          refine x_bipush (v := 20) dX8_fort_92 (by decide) ?_
          refine x_is (j := gN σ) dX8_fort_94 (z1 4 (by omega)) rfl (by omega) (by omega) (fun Iq5 e_Iq5 => ?_)
          refine x_aload_n dX8_fort_95 0 rfl rfl ?_
          refine x_dup dX8_fort_96 rfl ?_
          refine x_gI (v := nI (gN σ)) dX8_fort_97 fl_8_79 rfl z0 (by rw [e_Iq5, u2_ne (by omega), e_Iq4, u2_ne (by omega), e_Iq3, u2_ne (by omega), e_Iq2, u2_ne (by omega), e_Iq1, u2_ne (by omega)]; exact hn) ?_
          refine x_dup_x1 dX8_fort_100 rfl rfl ?_
          refine x_iconst (v := nI 1) dX8_fort_101 (by decide) ?_
          refine x_iadd dX8_fort_102 ?_
          refine x_vali (nI_add (gN σ) 1) ?_
          refine x_pI dX8_fort_103 fl_8_79 rfl rfl rfl z0 (fun Iq6 e_Iq6 => ?_)
          refine x_iret dX8_fort_106 rfl (Nat.le_refl _) (Nat.le_refl _) ?_
          refine ⟨?_, Iq6, rfl, ?_, fun a k q => ?_⟩
          · unfold fortV
            rw [if_pos (fort_iff.mp ⟨c_6, c_16, c_26⟩), if_neg c_38]
          · unfold fortS
            rw [if_pos ⟨(fort_iff.mp ⟨c_6, c_16, c_26⟩), c_38⟩]
            have hms := add_ms (k := k) (nu := nu) (p := p) hs
            rw [e_Iq6, e_Iq5, e_Iq4, e_Iq3, e_Iq2, e_Iq1]
            refine hm0.strand (x := (gN σ + 1, addV (gW σ) (gN σ) k nu p, gRu σ)) (fun a q q1 q2 q3 => ?_) u2_same (by show gN σ + 1 ≤ 8; omega) hms ?_ hrt
            · rw [u2_ne (by omega), u2_ne (by omega), u2_ne (by omega), u2_ne (by omega), u2_ne (by omega), u2_ne (by omega)]
            · rw [u2_ne (by omega), u2_ne (by omega), u2_ne (by omega), u2_ne (by omega), u2_ne (by omega), u2_ne (by omega)]
              exact hru
          · rw [e_Iq6, e_Iq5, e_Iq4, e_Iq3, e_Iq2, e_Iq1, u2_ne (by omega), u2_ne (by omega), u2_ne (by omega), u2_ne (by omega), u2_ne (by omega), u2_ne (by omega)]
        · have c_38 : (gN σ) = 8 := (nI_eq (a := (gN σ)) (b := 8) (by omega) (by omega)).mp c_38
          refine x_bipush (v := (-4)) dX8_fort_41 (by decide) ?_
          refine x_iret dX8_fort_43 rfl (Nat.le_refl _) (Nat.le_refl _) ?_
          refine ⟨?_, I, rfl, ?_, FrM.rf⟩
          · unfold fortV
            rw [if_pos (fort_iff.mp ⟨c_6, c_16, c_26⟩), if_pos c_38]
          · unfold fortS
            rw [if_neg (fun z => z.2 c_38)]
            exact hm0
      · refine x_bipush (v := (-2)) dX8_fort_29 (by decide) ?_
        refine x_iret dX8_fort_31 rfl (Nat.le_refl _) (Nat.le_refl _) ?_
        refine ⟨?_, I, rfl, ?_, FrM.rf⟩
        · unfold fortV
          rw [if_neg (fun z => c_26 (fort_iff.mpr z).2.2)]
        · unfold fortS
          rw [if_neg (fun z => c_26 (fort_iff.mpr z.1).2.2)]
          exact hm0

set_option maxHeartbeats 4000000 in
set_option maxRecDepth 100000 in
theorem k_mfeed {G : GG} {Sh : HS} {I : HI} {R : HR} {m : Nat} {σ : SG} (hm0 : MI m Sh I R σ) (hw0 : WI σ) {v : Int32} : AM G 2 0 0 yX8_feed cX8_feed 2 (some .int) [.ref m, .int v] (Sh, I, R) (qi (updM m Sh I R (feedV σ v) (feedS σ v))) := by
  obtain ⟨hsh, hrf, ⟨hn, hn8⟩, hs, ⟨hru, hrt⟩, ⟨htc, htc6⟩, hmt, hmp, him, hse⟩ := id hm0
  have hmw := hm0.mw
  have hnb := hw0.nb
  obtain ⟨z0, z1, z6, z7, z8, z9, z10, z11, z12, z13, z14, z15, z16, z17⟩ := id hsh
  obtain ⟨y1, y6, y7, y8, y9, y10, y11, y12, y13, y14, y15, y16, y17⟩ := id hrf
  have htp9 := hmp.2.1
  refine am_intro (by decide) (Nat.le_of_ble_eq_true rfl) ?_
  refine x_iload_n dX8_feed_0 1 rfl rfl ?_
  refine x_iconst (v := 0) dX8_feed_1 (by decide) ?_
  refine x_sipush (v := 255) dX8_feed_2 (by decide) ?_
  refine x_callS (rest := []) (k_mwithin (G := G) (Sh := Sh) (I := I) (R := R) (v := v) (lo := 0) (hi := 255)) dX8_feed_5 crc_X8_within sc_8_82 rfl rfl (Nat.le_of_ble_eq_true rfl) (roomy_k (by omega) (by decide)) (Nat.le_refl _) (Nat.le_refl _) ?_
  rintro _ _ ⟨rw, rfl, hrw, rfl⟩
  subst hrw
  refine x_if_neB (tgt := 14) dX8_feed_8 (by decide) (fun c_8 => ?_) (fun c_8 => ?_)
  · refine x_aload_n dX8_feed_14 0 rfl rfl ?_
    refine x_gI (v := nI (gTs σ)) dX8_feed_15 fl_8_72 rfl z0 hmp.1 ?_
    refine x_sipush (v := nI 160) dX8_feed_18 (by decide) ?_
    refine x_icmp_ne (tgt := 27) dX8_feed_21 (by decide) (fun c_21 => ?_) (fun c_21 => ?_)
    · have c_21 : ¬ (gTs σ) = 160 := fun zz9 => c_21 ((nI_eq (a := (gTs σ)) (b := 160) (by omega) (by omega)).mpr zz9)
      refine x_aload_n dX8_feed_27 0 rfl rfl ?_
      refine x_gR (b := m + 6) dX8_feed_28 fl_8_25 rfl z0 y6 ?_
      refine x_aload_n dX8_feed_31 0 rfl rfl ?_
      refine x_dup dX8_feed_32 rfl ?_
      refine x_gI (v := nI (gTs σ)) dX8_feed_33 fl_8_72 rfl z0 hmp.1 ?_
      refine x_dup_x1 dX8_feed_36 rfl rfl ?_
      refine x_iconst (v := nI 1) dX8_feed_37 (by decide) ?_
      refine x_iadd dX8_feed_38 ?_
      refine x_vali (nI_add (gTs σ) 1) ?_
      refine x_pI dX8_feed_39 fl_8_72 rfl rfl rfl z0 (fun Iq1 e_Iq1 => ?_)
      refine x_iload_n dX8_feed_42 1 rfl rfl ?_
      refine x_is (j := gTs σ) dX8_feed_43 z6 rfl (by have := hmp.2.1; omega) (by omega) (fun Iq2 e_Iq2 => ?_)
      refine x_aload_n dX8_feed_44 0 rfl rfl ?_
      refine x_gI (v := nI (gTs σ + 1)) dX8_feed_45 fl_8_72 rfl z0 (by rw [e_Iq2, u2_ne (by omega), e_Iq1, u2_same]) ?_
      refine x_iret dX8_feed_48 rfl (Nat.le_refl _) (Nat.le_refl _) ?_
      have hlt : gTs σ < 160 := by have := hmp.2.1; omega
      refine ⟨?_, Iq2, rfl, ?_, fun a k q => ?_⟩
      · unfold feedV
        rw [if_pos (show feedP v from c_8), if_pos hlt]
      · unfold feedS
        rw [if_pos ⟨c_8, hlt⟩, e_Iq2, e_Iq1]
        obtain ⟨a1, a2, a3, a4, a5, a6, a7, aA, aB, aC⟩ := id hm0
        refine ⟨a1, a2, ⟨(u2_ne (by omega)).trans ((u2_ne (by omega)).trans a3.1), a3.2⟩, ⟨fun i hi k hk => (u2_ne (by omega)).trans ((u2_ne (by omega)).trans (a4.1 i hi k hk)), (u2_ne (by omega)).trans ((u2_ne (by omega)).trans a4.2.1), (u2_ne (by omega)).trans ((u2_ne (by omega)).trans a4.2.2)⟩, ⟨(u2_ne (by omega)).trans ((u2_ne (by omega)).trans a5.1), a5.2⟩, ⟨(u2_ne (by omega)).trans ((u2_ne (by omega)).trans a6.1), a6.2⟩, a7.eq ((u2_ne (by omega)).trans (u2_ne (by omega))) (fun a k z1 z2 => (u2_ne (by omega)).trans (u2_ne (by omega))), ⟨(u2_ne (by omega)).trans u2_same, hlt, fun j hj => ?_⟩, aB.eq ((u2_ne (by omega)).trans (u2_ne (by omega))) ((u2_ne (by omega)).trans (u2_ne (by omega))) (fun k => (u2_ne (by omega)).trans (u2_ne (by omega))), aC.eq (fun a k z1 z2 => (u2_ne (by omega)).trans (u2_ne (by omega)))⟩
        have hj : j < gTs σ + 1 := hj
        show _ = if j = gTs σ then v else gTb σ j
        by_cases e : j = gTs σ
        · rw [if_pos e, e, u2_same]
        · rw [if_neg e, u2_ne (by omega), u2_ne (by omega)]
          exact aA.2.2 j (by omega)
      · rw [e_Iq2, e_Iq1, u2_ne (by omega), u2_ne (by omega)]
    · have c_21 : (gTs σ) = 160 := (nI_eq (a := (gTs σ)) (b := 160) (by omega) (by omega)).mp c_21
      refine x_bipush (v := (-4)) dX8_feed_24 (by decide) ?_
      refine x_iret dX8_feed_26 rfl (Nat.le_refl _) (Nat.le_refl _) ?_
      refine ⟨?_, I, rfl, ?_, FrM.rf⟩
      · unfold feedV
        rw [if_pos (show feedP v from c_8), if_neg (by omega)]
      · unfold feedS
        rw [if_neg (fun z => absurd z.2 (by omega))]
        exact hm0
  · refine x_bipush (v := (-2)) dX8_feed_11 (by decide) ?_
    refine x_iret dX8_feed_13 rfl (Nat.le_refl _) (Nat.le_refl _) ?_
    refine ⟨?_, I, rfl, ?_, FrM.rf⟩
    · unfold feedV
      rw [if_neg (show ¬ feedP v from c_8)]
    · unfold feedS
      rw [if_neg (fun z => c_8 z.1)]
      exact hm0

theorem force_no {σ : SG} {t : Int32} (h : idF (gTc σ) t = none) : forceV σ t = -2 ∧ forceS σ t = σ := by
  unfold forceV forceS
  rw [h]
  exact ⟨rfl, rfl⟩
theorem force_ok {σ : SG} {j : Nat} (hj : j < gTc σ) (h6 : gTc σ ≤ 6) : forceV σ (nI j) = nI (gRu σ) ∧ forceS σ (nI j) = withX σ (gN σ, gW σ, j) := by
  unfold forceV forceS
  rw [idF_in hj (by omega)]
  exact ⟨rfl, rfl⟩

set_option maxHeartbeats 4000000 in
set_option maxRecDepth 100000 in
theorem k_mforce {G : GG} {Sh : HS} {I : HI} {R : HR} {m : Nat} {σ : SG} (hm0 : MI m Sh I R σ) (hw0 : WI σ) {t : Int32} : AM G 2 0 0 yX8_force cX8_force 3 (some .int) [.ref m, .int t] (Sh, I, R) (qi (updM m Sh I R (forceV σ t) (forceS σ t))) := by
  obtain ⟨hsh, hrf, ⟨hn, hn8⟩, hs, ⟨hru, hrt⟩, ⟨htc, htc6⟩, hmt, hmp, him, hse⟩ := id hm0
  have hmw := hm0.mw
  have hnb := hw0.nb
  obtain ⟨z0, z1, z6, z7, z8, z9, z10, z11, z12, z13, z14, z15, z16, z17⟩ := id hsh
  obtain ⟨y1, y6, y7, y8, y9, y10, y11, y12, y13, y14, y15, y16, y17⟩ := id hrf
  refine am_intro (by decide) (Nat.le_of_ble_eq_true rfl) ?_
  refine x_iload_n dX8_force_0 1 rfl rfl ?_
  refine x_iconst (v := 0) dX8_force_1 (by decide) ?_
  refine x_aload_n dX8_force_2 0 rfl rfl ?_
  refine x_gI (v := nI (gTc σ)) dX8_force_3 fl_8_211 rfl z0 htc ?_
  refine x_iconst (v := 1) dX8_force_6 (by decide) ?_
  refine x_isub dX8_force_7 ?_
  refine x_callS (rest := []) (k_mwithin (G := G) (Sh := Sh) (I := I) (R := R) (v := t) (lo := 0) (hi := (nI (gTc σ)) - 1)) dX8_force_8 crc_X8_within sc_8_82 rfl rfl (Nat.le_of_ble_eq_true rfl) (roomy_k (by omega) (by decide)) (Nat.le_refl _) (Nat.le_refl _) ?_
  rintro _ _ ⟨rw, rfl, hrw, rfl⟩
  rw [bI_iff (id_iff (n := gTc σ) (by omega))] at hrw
  subst hrw
  refine x_if_neB (tgt := 17) dX8_force_11 (by decide) (fun c_11 => ?_) (fun c_11 => ?_)
  · obtain ⟨j, hid_j⟩ := Option.isSome_iff_exists.mp c_11
    obtain ⟨hi_j, hie_j⟩ := idF_some (by omega) hid_j
    subst hie_j
    refine x_aload_n dX8_force_17 0 rfl rfl ?_
    refine x_gI (v := nI (gRu σ)) dX8_force_18 fl_8_218 rfl z0 hru ?_
    refine x_istore_n (lv' := [(2, .int (nI (gRu σ))), (0, .ref m), (1, .int (nI j))]) dX8_force_21 rfl (by decide) rfl ?_
    refine x_aload_n dX8_force_22 1 rfl rfl ?_
    refine x_iload_n dX8_force_23 2 rfl rfl ?_
    refine x_pI dX8_force_24 fl_8_218 rfl rfl rfl z0 (fun Iq1 e_Iq1 => ?_)
    refine x_iload_n dX8_force_27 0 rfl rfl ?_
    refine x_iret dX8_force_28 rfl (Nat.le_refl _) (Nat.le_refl _) ?_
    obtain ⟨y1, y2⟩ := force_ok hi_j htc6
    refine ⟨y1.symm, Iq1, rfl, ?_, fun a k q => by rw [e_Iq1, u2_ne (by omega)]⟩
    rw [y2, e_Iq1]
    exact hm0.strand (x := (gN σ, gW σ, j)) (fun a k q1 q2 q3 => u2_ne (by omega)) ((u2_ne (by omega)).trans hn) hn8 ⟨fun i hi k hk => (u2_ne (by omega)).trans (hs.1 i hi k hk), (u2_ne (by omega)).trans hs.2.1, (u2_ne (by omega)).trans hs.2.2⟩ u2_same hi_j
  · refine x_bipush (v := (-2)) dX8_force_14 (by decide) ?_
    refine x_iret dX8_force_16 rfl (Nat.le_refl _) (Nat.le_refl _) ?_
    obtain ⟨z1, z2⟩ := force_no (Option.not_isSome_iff_eq_none.mp c_11)
    refine ⟨z1.symm, I, rfl, ?_, FrM.rf⟩
    rw [z2]
    exact hm0

theorem wave_lt {σ : SG} (h : WI σ) : (gW σ).2.2 = 999 ∨ (gW σ).2.2 < 999 := by
  obtain ⟨a, ha, e⟩ := h.1.2.2
  rw [e]
  by_cases q : a = 999
  · exact Or.inl (by rw [q]; rfl)
  · exact Or.inr ((nI_ltI (b := 999) (by omega) (by omega)).mpr (by omega))

set_option maxHeartbeats 4000000 in
set_option maxRecDepth 100000 in
theorem k_mwave {G : GG} {Sh : HS} {I : HI} {R : HR} {m : Nat} {σ : SG} (hm0 : MI m Sh I R σ) (hw0 : WI σ) : AM G 5 0 0 yX8_wave cX8_wave 1 (some .int) [.ref m] (Sh, I, R) (qi (updM m Sh I R (waveV σ) (waveS σ))) := by
  obtain ⟨hsh, hrf, ⟨hn, hn8⟩, hs, ⟨hru, hrt⟩, ⟨htc, htc6⟩, hmt, hmp, him, hse⟩ := id hm0
  have hmw := hm0.mw
  have hnb := hw0.nb
  obtain ⟨z0, z1, z6, z7, z8, z9, z10, z11, z12, z13, z14, z15, z16, z17⟩ := id hsh
  obtain ⟨y1, y6, y7, y8, y9, y10, y11, y12, y13, y14, y15, y16, y17⟩ := id hrf
  refine am_intro (by decide) (Nat.le_of_ble_eq_true rfl) ?_
  refine x_aload_n dX8_wave_0 0 rfl rfl ?_
  refine x_gI (v := (gW σ).2.2) dX8_wave_1 fl_8_89 rfl z0 hs.2.2 ?_
  refine x_sipush (v := 999) dX8_wave_4 (by decide) ?_
  refine x_icmp_ne (tgt := 13) dX8_wave_7 (by decide) (fun c_7 => ?_) (fun c_7 => ?_)
  · refine x_aload_n dX8_wave_13 0 rfl rfl ?_
    refine x_callV (k_comes (G := G) hmw hs hnb) dX8_wave_14 crc_X8_comes vc_8_236 z0 rfl rfl rfl rfl (Nat.le_of_ble_eq_true rfl) (roomy_k (by omega) (by decide)) (Nat.le_refl _) (Nat.le_refl _) ?_
    rintro _ _ ⟨rfl, J2, rfl, hs2, hf2⟩
    refine x_aload_n dX8_wave_17 0 rfl rfl ?_
    refine x_callV (k_mstanding (G := G) (hmw.fr hf2) hs2) dX8_wave_18 crc_X8_standing vc_8_239 z0 rfl rfl rfl rfl (Nat.le_of_ble_eq_true rfl) (roomy_k (by omega) (by decide)) (Nat.le_refl _) (Nat.le_refl _) ?_
    rintro _ _ ⟨r9, rfl, hr9, rfl⟩
    refine x_iret dX8_wave_21 rfl (Nat.le_refl _) (Nat.le_refl _) ?_
    have hlt := (wave_lt hw0).resolve_left c_7
    obtain ⟨hx, hy⟩ := hm0.fr hf2 hs2
    refine ⟨?_, J2, rfl, ?_, hy⟩
    · unfold waveV
      rw [if_pos hlt]
      exact hr9
    · unfold waveS
      rw [if_pos hlt]
      exact hx
  · refine x_bipush (v := (-3)) dX8_wave_10 (by decide) ?_
    refine x_iret dX8_wave_12 rfl (Nat.le_refl _) (Nat.le_refl _) ?_
    refine ⟨?_, I, rfl, ?_, FrM.rf⟩
    · unfold waveV
      rw [if_neg (by rw [c_7]; decide)]
    · unfold waveS
      rw [if_neg (by rw [c_7]; decide)]
      exact hm0

set_option maxHeartbeats 4000000 in
set_option maxRecDepth 100000 in
theorem k_mspade {G : GG} {Sh : HS} {I : HI} {R : HR} {m : Nat} {σ : SG} (hm0 : MI m Sh I R σ) (hw0 : WI σ) {f : Int32} : AM G 5 0 0 yX8_spade cX8_spade 2 (some .int) [.ref m, .int f] (Sh, I, R) (qi (updM m Sh I R (spadeV σ f) (spadeS σ f))) := by
  obtain ⟨hsh, hrf, ⟨hn, hn8⟩, hs, ⟨hru, hrt⟩, ⟨htc, htc6⟩, hmt, hmp, him, hse⟩ := id hm0
  have hmw := hm0.mw
  have hnb := hw0.nb
  obtain ⟨z0, z1, z6, z7, z8, z9, z10, z11, z12, z13, z14, z15, z16, z17⟩ := id hsh
  obtain ⟨y1, y6, y7, y8, y9, y10, y11, y12, y13, y14, y15, y16, y17⟩ := id hrf
  refine am_intro (by decide) (Nat.le_of_ble_eq_true rfl) ?_
  refine x_aload_n dX8_spade_0 0 rfl rfl ?_
  refine x_iload_n dX8_spade_1 1 rfl rfl ?_
  refine x_callV (k_misFort (G := G) (Sh := Sh) (I := I) (R := R) hsh hn hn8 (f := f)) dX8_spade_2 crc_X8_isFort vc_8_102 z0 rfl rfl rfl rfl (Nat.le_of_ble_eq_true rfl) (roomy_k (by omega) (by decide)) (Nat.le_refl _) (Nat.le_refl _) ?_
  rintro _ _ ⟨ri, rfl, hri, rfl⟩
  subst hri
  refine x_if_neB (tgt := 11) dX8_spade_5 (by decide) (fun c_5 => ?_) (fun c_5 => ?_)
  · obtain ⟨i, hid_i⟩ := Option.isSome_iff_exists.mp c_5
    obtain ⟨hi_i, hie_i⟩ := idF_some hn8 hid_i
    subst hie_i
    have hi := hi_i
    refine x_aload_n dX8_spade_11 0 rfl rfl ?_
    refine x_iload_n dX8_spade_12 1 rfl rfl ?_
    refine x_callV (k_raised (G := G) hmw hs (f := i) hi) dX8_spade_13 crc_X8_raised vc_8_242 z0 rfl rfl rfl rfl (Nat.le_of_ble_eq_true rfl) (roomy_k (by omega) (by decide)) (Nat.le_refl _) (Nat.le_refl _) ?_
    rintro _ _ ⟨rfl, J2, rfl, hs2, hf2⟩
    refine x_aload_n dX8_spade_16 0 rfl rfl ?_
    refine x_gR (b := m + 1 + 4) dX8_spade_17 fl_8_22 rfl z0 (y1 4 (by omega)) ?_
    refine x_iload_n dX8_spade_20 1 rfl rfl ?_
    refine x_ia (j := i) (v := (spadeF (gP σ) (gN σ) i (gW σ)).1 i 4) dX8_spade_21 (z1 4 (by omega)) rfl (by omega) (by omega) (hs2.1 i hi 4 (by omega)) ?_
    refine x_iret dX8_spade_22 rfl (Nat.le_refl _) (Nat.le_refl _) ?_
    obtain ⟨hx, hy⟩ := hm0.fr hf2 hs2
    unfold spadeV spadeS
    rw [idF_in hi hn8]
    exact ⟨rfl, J2, rfl, hx, hy⟩
  · refine x_bipush (v := (-2)) dX8_spade_8 (by decide) ?_
    refine x_iret dX8_spade_10 rfl (Nat.le_refl _) (Nat.le_refl _) ?_
    have hno := Option.not_isSome_iff_eq_none.mp c_5
    unfold spadeV spadeS
    rw [hno]
    exact ⟨rfl, I, rfl, hm0, FrM.rf⟩

