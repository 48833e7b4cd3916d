/-! THE REFERENCE'S THINKING -/
def prM (m a k : Nat) : Prop := a = m + 10 ∨ a = m + 11 ∨ a = m + 12 ∨ a = m + 13 ∨ (a = m ∧ ((16 ≤ k ∧ k ≤ 21) ∨ k = 24 ∨ k = 25 ∨ k = 27))
def pvM (m : Nat) (I J : HI) : Prop := ∀ a k, ¬ prM m a k → J a k = I a k
theorem pvM.rf {m : Nat} {I : HI} : pvM m I I := fun _ _ _ => rfl
theorem pvM.tr {m : Nat} {I J J2 : HI} (h : pvM m I J) (h2 : pvM m J J2) : pvM m I J2 := fun a k q => (h2 a k q).trans (h a k q)
theorem offK.pv {m : Nat} {I J : HI} (h : offK m I J) : pvM m I J := fun a k q => h a k (by unfold prM at q; omega)
theorem MS.pv {I J : HI} {m n : Nat} {v : SV} (h : MS I m n v) (e : pvM m I J) : MS J m n v :=
  ⟨fun i hi k hk => (e _ _ (by unfold prM; omega)).trans (h.1 i hi k hk), (e _ _ (by unfold prM; omega)).trans h.2.1, (e _ _ (by unfold prM; omega)).trans h.2.2⟩
theorem MW.pv {Sh : HS} {I J : HI} {R : HR} {m n t : Nat} {P : Nat → List Int32} (h : MW Sh I R m n t P) (e : pvM m I J) : MW Sh J R m n t P :=
  ⟨h.1, h.2.1, (e _ _ (by unfold prM; omega)).trans h.2.2.1, h.2.2.2.1, (e _ _ (by unfold prM; omega)).trans h.2.2.2.2.1, h.2.2.2.2.2.1, h.2.2.2.2.2.2.elim fun c q => ⟨c, q.1, q.2.same (fun a k q1 q2 => e a k (by unfold prM; omega))⟩⟩
/-- a cell apart from all but the strand's own texts, numbers -/
theorem MW.ch {Sh : HS} {I J : HI} {R : HR} {m n t : Nat} {P : Nat → List Int32} (h : MW Sh I R m n t P) (e : ∀ a k, ¬ prM m a k → ¬ (m + 1 ≤ a ∧ a ≤ m + 5) → ¬ (a = m ∧ k ≤ 1) → J a k = I a k) : MW Sh J R m n t P :=
  ⟨h.1, h.2.1, (e _ _ (by unfold prM; omega) (by omega) (by omega)).trans h.2.2.1, h.2.2.2.1, (e _ _ (by unfold prM; omega) (by omega) (by omega)).trans h.2.2.2.2.1, h.2.2.2.2.2.1, h.2.2.2.2.2.2.elim fun c q => ⟨c, q.1, q.2.same (fun a k q1 q2 => e a k (by unfold prM; omega) (by omega) (by omega))⟩⟩
theorem MS.put {I : HI} {m n f k : Nat} {v : SV} {x : Int32} (h : MS I m n v) (hk : k < 5) : MS (u2 I (m + 1 + k) f x) m n (upV v f k x) := by
  refine ⟨fun i hi q hq => ?_, by rw [u2_ne (by omega)]; exact h.2.1, by rw [u2_ne (by omega)]; exact h.2.2⟩
  unfold upV
  by_cases e : i = f ∧ q = k
  · obtain ⟨rfl, rfl⟩ := e
    rw [u2_same]
    simp
  · rw [u2_ne (by omega), h.1 i hi q hq]
    simp [e]
/-- thinking since I: what was there stands aside -/
def TK (m : Nat) (I J : HI) : Prop := (∀ k, k < 8 → J (m + 11) k = I (m + 1 + 4) k) ∧ J m 24 = I m 1 ∧ J m 25 = I m 0 ∧ ∀ a k, ¬ prM m a k → ¬ (a = m + 1 + 4 ∧ k < 8) → ¬ (a = m ∧ k ≤ 1) → J a k = I a k
theorem TK.fr {m : Nat} {I J J2 : HI} (h : TK m I J) (e : frM m J J2) : TK m I J2 :=
  ⟨fun k hk => (e _ _ (by omega) (by omega) (by omega) (by omega)).trans (h.1 k hk), (e _ _ (by omega) (by omega) (by omega) (by omega)).trans h.2.1, (e _ _ (by omega) (by omega) (by omega) (by omega)).trans h.2.2.1, fun a k q1 q2 q3 => (e a k (by unfold prM at q1; omega) (by unfold prM at q1; omega) q2 (by omega)).trans (h.2.2.2 a k q1 q2 q3)⟩
theorem TK.mw {Sh : HS} {I J : HI} {R : HR} {m n t : Nat} {P : Nat → List Int32} (h : MW Sh I R m n t P) (e : TK m I J) : MW Sh J R m n t P := h.ch (fun a k q1 q2 q3 => e.2.2.2 a k q1 (by omega) q3)
/-- one cell is otherwise -/
def pvH (m a0 k0 : Nat) (I J : HI) : Prop := ∀ a k, ¬ prM m a k → ¬ (a = a0 ∧ k = k0) → J a k = I a k
theorem pvM.h {m a0 k0 : Nat} {I J : HI} (h : pvM m I J) : pvH m a0 k0 I J := fun a k q _ => h a k q
theorem pvH.set {m a0 k0 : Nat} {I J : HI} {x : Int32} (h : pvH m a0 k0 I J) : pvH m a0 k0 I (u2 J a0 k0 x) := fun a k q1 q2 => (u2_ne q2).trans (h a k q1 q2)
theorem pvH.tr {m a0 k0 : Nat} {I J J2 : HI} (h : pvH m a0 k0 I J) (h2 : pvM m J J2) : pvH m a0 k0 I J2 := fun a k q1 q2 => (h2 a k q1).trans (h a k q1 q2)
theorem pvH.fin {m a0 k0 : Nat} {I J : HI} (h : pvH m a0 k0 I J) (e : J a0 k0 = I a0 k0) : pvM m I J := fun a k q1 => by
  by_cases z : a = a0 ∧ k = k0
  · rw [z.1, z.2]; exact e
  · exact h a k q1 z
theorem MW.h {Sh : HS} {I J : HI} {R : HR} {m n t a0 k0 : Nat} {P : Nat → List Int32} (h : MW Sh I R m n t P) (e : pvH m a0 k0 I J) (q : (m + 1 ≤ a0 ∧ a0 ≤ m + 5) ∨ (a0 = m ∧ k0 ≤ 1)) : MW Sh J R m n t P := h.ch (fun a k q1 q2 q3 => e a k q1 (by omega))
theorem MS.h {I J : HI} {m n k0 f0 : Nat} {v : SV} {x : Int32} (h : MS I m n v) (e : pvH m (m + 1 + k0) f0 I J) (hk0 : k0 < 5) (hx : J (m + 1 + k0) f0 = x) : MS J m n (upV v f0 k0 x) := by
  refine ⟨fun i hi q hq => ?_, (e _ _ (by unfold prM; omega) (by omega)).trans h.2.1, (e _ _ (by unfold prM; omega) (by omega)).trans h.2.2⟩
  unfold upV
  by_cases z : i = f0 ∧ q = k0
  · obtain ⟨rfl, rfl⟩ := z
    simp [hx]
  · rw [e _ _ (by unfold prM; omega) (by omega), h.1 i hi q hq]
    simp [z]
theorem NB.up {n f k : Nat} {v : SV} {x : Int32} (h : NB n v) (hk : k ≠ 1) : NB n (upV v f k x) := fun i hi => by
  obtain ⟨a, ha, e⟩ := h i hi
  refine ⟨a, ha, ?_⟩
  unfold upV
  simp [Ne.symm hk, e]
theorem NB.up1 {n f c : Nat} {v : SV} (h : NB n v) (hc : c < 10) : NB n (upV v f 1 (nI c)) := fun i hi => by
  obtain ⟨a, ha, e⟩ := h i hi
  unfold upV
  by_cases z : i = f
  · exact ⟨c, hc, by simp [z]⟩
  · exact ⟨a, ha, by simp [z, e]⟩
theorem NB.mo {n : Nat} {v : SV} {x y : Int32} (h : NB n v) : NB n (v.1, x, y) := h
def qryM (m : Nat) (Sh : HS) (I : HI) (R : HR) (val : Int32) : Int32 → AH → Prop := fun r g => r = val ∧ ∃ J : HI, g = (Sh, J, R) ∧ pvM m I J

set_option maxHeartbeats 4000000 in
set_option maxRecDepth 100000 in
theorem k_keep_l {G : GG} {Sh : HS} {I : HI} {R : HR} {m : Nat} (hsh : MSh Sh m) (hrf : MRf R m) : ∀ (m9 : Nat) (i : Nat) (J : HI), (i ≤ 8) → (8 < i + m9) → (∀ k, k < i → J (m + 11) k = I (m + 1 + 4) k) → (pvM m I J) → X G (kM G 1 0 0 (qv fun g => ∃ J : HI, g = (Sh, J, R) ∧ TK m I J ∧ pvM m I J)) yX8_keep cX8_keep 2 none 0 0 2 [(1, .int (nI i)), (0, .ref m)] [] (Sh, J, R) := by
  intro m9
  induction m9 with
  | zero =>
    intro i J hi hm hc9 hpv
    exact absurd hm (by omega)
  | succ m9 ih =>
    intro i J hi hm hc9 hpv
    obtain ⟨z0, z1, z6, z7, z8, z9, z10, z11, z12, z13, z14, z15, z16, z17⟩ := id hsh
    obtain ⟨y1, y6, y7, y8, y9, y10, y11, y12, y13, y14, y15, y16, y17⟩ := id hrf
    refine x_iload_n dX8_keep_2 0 rfl rfl ?_
    refine x_bipush (v := nI 8) dX8_keep_3 (by decide) ?_
    refine x_icmp_ge (tgt := 26) dX8_keep_5 (by decide) (fun c_5 => ?_) (fun c_5 => ?_)
    · have c_5 : 8 ≤ i := (nI_leI (a := 8) (b := i) (by omega) (by omega)).mp c_5
      refine x_aload_n dX8_keep_26 1 rfl rfl ?_
      refine x_aload_n dX8_keep_27 1 rfl rfl ?_
      refine x_gI (v := I m 1) dX8_keep_28 fl_8_89 rfl z0 (hpv _ _ (by unfold prM; omega)) ?_
      refine x_pI dX8_keep_31 fl_8_246 rfl rfl rfl z0 (fun Iq1 e_Iq1 => ?_)
      refine x_aload_n dX8_keep_34 1 rfl rfl ?_
      refine x_aload_n dX8_keep_35 1 rfl rfl ?_
      refine x_gI (v := I m 0) dX8_keep_36 fl_8_86 rfl z0 (by rw [e_Iq1, u2_ne (by omega)]; exact hpv _ _ (by unfold prM; omega)) ?_
      refine x_pI dX8_keep_39 fl_8_249 rfl rfl rfl z0 (fun Iq2 e_Iq2 => ?_)
      refine x_vret dX8_keep_42 rfl (Nat.le_refl _) (Nat.le_refl _) ?_
      have hi8 : i = 8 := by omega
      subst hi8
      refine ⟨_, rfl, ⟨fun k hk => ?_, ?_, ?_, fun a k q1 q2 q3 => ?_⟩, fun a k q1 => ?_⟩
      · rw [e_Iq2, u2_ne (by omega), e_Iq1, u2_ne (by omega)]
        exact hc9 k hk
      · rw [e_Iq2, u2_ne (by omega), e_Iq1, u2_same]
      · rw [e_Iq2, u2_same]
      · rw [e_Iq2, u2_ne (by unfold prM at q1; omega), e_Iq1, u2_ne (by unfold prM at q1; omega)]
        exact hpv a k q1
      · rw [e_Iq2, u2_ne (by unfold prM at q1; omega), e_Iq1, u2_ne (by unfold prM at q1; omega)]
        exact hpv a k q1
    · have c_5 : ¬ 8 ≤ i := fun zz9 => c_5 ((nI_leI (a := 8) (b := i) (by omega) (by omega)).mpr zz9)
      refine x_aload_n dX8_keep_8 1 rfl rfl ?_
      refine x_gR (b := m + 11) dX8_keep_9 fl_8_40 rfl z0 y11 ?_
      refine x_iload_n dX8_keep_12 0 rfl rfl ?_
      refine x_aload_n dX8_keep_13 1 rfl rfl ?_
      refine x_gR (b := m + 1 + 4) dX8_keep_14 fl_8_22 rfl z0 (y1 4 (by omega)) ?_
      refine x_iload_n dX8_keep_17 0 rfl rfl ?_
      refine x_ia (j := i) (v := I (m + 1 + 4) i) dX8_keep_18 (z1 4 (by omega)) rfl (by omega) (by omega) (hpv _ _ (by unfold prM; omega)) ?_
      refine x_is (j := i) dX8_keep_19 z11 rfl (by omega) (by omega) (fun Iq3 e_Iq3 => ?_)
      refine x_iinc (v := nI (i + 1)) (lv' := [(1, .int (nI (i + 1))), (0, .ref m)]) dX8_keep_20 0 rfl (nI_1 i) (by decide) rfl ?_
      refine x_goto (tgt := 2) dX8_keep_23 (by decide) ?_
      refine x_sub [0, 1] rfl ?_
      exact ih (i + 1) Iq3 (by omega) (by omega) (fun k hk => by
        rw [e_Iq3]
        by_cases z : k = i
        · rw [z, u2_same]
        · rw [u2_ne (by omega)]
          exact hc9 k (by omega)) (fun a k q1 => by
        rw [e_Iq3, u2_ne (by unfold prM at q1; omega)]
        exact hpv a k q1)

set_option maxHeartbeats 4000000 in
set_option maxRecDepth 100000 in
theorem k_keep {G : GG} {Sh : HS} {I : HI} {R : HR} {m : Nat} (hsh : MSh Sh m) (hrf : MRf R m) : AM G 1 0 0 yX8_keep cX8_keep 2 none [.ref m] (Sh, I, R) (qv fun g => ∃ J : HI, g = (Sh, J, R) ∧ TK m I J ∧ pvM m I J) := by
  refine am_intro (by decide) (Nat.le_of_ble_eq_true rfl) ?_
  refine x_iconst (v := nI 0) dX8_keep_0 (by decide) ?_
  refine x_istore_n (lv' := [(1, .int (nI 0)), (0, .ref m)]) dX8_keep_1 rfl (by decide) rfl ?_
  exact k_keep_l hsh hrf 9 0 I (by omega) (by omega) (fun k hk => absurd hk (by omega)) pvM.rf

set_option maxHeartbeats 4000000 in
set_option maxRecDepth 100000 in
theorem k_again_l {G : GG} {Sh : HS} {I : HI} {R : HR} {m : Nat} (hsh : MSh Sh m) (hrf : MRf R m) : ∀ (m9 : Nat) (i : Nat) (J : HI), (i ≤ 8) → (8 < i + m9) → (∀ k, k < i → J (m + 1 + 4) k = I (m + 1 + 4) k) → (TK m I J) → X G (kM G 1 0 0 (qv fun g => ∃ J2 : HI, g = (Sh, J2, R) ∧ pvM m I J2)) yX8_again cX8_again 2 none 0 0 2 [(1, .int (nI i)), (0, .ref m)] [] (Sh, J, R) := by
  intro m9
  induction m9 with
  | zero =>
    intro i J hi hm hc9 ht
    exact absurd hm (by omega)
  | succ m9 ih =>
    intro i J hi hm hc9 ht
    obtain ⟨z0, z1, z6, z7, z8, z9, z10, z11, z12, z13, z14, z15, z16, z17⟩ := id hsh
    obtain ⟨y1, y6, y7, y8, y9, y10, y11, y12, y13, y14, y15, y16, y17⟩ := id hrf
    refine x_iload_n dX8_again_2 0 rfl rfl ?_
    refine x_bipush (v := nI 8) dX8_again_3 (by decide) ?_
    refine x_icmp_ge (tgt := 26) dX8_again_5 (by decide) (fun c_5 => ?_) (fun c_5 => ?_)
    · have c_5 : 8 ≤ i := (nI_leI (a := 8) (b := i) (by omega) (by omega)).mp c_5
      refine x_aload_n dX8_again_26 1 rfl rfl ?_
      refine x_aload_n dX8_again_27 1 rfl rfl ?_
      refine x_gI (v := I m 1) dX8_again_28 fl_8_246 rfl z0 ht.2.1 ?_
      refine x_pI dX8_again_31 fl_8_89 rfl rfl rfl z0 (fun Iq1 e_Iq1 => ?_)
      refine x_aload_n dX8_again_34 1 rfl rfl ?_
      refine x_aload_n dX8_again_35 1 rfl rfl ?_
      refine x_gI (v := I m 0) dX8_again_36 fl_8_249 rfl z0 (by rw [e_Iq1, u2_ne (by omega)]; exact ht.2.2.1) ?_
      refine x_pI dX8_again_39 fl_8_86 rfl rfl rfl z0 (fun Iq2 e_Iq2 => ?_)
      refine x_vret dX8_again_42 rfl (Nat.le_refl _) (Nat.le_refl _) ?_
      have hi8 : i = 8 := by omega
      subst hi8
      refine ⟨_, rfl, fun a k q1 => ?_⟩
      rw [e_Iq2]
      by_cases z1 : a = m ∧ k = 0
      · rw [z1.1, z1.2, u2_same]
      · rw [u2_ne z1, e_Iq1]
        by_cases z2 : a = m ∧ k = 1
        · rw [z2.1, z2.2, u2_same]
        · rw [u2_ne z2]
          by_cases z3 : a = m + 1 + 4 ∧ k < 8
          · rw [z3.1]
            exact hc9 k z3.2
          · exact ht.2.2.2 a k q1 z3 (by omega)
    · have c_5 : ¬ 8 ≤ i := fun zz9 => c_5 ((nI_leI (a := 8) (b := i) (by omega) (by omega)).mpr zz9)
      refine x_aload_n dX8_again_8 1 rfl rfl ?_
      refine x_gR (b := m + 1 + 4) dX8_again_9 fl_8_22 rfl z0 (y1 4 (by omega)) ?_
      refine x_iload_n dX8_again_12 0 rfl rfl ?_
      refine x_aload_n dX8_again_13 1 rfl rfl ?_
      refine x_gR (b := m + 11) dX8_again_14 fl_8_40 rfl z0 y11 ?_
      refine x_iload_n dX8_again_17 0 rfl rfl ?_
      refine x_ia (j := i) (v := I (m + 1 + 4) i) dX8_again_18 z11 rfl (by omega) (by omega) (ht.1 i (by omega)) ?_
      refine x_is (j := i) dX8_again_19 (z1 4 (by omega)) rfl (by omega) (by omega) (fun Iq3 e_Iq3 => ?_)
      refine x_iinc (v := nI (i + 1)) (lv' := [(1, .int (nI (i + 1))), (0, .ref m)]) dX8_again_20 0 rfl (nI_1 i) (by decide) rfl ?_
      refine x_goto (tgt := 2) dX8_again_23 (by decide) ?_
      refine x_sub [0, 1] rfl ?_
      exact ih (i + 1) Iq3 (by omega) (by omega) (fun k hk => by
        rw [e_Iq3]
        by_cases z : k = i
        · rw [z, u2_same]
        · rw [u2_ne (by omega)]
          exact hc9 k (by omega)) (ht.fr (fun a k q1 q2 q3 q4 => by rw [e_Iq3, u2_ne (by omega)]))

set_option maxHeartbeats 4000000 in
set_option maxRecDepth 100000 in
theorem k_again {G : GG} {Sh : HS} {I : HI} {R : HR} {m : Nat} (hsh : MSh Sh m) (hrf : MRf R m) {J : HI} (ht : TK m I J) : AM G 1 0 0 yX8_again cX8_again 2 none [.ref m] (Sh, J, R) (qv fun g => ∃ J2 : HI, g = (Sh, J2, R) ∧ pvM m I J2) := by
  refine am_intro (by decide) (Nat.le_of_ble_eq_true rfl) ?_
  refine x_iconst (v := nI 0) dX8_again_0 (by decide) ?_
  refine x_istore_n (lv' := [(1, .int (nI 0)), (0, .ref m)]) dX8_again_1 rfl (by decide) rfl ?_
  exact k_again_l hsh hrf 9 0 J (by omega) (by omega) (fun k hk => absurd hk (by omega)) ht

set_option maxHeartbeats 4000000 in
set_option maxRecDepth 100000 in
theorem k_heightBehind {G : GG} {Sh : HS} {I : HI} {R : HR} {m n t : Nat} {P : Nat → List Int32} (w : MW Sh I R m n t P) {v : SV} (hs : MS I m n v) (hnb : NB n v) {f k : Nat} (hfn : f < n) (hk : k ≤ 40) : AM G 6 0 0 yX8_heightBehind cX8_heightBehind 4 (some .int) [.ref m, .int (nI f), .int (nI k)] (Sh, I, R) (qi (qryM m Sh I R ((passF P n v k).1 f 4))) := by
  obtain ⟨hsh, hrf, hn, hn8, hru, hr6, cd9, hcd9, htx⟩ := id w
  obtain ⟨z0, z1, z6, z7, z8, z9, z10, z11, z12, z13, z14, z15, z16, z17⟩ := id hsh
  obtain ⟨y1, y6, y7, y8, y9, y10, y11, y12, y13, y14, y15, y16, y17⟩ := id hrf
  refine am_intro (by decide) (Nat.le_of_ble_eq_true rfl) ?_
  refine x_aload_n dX8_heightBehind_0 0 rfl rfl ?_
  refine x_callV (k_keep (G := G) (I := I) hsh hrf) dX8_heightBehind_1 crc_X8_keep vc_8_265 z0 rfl rfl rfl rfl (Nat.le_of_ble_eq_true rfl) (roomy_k (by omega) (by decide)) (Nat.le_refl _) (Nat.le_refl _) ?_
  rintro _ _ ⟨rfl, J1, rfl, htk, hp1⟩
  have hs1 := hs.pv hp1
  refine x_aload_n dX8_heightBehind_4 0 rfl rfl ?_
  refine x_iload_n dX8_heightBehind_5 2 rfl rfl ?_
  refine x_callV (k_mwaves (G := G) (w.pv hp1) hs1 hnb (k := k) (by omega)) dX8_heightBehind_6 crc_X8_waves vc_8_268 z0 rfl rfl rfl rfl (Nat.le_of_ble_eq_true rfl) (roomy_k (by omega) (by decide)) (Nat.le_refl _) (Nat.le_refl _) ?_
  rintro _ _ ⟨rfl, J2, rfl, hs2, hf2⟩
  have htk := htk.fr hf2
  have w2 := (w.pv hp1).fr hf2
  refine x_aload_n dX8_heightBehind_9 0 rfl rfl ?_
  refine x_gR (b := m + 1 + 4) dX8_heightBehind_10 fl_8_22 rfl z0 (y1 4 (by omega)) ?_
  refine x_iload_n dX8_heightBehind_13 1 rfl rfl ?_
  refine x_ia (j := f) (v := (passF P n v k).1 f 4) dX8_heightBehind_14 (z1 4 (by omega)) rfl (by omega) (by omega) (hs2.1 f hfn 4 (by omega)) ?_
  refine x_topi (fun xq1 e_xq1 => ?_)
  refine x_istore_n (lv' := [(3, .int xq1), (0, .ref m), (1, .int (nI f)), (2, .int (nI k))]) dX8_heightBehind_15 rfl (by decide) rfl ?_
  refine x_aload_n dX8_heightBehind_16 1 rfl rfl ?_
  refine x_callV (k_again (G := G) hsh hrf (J := J2) htk) dX8_heightBehind_17 crc_X8_again vc_8_274 z0 rfl rfl rfl rfl (Nat.le_of_ble_eq_true rfl) (roomy_k (by omega) (by decide)) (Nat.le_refl _) (Nat.le_refl _) ?_
  rintro _ _ ⟨rfl, J9, rfl, hp9⟩
  refine x_iload_n dX8_heightBehind_20 0 rfl rfl ?_
  refine x_iret dX8_heightBehind_21 rfl (Nat.le_refl _) (Nat.le_refl _) ?_
  exact ⟨e_xq1, J9, rfl, hp9⟩

set_option maxHeartbeats 4000000 in
set_option maxRecDepth 100000 in
theorem k_valueBehind {G : GG} {Sh : HS} {I : HI} {R : HR} {m n t : Nat} {P : Nat → List Int32} (w : MW Sh I R m n t P) {v : SV} (hs : MS I m n v) (hnb : NB n v) {r : Int32} {k : Nat} (hk : k ≤ 40) : AM G 6 0 0 yX8_valueBehind cX8_valueBehind 4 (some .int) [.ref m, .int r, .int (nI k)] (Sh, I, R) (qi (qryM m Sh I R (valueF P n r (passF P n v k)))) := by
  obtain ⟨hsh, hrf, hn, hn8, hru, hr6, cd9, hcd9, htx⟩ := id w
  obtain ⟨z0, z1, z6, z7, z8, z9, z10, z11, z12, z13, z14, z15, z16, z17⟩ := id hsh
  obtain ⟨y1, y6, y7, y8, y9, y10, y11, y12, y13, y14, y15, y16, y17⟩ := id hrf
  refine am_intro (by decide) (Nat.le_of_ble_eq_true rfl) ?_
  refine x_aload_n dX8_valueBehind_0 0 rfl rfl ?_
  refine x_callV (k_keep (G := G) (I := I) hsh hrf) dX8_valueBehind_1 crc_X8_keep vc_8_265 z0 rfl rfl rfl rfl (Nat.le_of_ble_eq_true rfl) (roomy_k (by omega) (by decide)) (Nat.le_refl _) (Nat.le_refl _) ?_
  rintro _ _ ⟨rfl, J1, rfl, htk, hp1⟩
  have hs1 := hs.pv hp1
  refine x_aload_n dX8_valueBehind_4 0 rfl rfl ?_
  refine x_iload_n dX8_valueBehind_5 2 rfl rfl ?_
  refine x_callV (k_mwaves (G := G) (w.pv hp1) hs1 hnb (k := k) (by omega)) dX8_valueBehind_6 crc_X8_waves vc_8_268 z0 rfl rfl rfl rfl (Nat.le_of_ble_eq_true rfl) (roomy_k (by omega) (by decide)) (Nat.le_refl _) (Nat.le_refl _) ?_
  rintro _ _ ⟨rfl, J2, rfl, hs2, hf2⟩
  have htk := htk.fr hf2
  have w2 := (w.pv hp1).fr hf2
  refine x_aload_n dX8_valueBehind_9 0 rfl rfl ?_
  refine x_iload_n dX8_valueBehind_10 1 rfl rfl ?_
  refine x_callV (k_mvalueOf (G := G) w2 hs2 (r := r)) dX8_valueBehind_11 crc_X8_valueOf vc_8_255 z0 rfl rfl rfl rfl (Nat.le_of_ble_eq_true rfl) (roomy_k (by omega) (by decide)) (Nat.le_refl _) (Nat.le_refl _) ?_
  rintro _ _ ⟨x9, rfl, hx9, J3, hof3, rfl⟩
  have htk := htk.fr hof3.fr
  refine x_istore_n (lv' := [(3, .int x9), (0, .ref m), (1, .int r), (2, .int (nI k))]) dX8_valueBehind_14 rfl (by decide) rfl ?_
  refine x_aload_n dX8_valueBehind_15 1 rfl rfl ?_
  refine x_callV (k_again (G := G) hsh hrf (J := J3) htk) dX8_valueBehind_16 crc_X8_again vc_8_274 z0 rfl rfl rfl rfl (Nat.le_of_ble_eq_true rfl) (roomy_k (by omega) (by decide)) (Nat.le_refl _) (Nat.le_refl _) ?_
  rintro _ _ ⟨rfl, J9, rfl, hp9⟩
  refine x_iload_n dX8_valueBehind_19 0 rfl rfl ?_
  refine x_iret dX8_valueBehind_20 rfl (Nat.le_refl _) (Nat.le_refl _) ?_
  exact ⟨hx9, J9, rfl, hp9⟩

set_option maxHeartbeats 4000000 in
set_option maxRecDepth 100000 in
theorem k_misAsked {G : GG} {Sh : HS} {I : HI} {R : HR} {m n : Nat} (hsh : MSh Sh m) (hn : I m 2 = nI n) (hn8 : n ≤ 8) {w : Int32} : AM G 3 0 0 yX8_isAsked cX8_isAsked 2 (some .boolean) [.ref m, .int w] (Sh, I, R) (qi fun r g => r = bI (viewP n w) ∧ g = (Sh, I, R)) := by
  refine am_intro (by decide) (Nat.le_of_ble_eq_true rfl) ?_
  refine x_iload_n dX8_isAsked_0 1 rfl rfl ?_
  refine x_iconst (v := 0) dX8_isAsked_1 (by decide) ?_
  refine x_iconst (v := 2) dX8_isAsked_2 (by decide) ?_
  refine x_callS (rest := []) (k_mwithin (G := G) (Sh := Sh) (I := I) (R := R) (v := w) (lo := 0) (hi := 2)) dX8_isAsked_3 crc_X8_within sc_8_82 rfl rfl (Nat.le_of_ble_eq_true rfl) (roomy_k (by omega) (by decide)) (Nat.le_refl _) (Nat.le_refl _) ?_
  rintro _ _ ⟨rw, rfl, hrw, rfl⟩
  subst hrw
  refine x_if_neB (tgt := 20) dX8_isAsked_6 (by decide) (fun c_6 => ?_) (fun c_6 => ?_)
  · refine x_iconst (v := 1) dX8_isAsked_20 (by decide) ?_
    refine x_goto (tgt := 25) dX8_isAsked_21 (by decide) ?_
    refine x_zret dX8_isAsked_25 rfl rfl (Nat.le_refl _) (Nat.le_refl _) ?_
    exact ⟨(bI_t (Or.inl c_6)).symm, rfl⟩
  · refine x_aload_n dX8_isAsked_9 0 rfl rfl ?_
    refine x_iload_n dX8_isAsked_10 1 rfl rfl ?_
    refine x_bipush (v := 10) dX8_isAsked_11 (by decide) ?_
    refine x_isub dX8_isAsked_13 ?_
    refine x_callV (k_misFort (G := G) (Sh := Sh) (I := I) (R := R) hsh hn hn8 (f := w - 10)) dX8_isAsked_14 crc_X8_isFort vc_8_102 hsh.1 rfl rfl rfl rfl (Nat.le_of_ble_eq_true rfl) (roomy_k (by omega) (by decide)) (Nat.le_refl _) (Nat.le_refl _) ?_
    rintro _ _ ⟨ri, rfl, hri, rfl⟩
    subst hri
    refine x_if_eqB (tgt := 24) dX8_isAsked_17 (by decide) (fun c_17 => ?_) (fun c_17 => ?_)
    · refine x_iconst (v := 0) dX8_isAsked_24 (by decide) ?_
      refine x_zret dX8_isAsked_25 rfl rfl (Nat.le_refl _) (Nat.le_refl _) ?_
      exact ⟨(bI_f (fun z => z.elim c_6 c_17)).symm, rfl⟩
    · refine x_iconst (v := 1) dX8_isAsked_20 (by decide) ?_
      refine x_goto (tgt := 25) dX8_isAsked_21 (by decide) ?_
      refine x_zret dX8_isAsked_25 rfl rfl (Nat.le_refl _) (Nat.le_refl _) ?_
      exact ⟨(bI_t (Or.inr c_17)).symm, rfl⟩

set_option maxHeartbeats 4000000 in
set_option maxRecDepth 100000 in
theorem k_masked {G : GG} {Sh : HS} {I : HI} {R : HR} {m n t : Nat} {P : Nat → List Int32} (w : MW Sh I R m n t P) {v : SV} (hs : MS I m n v) {q : Int32} (hq : viewP n q) : AM G 4 0 0 yX8_asked cX8_asked 2 (some .int) [.ref m, .int q] (Sh, I, R) (qi fun r g => r = vwF P n v q ∧ ∃ J : HI, g = (Sh, J, R) ∧ offK m I J) := by
  obtain ⟨hsh, hrf, hn, hn8, hru, hr6, cd9, hcd9, htx⟩ := id w
  obtain ⟨z0, z1, z6, z7, z8, z9, z10, z11, z12, z13, z14, z15, z16, z17⟩ := id hsh
  obtain ⟨y1, y6, y7, y8, y9, y10, y11, y12, y13, y14, y15, y16, y17⟩ := id hrf
  refine am_intro (by decide) (Nat.le_of_ble_eq_true rfl) ?_
  refine x_iload_n dX8_asked_0 1 rfl rfl ?_
  refine x_if_ne (tgt := 11) dX8_asked_1 (by decide) (fun c_1 => ?_) (fun c_1 => ?_)
  · refine x_iload_n dX8_asked_11 1 rfl rfl ?_
    refine x_iconst (v := 1) dX8_asked_12 (by decide) ?_
    refine x_icmp_ne (tgt := 23) dX8_asked_13 (by decide) (fun c_13 => ?_) (fun c_13 => ?_)
    · refine x_iload_n dX8_asked_23 1 rfl rfl ?_
      refine x_iconst (v := 2) dX8_asked_24 (by decide) ?_
      refine x_icmp_ne (tgt := 36) dX8_asked_25 (by decide) (fun c_25 => ?_) (fun c_25 => ?_)
      · have hid0 : (idF n (q - 10)).isSome = true := by
          rcases hq with z | z
          · exfalso
            obtain ⟨j, hj, rfl⟩ := nI_of2 (M := 2) (n := 2) (by decide) (Int32.not_lt.mpr z.1) z.2
            have : j = 0 ∨ j = 1 ∨ j = 2 := by omega
            rcases this with rfl | rfl | rfl
            · exact c_1 rfl
            · exact c_13 rfl
            · exact c_25 rfl
          · exact z
        obtain ⟨j, hid⟩ := Option.isSome_iff_exists.mp hid0
        obtain ⟨hj, hje⟩ := idF_some hn8 hid
        refine x_aload_n dX8_asked_36 0 rfl rfl ?_
        refine x_gR (b := m + 1 + 4) dX8_asked_37 fl_8_22 rfl z0 (y1 4 (by omega)) ?_
        refine x_iload_n dX8_asked_40 1 rfl rfl ?_
        refine x_bipush (v := 10) dX8_asked_41 (by decide) ?_
        refine x_isub dX8_asked_43 ?_
        refine x_ia (j := j) (v := v.1 j 4) dX8_asked_44 (z1 4 (by omega)) hje (by omega) (by omega) (hs.1 j hj 4 (by omega)) ?_
        refine x_iret dX8_asked_45 rfl (Nat.le_refl _) (Nat.le_refl _) ?_
        refine ⟨?_, I, rfl, offK.rf⟩
        unfold vwF
        rw [if_neg c_1, if_neg c_13, if_neg c_25, hid]
      · refine x_aload_n dX8_asked_28 0 rfl rfl ?_
        refine x_iconst (v := 0) dX8_asked_29 (by decide) ?_
        refine x_callV (k_mvalueOf (G := G) w hs (r := 0)) dX8_asked_30 crc_X8_valueOf vc_8_255 z0 rfl rfl rfl rfl (Nat.le_of_ble_eq_true rfl) (roomy_k (by omega) (by decide)) (Nat.le_refl _) (Nat.le_refl _) ?_
        rintro _ _ ⟨r9, rfl, hr9, J3, hof3, rfl⟩
        refine x_goto (tgt := 45) dX8_asked_33 (by decide) ?_
        refine x_iret dX8_asked_45 rfl (Nat.le_refl _) (Nat.le_refl _) ?_
        refine ⟨?_, J3, rfl, hof3⟩
        unfold vwF
        rw [if_neg c_1, if_neg c_13, if_pos c_25]; exact hr9
    · refine x_aload_n dX8_asked_16 0 rfl rfl ?_
      refine x_callV (k_mbay (G := G) w hs) dX8_asked_17 crc_X8_bay vc_8_252 z0 rfl rfl rfl rfl (Nat.le_of_ble_eq_true rfl) (roomy_k (by omega) (by decide)) (Nat.le_refl _) (Nat.le_refl _) ?_
      rintro _ _ ⟨r9, rfl, hr9, rfl⟩
      refine x_goto (tgt := 45) dX8_asked_20 (by decide) ?_
      refine x_iret dX8_asked_45 rfl (Nat.le_refl _) (Nat.le_refl _) ?_
      refine ⟨?_, I, rfl, offK.rf⟩
      unfold vwF
      rw [if_neg c_1, if_pos c_13]; exact hr9
  · refine x_aload_n dX8_asked_4 0 rfl rfl ?_
    refine x_callV (k_mstanding (G := G) w hs) dX8_asked_5 crc_X8_standing vc_8_239 z0 rfl rfl rfl rfl (Nat.le_of_ble_eq_true rfl) (roomy_k (by omega) (by decide)) (Nat.le_refl _) (Nat.le_refl _) ?_
    rintro _ _ ⟨r9, rfl, hr9, rfl⟩
    refine x_goto (tgt := 45) dX8_asked_8 (by decide) ?_
    refine x_iret dX8_asked_45 rfl (Nat.le_refl _) (Nat.le_refl _) ?_
    refine ⟨?_, I, rfl, offK.rf⟩
    unfold vwF
    rw [if_pos c_1]; exact hr9

noncomputable def drX (P : Nat → List Int32) (n : Nat) (s : Int32) (v : SV) (q : Nat) : Int32 × SV := fd (fun _ x => (x.1 * 1103515245 + 12345, beatF P n (x.2.1, moonF (x.1 * 1103515245 + 12345), x.2.2.2))) (s, v) q
theorem drX_s {P : Nat → List Int32} {n : Nat} {s : Int32} {v : SV} {q : Nat} : drX P n s v (q + 1) = ((drX P n s v q).1 * 1103515245 + 12345, beatF P n ((drX P n s v q).2.1, moonF ((drX P n s v q).1 * 1103515245 + 12345), (drX P n s v q).2.2.2)) := by
  unfold drX
  rw [fd_s]
theorem drX_drG {σ : SG} {s : Int32} {q : Nat} : drX (gP σ) (gN σ) s (gW σ) q = drG σ s q := rfl
theorem NB.dr {P : Nat → List Int32} {n : Nat} {s : Int32} {v : SV} (h : NB n v) (q : Nat) : NB n (drX P n s v q).2 := by
  induction q with
  | zero => exact h
  | succ q ih =>
    rw [drX_s]
    exact NB.beat (P := P) (v := ((drX P n s v q).2.1, moonF ((drX P n s v q).1 * 1103515245 + 12345), (drX P n s v q).2.2.2)) (fun i hi => ih i hi)

theorem TK.ch0 {m : Nat} {I J J2 : HI} (h : TK m I J) (e : ∀ a k, ¬ (a = m ∧ k = 0) → J2 a k = J a k) : TK m I J2 :=
  ⟨fun k hk => (e _ _ (by omega)).trans (h.1 k hk), (e _ _ (by omega)).trans h.2.1, (e _ _ (by omega)).trans h.2.2.1, fun a k q1 q2 q3 => (e a k (by omega)).trans (h.2.2.2 a k q1 q2 q3)⟩

set_option maxHeartbeats 4000000 in
set_option maxRecDepth 100000 in
theorem k_mdraws_l {G : GG} {Sh : HS} {I : HI} {R : HR} {m n t : Nat} {P : Nat → List Int32} (w : MW Sh I R m n t P) {v : SV} (hnb : NB n v) {s : Int32} {k : Nat} (hk : k ≤ 40) : ∀ (m9 : Nat) (q : Nat) (z : Int32) (J : HI), (q ≤ k) → (k < q + m9) → (z = (drX P n s v q).1) → (TK m I J) → (MS J m n (drX P n s v q).2) → X G (kM G 5 0 0 (qv fun g => ∃ J2 : HI, g = (Sh, J2, R) ∧ TK m I J2 ∧ MS J2 m n (drX P n s v k).2)) yX8_draws cX8_draws 5 none 0 0 5 [(4, .int (nI q)), (3, .int z), (0, .ref m), (1, .int s), (2, .int (nI k))] [] (Sh, J, R) := by
  intro m9
  induction m9 with
  | zero =>
    intro q z J hq hm hz htk hsq
    exact absurd hm (by omega)
  | succ m9 ih =>
    intro q z J hq hm hz htk hsq
    obtain ⟨hsh, hrf, hn, hn8, hru, hr6, cd9, hcd9, htx⟩ := id w
    obtain ⟨z0, z1, z6, z7, z8, z9, z10, z11, z12, z13, z14, z15, z16, z17⟩ := id hsh
    obtain ⟨y1, y6, y7, y8, y9, y10, y11, y12, y13, y14, y15, y16, y17⟩ := id hrf
    have hw := htk.mw w
    have hw := htk.mw w
    refine x_iload dX8_draws_5 0 rfl ?_
    refine x_iload_n dX8_draws_7 4 rfl rfl ?_
    refine x_icmp_ge (tgt := 42) dX8_draws_8 (by decide) (fun c_8 => ?_) (fun c_8 => ?_)
    · have c_8 : k ≤ q := (nI_leI (a := k) (b := q) (by omega) (by omega)).mp c_8
      refine x_vret dX8_draws_42 rfl (Nat.le_refl _) (Nat.le_refl _) ?_
      have hqk : q = k := by omega
      subst hqk
      exact ⟨J, rfl, htk, hsq⟩
    · have c_8 : ¬ k ≤ q := fun zz9 => c_8 ((nI_leI (a := k) (b := q) (by omega) (by omega)).mpr zz9)
      refine x_iload_n dX8_draws_11 1 rfl rfl ?_
      refine x_ldcw (v := 1103515245) dX8_draws_12 (tw_at 1260 (by decide +kernel) rfl) ?_
      refine x_imul dX8_draws_15 ?_
      refine x_sipush (v := 12345) dX8_draws_16 (by decide) ?_
      refine x_iadd dX8_draws_19 ?_
      refine x_topi (fun zq e_zq => ?_)
      refine x_istore_n (lv' := [(3, .int zq), (4, .int (nI q)), (0, .ref m), (1, .int s), (2, .int (nI k))]) dX8_draws_20 rfl (by decide) rfl ?_
      refine x_aload_n dX8_draws_21 2 rfl rfl ?_
      refine x_iload_n dX8_draws_22 0 rfl rfl ?_
      refine x_bipush (v := 9) dX8_draws_23 (by decide) ?_
      refine x_iushr (v := ((zq : Int32).toUInt32 >>> ((9 : Int32).toUInt32 &&& Int32.toUInt32 31)).toInt32) dX8_draws_25 rfl ?_
      refine x_bipush (v := 10) dX8_draws_26 (by decide) ?_
      refine x_irem dX8_draws_28 (by decide) ?_
      refine x_pI dX8_draws_29 fl_8_86 rfl rfl rfl z0 (fun Iq1 e_Iq1 => ?_)
      refine x_aload_n dX8_draws_32 2 rfl rfl ?_
      have moon_e : (zq.toUInt32 >>> ((9 : Int32).toUInt32 &&& Int32.toUInt32 31)).toInt32 - (zq.toUInt32 >>> ((9 : Int32).toUInt32 &&& Int32.toUInt32 31)).toInt32 / 10 * 10 = moonF zq := by
        unfold moonF usI
        rfl
      refine x_callV (k_comes (G := G) (I := Iq1) (hw.ch (fun a k q1 q2 q3 => by rw [e_Iq1, u2_ne (by omega)])) (v := ((drX P n s v q).2.1, moonF zq, (drX P n s v q).2.2.2)) ⟨fun i hi k hk => by rw [e_Iq1, u2_ne (by omega)]; exact hsq.1 i hi k hk, by rw [e_Iq1, u2_same]; exact moon_e, by rw [e_Iq1, u2_ne (by omega)]; exact hsq.2.2⟩ (hnb.dr q)) dX8_draws_33 crc_X8_comes vc_8_236 z0 rfl rfl rfl rfl (Nat.le_of_ble_eq_true rfl) (roomy_k (by omega) (by decide)) (Nat.le_refl _) (Nat.le_refl _) ?_
      rintro _ _ ⟨rfl, J2, rfl, hs2, hf2⟩
      refine x_iinc (v := nI (q + 1)) (lv' := [(4, .int (nI (q + 1))), (3, .int zq), (0, .ref m), (1, .int s), (2, .int (nI k))]) dX8_draws_36 1 rfl (nI_1 q) (by decide) rfl ?_
      refine x_goto (tgt := 5) dX8_draws_39 (by decide) ?_
      refine x_sub [0, 1, 2, 3, 4] rfl ?_
      exact ih (q + 1) zq J2 (by omega) (by omega) (by rw [e_zq, hz, drX_s]) ((htk.ch0 (fun a k q1 => by rw [e_Iq1, u2_ne (by omega)])).fr hf2) (by
        have e : (drX P n s v (q + 1)).2 = beatF P n ((drX P n s v q).2.1, moonF zq, (drX P n s v q).2.2.2) := by
          rw [e_zq, hz, drX_s]
        rw [e]
        exact hs2)

set_option maxHeartbeats 4000000 in
set_option maxRecDepth 100000 in
theorem k_mdraws {G : GG} {Sh : HS} {I : HI} {R : HR} {m n t : Nat} {P : Nat → List Int32} (w : MW Sh I R m n t P) {v : SV} (hnb : NB n v) {J : HI} (htk : TK m I J) (hs : MS J m n v) {s : Int32} {k : Nat} (hk : k ≤ 40) : AM G 5 0 0 yX8_draws cX8_draws 5 none [.ref m, .int s, .int (nI k)] (Sh, J, R) (qv fun g => ∃ J2 : HI, g = (Sh, J2, R) ∧ TK m I J2 ∧ MS J2 m n (drX P n s v k).2) := by
  refine am_intro (by decide) (Nat.le_of_ble_eq_true rfl) ?_
  refine x_iload_n dX8_draws_0 1 rfl rfl ?_
  refine x_istore_n (lv' := [(3, .int s), (0, .ref m), (1, .int s), (2, .int (nI k))]) dX8_draws_1 rfl (by decide) rfl ?_
  refine x_iconst (v := nI 0) dX8_draws_2 (by decide) ?_
  refine x_istore (lv' := [(4, .int (nI 0)), (3, .int s), (0, .ref m), (1, .int s), (2, .int (nI k))]) dX8_draws_3 (by decide) rfl ?_
  refine x_sub [0, 1, 2, 3, 4] rfl ?_
  exact k_mdraws_l w hnb hk (k + 1) 0 s J (by omega) (by omega) rfl htk hs

