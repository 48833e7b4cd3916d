set_option maxHeartbeats 4000000 in
set_option maxRecDepth 100000 in
theorem k_at_in {G : GG} {Sh : HS} {I : HI} {R : HR} {S n i : Nat} (hS : ShS Sh S) (hR : RS R S) (hn : I S 1 = nI n) (hn8 : n ≤ 8) (hi : i < n) : AM G 1 0 0 yX4_at cX4_at 2 (some (.object "Sandcastles$Fort")) [.ref S, .int (nI i)] (Sh, I, R) (qa fun r g => r = some (S + 2 + i) ∧ g = (Sh, I, R)) := by
  refine am_intro (by decide) (Nat.le_of_ble_eq_true rfl) ?_
  refine x_iload_n dX4_at_0 1 rfl rfl ?_
  refine x_if_lt (tgt := 27) dX4_at_1 (by decide) (fun c_1 => False.elim (nI_pos (by omega) c_1)) (fun c_1 => ?_)
  refine x_iload_n dX4_at_4 1 rfl rfl ?_
  refine x_aload_n dX4_at_5 0 rfl rfl ?_
  refine x_gI (v := nI n) dX4_at_6 fl_4_22 rfl hS.1 hn ?_
  refine x_icmp_ge (tgt := 27) dX4_at_9 (by decide) (fun c_9 => ?_) (fun c_9 => ?_)
  · have c_9 : n ≤ i := (nI_leI (a := n) (b := i) (by omega) (by omega)).mp c_9
    refine x_null dX4_at_27 ?_
    refine x_aretN dX4_at_28 rfl (Or.inl ⟨_, rfl⟩) (Nat.le_refl _) (Nat.le_refl _) ?_
    exfalso
    omega
  · have c_9 : ¬ n ≤ i := fun zz9 => c_9 ((nI_leI (a := n) (b := i) (by omega) (by omega)).mpr zz9)
    refine x_iload_n dX4_at_12 1 rfl rfl ?_
    refine x_bipush (v := 8) dX4_at_13 (by decide) ?_
    refine x_icmp_ge (tgt := 27) dX4_at_15 (by decide) (fun c_15 => ?_) (fun c_15 => ?_)
    · have c_15 : 8 ≤ i := (nI_leI (a := 8) (b := i) (by omega) (by omega)).mp c_15
      refine x_null dX4_at_27 ?_
      refine x_aretN dX4_at_28 rfl (Or.inl ⟨_, rfl⟩) (Nat.le_refl _) (Nat.le_refl _) ?_
      exfalso
      omega
    · have c_15 : ¬ 8 ≤ i := fun zz9 => c_15 ((nI_leI (a := 8) (b := i) (by omega) (by omega)).mpr zz9)
      refine x_aload_n dX4_at_18 0 rfl rfl ?_
      refine x_gR (b := S + 1) dX4_at_19 fl_4_11 rfl hS.1 hR.1 ?_
      refine x_iload_n dX4_at_22 1 rfl rfl ?_
      refine x_aa (j := i) (b := S + 2 + i) dX4_at_23 hS.2.1 (by decide) (by decide) rfl (by omega) (by omega) (hR.2 i (by omega)) ?_
      refine x_goto (tgt := 28) dX4_at_24 (by decide) ?_
      refine x_aret dX4_at_28 rfl (Or.inl ⟨_, rfl⟩) (Nat.le_refl _) (Nat.le_refl _) ?_
      exact ⟨rfl, rfl⟩

def MostC (G : GG) (Sh : HS) (R : HR) (S T n Gm : Nat) (P : Nat → List Int32) (w d : Nat) : Prop := ∀ (I : HI) (v : SV) (lo hi : Int32), SW Sh I R S T n P → SR I S n v → AM G d 0 0 yX1_most cX1_most 10 (some .int) [.ref Gm, .int (nI w), .int lo, .int hi] (Sh, I, R) (qi fun r g => ∃ J : HI, g = (Sh, J, R) ∧ abF r (mvF P n w v) lo hi ∧ SR J S n v ∧ frG T S Gm w I J ∧ (lo.toInt < -792 → 792 < hi.toInt → 1 ≤ w → J Gm 2 = (ffF P n (mvF P n (w - 1)) v n).2))
def BehC (G : GG) (Sh : HS) (R : HR) (S T n Gm : Nat) (P : Nat → List Int32) (w d : Nat) : Prop := ∀ (I : HI) (v : SV) (lo hi : Int32), SW Sh I R S T n P → SR I S n v → AM G d 0 0 yX1_behindWave cX1_behindWave 7 (some .int) [.ref Gm, .int (nI (w + 1)), .int lo, .int hi] (Sh, I, R) (qi fun r g => ∃ J : HI, g = (Sh, J, R) ∧ abF r (mvF P n w (beatF P n v)) lo hi ∧ SR J S n v ∧ frG T S Gm (w + 1) I J)
def LeastC (G : GG) (Sh : HS) (R : HR) (S T n Gm : Nat) (P : Nat → List Int32) (w d : Nat) : Prop := ∀ (I : HI) (v : SV) (lo hi : Int32), SW Sh I R S T n P → SR I S n v → AM G d 0 0 yX1_least cX1_least 9 (some .int) [.ref Gm, .int (nI (w + 1)), .int lo, .int hi] (Sh, I, R) (qi fun r g => ∃ J : HI, g = (Sh, J, R) ∧ abF r (lvF P n (mvF P n w) v n) lo hi ∧ SR J S n v ∧ frG T S Gm (w + 1) I J)

set_option maxHeartbeats 4000000 in
set_option maxRecDepth 100000 in
theorem k_beh_l2 {G : GG} {Sh : HS} {I : HI} {R : HR} {S Gm w : Nat} (hG : ShG Sh Gm) (hRG : RG R Gm S) (hSG : S + 10 ≤ Gm) (hS : ShS Sh S) (hR : RS R S) (hw : w < 3) {d : Nat} {Q : Int32 → AH → Prop} {hv : Nat → Int32} {r lo hi : Int32} (hrow : ∀ j, j < 8 → I (Gm + 2 + w) j = hv j) (hQ : ∀ J : HI, (∀ j, j < 8 → J (S + 2 + j) 4 = hv j) → (∀ a k, ¬ (S + 2 ≤ a ∧ a < S + 10 ∧ k = 4) → J a k = I a k) → Q r (Sh, J, R)) : ∀ (m : Nat) (i : Nat) (J : HI), (i ≤ 8) → (8 < i + m) → (∀ j, j < i → J (S + 2 + j) 4 = hv j) → (∀ a k, ¬ (S + 2 ≤ a ∧ a < S + 10 ∧ k = 4) → J a k = I a k) → X G (kM G (d + 1) 0 0 (qi Q)) yX1_behindWave cX1_behindWave 7 (some .int) 0 0 97 [(6, .int (nI i)), (5, .int r), (4, .ref (Gm + 2 + w)), (0, .ref Gm), (1, .int (nI (w + 1))), (2, .int lo), (3, .int hi)] [] (Sh, J, R) := by
  intro m
  induction m with
  | zero =>
    intro i J hi_ hm hdone hfr
    exact absurd hm (by omega)
  | succ m ih =>
    intro i J hi_ hm hdone hfr
    refine x_iload dX1_behindWave_97 0 rfl ?_
    refine x_bipush (v := 8) dX1_behindWave_99 (by decide) ?_
    refine x_icmp_ge (tgt := 128) dX1_behindWave_101 (by decide) (fun c_101 => ?_) (fun c_101 => ?_)
    · have c_101 : 8 ≤ i := (nI_leI (a := 8) (b := i) (by omega) (by omega)).mp c_101
      refine x_iload dX1_behindWave_128 1 rfl ?_
      refine x_iret dX1_behindWave_130 rfl (Nat.le_refl _) (Nat.le_refl _) ?_
      exact hQ J (fun j hj => hdone j (by omega)) hfr
    · have c_101 : ¬ 8 ≤ i := fun zz9 => c_101 ((nI_leI (a := 8) (b := i) (by omega) (by omega)).mpr zz9)
      refine x_aload_n dX1_behindWave_104 3 rfl rfl ?_
      refine x_gR (b := S) dX1_behindWave_105 fl_1_16 rfl hG.1 hRG.1 ?_
      refine x_gR (b := S + 1) dX1_behindWave_108 fl_1_65 rfl hS.1 hR.1 ?_
      refine x_iload dX1_behindWave_111 0 rfl ?_
      refine x_aa (j := i) (b := S + 2 + i) dX1_behindWave_113 hS.2.1 (by decide) (by decide) rfl (by omega) (by omega) (hR.2 i (by omega)) ?_
      refine x_aload dX1_behindWave_114 2 rfl ?_
      refine x_iload dX1_behindWave_116 0 rfl ?_
      refine x_ia (j := i) (v := hv i) dX1_behindWave_118 (hG.2.2 w hw) rfl (by omega) (by omega) ((hfr _ _ (by omega)).trans (hrow i (by omega))) ?_
      refine x_pI dX1_behindWave_119 fl_1_43 rfl rfl rfl (hS.2.2 i (by omega)) (fun Iq1 e_Iq1 => ?_)
      refine x_iinc (v := nI (i + 1)) (lv' := [(6, .int (nI (i + 1))), (5, .int r), (4, .ref (Gm + 2 + w)), (0, .ref Gm), (1, .int (nI (w + 1))), (2, .int lo), (3, .int hi)]) dX1_behindWave_122 0 rfl (nI_1 i) (by decide) rfl ?_
      refine x_goto (tgt := 97) dX1_behindWave_125 (by decide) ?_
      refine x_sub [0, 1, 2, 3, 4, 5, 6] rfl ?_
      exact ih (i + 1) Iq1 (by omega) (by omega) (fun j hj => by
        rw [e_Iq1]
        by_cases e : j = i
        · subst e
          exact u2_same
        · rw [u2_ne (by omega)]
          exact hdone j (by omega)) (fun a k q => by rw [e_Iq1, u2_ne (by omega)]; exact hfr a k q)

set_option maxHeartbeats 4000000 in
set_option maxRecDepth 100000 in
theorem k_beh_m {G : GG} {Sh : HS} {I : HI} {R : HR} {S T n Gm w : Nat} {P : Nat → List Int32} (hG : ShG Sh Gm) (hRG : RG R Gm S) (hSG : S + 10 ≤ Gm) (hw : w < 3) {d : Nat} (hd : 6 ≤ d) (hmost : MostC G Sh R S T n Gm P w d) {v : SV} {lo hi : Int32} (w0 : SW Sh I R S T n P) (hs0 : SR I S n v) {J : HI} (hrow : ∀ j, j < 8 → J (Gm + 2 + w) j = I (S + 2 + j) 4) (hfr : ∀ a k, a ≠ Gm + 2 + w → J a k = I a k) : X G (kM G (d + 1) 0 0 (qi fun r g => ∃ J : HI, g = (Sh, J, R) ∧ abF r (mvF P n w (beatF P n v)) lo hi ∧ SR J S n v ∧ frG T S Gm (w + 1) I J)) yX1_behindWave cX1_behindWave 7 (some .int) 0 0 63 [(4, .ref (Gm + 2 + w)), (0, .ref Gm), (1, .int (nI (w + 1))), (2, .int lo), (3, .int hi)] [] (Sh, J, R) := by
  obtain ⟨hS, hR, hn, hn8, hrl, hT, hRT, hTX, hTS⟩ := id w0
  refine x_aload_n dX1_behindWave_63 1 rfl rfl ?_
  refine x_gR (b := S) dX1_behindWave_64 fl_1_16 rfl hG.1 hRG.1 ?_
  have hfg : frG T S Gm (w + 1) I J := fun a k q1 q2 q3 q4 q5 => hfr a k (by omega)
  have w1 := w0.frG hSG hfg
  have hs1 : SR J S n v := ⟨fun i hi k hk => (hfr _ _ (by omega)).trans (hs0.1 i hi k hk), (hfr _ _ (by omega)).trans hs0.2.1, (hfr _ _ (by omega)).trans hs0.2.2⟩
  refine x_callV (k_beat (G := G) (I := J) w1 hs1) dX1_behindWave_67 crc_X4_beat vc_1_69 hS.1 rfl rfl rfl rfl (Nat.le_of_ble_eq_true rfl) (roomy_k (by omega) (by decide)) (Nat.le_refl _) (Nat.le_refl _) ?_
  rintro _ _ ⟨rfl, J2, rfl, hs2, hf2⟩
  refine x_aload_n dX1_behindWave_70 1 rfl rfl ?_
  refine x_iload_n dX1_behindWave_71 2 rfl rfl ?_
  refine x_iconst (v := 1) dX1_behindWave_72 (by decide) ?_
  refine x_isub dX1_behindWave_73 ?_
  refine x_vali (nI_pred w) ?_
  refine x_iload_n dX1_behindWave_74 3 rfl rfl ?_
  refine x_iload_n dX1_behindWave_75 4 rfl rfl ?_
  refine x_callV (hmost J2 (beatF P n v) lo hi (w1.fr hf2) hs2) dX1_behindWave_76 crc_X1_most vc_1_72 hG.1 rfl rfl rfl rfl (Nat.le_of_ble_eq_true rfl) (roomy_k (by omega) (by decide)) (Nat.le_refl _) (Nat.le_refl _) ?_
  rintro _ _ ⟨r, rfl, J3, rfl, hab, hs3, hf3, -⟩
  refine x_istore (lv' := [(5, .int r), (4, .ref (Gm + 2 + w)), (0, .ref Gm), (1, .int (nI (w + 1))), (2, .int lo), (3, .int hi)]) dX1_behindWave_79 (by decide) rfl ?_
  refine x_aload_n dX1_behindWave_81 2 rfl rfl ?_
  refine x_gR (b := S) dX1_behindWave_82 fl_1_16 rfl hG.1 hRG.1 ?_
  refine x_dup dX1_behindWave_85 rfl ?_
  refine x_gI (v := v.2.2 + 1) dX1_behindWave_86 fl_1_75 rfl hS.1 hs3.2.2 ?_
  refine x_iconst (v := 1) dX1_behindWave_89 (by decide) ?_
  refine x_isub dX1_behindWave_90 ?_
  refine x_pI dX1_behindWave_91 fl_1_75 rfl rfl rfl hS.1 (fun Iq1 e_Iq1 => ?_)
  refine x_iconst (v := 0) dX1_behindWave_94 (by decide) ?_
  refine x_istore (lv' := [(6, .int 0), (5, .int r), (4, .ref (Gm + 2 + w)), (0, .ref Gm), (1, .int (nI (w + 1))), (2, .int lo), (3, .int hi)]) dX1_behindWave_95 (by decide) rfl ?_
  refine x_sub [0, 1, 2, 3, 4, 5, 6] rfl ?_
  refine k_beh_l2 (hv := fun j => I (S + 2 + j) 4) hG hRG hSG hS hR hw (fun j hj => ?_) (fun J5 h1 h2 => ⟨J5, rfl, hab, ⟨fun i hi k hk => ?_, ?_, ?_⟩, fun a k q1 q2 q3 q4 q5 => ?_⟩) 9 0 Iq1 (by omega) (by omega) (fun j hj => absurd hj (by omega)) (fun _ _ _ => rfl)
  · rw [e_Iq1, u2_ne (by omega), hf3 _ _ (scr_no hTS (by omega)) (by omega) (by omega) (by omega) (by omega), hf2 _ _ (scr_no hTS (by omega)) (by omega) (by omega)]
    exact hrow j hj
  · by_cases e : k = 4
    · subst e
      rw [h1 i (by omega)]
      exact hs0.1 i hi 4 (by omega)
    · rw [h2 _ _ (by omega), e_Iq1, u2_ne (by omega), hs3.1 i hi k hk]
      unfold beatF
      simp [e]
  · rw [h2 _ _ (by omega), e_Iq1, u2_ne (by omega)]
    exact hs3.2.1
  · rw [h2 _ _ (by omega), e_Iq1, u2_same]
    exact Int32.add_sub_cancel _ _
  · rw [h2 _ _ (by omega), e_Iq1, u2_ne (by omega), hf3 a k q1 q2 q3 q4 (by omega), hf2 a k q1 q2 q3]
    exact hfr a k (by omega)

set_option maxHeartbeats 4000000 in
set_option maxRecDepth 100000 in
theorem k_beh_l1 {G : GG} {Sh : HS} {I : HI} {R : HR} {S T n Gm w : Nat} {P : Nat → List Int32} (hG : ShG Sh Gm) (hRG : RG R Gm S) (hSG : S + 10 ≤ Gm) (hw : w < 3) {d : Nat} (hd : 6 ≤ d) (hmost : MostC G Sh R S T n Gm P w d) {v : SV} {lo hi : Int32} (w0 : SW Sh I R S T n P) (hs0 : SR I S n v) : ∀ (m : Nat) (i : Nat) (J : HI), (i ≤ 8) → (8 < i + m) → (∀ j, j < i → J (Gm + 2 + w) j = I (S + 2 + j) 4) → (∀ a k, a ≠ Gm + 2 + w → J a k = I a k) → X G (kM G (d + 1) 0 0 (qi fun r g => ∃ J : HI, g = (Sh, J, R) ∧ abF r (mvF P n w (beatF P n v)) lo hi ∧ SR J S n v ∧ frG T S Gm (w + 1) I J)) yX1_behindWave cX1_behindWave 7 (some .int) 0 0 32 [(5, .int (nI i)), (4, .ref (Gm + 2 + w)), (0, .ref Gm), (1, .int (nI (w + 1))), (2, .int lo), (3, .int hi)] [] (Sh, J, R) := by
  intro m
  induction m with
  | zero =>
    intro i J hi_ hm hrow hfr
    exact absurd hm (by omega)
  | succ m ih =>
    intro i J hi_ hm hrow hfr
    obtain ⟨hS, hR, hn, hn8, hrl, hT, hRT, hTX, hTS⟩ := id w0
    refine x_iload dX1_behindWave_32 0 rfl ?_
    refine x_bipush (v := 8) dX1_behindWave_34 (by decide) ?_
    refine x_icmp_ge (tgt := 63) dX1_behindWave_36 (by decide) (fun c_36 => ?_) (fun c_36 => ?_)
    · have c_36 : 8 ≤ i := (nI_leI (a := 8) (b := i) (by omega) (by omega)).mp c_36
      refine x_sub [1, 2, 3, 4, 5] rfl ?_
      exact k_beh_m hG hRG hSG hw hd hmost w0 hs0 (fun j hj => hrow j (by omega)) hfr
    · have c_36 : ¬ 8 ≤ i := fun zz9 => c_36 ((nI_leI (a := 8) (b := i) (by omega) (by omega)).mpr zz9)
      refine x_aload dX1_behindWave_39 1 rfl ?_
      refine x_iload dX1_behindWave_41 0 rfl ?_
      refine x_aload_n dX1_behindWave_43 2 rfl rfl ?_
      refine x_gR (b := S) dX1_behindWave_44 fl_1_16 rfl hG.1 hRG.1 ?_
      refine x_gR (b := S + 1) dX1_behindWave_47 fl_1_65 rfl hS.1 hR.1 ?_
      refine x_iload dX1_behindWave_50 0 rfl ?_
      refine x_aa (j := i) (b := S + 2 + i) dX1_behindWave_52 hS.2.1 (by decide) (by decide) rfl (by omega) (by omega) (hR.2 i (by omega)) ?_
      refine x_gI (v := I (S + 2 + i) 4) dX1_behindWave_53 fl_1_43 rfl (hS.2.2 i (by omega)) (hfr _ _ (by omega)) ?_
      refine x_is (j := i) dX1_behindWave_56 (hG.2.2 w hw) rfl (by omega) (by omega) (fun Iq1 e_Iq1 => ?_)
      refine x_iinc (v := nI (i + 1)) (lv' := [(5, .int (nI (i + 1))), (4, .ref (Gm + 2 + w)), (0, .ref Gm), (1, .int (nI (w + 1))), (2, .int lo), (3, .int hi)]) dX1_behindWave_57 0 rfl (nI_1 i) (by decide) rfl ?_
      refine x_goto (tgt := 32) dX1_behindWave_60 (by decide) ?_
      refine x_sub [0, 1, 2, 3, 4, 5] rfl ?_
      exact ih (i + 1) Iq1 (by omega) (by omega) (fun j hj => by
        rw [e_Iq1]
        by_cases e : j = i
        · subst e
          exact u2_same
        · rw [u2_ne (by omega)]
          exact hrow j (by omega)) (fun a k q => by rw [e_Iq1, u2_ne (by omega)]; exact hfr a k q)

set_option maxHeartbeats 4000000 in
set_option maxRecDepth 100000 in
theorem k_beh {G : GG} {Sh : HS} {R : HR} {S T n Gm w : Nat} {P : Nat → List Int32} (hG : ShG Sh Gm) (hRG : RG R Gm S) (hSG : S + 10 ≤ Gm) (hw : w < 3) {d : Nat} (hd : 6 ≤ d) (hmost : MostC G Sh R S T n Gm P w d) : BehC G Sh R S T n Gm P w (d + 1) := by
  intro I v lo hi w0 hs0
  obtain ⟨hS, hR, hn, hn8, hrl, hT, hRT, hTX, hTS⟩ := id w0
  refine am_intro (by decide) (Nat.le_of_ble_eq_true rfl) ?_
  refine x_iload_n dX1_behindWave_0 1 rfl rfl ?_
  refine x_iconst (v := 1) dX1_behindWave_1 (by decide) ?_
  refine x_icmp_lt (tgt := 10) dX1_behindWave_2 (by decide) (fun c_2 => False.elim (by have := (nI_ltI (a := w + 1) (b := 1) (by omega) (by omega)).mp c_2; omega)) (fun c_2 => ?_)
  refine x_iload_n dX1_behindWave_5 1 rfl rfl ?_
  refine x_iconst (v := 3) dX1_behindWave_6 (by decide) ?_
  refine x_icmp_le (tgt := 19) dX1_behindWave_7 (by decide) (fun c_7 => ?_) (fun c_7 => False.elim (c_7 ((nI_leI (a := w + 1) (b := 3) (by omega) (by omega)).mpr (by omega))))
  refine x_aload_n dX1_behindWave_19 0 rfl rfl ?_
  refine x_gR (b := Gm + 1) dX1_behindWave_20 fl_1_11 rfl hG.1 hRG.2.1 ?_
  refine x_iload_n dX1_behindWave_23 1 rfl rfl ?_
  refine x_iconst (v := 1) dX1_behindWave_24 (by decide) ?_
  refine x_isub dX1_behindWave_25 ?_
  refine x_vali (nI_pred w) ?_
  refine x_aa (j := w) (b := Gm + 2 + w) dX1_behindWave_26 hG.2.1 (by decide) (by decide) rfl hw (by omega) (hRG.2.2 w hw) ?_
  refine x_astore (lv' := [(4, .ref (Gm + 2 + w)), (0, .ref Gm), (1, .int (nI (w + 1))), (2, .int lo), (3, .int hi)]) dX1_behindWave_27 (by decide) rfl ?_
  refine x_iconst (v := 0) dX1_behindWave_29 (by decide) ?_
  refine x_istore (lv' := [(5, .int 0), (4, .ref (Gm + 2 + w)), (0, .ref Gm), (1, .int (nI (w + 1))), (2, .int lo), (3, .int hi)]) dX1_behindWave_30 (by decide) rfl ?_
  exact k_beh_l1 hG hRG hSG hw hd hmost w0 hs0 9 0 I (by omega) (by omega) (fun j hj => absurd hj (by omega)) (fun _ _ _ => rfl)

set_option maxHeartbeats 4000000 in
set_option maxRecDepth 100000 in
theorem k_least_l {G : GG} {Sh : HS} {I : HI} {R : HR} {S T n Gm w : Nat} {P : Nat → List Int32} (hG : ShG Sh Gm) (hRG : RG R Gm S) (hSG : S + 10 ≤ Gm) (hw : w < 3) {d : Nat} (hd : 7 ≤ d) (hbeh : BehC G Sh R S T n Gm P w d) {v : SV} {lo hi : Int32} (w0 : SW Sh I R S T n P) (hs0 : SR I S n v) : ∀ (m : Nat) (i : Nat) (val : Int32) (J : HI), (i ≤ n) → (n < i + m) → (abF val (lvF P n (mvF P n w) v i) lo hi) → (SR J S n v) → (frG T S Gm (w + 1) I J) → X G (kM G (d + 1) 0 0 (qi fun r g => ∃ J : HI, g = (Sh, J, R) ∧ abF r (lvF P n (mvF P n w) v n) lo hi ∧ SR J S n v ∧ frG T S Gm (w + 1) I J)) yX1_least cX1_least 9 (some .int) 0 0 12 [(5, .int (nI i)), (4, .int val), (0, .ref Gm), (1, .int (nI (w + 1))), (2, .int lo), (3, .int hi)] [] (Sh, J, R) := by
  intro m
  induction m with
  | zero =>
    intro i val J hi_ hm hab hs hfr
    exact absurd hm (by omega)
  | succ m ih =>
    intro i val J hi_ hm hab hs hfr
    obtain ⟨hS, hR, hn, hn8, hrl, hT, hRT, hTX, hTS⟩ := id w0
    have w1 := w0.frG hSG hfr
    refine x_iload dX1_least_12 0 rfl ?_
    refine x_aload_n dX1_least_14 2 rfl rfl ?_
    refine x_gR (b := S) dX1_least_15 fl_1_16 rfl hG.1 hRG.1 ?_
    refine x_gI (v := nI n) dX1_least_18 fl_1_30 rfl hS.1 (w1.2.2.1) ?_
    refine x_icmp_ge (tgt := 110) dX1_least_21 (by decide) (fun c_21 => ?_) (fun c_21 => ?_)
    · have c_21 : n ≤ i := (nI_leI (a := n) (b := i) (by omega) (by omega)).mp c_21
      refine x_iload dX1_least_110 1 rfl ?_
      refine x_iret dX1_least_112 rfl (Nat.le_refl _) (Nat.le_refl _) ?_
      have hin : i = n := by omega
      subst hin
      exact ⟨J, rfl, hab, hs, hfr⟩
    · have c_21 : ¬ n ≤ i := fun zz9 => c_21 ((nI_leI (a := n) (b := i) (by omega) (by omega)).mpr zz9)
      refine x_iload dX1_least_24 1 rfl ?_
      refine x_iload_n dX1_least_26 4 rfl rfl ?_
      refine x_icmp_le (tgt := 110) dX1_least_27 (by decide) (fun c_27 => ?_) (fun c_27 => ?_)
      · refine x_iload dX1_least_110 1 rfl ?_
        refine x_iret dX1_least_112 rfl (Nat.le_refl _) (Nat.le_refl _) ?_
        exact ⟨J, rfl, ab_le hab c_27 (lv_mono hi_), hs, hfr⟩
      · refine x_aload_n dX1_least_30 2 rfl rfl ?_
        refine x_gR (b := S) dX1_least_31 fl_1_16 rfl hG.1 hRG.1 ?_
        refine x_iload dX1_least_34 0 rfl ?_
        refine x_callV (k_at_in (G := G) (I := J) hS hR w1.2.2.1 hn8 (i := i) (by omega)) dX1_least_36 crc_X4_at vc_1_34 hS.1 rfl rfl rfl rfl (Nat.le_of_ble_eq_true rfl) (roomy_k (by omega) (by decide)) (Nat.le_refl _) (Nat.le_refl _) ?_
        rintro _ _ ⟨_, rfl, rfl, rfl⟩
        refine x_astore (lv' := [(6, .ref (S + 2 + i)), (5, .int (nI i)), (4, .int val), (0, .ref Gm), (1, .int (nI (w + 1))), (2, .int lo), (3, .int hi)]) dX1_least_39 (by decide) rfl ?_
        refine x_aload dX1_least_41 0 rfl ?_
        refine x_ifnull dX1_least_43 ?_
        refine x_aload dX1_least_46 0 rfl ?_
        refine x_gI (v := v.1 i 3) dX1_least_48 fl_1_38 rfl (hS.2.2 i (by omega)) (hs.1 i (by omega) 3 (by omega)) ?_
        refine x_iconst (v := 1) dX1_least_51 (by decide) ?_
        refine x_icmp_eq (tgt := 58) dX1_least_52 (by decide) (fun c_52 => ?_) (fun c_52 => ?_)
        · refine x_aload dX1_least_58 0 rfl ?_
          refine x_gI (v := v.1 i 4) dX1_least_60 fl_1_43 rfl (hS.2.2 i (by omega)) (hs.1 i (by omega) 4 (by omega)) ?_
          refine x_topi (fun xq1 e_xq1 => ?_)
          refine x_istore (lv' := [(7, .int xq1), (6, .ref (S + 2 + i)), (5, .int (nI i)), (4, .int val), (0, .ref Gm), (1, .int (nI (w + 1))), (2, .int lo), (3, .int hi)]) dX1_least_63 (by decide) rfl ?_
          refine x_aload_n dX1_least_65 4 rfl rfl ?_
          refine x_gR (b := S) dX1_least_66 fl_1_16 rfl hG.1 hRG.1 ?_
          refine x_aload dX1_least_69 1 rfl ?_
          refine x_callV (k_raise (G := G) (I := J) w1 hs (i := i) (by omega)) dX1_least_71 crc_X4_raise vc_1_46 hS.1 rfl rfl rfl rfl (Nat.le_of_ble_eq_true rfl) (roomy_k (by omega) (by decide)) (Nat.le_refl _) (Nat.le_refl _) ?_
          rintro _ _ ⟨rfl, J2, rfl, hs2, hf2⟩
          refine x_aload_n dX1_least_74 4 rfl rfl ?_
          refine x_iload_n dX1_least_75 5 rfl rfl ?_
          refine x_iload_n dX1_least_76 6 rfl rfl ?_
          refine x_iload_n dX1_least_77 7 rfl rfl ?_
          refine x_iload dX1_least_78 3 rfl ?_
          refine x_mmin dX1_least_80 sc_1_62 (Nat.le_of_ble_eq_true rfl) (roomy_k (by omega) (by decide)) (Nat.le_refl _) (Nat.le_refl _) ?_
          refine x_callV (hbeh J2 (spadeF P n i v) lo (mnI hi val) (w1.fr hf2) hs2) dX1_least_83 crc_X1_behindWave vc_1_59 hG.1 rfl rfl rfl rfl (Nat.le_of_ble_eq_true rfl) (roomy_k (by omega) (by decide)) (Nat.le_refl _) (Nat.le_refl _) ?_
          rintro _ _ ⟨r, rfl, J3, rfl, hab2, hs3, hf3⟩
          refine x_istore (lv' := [(8, .int r), (7, .int xq1), (6, .ref (S + 2 + i)), (5, .int (nI i)), (4, .int val), (0, .ref Gm), (1, .int (nI (w + 1))), (2, .int lo), (3, .int hi)]) dX1_least_86 (by decide) rfl ?_
          refine x_aload dX1_least_88 2 rfl ?_
          refine x_iload dX1_least_90 1 rfl ?_
          refine x_pI dX1_least_92 fl_1_43 rfl rfl rfl (hS.2.2 i (by omega)) (fun Iq2 e_Iq2 => ?_)
          refine x_iload dX1_least_95 4 rfl ?_
          refine x_iload dX1_least_97 0 rfl ?_
          refine x_mmin dX1_least_99 sc_1_62 (Nat.le_of_ble_eq_true rfl) (roomy_k (by omega) (by decide)) (Nat.le_refl _) (Nat.le_refl _) ?_
          refine x_topi (fun xq3 e_xq3 => ?_)
          refine x_istore (lv' := [(4, .int xq3), (8, .int r), (7, .int xq1), (6, .ref (S + 2 + i)), (5, .int (nI i)), (0, .ref Gm), (1, .int (nI (w + 1))), (2, .int lo), (3, .int hi)]) dX1_least_102 (by decide) rfl ?_
          refine x_iinc (v := nI (i + 1)) (lv' := [(5, .int (nI (i + 1))), (4, .int xq3), (8, .int r), (7, .int xq1), (6, .ref (S + 2 + i)), (0, .ref Gm), (1, .int (nI (w + 1))), (2, .int lo), (3, .int hi)]) dX1_least_104 4 rfl (nI_1 i) (by decide) rfl ?_
          refine x_goto (tgt := 12) dX1_least_107 (by decide) ?_
          refine x_sub [0, 1, 5, 6, 7, 8] rfl ?_
          exact ih (i + 1) xq3 Iq2 (by omega) (by omega) (by
            have h9 := ab_min hab c_27 hab2
            rw [e_xq3]
            unfold lvF at *
            rw [fd_s, if_pos c_52]
            exact h9) (by rw [e_Iq2, e_xq1]; exact hs3.back (by omega)) (hfr.tr (hf2.g.tr (hf3.tr (fun a k q1 q2 q3 q4 q5 => by rw [e_Iq2, u2_ne (by omega)]))))
        · refine x_goto (tgt := 104) dX1_least_55 (by decide) ?_
          refine x_iinc (v := nI (i + 1)) (lv' := [(5, .int (nI (i + 1))), (6, .ref (S + 2 + i)), (4, .int val), (0, .ref Gm), (1, .int (nI (w + 1))), (2, .int lo), (3, .int hi)]) dX1_least_104 1 rfl (nI_1 i) (by decide) rfl ?_
          refine x_goto (tgt := 12) dX1_least_107 (by decide) ?_
          refine x_sub [0, 2, 3, 4, 5, 6] rfl ?_
          exact ih (i + 1) val J (by omega) (by omega) (by
            unfold lvF at *
            rw [fd_s, if_neg c_52]
            exact hab) hs hfr

set_option maxHeartbeats 4000000 in
set_option maxRecDepth 100000 in
theorem k_least {G : GG} {Sh : HS} {R : HR} {S T n Gm w : Nat} {P : Nat → List Int32} (hG : ShG Sh Gm) (hRG : RG R Gm S) (hSG : S + 10 ≤ Gm) (hw : w < 3) {d : Nat} (hd : 7 ≤ d) (hbeh : BehC G Sh R S T n Gm P w d) : LeastC G Sh R S T n Gm P w (d + 1) := by
  intro I v lo hi w0 hs0
  obtain ⟨hS, hR, hn, hn8, hrl, hT, hRT, hTX, hTS⟩ := id w0
  refine am_intro (by decide) (Nat.le_of_ble_eq_true rfl) ?_
  refine x_aload_n dX1_least_0 0 rfl rfl ?_
  refine x_iload_n dX1_least_1 1 rfl rfl ?_
  refine x_iload_n dX1_least_2 2 rfl rfl ?_
  refine x_iload_n dX1_least_3 3 rfl rfl ?_
  refine x_callV (hbeh I v lo hi w0 hs0) dX1_least_4 crc_X1_behindWave vc_1_59 hG.1 rfl rfl rfl rfl (Nat.le_of_ble_eq_true rfl) (roomy_k (by omega) (by decide)) (Nat.le_refl _) (Nat.le_refl _) ?_
  rintro _ _ ⟨r, rfl, J3, rfl, hab2, hs3, hf3⟩
  refine x_istore (lv' := [(4, .int r), (0, .ref Gm), (1, .int (nI (w + 1))), (2, .int lo), (3, .int hi)]) dX1_least_7 (by decide) rfl ?_
  refine x_iconst (v := 0) dX1_least_9 (by decide) ?_
  refine x_istore (lv' := [(5, .int 0), (4, .int r), (0, .ref Gm), (1, .int (nI (w + 1))), (2, .int lo), (3, .int hi)]) dX1_least_10 (by decide) rfl ?_
  exact k_least_l hG hRG hSG hw hd hbeh w0 hs0 (n + 1) 0 r J3 (by omega) (by omega) hab2 hs3 hf3

