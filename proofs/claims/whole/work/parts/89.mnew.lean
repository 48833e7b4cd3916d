/-! A NEW REFERENCE -/
def mmL : List (Nat × Nat) := [(8, 35), (9, 8), (9, 8), (9, 8), (9, 8), (9, 8), (9, 160), (9, 18), (9, 18), (9, 3000), (9, 200), (9, 8), (9, 56), (9, 8), (9, 35), (9, 4), (9, 4), (9, 160)]
def mmF : List (Nat × Nat × Nat) := [(0, 3, 1), (0, 4, 2), (0, 5, 3), (0, 6, 4), (0, 7, 5), (0, 10, 6), (0, 12, 7), (0, 13, 8), (0, 14, 9), (0, 22, 10), (0, 23, 11), (0, 26, 12), (0, 28, 13), (0, 31, 14), (0, 32, 15), (0, 33, 16), (0, 34, 17)]
def mmN : List (Nat × Nat × Int32) := [(15, 0, -1), (15, 1, -1), (15, 2, -1), (15, 3, -1)]
def mmT : LTB := (fun i => mmL.getD i (0, 0), fun i => mmF.getD i (0, 0, 0), fun i => mmN.getD i (0, 0, 0))

set_option maxHeartbeats 4000000 in
set_option maxRecDepth 100000 in
theorem mi_1 {G : GG} {b : Nat} {B : HI} {S0 : AH} {Q : Option Value → AH → Prop} {Sh : HS} {I : HI} {R : HR} (hL : Lay mmT b 1 0 0 B S0 Sh I R) (hk : ∀ S9 I9 R9, Lay mmT b 18 17 4 B S0 S9 I9 R9 → X G (kM G 46 17 3711 Q) yX8_init cX8_init 3 none 17 3711 162 [(0, .ref b)] [] (S9, I9, R9)) : X G (kM G 46 17 3711 Q) yX8_init cX8_init 3 none 0 0 0 [(0, .ref b)] [] (Sh, I, R) := by
  refine x_aload_n dX8_init_0 0 rfl rfl ?_
  refine x_oinit dX8_init_1 (tw_at 826 (by decide +kernel) rfl) (by decide) (Nat.le_of_ble_eq_true rfl) (Nat.le_of_ble_eq_true rfl) ?_
  refine x_aload_n dX8_init_4 0 rfl rfl ?_
  refine x_bipush (v := 8) dX8_init_5 (by decide) ?_
  refine x_LnI (N := 8) hL dX8_init_7 (by decide) (by decide) rfl (by decide +kernel) (Nat.le_of_ble_eq_true rfl) (Nat.le_of_ble_eq_true rfl) (fun S1 I1 R1 L1 => ?_)
  refine x_LpR (ja := 0) (jv := 1) L1 dX8_init_9 fl_8_7 rfl rfl rfl rfl rfl (by decide) rfl (by decide +kernel) (fun R2 L2 => ?_)
  refine x_aload_n dX8_init_12 0 rfl rfl ?_
  refine x_bipush (v := 8) dX8_init_13 (by decide) ?_
  refine x_LnI (N := 8) L2 dX8_init_15 (by decide) (by decide) rfl (by decide +kernel) (Nat.le_of_ble_eq_true rfl) (Nat.le_of_ble_eq_true rfl) (fun S3 I3 R3 L3 => ?_)
  refine x_LpR (ja := 0) (jv := 2) L3 dX8_init_17 fl_8_13 rfl rfl rfl rfl rfl (by decide) rfl (by decide +kernel) (fun R4 L4 => ?_)
  refine x_aload_n dX8_init_20 0 rfl rfl ?_
  refine x_bipush (v := 8) dX8_init_21 (by decide) ?_
  refine x_LnI (N := 8) L4 dX8_init_23 (by decide) (by decide) rfl (by decide +kernel) (Nat.le_of_ble_eq_true rfl) (Nat.le_of_ble_eq_true rfl) (fun S5 I5 R5 L5 => ?_)
  refine x_LpR (ja := 0) (jv := 3) L5 dX8_init_25 fl_8_16 rfl rfl rfl rfl rfl (by decide) rfl (by decide +kernel) (fun R6 L6 => ?_)
  refine x_aload_n dX8_init_28 0 rfl rfl ?_
  refine x_bipush (v := 8) dX8_init_29 (by decide) ?_
  refine x_LnI (N := 8) L6 dX8_init_31 (by decide) (by decide) rfl (by decide +kernel) (Nat.le_of_ble_eq_true rfl) (Nat.le_of_ble_eq_true rfl) (fun S7 I7 R7 L7 => ?_)
  refine x_LpR (ja := 0) (jv := 4) L7 dX8_init_33 fl_8_19 rfl rfl rfl rfl rfl (by decide) rfl (by decide +kernel) (fun R8 L8 => ?_)
  refine x_aload_n dX8_init_36 0 rfl rfl ?_
  refine x_bipush (v := 8) dX8_init_37 (by decide) ?_
  refine x_LnI (N := 8) L8 dX8_init_39 (by decide) (by decide) rfl (by decide +kernel) (Nat.le_of_ble_eq_true rfl) (Nat.le_of_ble_eq_true rfl) (fun S9 I9 R9 L9 => ?_)
  refine x_LpR (ja := 0) (jv := 5) L9 dX8_init_41 fl_8_22 rfl rfl rfl rfl rfl (by decide) rfl (by decide +kernel) (fun R10 L10 => ?_)
  refine x_aload_n dX8_init_44 0 rfl rfl ?_
  refine x_sipush (v := 160) dX8_init_45 (by decide) ?_
  refine x_LnI (N := 160) L10 dX8_init_48 (by decide) (by decide) rfl (by decide +kernel) (Nat.le_of_ble_eq_true rfl) (Nat.le_of_ble_eq_true rfl) (fun S11 I11 R11 L11 => ?_)
  refine x_LpR (ja := 0) (jv := 6) L11 dX8_init_50 fl_8_25 rfl rfl rfl rfl rfl (by decide) rfl (by decide +kernel) (fun R12 L12 => ?_)
  refine x_aload_n dX8_init_53 0 rfl rfl ?_
  refine x_bipush (v := 18) dX8_init_54 (by decide) ?_
  refine x_LnI (N := 18) L12 dX8_init_56 (by decide) (by decide) rfl (by decide +kernel) (Nat.le_of_ble_eq_true rfl) (Nat.le_of_ble_eq_true rfl) (fun S13 I13 R13 L13 => ?_)
  refine x_LpR (ja := 0) (jv := 7) L13 dX8_init_58 fl_8_28 rfl rfl rfl rfl rfl (by decide) rfl (by decide +kernel) (fun R14 L14 => ?_)
  refine x_aload_n dX8_init_61 0 rfl rfl ?_
  refine x_bipush (v := 18) dX8_init_62 (by decide) ?_
  refine x_LnI (N := 18) L14 dX8_init_64 (by decide) (by decide) rfl (by decide +kernel) (Nat.le_of_ble_eq_true rfl) (Nat.le_of_ble_eq_true rfl) (fun S15 I15 R15 L15 => ?_)
  refine x_LpR (ja := 0) (jv := 8) L15 dX8_init_66 fl_8_31 rfl rfl rfl rfl rfl (by decide) rfl (by decide +kernel) (fun R16 L16 => ?_)
  refine x_aload_n dX8_init_69 0 rfl rfl ?_
  refine x_sipush (v := 3000) dX8_init_70 (by decide) ?_
  refine x_LnI (N := 3000) L16 dX8_init_73 (by decide) (by decide) rfl (by decide +kernel) (Nat.le_of_ble_eq_true rfl) (Nat.le_of_ble_eq_true rfl) (fun S17 I17 R17 L17 => ?_)
  refine x_LpR (ja := 0) (jv := 9) L17 dX8_init_75 fl_8_34 rfl rfl rfl rfl rfl (by decide) rfl (by decide +kernel) (fun R18 L18 => ?_)
  refine x_aload_n dX8_init_78 0 rfl rfl ?_
  refine x_sipush (v := 200) dX8_init_79 (by decide) ?_
  refine x_LnI (N := 200) L18 dX8_init_82 (by decide) (by decide) rfl (by decide +kernel) (Nat.le_of_ble_eq_true rfl) (Nat.le_of_ble_eq_true rfl) (fun S19 I19 R19 L19 => ?_)
  refine x_LpR (ja := 0) (jv := 10) L19 dX8_init_84 fl_8_37 rfl rfl rfl rfl rfl (by decide) rfl (by decide +kernel) (fun R20 L20 => ?_)
  refine x_aload_n dX8_init_87 0 rfl rfl ?_
  refine x_bipush (v := 8) dX8_init_88 (by decide) ?_
  refine x_LnI (N := 8) L20 dX8_init_90 (by decide) (by decide) rfl (by decide +kernel) (Nat.le_of_ble_eq_true rfl) (Nat.le_of_ble_eq_true rfl) (fun S21 I21 R21 L21 => ?_)
  refine x_LpR (ja := 0) (jv := 11) L21 dX8_init_92 fl_8_40 rfl rfl rfl rfl rfl (by decide) rfl (by decide +kernel) (fun R22 L22 => ?_)
  refine x_aload_n dX8_init_95 0 rfl rfl ?_
  refine x_bipush (v := 56) dX8_init_96 (by decide) ?_
  refine x_LnI (N := 56) L22 dX8_init_98 (by decide) (by decide) rfl (by decide +kernel) (Nat.le_of_ble_eq_true rfl) (Nat.le_of_ble_eq_true rfl) (fun S23 I23 R23 L23 => ?_)
  refine x_LpR (ja := 0) (jv := 12) L23 dX8_init_100 fl_8_43 rfl rfl rfl rfl rfl (by decide) rfl (by decide +kernel) (fun R24 L24 => ?_)
  refine x_aload_n dX8_init_103 0 rfl rfl ?_
  refine x_bipush (v := 8) dX8_init_104 (by decide) ?_
  refine x_LnI (N := 8) L24 dX8_init_106 (by decide) (by decide) rfl (by decide +kernel) (Nat.le_of_ble_eq_true rfl) (Nat.le_of_ble_eq_true rfl) (fun S25 I25 R25 L25 => ?_)
  refine x_LpR (ja := 0) (jv := 13) L25 dX8_init_108 fl_8_46 rfl rfl rfl rfl rfl (by decide) rfl (by decide +kernel) (fun R26 L26 => ?_)
  refine x_aload_n dX8_init_111 0 rfl rfl ?_
  refine x_bipush (v := 35) dX8_init_112 (by decide) ?_
  refine x_LnI (N := 35) L26 dX8_init_114 (by decide) (by decide) rfl (by decide +kernel) (Nat.le_of_ble_eq_true rfl) (Nat.le_of_ble_eq_true rfl) (fun S27 I27 R27 L27 => ?_)
  refine x_LpR (ja := 0) (jv := 14) L27 dX8_init_116 fl_8_49 rfl rfl rfl rfl rfl (by decide) rfl (by decide +kernel) (fun R28 L28 => ?_)
  refine x_aload_n dX8_init_119 0 rfl rfl ?_
  refine x_iconst (v := 4) dX8_init_120 (by decide) ?_
  refine x_LnI (N := 4) L28 dX8_init_121 (by decide) (by decide) rfl (by decide +kernel) (Nat.le_of_ble_eq_true rfl) (Nat.le_of_ble_eq_true rfl) (fun S29 I29 R29 L29 => ?_)
  refine x_LpR (ja := 0) (jv := 15) L29 dX8_init_123 fl_8_52 rfl rfl rfl rfl rfl (by decide) rfl (by decide +kernel) (fun R30 L30 => ?_)
  refine x_aload_n dX8_init_126 0 rfl rfl ?_
  refine x_iconst (v := 4) dX8_init_127 (by decide) ?_
  refine x_LnI (N := 4) L30 dX8_init_128 (by decide) (by decide) rfl (by decide +kernel) (Nat.le_of_ble_eq_true rfl) (Nat.le_of_ble_eq_true rfl) (fun S31 I31 R31 L31 => ?_)
  refine x_LpR (ja := 0) (jv := 16) L31 dX8_init_130 fl_8_55 rfl rfl rfl rfl rfl (by decide) rfl (by decide +kernel) (fun R32 L32 => ?_)
  refine x_aload_n dX8_init_133 0 rfl rfl ?_
  refine x_sipush (v := 160) dX8_init_134 (by decide) ?_
  refine x_LnI (N := 160) L32 dX8_init_137 (by decide) (by decide) rfl (by decide +kernel) (Nat.le_of_ble_eq_true rfl) (Nat.le_of_ble_eq_true rfl) (fun S33 I33 R33 L33 => ?_)
  refine x_LpR (ja := 0) (jv := 17) L33 dX8_init_139 fl_8_58 rfl rfl rfl rfl rfl (by decide) rfl (by decide +kernel) (fun R34 L34 => ?_)
  refine x_iconst (v := 0) dX8_init_142 (by decide) ?_
  refine x_istore_n (lv' := [(1, .int 0), (0, .ref b)]) dX8_init_143 rfl (by decide) rfl ?_
  refine x_iload_n dX8_init_144 0 rfl rfl ?_
  refine x_iconst (v := 4) dX8_init_145 (by decide) ?_
  refine x_icmp_ge (tgt := 162) dX8_init_146 (by decide) (fun c_146 => False.elim (absurd c_146 (by decide))) (fun c_146 => ?_)
  refine x_aload_n dX8_init_149 1 rfl rfl ?_
  refine x_gR (b := b + 15) dX8_init_150 fl_8_52 rfl (L34.2.1 0 (by decide)) (L34.2.2.1 14 (by decide)) ?_
  refine x_iload_n dX8_init_153 0 rfl rfl ?_
  refine x_iconst (v := (-1)) dX8_init_154 (by decide) ?_
  refine x_LiS (ja := 15) (j := 0) L34 dX8_init_155 rfl (by decide) (by decide) (by decide) (by decide) rfl (fun I35 L35 => ?_)
  refine x_iinc (v := 1) (lv' := [(1, .int 1), (0, .ref b)]) dX8_init_156 0 rfl (by decide) (by decide) rfl ?_
  refine x_goto (tgt := 144) dX8_init_159 (by decide) ?_
  refine x_iload_n dX8_init_144 0 rfl rfl ?_
  refine x_iconst (v := 4) dX8_init_145 (by decide) ?_
  refine x_icmp_ge (tgt := 162) dX8_init_146 (by decide) (fun c_146 => False.elim (absurd c_146 (by decide))) (fun c_146 => ?_)
  refine x_aload_n dX8_init_149 1 rfl rfl ?_
  refine x_gR (b := b + 15) dX8_init_150 fl_8_52 rfl (L35.2.1 0 (by decide)) (L35.2.2.1 14 (by decide)) ?_
  refine x_iload_n dX8_init_153 0 rfl rfl ?_
  refine x_iconst (v := (-1)) dX8_init_154 (by decide) ?_
  refine x_LiS (ja := 15) (j := 1) L35 dX8_init_155 rfl (by decide) (by decide) (by decide) (by decide) rfl (fun I36 L36 => ?_)
  refine x_iinc (v := 2) (lv' := [(1, .int 2), (0, .ref b)]) dX8_init_156 0 rfl (by decide) (by decide) rfl ?_
  refine x_goto (tgt := 144) dX8_init_159 (by decide) ?_
  refine x_iload_n dX8_init_144 0 rfl rfl ?_
  refine x_iconst (v := 4) dX8_init_145 (by decide) ?_
  refine x_icmp_ge (tgt := 162) dX8_init_146 (by decide) (fun c_146 => False.elim (absurd c_146 (by decide))) (fun c_146 => ?_)
  refine x_aload_n dX8_init_149 1 rfl rfl ?_
  refine x_gR (b := b + 15) dX8_init_150 fl_8_52 rfl (L36.2.1 0 (by decide)) (L36.2.2.1 14 (by decide)) ?_
  refine x_iload_n dX8_init_153 0 rfl rfl ?_
  refine x_iconst (v := (-1)) dX8_init_154 (by decide) ?_
  refine x_LiS (ja := 15) (j := 2) L36 dX8_init_155 rfl (by decide) (by decide) (by decide) (by decide) rfl (fun I37 L37 => ?_)
  refine x_iinc (v := 3) (lv' := [(1, .int 3), (0, .ref b)]) dX8_init_156 0 rfl (by decide) (by decide) rfl ?_
  refine x_goto (tgt := 144) dX8_init_159 (by decide) ?_
  refine x_iload_n dX8_init_144 0 rfl rfl ?_
  refine x_iconst (v := 4) dX8_init_145 (by decide) ?_
  refine x_icmp_ge (tgt := 162) dX8_init_146 (by decide) (fun c_146 => False.elim (absurd c_146 (by decide))) (fun c_146 => ?_)
  refine x_aload_n dX8_init_149 1 rfl rfl ?_
  refine x_gR (b := b + 15) dX8_init_150 fl_8_52 rfl (L37.2.1 0 (by decide)) (L37.2.2.1 14 (by decide)) ?_
  refine x_iload_n dX8_init_153 0 rfl rfl ?_
  refine x_iconst (v := (-1)) dX8_init_154 (by decide) ?_
  refine x_LiS (ja := 15) (j := 3) L37 dX8_init_155 rfl (by decide) (by decide) (by decide) (by decide) rfl (fun I38 L38 => ?_)
  refine x_iinc (v := 4) (lv' := [(1, .int 4), (0, .ref b)]) dX8_init_156 0 rfl (by decide) (by decide) rfl ?_
  refine x_goto (tgt := 144) dX8_init_159 (by decide) ?_
  refine x_iload_n dX8_init_144 0 rfl rfl ?_
  refine x_iconst (v := 4) dX8_init_145 (by decide) ?_
  refine x_icmp_ge (tgt := 162) dX8_init_146 (by decide) (fun c_146 => ?_) (fun c_146 => False.elim (absurd (by decide) c_146))
  refine x_sub [1] rfl ?_
  exact hk _ _ _ L38

theorem mh_1 : ∀ k, k < 5 → mmT.1 (1 + k) = (9, 8) := by decide +kernel
theorem mh_2 : ∀ k, k < 5 → mmT.2.1 k = (0, 3 + k, 1 + k) := by decide +kernel
theorem mi_sh {b : Nat} {S0 : AH} {Sh : HS} {I : HI} {R : HR} (hL : Lay mmT b 18 17 4 (fun _ _ => 0) S0 Sh I R) : MSh Sh b := ⟨(hL.sh (j := 0) rfl (by decide) rfl), fun k hk => hL.sh (j := 1 + k) (by omega) (by omega) (mh_1 k hk), (hL.sh (j := 6) rfl (by decide) rfl), (hL.sh (j := 7) rfl (by decide) rfl), (hL.sh (j := 8) rfl (by decide) rfl), (hL.sh (j := 9) rfl (by decide) rfl), (hL.sh (j := 10) rfl (by decide) rfl), (hL.sh (j := 11) rfl (by decide) rfl), (hL.sh (j := 12) rfl (by decide) rfl), (hL.sh (j := 13) rfl (by decide) rfl), (hL.sh (j := 14) rfl (by decide) rfl), (hL.sh (j := 15) rfl (by decide) rfl), (hL.sh (j := 16) rfl (by decide) rfl), (hL.sh (j := 17) rfl (by decide) rfl)⟩
theorem mi_rf {b : Nat} {S0 : AH} {Sh : HS} {I : HI} {R : HR} (hL : Lay mmT b 18 17 4 (fun _ _ => 0) S0 Sh I R) : MRf R b := ⟨fun k hk => hL.rf (i := k) (by omega) (mh_2 k hk) rfl (by omega), (hL.rf (i := 5) (by decide) rfl rfl rfl), (hL.rf (i := 6) (by decide) rfl rfl rfl), (hL.rf (i := 7) (by decide) rfl rfl rfl), (hL.rf (i := 8) (by decide) rfl rfl rfl), (hL.rf (i := 9) (by decide) rfl rfl rfl), (hL.rf (i := 10) (by decide) rfl rfl rfl), (hL.rf (i := 11) (by decide) rfl rfl rfl), (hL.rf (i := 12) (by decide) rfl rfl rfl), (hL.rf (i := 13) (by decide) rfl rfl rfl), (hL.rf (i := 14) (by decide) rfl rfl rfl), (hL.rf (i := 15) (by decide) rfl rfl rfl), (hL.rf (i := 16) (by decide) rfl rfl rfl)⟩
theorem sg0_wi : WI sg0 := by
  refine ⟨⟨fun i hi => absurd hi (Nat.not_lt_zero i), ⟨0, by decide, rfl⟩, ⟨0, by decide, rfl⟩⟩, fun j hj => ?_, fun x hx => (by
    have hx' : (none : Option (Nat × SV × Nat)) = some x := hx
    cases hx'), fun s hs => Or.inl ⟨rfl, rfl⟩⟩
  have h : ∀ j, j < 58 → (kC 0 j).toNatClampNeg < 256 ∧ kC 0 j = nI (kC 0 j).toNatClampNeg := by decide +kernel
  exact ⟨_, (h j hj).1, (h j hj).2⟩
theorem mv_1 : ∀ k, k < 35 → IV mmT (fun _ _ => 0) 4 0 k = 0 := by decide +kernel
theorem mv_2 : ∀ s, s < 4 → IV mmT (fun _ _ => 0) 4 15 s = -1 ∧ IV mmT (fun _ _ => 0) 4 16 s = 0 ∧ ∀ j, j < 40 → IV mmT (fun _ _ => 0) 4 17 (40 * s + j) = 0 := by decide +kernel
theorem mi_MJ {b : Nat} {S0 : AH} {Sh : HS} {I J : HI} {R : HR} (hL : Lay mmT b 18 17 4 (fun _ _ => 0) S0 Sh I R) (hb : ∀ j, j < kTn 0 → J (b + 6) j = kC 0 j) (h9 : J b 9 = nI (kTn 0)) (hf : ∀ a k, ¬ a = b + 6 → ¬ (a = b ∧ k = 9) → J a k = I a k) : MJ b Sh J R sg0 := by
  have v : ∀ k, k < 35 → ¬ k = 9 → J b k = 0 := fun k hk h9 => (hf b k (by omega) (by omega)).trans ((hL.2.2.2.1 0 (by decide) k).trans (mv_1 k hk))
  refine ⟨mi_sh hL, mi_rf hL, ⟨v 2 (by decide) (by decide), Nat.zero_le _⟩, ⟨fun i hi => absurd hi (Nat.not_lt_zero i), v 0 (by decide) (by decide), v 1 (by decide) (by decide)⟩, ⟨v 8 (by decide) (by decide), Nat.le_refl _, Nat.le_of_ble_eq_true rfl⟩, ⟨v 11 (by decide) (by decide), Nat.zero_le _⟩, ⟨0, v 15 (by decide) (by decide), Nat.zero_le _, fun t ht => absurd ht (Nat.not_lt_zero t)⟩, ⟨h9, Nat.le_of_ble_eq_true rfl, hb⟩, v 29 (by decide) (by decide), fun s hs => ⟨?_, ?_, Nat.zero_le _, fun j hj => ?_⟩⟩
  · exact (hf _ _ (by omega) (by omega)).trans ((hL.2.2.2.1 15 (by decide) s).trans (mv_2 s hs).1)
  · exact (hf _ _ (by omega) (by omega)).trans ((hL.2.2.2.1 16 (by decide) s).trans (mv_2 s hs).2.1)
  · exact (hf _ _ (by omega) (by omega)).trans ((hL.2.2.2.1 17 (by decide) _).trans ((mv_2 s hs).2.2 j hj))

set_option maxHeartbeats 4000000 in
set_option maxRecDepth 100000 in
theorem mi_192 {G : GG} {b : Nat} {S0 : AH} {Sh : HS} {I : HI} {R : HR} (hL : Lay mmT b 18 17 4 (fun _ _ => 0) S0 Sh I R) {P : Nat → List Int32} (htx : txR (kC 0) (kTn 0) (true, 58, P)) {J : HI} (hb : ∀ j, j < kTn 0 → J (b + 6) j = kC 0 j) (hf : ∀ a k, ¬ a = b + 6 → J a k = I a k) : X G (kM G 46 17 3711 (qv fun g => ∃ (S9 : HS) (I9 : HI) (R9 : HR), g = (S9, I9, R9) ∧ MI b S9 I9 R9 (sgI P) ∧ S9.1 = b + 18 ∧ ∀ a, a < b → S9.2 a = S0.1.2 a ∧ ∀ k, I9 a k = S0.2.1 a k ∧ R9 a k = S0.2.2 a k)) yX8_init cX8_init 3 none 17 3711 192 [(2, .int (nI (kTn 0))), (1, .ref (gK G 0)), (0, .ref b)] [] (Sh, J, R) := by
  refine x_aload_n dX8_init_192 2 rfl rfl ?_
  refine x_aload_n dX8_init_193 1 rfl rfl ?_
  refine x_callT (by decide) (k_slen (G := G) (Sh := Sh) (I := J) (R := R) (i := 0) (by decide)) dX8_init_194 crc_J0_length_8abf5 vc_8_63 rfl rfl rfl (Nat.le_of_ble_eq_true rfl) (roomy_k (by omega) (by decide)) (Nat.le_of_ble_eq_true rfl) (Nat.le_of_ble_eq_true rfl) ?_
  rintro _ _ ⟨_, rfl, rfl, rfl⟩
  refine x_pI dX8_init_197 fl_8_72 rfl rfl rfl (hL.sh (j := 0) rfl (by decide) rfl) (fun Iq1 e_Iq1 => ?_)
  refine x_aload_n dX8_init_200 2 rfl rfl ?_
  have hj := mi_MJ hL (J := Iq1) (fun j hj => by rw [e_Iq1, u2_ne (by omega)]; exact hb j hj) (by rw [e_Iq1, u2_same]) (fun a k q1 q2 => by rw [e_Iq1, u2_ne q2]; exact hf a k q1)
  refine x_callV (k_mtext_g (G := G) hj sg0_wi (Or.inr rfl) htx) dX8_init_201 crc_X8_text vc_8_76 (hL.sh (j := 0) rfl (by decide) rfl) rfl rfl rfl rfl (Nat.le_of_ble_eq_true rfl) (roomy_k (by omega) (by decide)) (Nat.le_of_ble_eq_true rfl) (Nat.le_of_ble_eq_true rfl) ?_
  rintro _ _ ⟨x9, rfl, hx9, J2, rfl, hm9, hfr9⟩
  refine x_pop dX8_init_204 rfl ?_
  refine x_vret dX8_init_205 rfl (Nat.le_of_ble_eq_true rfl) (Nat.le_of_ble_eq_true rfl) ?_
  refine ⟨Sh, J2, R, rfl, hm9, hL.1, fun a ha => ⟨(hL.2.2.2.2.2 a ha).1, fun k => ⟨?_, ((hL.2.2.2.2.2 a ha).2 k).2⟩⟩⟩
  rw [hfr9 a k (by omega), e_Iq1, u2_ne (by omega), hf a k (by omega)]
  exact ((hL.2.2.2.2.2 a ha).2 k).1

set_option maxHeartbeats 4000000 in
set_option maxRecDepth 100000 in
theorem mi_167 {G : GG} {b : Nat} {S0 : AH} {Sh : HS} {I : HI} {R : HR} (hL : Lay mmT b 18 17 4 (fun _ _ => 0) S0 Sh I R) {P : Nat → List Int32} (htx : txR (kC 0) (kTn 0) (true, 58, P)) : ∀ (m : Nat) (i : Nat) (J : HI), (i ≤ kTn 0) → (kTn 0 < i + m) → (∀ j, j < i → J (b + 6) j = kC 0 j) → (∀ a k, ¬ a = b + 6 → J a k = I a k) → X G (kM G 46 17 3711 (qv fun g => ∃ (S9 : HS) (I9 : HI) (R9 : HR), g = (S9, I9, R9) ∧ MI b S9 I9 R9 (sgI P) ∧ S9.1 = b + 18 ∧ ∀ a, a < b → S9.2 a = S0.1.2 a ∧ ∀ k, I9 a k = S0.2.1 a k ∧ R9 a k = S0.2.2 a k)) yX8_init cX8_init 3 none 17 3711 167 [(2, .int (nI i)), (1, .ref (gK G 0)), (0, .ref b)] [] (Sh, J, R) := by
  intro m
  induction m with
  | zero =>
    intro i J hi hm hb hf
    exact absurd hm (by omega)
  | succ m ih =>
    intro i J hi hm hb hf
    have h58 : kTn 0 = 58 := rfl
    refine x_iload_n dX8_init_167 0 rfl rfl ?_
    refine x_aload_n dX8_init_168 1 rfl rfl ?_
    refine x_callT (by decide) (k_slen (G := G) (Sh := Sh) (I := J) (R := R) (i := 0) (by decide)) dX8_init_169 crc_J0_length_8abf5 vc_8_63 rfl rfl rfl (Nat.le_of_ble_eq_true rfl) (roomy_k (by omega) (by decide)) (Nat.le_of_ble_eq_true rfl) (Nat.le_of_ble_eq_true rfl) ?_
    rintro _ _ ⟨_, rfl, rfl, rfl⟩
    refine x_icmp_ge (tgt := 192) dX8_init_172 (by decide) (fun c_172 => ?_) (fun c_172 => ?_)
    · have c_172 : (kTn 0) ≤ i := (nI_leI (a := (kTn 0)) (b := i) (by omega) (by omega)).mp c_172
      have hin : i = kTn 0 := by omega
      subst hin
      exact mi_192 hL htx hb hf
    · have c_172 : ¬ (kTn 0) ≤ i := fun zz9 => c_172 ((nI_leI (a := (kTn 0)) (b := i) (by omega) (by omega)).mpr zz9)
      refine x_aload_n dX8_init_175 2 rfl rfl ?_
      refine x_gR (b := b + 6) dX8_init_176 fl_8_25 rfl (hL.sh (j := 0) rfl (by decide) rfl) (hL.rf (i := 5) (by decide) rfl rfl rfl) ?_
      refine x_iload_n dX8_init_179 0 rfl rfl ?_
      refine x_aload_n dX8_init_180 1 rfl rfl ?_
      refine x_iload_n dX8_init_181 0 rfl rfl ?_
      refine x_callT (by decide) (k_scharAt (G := G) (Sh := Sh) (I := J) (R := R) (i := 0) (j := i) (by decide) (by omega)) dX8_init_182 crc_J0_charAt_5068e vc_8_68 rfl rfl rfl (Nat.le_of_ble_eq_true rfl) (roomy_k (by omega) (by decide)) (Nat.le_of_ble_eq_true rfl) (Nat.le_of_ble_eq_true rfl) ?_
      rintro _ _ ⟨_, rfl, rfl, rfl⟩
      refine x_is (j := i) dX8_init_185 (hL.sh (j := 6) rfl (by decide) rfl) rfl (by omega) (by omega) (fun Iq1 e_Iq1 => ?_)
      refine x_iinc (v := nI (i + 1)) (lv' := [(2, .int (nI (i + 1))), (1, .ref (gK G 0)), (0, .ref b)]) dX8_init_186 0 rfl (nI_1 i) (by decide) rfl ?_
      refine x_goto (tgt := 167) dX8_init_189 (by decide) ?_
      refine x_sub [0, 1, 2] rfl ?_
      exact ih (i + 1) Iq1 (by omega) (by omega) (fun j hj => by
        rw [e_Iq1]
        by_cases e : j = i
        · rw [e]; exact u2_same
        · rw [u2_ne (by omega)]; exact hb j (by omega)) (fun a k q1 => by rw [e_Iq1, u2_ne (by omega)]; exact hf a k q1)

set_option maxHeartbeats 4000000 in
set_option maxRecDepth 100000 in
theorem k_minit {G : GG} {Sh : HS} {I : HI} {R : HR} {b : Nat} {P : Nat → List Int32} (htx : txR (kC 0) (kTn 0) (true, 58, P)) (hz : Sh.1 = b + 1) (hs : Sh.2 b = (8, 35)) (hi : ∀ k, I b k = 0) : AM G 46 17 3711 yX8_init cX8_init 3 none [.ref b] (Sh, I, R) (qv fun g => ∃ (S9 : HS) (I9 : HI) (R9 : HR), g = (S9, I9, R9) ∧ MI b S9 I9 R9 (sgI P) ∧ S9.1 = b + 18 ∧ ∀ a, a < b → S9.2 a = Sh.2 a ∧ ∀ k, I9 a k = I a k ∧ R9 a k = R a k) := by
  refine am_intro (by decide) (Nat.le_of_ble_eq_true rfl) ?_
  have hL : Lay mmT b 1 0 0 (fun _ _ => 0) (Sh, I, R) Sh I R := ⟨hz, fun j hj => by rw [show j = 0 by omega]; exact hs, fun i hi => absurd hi (Nat.not_lt_zero i), fun j hj k => by rw [show j = 0 by omega]; exact hi k, fun _ _ _ => rfl, fun a ha => ⟨rfl, fun k => ⟨rfl, rfl⟩⟩⟩
  refine mi_1 hL (fun S1 I1 R1 L1 => ?_)
  refine x_ldcS (i := 0) (tx := "strikes 9 + moon - place - shelter ; raises 5 ; worth 10 ;") dX8_init_162 (by decide +kernel) ?_
  refine x_astore_n (lv' := [(1, .ref (gK G 0)), (0, .ref b)]) dX8_init_164 rfl (by decide) rfl ?_
  refine x_iconst (v := nI 0) dX8_init_165 (by decide) ?_
  refine x_istore_n (lv' := [(2, .int (nI 0)), (1, .ref (gK G 0)), (0, .ref b)]) dX8_init_166 rfl (by decide) rfl ?_
  exact mi_167 (S0 := (Sh, I, R)) L1 htx 100 0 I1 (Nat.zero_le _) (by decide) (fun j hj => absurd hj (Nat.not_lt_zero j)) (fun _ _ _ => rfl)

