def ccL : List (Nat × Nat) := [(7, 10), (5, 4), (9, 160), (9, 161), (9, 161), (2, 5), (11, 6), (12, 4), (6, 7), (9, 160), (9, 40), (6, 7), (9, 160), (9, 40), (6, 7), (9, 160), (9, 40), (6, 7), (9, 160), (9, 40), (6, 7), (9, 160), (9, 40), (6, 7), (9, 160), (9, 40), (3, 3), (9, 40), (3, 3), (9, 40), (3, 3), (9, 40), (3, 3), (9, 40), (4, 5), (10, 8), (0, 6), (0, 6), (0, 6), (0, 6), (0, 6), (0, 6), (0, 6), (0, 6), (4, 5), (10, 8), (0, 6), (0, 6), (0, 6), (0, 6), (0, 6), (0, 6), (0, 6), (0, 6), (4, 5), (10, 8), (0, 6), (0, 6), (0, 6), (0, 6), (0, 6), (0, 6), (0, 6), (0, 6), (1, 3), (13, 3), (9, 8), (9, 8), (9, 8)]
def ccF : List (Nat × Nat × Nat) := [(1, 0, 2), (1, 2, 3), (1, 3, 4), (0, 0, 1), (5, 0, 1), (0, 1, 5), (0, 2, 6), (0, 9, 7), (8, 1, 9), (8, 5, 10), (6, 0, 8), (11, 1, 12), (11, 5, 13), (6, 1, 11), (14, 1, 15), (14, 5, 16), (6, 2, 14), (17, 1, 18), (17, 5, 19), (6, 3, 17), (20, 1, 21), (20, 5, 22), (6, 4, 20), (23, 1, 24), (23, 5, 25), (6, 5, 23), (26, 0, 27), (7, 0, 26), (28, 0, 29), (7, 1, 28), (30, 0, 31), (7, 2, 30), (32, 0, 33), (7, 3, 32), (34, 0, 35), (34, 4, 8), (35, 0, 36), (35, 1, 37), (35, 2, 38), (35, 3, 39), (35, 4, 40), (35, 5, 41), (35, 6, 42), (35, 7, 43), (0, 4, 34), (44, 0, 45), (44, 4, 8), (45, 0, 46), (45, 1, 47), (45, 2, 48), (45, 3, 49), (45, 4, 50), (45, 5, 51), (45, 6, 52), (45, 7, 53), (0, 5, 44), (54, 0, 55), (54, 4, 8), (55, 0, 56), (55, 1, 57), (55, 2, 58), (55, 3, 59), (55, 4, 60), (55, 5, 61), (55, 6, 62), (55, 7, 63), (0, 6, 54), (65, 0, 66), (65, 1, 67), (65, 2, 68), (64, 1, 65), (64, 0, 44), (0, 8, 64)]
def ccN : List (Nat × Nat × Int32) := [(8, 0, 0), (11, 0, 1), (14, 0, 2), (17, 0, 3), (20, 0, 4), (23, 0, 5), (26, 1, -1), (28, 1, -1), (30, 1, -1), (32, 1, -1)]
def ccT : LTB := (fun i => ccL.getD i (0, 0), fun i => ccF.getD i (0, 0, 0), fun i => ccN.getD i (0, 0, 0))
def ccN2 : List (Nat × Nat × Int32) := [(0, 3, 1)]
def ccT2 : LTB := (fun i => ccL.getD i (0, 0), fun i => ccF.getD i (0, 0, 0), fun i => ccN2.getD i (0, 0, 0))

set_option maxHeartbeats 4000000 in
set_option maxRecDepth 100000 in
theorem c_X5_init_1 {G : GG} {b : Nat} {B : HI} {S0 : AH} {Sh : HS} {I : HI} {R : HR} (hL : Lay ccT b 2 0 0 B S0 Sh I R) : AM G 1 3 482 yX5_init cX5_init 1 none [.ref (b + 1)] (Sh, I, R) (qv fun g => ∃ (S9 : HS) (I9 : HI) (R9 : HR), g = (S9, I9, R9) ∧ Lay ccT b 5 3 0 B S0 S9 I9 R9) := by
  refine am_intro (by decide) (Nat.le_of_ble_eq_true rfl) ?_
  refine x_aload_n dX5_init_0 0 rfl rfl ?_
  refine x_oinit dX5_init_1 (tw_at 103 (by decide +kernel) rfl) (by decide) (Nat.le_of_ble_eq_true rfl) (Nat.le_of_ble_eq_true rfl) ?_
  refine x_aload_n dX5_init_4 0 rfl rfl ?_
  refine x_sipush (v := 160) dX5_init_5 (by decide) ?_
  refine x_LnI (N := 160) hL dX5_init_8 (by decide) (by decide) rfl (by decide +kernel) (Nat.le_of_ble_eq_true rfl) (Nat.le_of_ble_eq_true rfl) (fun S2 I2 R2 L2 => ?_)
  refine x_LpR (ja := 1) (jv := 2) L2 dX5_init_10 fl_5_9 rfl rfl rfl rfl rfl (by decide) rfl (by decide +kernel) (fun R3 L3 => ?_)
  refine x_aload_n dX5_init_13 0 rfl rfl ?_
  refine x_sipush (v := 161) dX5_init_14 (by decide) ?_
  refine x_LnI (N := 161) L3 dX5_init_17 (by decide) (by decide) rfl (by decide +kernel) (Nat.le_of_ble_eq_true rfl) (Nat.le_of_ble_eq_true rfl) (fun S4 I4 R4 L4 => ?_)
  refine x_LpR (ja := 1) (jv := 3) L4 dX5_init_19 fl_5_15 rfl rfl rfl rfl rfl (by decide) rfl (by decide +kernel) (fun R5 L5 => ?_)
  refine x_aload_n dX5_init_22 0 rfl rfl ?_
  refine x_sipush (v := 161) dX5_init_23 (by decide) ?_
  refine x_LnI (N := 161) L5 dX5_init_26 (by decide) (by decide) rfl (by decide +kernel) (Nat.le_of_ble_eq_true rfl) (Nat.le_of_ble_eq_true rfl) (fun S6 I6 R6 L6 => ?_)
  refine x_LpR (ja := 1) (jv := 4) L6 dX5_init_28 fl_5_18 rfl rfl rfl rfl rfl (by decide) rfl (by decide +kernel) (fun R7 L7 => ?_)
  refine x_vret dX5_init_31 rfl (Nat.le_of_ble_eq_true rfl) (Nat.le_of_ble_eq_true rfl) ?_
  exact ⟨_, _, _, rfl, L7⟩

set_option maxHeartbeats 4000000 in
set_option maxRecDepth 100000 in
theorem c_X2_init_5 {G : GG} {b : Nat} {B : HI} {S0 : AH} {Sh : HS} {I : HI} {R : HR} (hL : Lay ccT b 6 4 0 B S0 Sh I R) : AM G 1 0 0 yX2_init cX2_init 2 none [.ref (b + 5), .ref (b + 1)] (Sh, I, R) (qv fun g => ∃ (S9 : HS) (I9 : HI) (R9 : HR), g = (S9, I9, R9) ∧ Lay ccT b 6 5 0 B S0 S9 I9 R9) := by
  refine am_intro (by decide) (Nat.le_of_ble_eq_true rfl) ?_
  refine x_aload_n dX2_init_0 0 rfl rfl ?_
  refine x_oinit dX2_init_1 (tw_at 126 (by decide +kernel) rfl) (by decide) (Nat.le_of_ble_eq_true rfl) (Nat.le_of_ble_eq_true rfl) ?_
  refine x_aload_n dX2_init_4 0 rfl rfl ?_
  refine x_aload_n dX2_init_5 1 rfl rfl ?_
  refine x_LpR (ja := 5) (jv := 1) hL dX2_init_6 fl_2_9 rfl rfl rfl rfl rfl (by decide) rfl (by decide +kernel) (fun R11 L11 => ?_)
  refine x_vret dX2_init_9 rfl (Nat.le_of_ble_eq_true rfl) (Nat.le_of_ble_eq_true rfl) ?_
  exact ⟨_, _, _, rfl, L11⟩

set_option maxHeartbeats 4000000 in
set_option maxRecDepth 100000 in
theorem c_X6_init_8 {G : GG} {b : Nat} {B : HI} {S0 : AH} {Sh : HS} {I : HI} {R : HR} (hL : Lay ccT b 9 8 0 B S0 Sh I R) : AM G 1 2 200 yX6_init cX6_init 2 none [.ref (b + 8), .int 0] (Sh, I, R) (qv fun g => ∃ (S9 : HS) (I9 : HI) (R9 : HR), g = (S9, I9, R9) ∧ Lay ccT b 11 10 1 B S0 S9 I9 R9) := by
  refine am_intro (by decide) (Nat.le_of_ble_eq_true rfl) ?_
  refine x_aload_n dX6_init_0 0 rfl rfl ?_
  refine x_oinit dX6_init_1 (tw_at 151 (by decide +kernel) rfl) (by decide) (Nat.le_of_ble_eq_true rfl) (Nat.le_of_ble_eq_true rfl) ?_
  refine x_aload_n dX6_init_4 0 rfl rfl ?_
  refine x_sipush (v := 160) dX6_init_5 (by decide) ?_
  refine x_LnI (N := 160) hL dX6_init_8 (by decide) (by decide) rfl (by decide +kernel) (Nat.le_of_ble_eq_true rfl) (Nat.le_of_ble_eq_true rfl) (fun S19 I19 R19 L19 => ?_)
  refine x_LpR (ja := 8) (jv := 9) L19 dX6_init_10 fl_6_9 rfl rfl rfl rfl rfl (by decide) rfl (by decide +kernel) (fun R20 L20 => ?_)
  refine x_aload_n dX6_init_13 0 rfl rfl ?_
  refine x_bipush (v := 40) dX6_init_14 (by decide) ?_
  refine x_LnI (N := 40) L20 dX6_init_16 (by decide) (by decide) rfl (by decide +kernel) (Nat.le_of_ble_eq_true rfl) (Nat.le_of_ble_eq_true rfl) (fun S21 I21 R21 L21 => ?_)
  refine x_LpR (ja := 8) (jv := 10) L21 dX6_init_18 fl_6_15 rfl rfl rfl rfl rfl (by decide) rfl (by decide +kernel) (fun R22 L22 => ?_)
  refine x_aload_n dX6_init_21 0 rfl rfl ?_
  refine x_iload_n dX6_init_22 1 rfl rfl ?_
  refine x_LpI (ja := 8) L22 dX6_init_23 fl_6_18 rfl rfl rfl rfl (by decide) rfl (fun I23 L23 => ?_)
  refine x_vret dX6_init_26 rfl (Nat.le_of_ble_eq_true rfl) (Nat.le_of_ble_eq_true rfl) ?_
  exact ⟨_, _, _, rfl, L23⟩

set_option maxHeartbeats 4000000 in
set_option maxRecDepth 100000 in
theorem c_X6_init_11 {G : GG} {b : Nat} {B : HI} {S0 : AH} {Sh : HS} {I : HI} {R : HR} (hL : Lay ccT b 12 11 1 B S0 Sh I R) : AM G 1 2 200 yX6_init cX6_init 2 none [.ref (b + 11), .int 1] (Sh, I, R) (qv fun g => ∃ (S9 : HS) (I9 : HI) (R9 : HR), g = (S9, I9, R9) ∧ Lay ccT b 14 13 2 B S0 S9 I9 R9) := by
  refine am_intro (by decide) (Nat.le_of_ble_eq_true rfl) ?_
  refine x_aload_n dX6_init_0 0 rfl rfl ?_
  refine x_oinit dX6_init_1 (tw_at 151 (by decide +kernel) rfl) (by decide) (Nat.le_of_ble_eq_true rfl) (Nat.le_of_ble_eq_true rfl) ?_
  refine x_aload_n dX6_init_4 0 rfl rfl ?_
  refine x_sipush (v := 160) dX6_init_5 (by decide) ?_
  refine x_LnI (N := 160) hL dX6_init_8 (by decide) (by decide) rfl (by decide +kernel) (Nat.le_of_ble_eq_true rfl) (Nat.le_of_ble_eq_true rfl) (fun S27 I27 R27 L27 => ?_)
  refine x_LpR (ja := 11) (jv := 12) L27 dX6_init_10 fl_6_9 rfl rfl rfl rfl rfl (by decide) rfl (by decide +kernel) (fun R28 L28 => ?_)
  refine x_aload_n dX6_init_13 0 rfl rfl ?_
  refine x_bipush (v := 40) dX6_init_14 (by decide) ?_
  refine x_LnI (N := 40) L28 dX6_init_16 (by decide) (by decide) rfl (by decide +kernel) (Nat.le_of_ble_eq_true rfl) (Nat.le_of_ble_eq_true rfl) (fun S29 I29 R29 L29 => ?_)
  refine x_LpR (ja := 11) (jv := 13) L29 dX6_init_18 fl_6_15 rfl rfl rfl rfl rfl (by decide) rfl (by decide +kernel) (fun R30 L30 => ?_)
  refine x_aload_n dX6_init_21 0 rfl rfl ?_
  refine x_iload_n dX6_init_22 1 rfl rfl ?_
  refine x_LpI (ja := 11) L30 dX6_init_23 fl_6_18 rfl rfl rfl rfl (by decide) rfl (fun I31 L31 => ?_)
  refine x_vret dX6_init_26 rfl (Nat.le_of_ble_eq_true rfl) (Nat.le_of_ble_eq_true rfl) ?_
  exact ⟨_, _, _, rfl, L31⟩

set_option maxHeartbeats 4000000 in
set_option maxRecDepth 100000 in
theorem c_X6_init_14 {G : GG} {b : Nat} {B : HI} {S0 : AH} {Sh : HS} {I : HI} {R : HR} (hL : Lay ccT b 15 14 2 B S0 Sh I R) : AM G 1 2 200 yX6_init cX6_init 2 none [.ref (b + 14), .int 2] (Sh, I, R) (qv fun g => ∃ (S9 : HS) (I9 : HI) (R9 : HR), g = (S9, I9, R9) ∧ Lay ccT b 17 16 3 B S0 S9 I9 R9) := by
  refine am_intro (by decide) (Nat.le_of_ble_eq_true rfl) ?_
  refine x_aload_n dX6_init_0 0 rfl rfl ?_
  refine x_oinit dX6_init_1 (tw_at 151 (by decide +kernel) rfl) (by decide) (Nat.le_of_ble_eq_true rfl) (Nat.le_of_ble_eq_true rfl) ?_
  refine x_aload_n dX6_init_4 0 rfl rfl ?_
  refine x_sipush (v := 160) dX6_init_5 (by decide) ?_
  refine x_LnI (N := 160) hL dX6_init_8 (by decide) (by decide) rfl (by decide +kernel) (Nat.le_of_ble_eq_true rfl) (Nat.le_of_ble_eq_true rfl) (fun S35 I35 R35 L35 => ?_)
  refine x_LpR (ja := 14) (jv := 15) L35 dX6_init_10 fl_6_9 rfl rfl rfl rfl rfl (by decide) rfl (by decide +kernel) (fun R36 L36 => ?_)
  refine x_aload_n dX6_init_13 0 rfl rfl ?_
  refine x_bipush (v := 40) dX6_init_14 (by decide) ?_
  refine x_LnI (N := 40) L36 dX6_init_16 (by decide) (by decide) rfl (by decide +kernel) (Nat.le_of_ble_eq_true rfl) (Nat.le_of_ble_eq_true rfl) (fun S37 I37 R37 L37 => ?_)
  refine x_LpR (ja := 14) (jv := 16) L37 dX6_init_18 fl_6_15 rfl rfl rfl rfl rfl (by decide) rfl (by decide +kernel) (fun R38 L38 => ?_)
  refine x_aload_n dX6_init_21 0 rfl rfl ?_
  refine x_iload_n dX6_init_22 1 rfl rfl ?_
  refine x_LpI (ja := 14) L38 dX6_init_23 fl_6_18 rfl rfl rfl rfl (by decide) rfl (fun I39 L39 => ?_)
  refine x_vret dX6_init_26 rfl (Nat.le_of_ble_eq_true rfl) (Nat.le_of_ble_eq_true rfl) ?_
  exact ⟨_, _, _, rfl, L39⟩

set_option maxHeartbeats 4000000 in
set_option maxRecDepth 100000 in
theorem c_X6_init_17 {G : GG} {b : Nat} {B : HI} {S0 : AH} {Sh : HS} {I : HI} {R : HR} (hL : Lay ccT b 18 17 3 B S0 Sh I R) : AM G 1 2 200 yX6_init cX6_init 2 none [.ref (b + 17), .int 3] (Sh, I, R) (qv fun g => ∃ (S9 : HS) (I9 : HI) (R9 : HR), g = (S9, I9, R9) ∧ Lay ccT b 20 19 4 B S0 S9 I9 R9) := by
  refine am_intro (by decide) (Nat.le_of_ble_eq_true rfl) ?_
  refine x_aload_n dX6_init_0 0 rfl rfl ?_
  refine x_oinit dX6_init_1 (tw_at 151 (by decide +kernel) rfl) (by decide) (Nat.le_of_ble_eq_true rfl) (Nat.le_of_ble_eq_true rfl) ?_
  refine x_aload_n dX6_init_4 0 rfl rfl ?_
  refine x_sipush (v := 160) dX6_init_5 (by decide) ?_
  refine x_LnI (N := 160) hL dX6_init_8 (by decide) (by decide) rfl (by decide +kernel) (Nat.le_of_ble_eq_true rfl) (Nat.le_of_ble_eq_true rfl) (fun S43 I43 R43 L43 => ?_)
  refine x_LpR (ja := 17) (jv := 18) L43 dX6_init_10 fl_6_9 rfl rfl rfl rfl rfl (by decide) rfl (by decide +kernel) (fun R44 L44 => ?_)
  refine x_aload_n dX6_init_13 0 rfl rfl ?_
  refine x_bipush (v := 40) dX6_init_14 (by decide) ?_
  refine x_LnI (N := 40) L44 dX6_init_16 (by decide) (by decide) rfl (by decide +kernel) (Nat.le_of_ble_eq_true rfl) (Nat.le_of_ble_eq_true rfl) (fun S45 I45 R45 L45 => ?_)
  refine x_LpR (ja := 17) (jv := 19) L45 dX6_init_18 fl_6_15 rfl rfl rfl rfl rfl (by decide) rfl (by decide +kernel) (fun R46 L46 => ?_)
  refine x_aload_n dX6_init_21 0 rfl rfl ?_
  refine x_iload_n dX6_init_22 1 rfl rfl ?_
  refine x_LpI (ja := 17) L46 dX6_init_23 fl_6_18 rfl rfl rfl rfl (by decide) rfl (fun I47 L47 => ?_)
  refine x_vret dX6_init_26 rfl (Nat.le_of_ble_eq_true rfl) (Nat.le_of_ble_eq_true rfl) ?_
  exact ⟨_, _, _, rfl, L47⟩

set_option maxHeartbeats 4000000 in
set_option maxRecDepth 100000 in
theorem c_X6_init_20 {G : GG} {b : Nat} {B : HI} {S0 : AH} {Sh : HS} {I : HI} {R : HR} (hL : Lay ccT b 21 20 4 B S0 Sh I R) : AM G 1 2 200 yX6_init cX6_init 2 none [.ref (b + 20), .int 4] (Sh, I, R) (qv fun g => ∃ (S9 : HS) (I9 : HI) (R9 : HR), g = (S9, I9, R9) ∧ Lay ccT b 23 22 5 B S0 S9 I9 R9) := by
  refine am_intro (by decide) (Nat.le_of_ble_eq_true rfl) ?_
  refine x_aload_n dX6_init_0 0 rfl rfl ?_
  refine x_oinit dX6_init_1 (tw_at 151 (by decide +kernel) rfl) (by decide) (Nat.le_of_ble_eq_true rfl) (Nat.le_of_ble_eq_true rfl) ?_
  refine x_aload_n dX6_init_4 0 rfl rfl ?_
  refine x_sipush (v := 160) dX6_init_5 (by decide) ?_
  refine x_LnI (N := 160) hL dX6_init_8 (by decide) (by decide) rfl (by decide +kernel) (Nat.le_of_ble_eq_true rfl) (Nat.le_of_ble_eq_true rfl) (fun S51 I51 R51 L51 => ?_)
  refine x_LpR (ja := 20) (jv := 21) L51 dX6_init_10 fl_6_9 rfl rfl rfl rfl rfl (by decide) rfl (by decide +kernel) (fun R52 L52 => ?_)
  refine x_aload_n dX6_init_13 0 rfl rfl ?_
  refine x_bipush (v := 40) dX6_init_14 (by decide) ?_
  refine x_LnI (N := 40) L52 dX6_init_16 (by decide) (by decide) rfl (by decide +kernel) (Nat.le_of_ble_eq_true rfl) (Nat.le_of_ble_eq_true rfl) (fun S53 I53 R53 L53 => ?_)
  refine x_LpR (ja := 20) (jv := 22) L53 dX6_init_18 fl_6_15 rfl rfl rfl rfl rfl (by decide) rfl (by decide +kernel) (fun R54 L54 => ?_)
  refine x_aload_n dX6_init_21 0 rfl rfl ?_
  refine x_iload_n dX6_init_22 1 rfl rfl ?_
  refine x_LpI (ja := 20) L54 dX6_init_23 fl_6_18 rfl rfl rfl rfl (by decide) rfl (fun I55 L55 => ?_)
  refine x_vret dX6_init_26 rfl (Nat.le_of_ble_eq_true rfl) (Nat.le_of_ble_eq_true rfl) ?_
  exact ⟨_, _, _, rfl, L55⟩

set_option maxHeartbeats 4000000 in
set_option maxRecDepth 100000 in
theorem c_X6_init_23 {G : GG} {b : Nat} {B : HI} {S0 : AH} {Sh : HS} {I : HI} {R : HR} (hL : Lay ccT b 24 23 5 B S0 Sh I R) : AM G 1 2 200 yX6_init cX6_init 2 none [.ref (b + 23), .int 5] (Sh, I, R) (qv fun g => ∃ (S9 : HS) (I9 : HI) (R9 : HR), g = (S9, I9, R9) ∧ Lay ccT b 26 25 6 B S0 S9 I9 R9) := by
  refine am_intro (by decide) (Nat.le_of_ble_eq_true rfl) ?_
  refine x_aload_n dX6_init_0 0 rfl rfl ?_
  refine x_oinit dX6_init_1 (tw_at 151 (by decide +kernel) rfl) (by decide) (Nat.le_of_ble_eq_true rfl) (Nat.le_of_ble_eq_true rfl) ?_
  refine x_aload_n dX6_init_4 0 rfl rfl ?_
  refine x_sipush (v := 160) dX6_init_5 (by decide) ?_
  refine x_LnI (N := 160) hL dX6_init_8 (by decide) (by decide) rfl (by decide +kernel) (Nat.le_of_ble_eq_true rfl) (Nat.le_of_ble_eq_true rfl) (fun S59 I59 R59 L59 => ?_)
  refine x_LpR (ja := 23) (jv := 24) L59 dX6_init_10 fl_6_9 rfl rfl rfl rfl rfl (by decide) rfl (by decide +kernel) (fun R60 L60 => ?_)
  refine x_aload_n dX6_init_13 0 rfl rfl ?_
  refine x_bipush (v := 40) dX6_init_14 (by decide) ?_
  refine x_LnI (N := 40) L60 dX6_init_16 (by decide) (by decide) rfl (by decide +kernel) (Nat.le_of_ble_eq_true rfl) (Nat.le_of_ble_eq_true rfl) (fun S61 I61 R61 L61 => ?_)
  refine x_LpR (ja := 23) (jv := 25) L61 dX6_init_18 fl_6_15 rfl rfl rfl rfl rfl (by decide) rfl (by decide +kernel) (fun R62 L62 => ?_)
  refine x_aload_n dX6_init_21 0 rfl rfl ?_
  refine x_iload_n dX6_init_22 1 rfl rfl ?_
  refine x_LpI (ja := 23) L62 dX6_init_23 fl_6_18 rfl rfl rfl rfl (by decide) rfl (fun I63 L63 => ?_)
  refine x_vret dX6_init_26 rfl (Nat.le_of_ble_eq_true rfl) (Nat.le_of_ble_eq_true rfl) ?_
  exact ⟨_, _, _, rfl, L63⟩

set_option maxHeartbeats 4000000 in
set_option maxRecDepth 100000 in
theorem c_X3_init_26 {G : GG} {b : Nat} {B : HI} {S0 : AH} {Sh : HS} {I : HI} {R : HR} (hL : Lay ccT b 27 26 6 B S0 Sh I R) : AM G 1 1 40 yX3_init cX3_init 1 none [.ref (b + 26)] (Sh, I, R) (qv fun g => ∃ (S9 : HS) (I9 : HI) (R9 : HR), g = (S9, I9, R9) ∧ Lay ccT b 28 27 7 B S0 S9 I9 R9) := by
  refine am_intro (by decide) (Nat.le_of_ble_eq_true rfl) ?_
  refine x_aload_n dX3_init_0 0 rfl rfl ?_
  refine x_oinit dX3_init_1 (tw_at 179 (by decide +kernel) rfl) (by decide) (Nat.le_of_ble_eq_true rfl) (Nat.le_of_ble_eq_true rfl) ?_
  refine x_aload_n dX3_init_4 0 rfl rfl ?_
  refine x_bipush (v := 40) dX3_init_5 (by decide) ?_
  refine x_LnI (N := 40) hL dX3_init_7 (by decide) (by decide) rfl (by decide +kernel) (Nat.le_of_ble_eq_true rfl) (Nat.le_of_ble_eq_true rfl) (fun S67 I67 R67 L67 => ?_)
  refine x_LpR (ja := 26) (jv := 27) L67 dX3_init_9 fl_3_9 rfl rfl rfl rfl rfl (by decide) rfl (by decide +kernel) (fun R68 L68 => ?_)
  refine x_aload_n dX3_init_12 0 rfl rfl ?_
  refine x_iconst (v := (-1)) dX3_init_13 (by decide) ?_
  refine x_LpI (ja := 26) L68 dX3_init_14 fl_3_15 rfl rfl rfl rfl (by decide) rfl (fun I69 L69 => ?_)
  refine x_vret dX3_init_17 rfl (Nat.le_of_ble_eq_true rfl) (Nat.le_of_ble_eq_true rfl) ?_
  exact ⟨_, _, _, rfl, L69⟩

set_option maxHeartbeats 4000000 in
set_option maxRecDepth 100000 in
theorem c_X3_init_28 {G : GG} {b : Nat} {B : HI} {S0 : AH} {Sh : HS} {I : HI} {R : HR} (hL : Lay ccT b 29 28 7 B S0 Sh I R) : AM G 1 1 40 yX3_init cX3_init 1 none [.ref (b + 28)] (Sh, I, R) (qv fun g => ∃ (S9 : HS) (I9 : HI) (R9 : HR), g = (S9, I9, R9) ∧ Lay ccT b 30 29 8 B S0 S9 I9 R9) := by
  refine am_intro (by decide) (Nat.le_of_ble_eq_true rfl) ?_
  refine x_aload_n dX3_init_0 0 rfl rfl ?_
  refine x_oinit dX3_init_1 (tw_at 179 (by decide +kernel) rfl) (by decide) (Nat.le_of_ble_eq_true rfl) (Nat.le_of_ble_eq_true rfl) ?_
  refine x_aload_n dX3_init_4 0 rfl rfl ?_
  refine x_bipush (v := 40) dX3_init_5 (by decide) ?_
  refine x_LnI (N := 40) hL dX3_init_7 (by decide) (by decide) rfl (by decide +kernel) (Nat.le_of_ble_eq_true rfl) (Nat.le_of_ble_eq_true rfl) (fun S73 I73 R73 L73 => ?_)
  refine x_LpR (ja := 28) (jv := 29) L73 dX3_init_9 fl_3_9 rfl rfl rfl rfl rfl (by decide) rfl (by decide +kernel) (fun R74 L74 => ?_)
  refine x_aload_n dX3_init_12 0 rfl rfl ?_
  refine x_iconst (v := (-1)) dX3_init_13 (by decide) ?_
  refine x_LpI (ja := 28) L74 dX3_init_14 fl_3_15 rfl rfl rfl rfl (by decide) rfl (fun I75 L75 => ?_)
  refine x_vret dX3_init_17 rfl (Nat.le_of_ble_eq_true rfl) (Nat.le_of_ble_eq_true rfl) ?_
  exact ⟨_, _, _, rfl, L75⟩

set_option maxHeartbeats 4000000 in
set_option maxRecDepth 100000 in
theorem c_X3_init_30 {G : GG} {b : Nat} {B : HI} {S0 : AH} {Sh : HS} {I : HI} {R : HR} (hL : Lay ccT b 31 30 8 B S0 Sh I R) : AM G 1 1 40 yX3_init cX3_init 1 none [.ref (b + 30)] (Sh, I, R) (qv fun g => ∃ (S9 : HS) (I9 : HI) (R9 : HR), g = (S9, I9, R9) ∧ Lay ccT b 32 31 9 B S0 S9 I9 R9) := by
  refine am_intro (by decide) (Nat.le_of_ble_eq_true rfl) ?_
  refine x_aload_n dX3_init_0 0 rfl rfl ?_
  refine x_oinit dX3_init_1 (tw_at 179 (by decide +kernel) rfl) (by decide) (Nat.le_of_ble_eq_true rfl) (Nat.le_of_ble_eq_true rfl) ?_
  refine x_aload_n dX3_init_4 0 rfl rfl ?_
  refine x_bipush (v := 40) dX3_init_5 (by decide) ?_
  refine x_LnI (N := 40) hL dX3_init_7 (by decide) (by decide) rfl (by decide +kernel) (Nat.le_of_ble_eq_true rfl) (Nat.le_of_ble_eq_true rfl) (fun S79 I79 R79 L79 => ?_)
  refine x_LpR (ja := 30) (jv := 31) L79 dX3_init_9 fl_3_9 rfl rfl rfl rfl rfl (by decide) rfl (by decide +kernel) (fun R80 L80 => ?_)
  refine x_aload_n dX3_init_12 0 rfl rfl ?_
  refine x_iconst (v := (-1)) dX3_init_13 (by decide) ?_
  refine x_LpI (ja := 30) L80 dX3_init_14 fl_3_15 rfl rfl rfl rfl (by decide) rfl (fun I81 L81 => ?_)
  refine x_vret dX3_init_17 rfl (Nat.le_of_ble_eq_true rfl) (Nat.le_of_ble_eq_true rfl) ?_
  exact ⟨_, _, _, rfl, L81⟩

set_option maxHeartbeats 4000000 in
set_option maxRecDepth 100000 in
theorem c_X3_init_32 {G : GG} {b : Nat} {B : HI} {S0 : AH} {Sh : HS} {I : HI} {R : HR} (hL : Lay ccT b 33 32 9 B S0 Sh I R) : AM G 1 1 40 yX3_init cX3_init 1 none [.ref (b + 32)] (Sh, I, R) (qv fun g => ∃ (S9 : HS) (I9 : HI) (R9 : HR), g = (S9, I9, R9) ∧ Lay ccT b 34 33 10 B S0 S9 I9 R9) := by
  refine am_intro (by decide) (Nat.le_of_ble_eq_true rfl) ?_
  refine x_aload_n dX3_init_0 0 rfl rfl ?_
  refine x_oinit dX3_init_1 (tw_at 179 (by decide +kernel) rfl) (by decide) (Nat.le_of_ble_eq_true rfl) (Nat.le_of_ble_eq_true rfl) ?_
  refine x_aload_n dX3_init_4 0 rfl rfl ?_
  refine x_bipush (v := 40) dX3_init_5 (by decide) ?_
  refine x_LnI (N := 40) hL dX3_init_7 (by decide) (by decide) rfl (by decide +kernel) (Nat.le_of_ble_eq_true rfl) (Nat.le_of_ble_eq_true rfl) (fun S85 I85 R85 L85 => ?_)
  refine x_LpR (ja := 32) (jv := 33) L85 dX3_init_9 fl_3_9 rfl rfl rfl rfl rfl (by decide) rfl (by decide +kernel) (fun R86 L86 => ?_)
  refine x_aload_n dX3_init_12 0 rfl rfl ?_
  refine x_iconst (v := (-1)) dX3_init_13 (by decide) ?_
  refine x_LpI (ja := 32) L86 dX3_init_14 fl_3_15 rfl rfl rfl rfl (by decide) rfl (fun I87 L87 => ?_)
  refine x_vret dX3_init_17 rfl (Nat.le_of_ble_eq_true rfl) (Nat.le_of_ble_eq_true rfl) ?_
  exact ⟨_, _, _, rfl, L87⟩

set_option maxHeartbeats 4000000 in
set_option maxRecDepth 100000 in
theorem c_X0_init_36 {G : GG} {b : Nat} {B : HI} {S0 : AH} {Sh : HS} {I : HI} {R : HR} (hL : Lay ccT2 b 37 36 1 B S0 Sh I R) : AM G 1 0 0 yX0_init cX0_init 1 none [.ref (b + 36)] (Sh, I, R) (qv fun g => ∃ (S9 : HS) (I9 : HI) (R9 : HR), g = (S9, I9, R9) ∧ Lay ccT2 b 37 36 1 B S0 S9 I9 R9) := by
  refine am_intro (by decide) (Nat.le_of_ble_eq_true rfl) ?_
  refine x_aload_n dX0_init_0 0 rfl rfl ?_
  refine x_oinit dX0_init_1 (tw_at 372 (by decide +kernel) rfl) (by decide) (Nat.le_of_ble_eq_true rfl) (Nat.le_of_ble_eq_true rfl) ?_
  refine x_vret dX0_init_4 rfl (Nat.le_of_ble_eq_true rfl) (Nat.le_of_ble_eq_true rfl) ?_
  exact ⟨_, _, _, rfl, hL⟩

set_option maxHeartbeats 4000000 in
set_option maxRecDepth 100000 in
theorem c_X0_init_37 {G : GG} {b : Nat} {B : HI} {S0 : AH} {Sh : HS} {I : HI} {R : HR} (hL : Lay ccT2 b 38 37 1 B S0 Sh I R) : AM G 1 0 0 yX0_init cX0_init 1 none [.ref (b + 37)] (Sh, I, R) (qv fun g => ∃ (S9 : HS) (I9 : HI) (R9 : HR), g = (S9, I9, R9) ∧ Lay ccT2 b 38 37 1 B S0 S9 I9 R9) := by
  refine am_intro (by decide) (Nat.le_of_ble_eq_true rfl) ?_
  refine x_aload_n dX0_init_0 0 rfl rfl ?_
  refine x_oinit dX0_init_1 (tw_at 372 (by decide +kernel) rfl) (by decide) (Nat.le_of_ble_eq_true rfl) (Nat.le_of_ble_eq_true rfl) ?_
  refine x_vret dX0_init_4 rfl (Nat.le_of_ble_eq_true rfl) (Nat.le_of_ble_eq_true rfl) ?_
  exact ⟨_, _, _, rfl, hL⟩

set_option maxHeartbeats 4000000 in
set_option maxRecDepth 100000 in
theorem c_X0_init_38 {G : GG} {b : Nat} {B : HI} {S0 : AH} {Sh : HS} {I : HI} {R : HR} (hL : Lay ccT2 b 39 38 1 B S0 Sh I R) : AM G 1 0 0 yX0_init cX0_init 1 none [.ref (b + 38)] (Sh, I, R) (qv fun g => ∃ (S9 : HS) (I9 : HI) (R9 : HR), g = (S9, I9, R9) ∧ Lay ccT2 b 39 38 1 B S0 S9 I9 R9) := by
  refine am_intro (by decide) (Nat.le_of_ble_eq_true rfl) ?_
  refine x_aload_n dX0_init_0 0 rfl rfl ?_
  refine x_oinit dX0_init_1 (tw_at 372 (by decide +kernel) rfl) (by decide) (Nat.le_of_ble_eq_true rfl) (Nat.le_of_ble_eq_true rfl) ?_
  refine x_vret dX0_init_4 rfl (Nat.le_of_ble_eq_true rfl) (Nat.le_of_ble_eq_true rfl) ?_
  exact ⟨_, _, _, rfl, hL⟩

set_option maxHeartbeats 4000000 in
set_option maxRecDepth 100000 in
theorem c_X0_init_39 {G : GG} {b : Nat} {B : HI} {S0 : AH} {Sh : HS} {I : HI} {R : HR} (hL : Lay ccT2 b 40 39 1 B S0 Sh I R) : AM G 1 0 0 yX0_init cX0_init 1 none [.ref (b + 39)] (Sh, I, R) (qv fun g => ∃ (S9 : HS) (I9 : HI) (R9 : HR), g = (S9, I9, R9) ∧ Lay ccT2 b 40 39 1 B S0 S9 I9 R9) := by
  refine am_intro (by decide) (Nat.le_of_ble_eq_true rfl) ?_
  refine x_aload_n dX0_init_0 0 rfl rfl ?_
  refine x_oinit dX0_init_1 (tw_at 372 (by decide +kernel) rfl) (by decide) (Nat.le_of_ble_eq_true rfl) (Nat.le_of_ble_eq_true rfl) ?_
  refine x_vret dX0_init_4 rfl (Nat.le_of_ble_eq_true rfl) (Nat.le_of_ble_eq_true rfl) ?_
  exact ⟨_, _, _, rfl, hL⟩

set_option maxHeartbeats 4000000 in
set_option maxRecDepth 100000 in
theorem c_X0_init_40 {G : GG} {b : Nat} {B : HI} {S0 : AH} {Sh : HS} {I : HI} {R : HR} (hL : Lay ccT2 b 41 40 1 B S0 Sh I R) : AM G 1 0 0 yX0_init cX0_init 1 none [.ref (b + 40)] (Sh, I, R) (qv fun g => ∃ (S9 : HS) (I9 : HI) (R9 : HR), g = (S9, I9, R9) ∧ Lay ccT2 b 41 40 1 B S0 S9 I9 R9) := by
  refine am_intro (by decide) (Nat.le_of_ble_eq_true rfl) ?_
  refine x_aload_n dX0_init_0 0 rfl rfl ?_
  refine x_oinit dX0_init_1 (tw_at 372 (by decide +kernel) rfl) (by decide) (Nat.le_of_ble_eq_true rfl) (Nat.le_of_ble_eq_true rfl) ?_
  refine x_vret dX0_init_4 rfl (Nat.le_of_ble_eq_true rfl) (Nat.le_of_ble_eq_true rfl) ?_
  exact ⟨_, _, _, rfl, hL⟩

set_option maxHeartbeats 4000000 in
set_option maxRecDepth 100000 in
theorem c_X0_init_41 {G : GG} {b : Nat} {B : HI} {S0 : AH} {Sh : HS} {I : HI} {R : HR} (hL : Lay ccT2 b 42 41 1 B S0 Sh I R) : AM G 1 0 0 yX0_init cX0_init 1 none [.ref (b + 41)] (Sh, I, R) (qv fun g => ∃ (S9 : HS) (I9 : HI) (R9 : HR), g = (S9, I9, R9) ∧ Lay ccT2 b 42 41 1 B S0 S9 I9 R9) := by
  refine am_intro (by decide) (Nat.le_of_ble_eq_true rfl) ?_
  refine x_aload_n dX0_init_0 0 rfl rfl ?_
  refine x_oinit dX0_init_1 (tw_at 372 (by decide +kernel) rfl) (by decide) (Nat.le_of_ble_eq_true rfl) (Nat.le_of_ble_eq_true rfl) ?_
  refine x_vret dX0_init_4 rfl (Nat.le_of_ble_eq_true rfl) (Nat.le_of_ble_eq_true rfl) ?_
  exact ⟨_, _, _, rfl, hL⟩

set_option maxHeartbeats 4000000 in
set_option maxRecDepth 100000 in
theorem c_X0_init_42 {G : GG} {b : Nat} {B : HI} {S0 : AH} {Sh : HS} {I : HI} {R : HR} (hL : Lay ccT2 b 43 42 1 B S0 Sh I R) : AM G 1 0 0 yX0_init cX0_init 1 none [.ref (b + 42)] (Sh, I, R) (qv fun g => ∃ (S9 : HS) (I9 : HI) (R9 : HR), g = (S9, I9, R9) ∧ Lay ccT2 b 43 42 1 B S0 S9 I9 R9) := by
  refine am_intro (by decide) (Nat.le_of_ble_eq_true rfl) ?_
  refine x_aload_n dX0_init_0 0 rfl rfl ?_
  refine x_oinit dX0_init_1 (tw_at 372 (by decide +kernel) rfl) (by decide) (Nat.le_of_ble_eq_true rfl) (Nat.le_of_ble_eq_true rfl) ?_
  refine x_vret dX0_init_4 rfl (Nat.le_of_ble_eq_true rfl) (Nat.le_of_ble_eq_true rfl) ?_
  exact ⟨_, _, _, rfl, hL⟩

set_option maxHeartbeats 4000000 in
set_option maxRecDepth 100000 in
theorem c_X0_init_43 {G : GG} {b : Nat} {B : HI} {S0 : AH} {Sh : HS} {I : HI} {R : HR} (hL : Lay ccT2 b 44 43 1 B S0 Sh I R) : AM G 1 0 0 yX0_init cX0_init 1 none [.ref (b + 43)] (Sh, I, R) (qv fun g => ∃ (S9 : HS) (I9 : HI) (R9 : HR), g = (S9, I9, R9) ∧ Lay ccT2 b 44 43 1 B S0 S9 I9 R9) := by
  refine am_intro (by decide) (Nat.le_of_ble_eq_true rfl) ?_
  refine x_aload_n dX0_init_0 0 rfl rfl ?_
  refine x_oinit dX0_init_1 (tw_at 372 (by decide +kernel) rfl) (by decide) (Nat.le_of_ble_eq_true rfl) (Nat.le_of_ble_eq_true rfl) ?_
  refine x_vret dX0_init_4 rfl (Nat.le_of_ble_eq_true rfl) (Nat.le_of_ble_eq_true rfl) ?_
  exact ⟨_, _, _, rfl, hL⟩

set_option maxHeartbeats 4000000 in
set_option maxRecDepth 100000 in
theorem c_X4_init_34 {G : GG} {b : Nat} {B : HI} {S0 : AH} {Sh : HS} {I : HI} {R : HR} (hL : Lay ccT2 b 35 34 1 B S0 Sh I R) : AM G 2 9 56 yX4_init cX4_init 3 none [.ref (b + 34), .ref (b + 8)] (Sh, I, R) (qv fun g => ∃ (S9 : HS) (I9 : HI) (R9 : HR), g = (S9, I9, R9) ∧ Lay ccT2 b 44 44 1 B S0 S9 I9 R9) := by
  refine am_intro (by decide) (Nat.le_of_ble_eq_true rfl) ?_
  refine x_aload_n dX4_init_0 0 rfl rfl ?_
  refine x_oinit dX4_init_1 (tw_at 365 (by decide +kernel) rfl) (by decide) (Nat.le_of_ble_eq_true rfl) (Nat.le_of_ble_eq_true rfl) ?_
  refine x_aload_n dX4_init_4 0 rfl rfl ?_
  refine x_bipush (v := 8) dX4_init_5 (by decide) ?_
  refine x_LnQ (N := 8) (kd := 10) hL dX4_init_7 (tw_at 366 (by decide +kernel) rfl) (fun _ h => h.2.2.2.2.1) (by decide) (by decide) rfl (by decide) (by decide) rfl (by decide +kernel) (Nat.le_of_ble_eq_true rfl) (Nat.le_of_ble_eq_true rfl) (fun S92 I92 R92 L92 => ?_)
  refine x_LpR (ja := 34) (jv := 35) L92 dX4_init_10 fl_4_11 rfl rfl rfl rfl rfl (by decide) rfl (by decide +kernel) (fun R93 L93 => ?_)
  refine x_aload_n dX4_init_13 0 rfl rfl ?_
  refine x_aload_n dX4_init_14 1 rfl rfl ?_
  refine x_LpR (ja := 34) (jv := 8) L93 dX4_init_15 fl_4_17 rfl rfl rfl rfl rfl (by decide) rfl (by decide +kernel) (fun R94 L94 => ?_)
  refine x_iconst (v := 0) dX4_init_18 (by decide) ?_
  refine x_istore_n (lv' := [(2, .int 0), (0, .ref (b + 34)), (1, .ref (b + 8))]) dX4_init_19 rfl (by decide) rfl ?_
  refine x_iload_n dX4_init_20 0 rfl rfl ?_
  refine x_bipush (v := 8) dX4_init_21 (by decide) ?_
  refine x_icmp_ge (tgt := 45) dX4_init_23 (by decide) (fun c_23 => False.elim (absurd c_23 (by decide))) (fun c_23 => ?_)
  refine x_aload_n dX4_init_26 1 rfl rfl ?_
  refine x_gR (b := b + 35) dX4_init_27 fl_4_11 rfl (L94.2.1 34 (by decide)) (L94.2.2.1 34 (by decide)) ?_
  refine x_iload_n dX4_init_30 0 rfl rfl ?_
  refine x_Lnw (ci := 0) L94 dX4_init_31 rfl (tw_at 366 (by decide +kernel) rfl) (tw_at 368 (by decide +kernel) rfl) (tw_at 83 (by decide +kernel) rfl) rfl (by decide +kernel) (Nat.le_of_ble_eq_true rfl) (Nat.le_of_ble_eq_true rfl) (fun S95 I95 R95 L95 => ?_)
  refine x_dup dX4_init_34 rfl ?_
  refine x_callI (c_X0_init_36 (G := G) L95) dX4_init_35 crc_X0_init ic_4_21 rfl rfl (Nat.le_of_ble_eq_true rfl) (roomy_k (by decide) (by decide)) (Nat.le_of_ble_eq_true rfl) (Nat.le_of_ble_eq_true rfl) ?_
  rintro _ _ ⟨rfl, S96, I96, R96, rfl, L96⟩
  refine x_LaR (ja := 35) (jv := 36) (j := 0) (kd := 10) (ci := 0) L96 dX4_init_38 rfl (by decide) (by decide) (by decide) rfl rfl rfl (by decide) (by decide) (by decide) (by decide) rfl (by decide +kernel) (fun R97 L97 => ?_)
  refine x_iinc (v := 1) (lv' := [(2, .int 1), (0, .ref (b + 34)), (1, .ref (b + 8))]) dX4_init_39 0 rfl (by decide) (by decide) rfl ?_
  refine x_goto (tgt := 20) dX4_init_42 (by decide) ?_
  refine x_iload_n dX4_init_20 0 rfl rfl ?_
  refine x_bipush (v := 8) dX4_init_21 (by decide) ?_
  refine x_icmp_ge (tgt := 45) dX4_init_23 (by decide) (fun c_23 => False.elim (absurd c_23 (by decide))) (fun c_23 => ?_)
  refine x_aload_n dX4_init_26 1 rfl rfl ?_
  refine x_gR (b := b + 35) dX4_init_27 fl_4_11 rfl (L97.2.1 34 (by decide)) (L97.2.2.1 34 (by decide)) ?_
  refine x_iload_n dX4_init_30 0 rfl rfl ?_
  refine x_Lnw (ci := 0) L97 dX4_init_31 rfl (tw_at 366 (by decide +kernel) rfl) (tw_at 368 (by decide +kernel) rfl) (tw_at 83 (by decide +kernel) rfl) rfl (by decide +kernel) (Nat.le_of_ble_eq_true rfl) (Nat.le_of_ble_eq_true rfl) (fun S98 I98 R98 L98 => ?_)
  refine x_dup dX4_init_34 rfl ?_
  refine x_callI (c_X0_init_37 (G := G) L98) dX4_init_35 crc_X0_init ic_4_21 rfl rfl (Nat.le_of_ble_eq_true rfl) (roomy_k (by decide) (by decide)) (Nat.le_of_ble_eq_true rfl) (Nat.le_of_ble_eq_true rfl) ?_
  rintro _ _ ⟨rfl, S99, I99, R99, rfl, L99⟩
  refine x_LaR (ja := 35) (jv := 37) (j := 1) (kd := 10) (ci := 0) L99 dX4_init_38 rfl (by decide) (by decide) (by decide) rfl rfl rfl (by decide) (by decide) (by decide) (by decide) rfl (by decide +kernel) (fun R100 L100 => ?_)
  refine x_iinc (v := 2) (lv' := [(2, .int 2), (0, .ref (b + 34)), (1, .ref (b + 8))]) dX4_init_39 0 rfl (by decide) (by decide) rfl ?_
  refine x_goto (tgt := 20) dX4_init_42 (by decide) ?_
  refine x_iload_n dX4_init_20 0 rfl rfl ?_
  refine x_bipush (v := 8) dX4_init_21 (by decide) ?_
  refine x_icmp_ge (tgt := 45) dX4_init_23 (by decide) (fun c_23 => False.elim (absurd c_23 (by decide))) (fun c_23 => ?_)
  refine x_aload_n dX4_init_26 1 rfl rfl ?_
  refine x_gR (b := b + 35) dX4_init_27 fl_4_11 rfl (L100.2.1 34 (by decide)) (L100.2.2.1 34 (by decide)) ?_
  refine x_iload_n dX4_init_30 0 rfl rfl ?_
  refine x_Lnw (ci := 0) L100 dX4_init_31 rfl (tw_at 366 (by decide +kernel) rfl) (tw_at 368 (by decide +kernel) rfl) (tw_at 83 (by decide +kernel) rfl) rfl (by decide +kernel) (Nat.le_of_ble_eq_true rfl) (Nat.le_of_ble_eq_true rfl) (fun S101 I101 R101 L101 => ?_)
  refine x_dup dX4_init_34 rfl ?_
  refine x_callI (c_X0_init_38 (G := G) L101) dX4_init_35 crc_X0_init ic_4_21 rfl rfl (Nat.le_of_ble_eq_true rfl) (roomy_k (by decide) (by decide)) (Nat.le_of_ble_eq_true rfl) (Nat.le_of_ble_eq_true rfl) ?_
  rintro _ _ ⟨rfl, S102, I102, R102, rfl, L102⟩
  refine x_LaR (ja := 35) (jv := 38) (j := 2) (kd := 10) (ci := 0) L102 dX4_init_38 rfl (by decide) (by decide) (by decide) rfl rfl rfl (by decide) (by decide) (by decide) (by decide) rfl (by decide +kernel) (fun R103 L103 => ?_)
  refine x_iinc (v := 3) (lv' := [(2, .int 3), (0, .ref (b + 34)), (1, .ref (b + 8))]) dX4_init_39 0 rfl (by decide) (by decide) rfl ?_
  refine x_goto (tgt := 20) dX4_init_42 (by decide) ?_
  refine x_iload_n dX4_init_20 0 rfl rfl ?_
  refine x_bipush (v := 8) dX4_init_21 (by decide) ?_
  refine x_icmp_ge (tgt := 45) dX4_init_23 (by decide) (fun c_23 => False.elim (absurd c_23 (by decide))) (fun c_23 => ?_)
  refine x_aload_n dX4_init_26 1 rfl rfl ?_
  refine x_gR (b := b + 35) dX4_init_27 fl_4_11 rfl (L103.2.1 34 (by decide)) (L103.2.2.1 34 (by decide)) ?_
  refine x_iload_n dX4_init_30 0 rfl rfl ?_
  refine x_Lnw (ci := 0) L103 dX4_init_31 rfl (tw_at 366 (by decide +kernel) rfl) (tw_at 368 (by decide +kernel) rfl) (tw_at 83 (by decide +kernel) rfl) rfl (by decide +kernel) (Nat.le_of_ble_eq_true rfl) (Nat.le_of_ble_eq_true rfl) (fun S104 I104 R104 L104 => ?_)
  refine x_dup dX4_init_34 rfl ?_
  refine x_callI (c_X0_init_39 (G := G) L104) dX4_init_35 crc_X0_init ic_4_21 rfl rfl (Nat.le_of_ble_eq_true rfl) (roomy_k (by decide) (by decide)) (Nat.le_of_ble_eq_true rfl) (Nat.le_of_ble_eq_true rfl) ?_
  rintro _ _ ⟨rfl, S105, I105, R105, rfl, L105⟩
  refine x_LaR (ja := 35) (jv := 39) (j := 3) (kd := 10) (ci := 0) L105 dX4_init_38 rfl (by decide) (by decide) (by decide) rfl rfl rfl (by decide) (by decide) (by decide) (by decide) rfl (by decide +kernel) (fun R106 L106 => ?_)
  refine x_iinc (v := 4) (lv' := [(2, .int 4), (0, .ref (b + 34)), (1, .ref (b + 8))]) dX4_init_39 0 rfl (by decide) (by decide) rfl ?_
  refine x_goto (tgt := 20) dX4_init_42 (by decide) ?_
  refine x_iload_n dX4_init_20 0 rfl rfl ?_
  refine x_bipush (v := 8) dX4_init_21 (by decide) ?_
  refine x_icmp_ge (tgt := 45) dX4_init_23 (by decide) (fun c_23 => False.elim (absurd c_23 (by decide))) (fun c_23 => ?_)
  refine x_aload_n dX4_init_26 1 rfl rfl ?_
  refine x_gR (b := b + 35) dX4_init_27 fl_4_11 rfl (L106.2.1 34 (by decide)) (L106.2.2.1 34 (by decide)) ?_
  refine x_iload_n dX4_init_30 0 rfl rfl ?_
  refine x_Lnw (ci := 0) L106 dX4_init_31 rfl (tw_at 366 (by decide +kernel) rfl) (tw_at 368 (by decide +kernel) rfl) (tw_at 83 (by decide +kernel) rfl) rfl (by decide +kernel) (Nat.le_of_ble_eq_true rfl) (Nat.le_of_ble_eq_true rfl) (fun S107 I107 R107 L107 => ?_)
  refine x_dup dX4_init_34 rfl ?_
  refine x_callI (c_X0_init_40 (G := G) L107) dX4_init_35 crc_X0_init ic_4_21 rfl rfl (Nat.le_of_ble_eq_true rfl) (roomy_k (by decide) (by decide)) (Nat.le_of_ble_eq_true rfl) (Nat.le_of_ble_eq_true rfl) ?_
  rintro _ _ ⟨rfl, S108, I108, R108, rfl, L108⟩
  refine x_LaR (ja := 35) (jv := 40) (j := 4) (kd := 10) (ci := 0) L108 dX4_init_38 rfl (by decide) (by decide) (by decide) rfl rfl rfl (by decide) (by decide) (by decide) (by decide) rfl (by decide +kernel) (fun R109 L109 => ?_)
  refine x_iinc (v := 5) (lv' := [(2, .int 5), (0, .ref (b + 34)), (1, .ref (b + 8))]) dX4_init_39 0 rfl (by decide) (by decide) rfl ?_
  refine x_goto (tgt := 20) dX4_init_42 (by decide) ?_
  refine x_iload_n dX4_init_20 0 rfl rfl ?_
  refine x_bipush (v := 8) dX4_init_21 (by decide) ?_
  refine x_icmp_ge (tgt := 45) dX4_init_23 (by decide) (fun c_23 => False.elim (absurd c_23 (by decide))) (fun c_23 => ?_)
  refine x_aload_n dX4_init_26 1 rfl rfl ?_
  refine x_gR (b := b + 35) dX4_init_27 fl_4_11 rfl (L109.2.1 34 (by decide)) (L109.2.2.1 34 (by decide)) ?_
  refine x_iload_n dX4_init_30 0 rfl rfl ?_
  refine x_Lnw (ci := 0) L109 dX4_init_31 rfl (tw_at 366 (by decide +kernel) rfl) (tw_at 368 (by decide +kernel) rfl) (tw_at 83 (by decide +kernel) rfl) rfl (by decide +kernel) (Nat.le_of_ble_eq_true rfl) (Nat.le_of_ble_eq_true rfl) (fun S110 I110 R110 L110 => ?_)
  refine x_dup dX4_init_34 rfl ?_
  refine x_callI (c_X0_init_41 (G := G) L110) dX4_init_35 crc_X0_init ic_4_21 rfl rfl (Nat.le_of_ble_eq_true rfl) (roomy_k (by decide) (by decide)) (Nat.le_of_ble_eq_true rfl) (Nat.le_of_ble_eq_true rfl) ?_
  rintro _ _ ⟨rfl, S111, I111, R111, rfl, L111⟩
  refine x_LaR (ja := 35) (jv := 41) (j := 5) (kd := 10) (ci := 0) L111 dX4_init_38 rfl (by decide) (by decide) (by decide) rfl rfl rfl (by decide) (by decide) (by decide) (by decide) rfl (by decide +kernel) (fun R112 L112 => ?_)
  refine x_iinc (v := 6) (lv' := [(2, .int 6), (0, .ref (b + 34)), (1, .ref (b + 8))]) dX4_init_39 0 rfl (by decide) (by decide) rfl ?_
  refine x_goto (tgt := 20) dX4_init_42 (by decide) ?_
  refine x_iload_n dX4_init_20 0 rfl rfl ?_
  refine x_bipush (v := 8) dX4_init_21 (by decide) ?_
  refine x_icmp_ge (tgt := 45) dX4_init_23 (by decide) (fun c_23 => False.elim (absurd c_23 (by decide))) (fun c_23 => ?_)
  refine x_aload_n dX4_init_26 1 rfl rfl ?_
  refine x_gR (b := b + 35) dX4_init_27 fl_4_11 rfl (L112.2.1 34 (by decide)) (L112.2.2.1 34 (by decide)) ?_
  refine x_iload_n dX4_init_30 0 rfl rfl ?_
  refine x_Lnw (ci := 0) L112 dX4_init_31 rfl (tw_at 366 (by decide +kernel) rfl) (tw_at 368 (by decide +kernel) rfl) (tw_at 83 (by decide +kernel) rfl) rfl (by decide +kernel) (Nat.le_of_ble_eq_true rfl) (Nat.le_of_ble_eq_true rfl) (fun S113 I113 R113 L113 => ?_)
  refine x_dup dX4_init_34 rfl ?_
  refine x_callI (c_X0_init_42 (G := G) L113) dX4_init_35 crc_X0_init ic_4_21 rfl rfl (Nat.le_of_ble_eq_true rfl) (roomy_k (by decide) (by decide)) (Nat.le_of_ble_eq_true rfl) (Nat.le_of_ble_eq_true rfl) ?_
  rintro _ _ ⟨rfl, S114, I114, R114, rfl, L114⟩
  refine x_LaR (ja := 35) (jv := 42) (j := 6) (kd := 10) (ci := 0) L114 dX4_init_38 rfl (by decide) (by decide) (by decide) rfl rfl rfl (by decide) (by decide) (by decide) (by decide) rfl (by decide +kernel) (fun R115 L115 => ?_)
  refine x_iinc (v := 7) (lv' := [(2, .int 7), (0, .ref (b + 34)), (1, .ref (b + 8))]) dX4_init_39 0 rfl (by decide) (by decide) rfl ?_
  refine x_goto (tgt := 20) dX4_init_42 (by decide) ?_
  refine x_iload_n dX4_init_20 0 rfl rfl ?_
  refine x_bipush (v := 8) dX4_init_21 (by decide) ?_
  refine x_icmp_ge (tgt := 45) dX4_init_23 (by decide) (fun c_23 => False.elim (absurd c_23 (by decide))) (fun c_23 => ?_)
  refine x_aload_n dX4_init_26 1 rfl rfl ?_
  refine x_gR (b := b + 35) dX4_init_27 fl_4_11 rfl (L115.2.1 34 (by decide)) (L115.2.2.1 34 (by decide)) ?_
  refine x_iload_n dX4_init_30 0 rfl rfl ?_
  refine x_Lnw (ci := 0) L115 dX4_init_31 rfl (tw_at 366 (by decide +kernel) rfl) (tw_at 368 (by decide +kernel) rfl) (tw_at 83 (by decide +kernel) rfl) rfl (by decide +kernel) (Nat.le_of_ble_eq_true rfl) (Nat.le_of_ble_eq_true rfl) (fun S116 I116 R116 L116 => ?_)
  refine x_dup dX4_init_34 rfl ?_
  refine x_callI (c_X0_init_43 (G := G) L116) dX4_init_35 crc_X0_init ic_4_21 rfl rfl (Nat.le_of_ble_eq_true rfl) (roomy_k (by decide) (by decide)) (Nat.le_of_ble_eq_true rfl) (Nat.le_of_ble_eq_true rfl) ?_
  rintro _ _ ⟨rfl, S117, I117, R117, rfl, L117⟩
  refine x_LaR (ja := 35) (jv := 43) (j := 7) (kd := 10) (ci := 0) L117 dX4_init_38 rfl (by decide) (by decide) (by decide) rfl rfl rfl (by decide) (by decide) (by decide) (by decide) rfl (by decide +kernel) (fun R118 L118 => ?_)
  refine x_iinc (v := 8) (lv' := [(2, .int 8), (0, .ref (b + 34)), (1, .ref (b + 8))]) dX4_init_39 0 rfl (by decide) (by decide) rfl ?_
  refine x_goto (tgt := 20) dX4_init_42 (by decide) ?_
  refine x_iload_n dX4_init_20 0 rfl rfl ?_
  refine x_bipush (v := 8) dX4_init_21 (by decide) ?_
  refine x_icmp_ge (tgt := 45) dX4_init_23 (by decide) (fun c_23 => ?_) (fun c_23 => False.elim (absurd (by decide) c_23))
  refine x_vret dX4_init_45 rfl (Nat.le_of_ble_eq_true rfl) (Nat.le_of_ble_eq_true rfl) ?_
  exact ⟨_, _, _, rfl, L118⟩

set_option maxHeartbeats 4000000 in
set_option maxRecDepth 100000 in
theorem c_X0_init_46 {G : GG} {b : Nat} {B : HI} {S0 : AH} {Sh : HS} {I : HI} {R : HR} (hL : Lay ccT2 b 47 47 1 B S0 Sh I R) : AM G 1 0 0 yX0_init cX0_init 1 none [.ref (b + 46)] (Sh, I, R) (qv fun g => ∃ (S9 : HS) (I9 : HI) (R9 : HR), g = (S9, I9, R9) ∧ Lay ccT2 b 47 47 1 B S0 S9 I9 R9) := by
  refine am_intro (by decide) (Nat.le_of_ble_eq_true rfl) ?_
  refine x_aload_n dX0_init_0 0 rfl rfl ?_
  refine x_oinit dX0_init_1 (tw_at 372 (by decide +kernel) rfl) (by decide) (Nat.le_of_ble_eq_true rfl) (Nat.le_of_ble_eq_true rfl) ?_
  refine x_vret dX0_init_4 rfl (Nat.le_of_ble_eq_true rfl) (Nat.le_of_ble_eq_true rfl) ?_
  exact ⟨_, _, _, rfl, hL⟩

set_option maxHeartbeats 4000000 in
set_option maxRecDepth 100000 in
theorem c_X0_init_47 {G : GG} {b : Nat} {B : HI} {S0 : AH} {Sh : HS} {I : HI} {R : HR} (hL : Lay ccT2 b 48 48 1 B S0 Sh I R) : AM G 1 0 0 yX0_init cX0_init 1 none [.ref (b + 47)] (Sh, I, R) (qv fun g => ∃ (S9 : HS) (I9 : HI) (R9 : HR), g = (S9, I9, R9) ∧ Lay ccT2 b 48 48 1 B S0 S9 I9 R9) := by
  refine am_intro (by decide) (Nat.le_of_ble_eq_true rfl) ?_
  refine x_aload_n dX0_init_0 0 rfl rfl ?_
  refine x_oinit dX0_init_1 (tw_at 372 (by decide +kernel) rfl) (by decide) (Nat.le_of_ble_eq_true rfl) (Nat.le_of_ble_eq_true rfl) ?_
  refine x_vret dX0_init_4 rfl (Nat.le_of_ble_eq_true rfl) (Nat.le_of_ble_eq_true rfl) ?_
  exact ⟨_, _, _, rfl, hL⟩

set_option maxHeartbeats 4000000 in
set_option maxRecDepth 100000 in
theorem c_X0_init_48 {G : GG} {b : Nat} {B : HI} {S0 : AH} {Sh : HS} {I : HI} {R : HR} (hL : Lay ccT2 b 49 49 1 B S0 Sh I R) : AM G 1 0 0 yX0_init cX0_init 1 none [.ref (b + 48)] (Sh, I, R) (qv fun g => ∃ (S9 : HS) (I9 : HI) (R9 : HR), g = (S9, I9, R9) ∧ Lay ccT2 b 49 49 1 B S0 S9 I9 R9) := by
  refine am_intro (by decide) (Nat.le_of_ble_eq_true rfl) ?_
  refine x_aload_n dX0_init_0 0 rfl rfl ?_
  refine x_oinit dX0_init_1 (tw_at 372 (by decide +kernel) rfl) (by decide) (Nat.le_of_ble_eq_true rfl) (Nat.le_of_ble_eq_true rfl) ?_
  refine x_vret dX0_init_4 rfl (Nat.le_of_ble_eq_true rfl) (Nat.le_of_ble_eq_true rfl) ?_
  exact ⟨_, _, _, rfl, hL⟩

set_option maxHeartbeats 4000000 in
set_option maxRecDepth 100000 in
theorem c_X0_init_49 {G : GG} {b : Nat} {B : HI} {S0 : AH} {Sh : HS} {I : HI} {R : HR} (hL : Lay ccT2 b 50 50 1 B S0 Sh I R) : AM G 1 0 0 yX0_init cX0_init 1 none [.ref (b + 49)] (Sh, I, R) (qv fun g => ∃ (S9 : HS) (I9 : HI) (R9 : HR), g = (S9, I9, R9) ∧ Lay ccT2 b 50 50 1 B S0 S9 I9 R9) := by
  refine am_intro (by decide) (Nat.le_of_ble_eq_true rfl) ?_
  refine x_aload_n dX0_init_0 0 rfl rfl ?_
  refine x_oinit dX0_init_1 (tw_at 372 (by decide +kernel) rfl) (by decide) (Nat.le_of_ble_eq_true rfl) (Nat.le_of_ble_eq_true rfl) ?_
  refine x_vret dX0_init_4 rfl (Nat.le_of_ble_eq_true rfl) (Nat.le_of_ble_eq_true rfl) ?_
  exact ⟨_, _, _, rfl, hL⟩

set_option maxHeartbeats 4000000 in
set_option maxRecDepth 100000 in
theorem c_X0_init_50 {G : GG} {b : Nat} {B : HI} {S0 : AH} {Sh : HS} {I : HI} {R : HR} (hL : Lay ccT2 b 51 51 1 B S0 Sh I R) : AM G 1 0 0 yX0_init cX0_init 1 none [.ref (b + 50)] (Sh, I, R) (qv fun g => ∃ (S9 : HS) (I9 : HI) (R9 : HR), g = (S9, I9, R9) ∧ Lay ccT2 b 51 51 1 B S0 S9 I9 R9) := by
  refine am_intro (by decide) (Nat.le_of_ble_eq_true rfl) ?_
  refine x_aload_n dX0_init_0 0 rfl rfl ?_
  refine x_oinit dX0_init_1 (tw_at 372 (by decide +kernel) rfl) (by decide) (Nat.le_of_ble_eq_true rfl) (Nat.le_of_ble_eq_true rfl) ?_
  refine x_vret dX0_init_4 rfl (Nat.le_of_ble_eq_true rfl) (Nat.le_of_ble_eq_true rfl) ?_
  exact ⟨_, _, _, rfl, hL⟩

set_option maxHeartbeats 4000000 in
set_option maxRecDepth 100000 in
theorem c_X0_init_51 {G : GG} {b : Nat} {B : HI} {S0 : AH} {Sh : HS} {I : HI} {R : HR} (hL : Lay ccT2 b 52 52 1 B S0 Sh I R) : AM G 1 0 0 yX0_init cX0_init 1 none [.ref (b + 51)] (Sh, I, R) (qv fun g => ∃ (S9 : HS) (I9 : HI) (R9 : HR), g = (S9, I9, R9) ∧ Lay ccT2 b 52 52 1 B S0 S9 I9 R9) := by
  refine am_intro (by decide) (Nat.le_of_ble_eq_true rfl) ?_
  refine x_aload_n dX0_init_0 0 rfl rfl ?_
  refine x_oinit dX0_init_1 (tw_at 372 (by decide +kernel) rfl) (by decide) (Nat.le_of_ble_eq_true rfl) (Nat.le_of_ble_eq_true rfl) ?_
  refine x_vret dX0_init_4 rfl (Nat.le_of_ble_eq_true rfl) (Nat.le_of_ble_eq_true rfl) ?_
  exact ⟨_, _, _, rfl, hL⟩

set_option maxHeartbeats 4000000 in
set_option maxRecDepth 100000 in
theorem c_X0_init_52 {G : GG} {b : Nat} {B : HI} {S0 : AH} {Sh : HS} {I : HI} {R : HR} (hL : Lay ccT2 b 53 53 1 B S0 Sh I R) : AM G 1 0 0 yX0_init cX0_init 1 none [.ref (b + 52)] (Sh, I, R) (qv fun g => ∃ (S9 : HS) (I9 : HI) (R9 : HR), g = (S9, I9, R9) ∧ Lay ccT2 b 53 53 1 B S0 S9 I9 R9) := by
  refine am_intro (by decide) (Nat.le_of_ble_eq_true rfl) ?_
  refine x_aload_n dX0_init_0 0 rfl rfl ?_
  refine x_oinit dX0_init_1 (tw_at 372 (by decide +kernel) rfl) (by decide) (Nat.le_of_ble_eq_true rfl) (Nat.le_of_ble_eq_true rfl) ?_
  refine x_vret dX0_init_4 rfl (Nat.le_of_ble_eq_true rfl) (Nat.le_of_ble_eq_true rfl) ?_
  exact ⟨_, _, _, rfl, hL⟩

set_option maxHeartbeats 4000000 in
set_option maxRecDepth 100000 in
theorem c_X0_init_53 {G : GG} {b : Nat} {B : HI} {S0 : AH} {Sh : HS} {I : HI} {R : HR} (hL : Lay ccT2 b 54 54 1 B S0 Sh I R) : AM G 1 0 0 yX0_init cX0_init 1 none [.ref (b + 53)] (Sh, I, R) (qv fun g => ∃ (S9 : HS) (I9 : HI) (R9 : HR), g = (S9, I9, R9) ∧ Lay ccT2 b 54 54 1 B S0 S9 I9 R9) := by
  refine am_intro (by decide) (Nat.le_of_ble_eq_true rfl) ?_
  refine x_aload_n dX0_init_0 0 rfl rfl ?_
  refine x_oinit dX0_init_1 (tw_at 372 (by decide +kernel) rfl) (by decide) (Nat.le_of_ble_eq_true rfl) (Nat.le_of_ble_eq_true rfl) ?_
  refine x_vret dX0_init_4 rfl (Nat.le_of_ble_eq_true rfl) (Nat.le_of_ble_eq_true rfl) ?_
  exact ⟨_, _, _, rfl, hL⟩

set_option maxHeartbeats 4000000 in
set_option maxRecDepth 100000 in
theorem c_X4_init_44 {G : GG} {b : Nat} {B : HI} {S0 : AH} {Sh : HS} {I : HI} {R : HR} (hL : Lay ccT2 b 45 45 1 B S0 Sh I R) : AM G 2 9 56 yX4_init cX4_init 3 none [.ref (b + 44), .ref (b + 8)] (Sh, I, R) (qv fun g => ∃ (S9 : HS) (I9 : HI) (R9 : HR), g = (S9, I9, R9) ∧ Lay ccT2 b 54 55 1 B S0 S9 I9 R9) := by
  refine am_intro (by decide) (Nat.le_of_ble_eq_true rfl) ?_
  refine x_aload_n dX4_init_0 0 rfl rfl ?_
  refine x_oinit dX4_init_1 (tw_at 365 (by decide +kernel) rfl) (by decide) (Nat.le_of_ble_eq_true rfl) (Nat.le_of_ble_eq_true rfl) ?_
  refine x_aload_n dX4_init_4 0 rfl rfl ?_
  refine x_bipush (v := 8) dX4_init_5 (by decide) ?_
  refine x_LnQ (N := 8) (kd := 10) hL dX4_init_7 (tw_at 366 (by decide +kernel) rfl) (fun _ h => h.2.2.2.2.1) (by decide) (by decide) rfl (by decide) (by decide) rfl (by decide +kernel) (Nat.le_of_ble_eq_true rfl) (Nat.le_of_ble_eq_true rfl) (fun S122 I122 R122 L122 => ?_)
  refine x_LpR (ja := 44) (jv := 45) L122 dX4_init_10 fl_4_11 rfl rfl rfl rfl rfl (by decide) rfl (by decide +kernel) (fun R123 L123 => ?_)
  refine x_aload_n dX4_init_13 0 rfl rfl ?_
  refine x_aload_n dX4_init_14 1 rfl rfl ?_
  refine x_LpR (ja := 44) (jv := 8) L123 dX4_init_15 fl_4_17 rfl rfl rfl rfl rfl (by decide) rfl (by decide +kernel) (fun R124 L124 => ?_)
  refine x_iconst (v := 0) dX4_init_18 (by decide) ?_
  refine x_istore_n (lv' := [(2, .int 0), (0, .ref (b + 44)), (1, .ref (b + 8))]) dX4_init_19 rfl (by decide) rfl ?_
  refine x_iload_n dX4_init_20 0 rfl rfl ?_
  refine x_bipush (v := 8) dX4_init_21 (by decide) ?_
  refine x_icmp_ge (tgt := 45) dX4_init_23 (by decide) (fun c_23 => False.elim (absurd c_23 (by decide))) (fun c_23 => ?_)
  refine x_aload_n dX4_init_26 1 rfl rfl ?_
  refine x_gR (b := b + 45) dX4_init_27 fl_4_11 rfl (L124.2.1 44 (by decide)) (L124.2.2.1 45 (by decide)) ?_
  refine x_iload_n dX4_init_30 0 rfl rfl ?_
  refine x_Lnw (ci := 0) L124 dX4_init_31 rfl (tw_at 366 (by decide +kernel) rfl) (tw_at 368 (by decide +kernel) rfl) (tw_at 83 (by decide +kernel) rfl) rfl (by decide +kernel) (Nat.le_of_ble_eq_true rfl) (Nat.le_of_ble_eq_true rfl) (fun S125 I125 R125 L125 => ?_)
  refine x_dup dX4_init_34 rfl ?_
  refine x_callI (c_X0_init_46 (G := G) L125) dX4_init_35 crc_X0_init ic_4_21 rfl rfl (Nat.le_of_ble_eq_true rfl) (roomy_k (by decide) (by decide)) (Nat.le_of_ble_eq_true rfl) (Nat.le_of_ble_eq_true rfl) ?_
  rintro _ _ ⟨rfl, S126, I126, R126, rfl, L126⟩
  refine x_LaR (ja := 45) (jv := 46) (j := 0) (kd := 10) (ci := 0) L126 dX4_init_38 rfl (by decide) (by decide) (by decide) rfl rfl rfl (by decide) (by decide) (by decide) (by decide) rfl (by decide +kernel) (fun R127 L127 => ?_)
  refine x_iinc (v := 1) (lv' := [(2, .int 1), (0, .ref (b + 44)), (1, .ref (b + 8))]) dX4_init_39 0 rfl (by decide) (by decide) rfl ?_
  refine x_goto (tgt := 20) dX4_init_42 (by decide) ?_
  refine x_iload_n dX4_init_20 0 rfl rfl ?_
  refine x_bipush (v := 8) dX4_init_21 (by decide) ?_
  refine x_icmp_ge (tgt := 45) dX4_init_23 (by decide) (fun c_23 => False.elim (absurd c_23 (by decide))) (fun c_23 => ?_)
  refine x_aload_n dX4_init_26 1 rfl rfl ?_
  refine x_gR (b := b + 45) dX4_init_27 fl_4_11 rfl (L127.2.1 44 (by decide)) (L127.2.2.1 45 (by decide)) ?_
  refine x_iload_n dX4_init_30 0 rfl rfl ?_
  refine x_Lnw (ci := 0) L127 dX4_init_31 rfl (tw_at 366 (by decide +kernel) rfl) (tw_at 368 (by decide +kernel) rfl) (tw_at 83 (by decide +kernel) rfl) rfl (by decide +kernel) (Nat.le_of_ble_eq_true rfl) (Nat.le_of_ble_eq_true rfl) (fun S128 I128 R128 L128 => ?_)
  refine x_dup dX4_init_34 rfl ?_
  refine x_callI (c_X0_init_47 (G := G) L128) dX4_init_35 crc_X0_init ic_4_21 rfl rfl (Nat.le_of_ble_eq_true rfl) (roomy_k (by decide) (by decide)) (Nat.le_of_ble_eq_true rfl) (Nat.le_of_ble_eq_true rfl) ?_
  rintro _ _ ⟨rfl, S129, I129, R129, rfl, L129⟩
  refine x_LaR (ja := 45) (jv := 47) (j := 1) (kd := 10) (ci := 0) L129 dX4_init_38 rfl (by decide) (by decide) (by decide) rfl rfl rfl (by decide) (by decide) (by decide) (by decide) rfl (by decide +kernel) (fun R130 L130 => ?_)
  refine x_iinc (v := 2) (lv' := [(2, .int 2), (0, .ref (b + 44)), (1, .ref (b + 8))]) dX4_init_39 0 rfl (by decide) (by decide) rfl ?_
  refine x_goto (tgt := 20) dX4_init_42 (by decide) ?_
  refine x_iload_n dX4_init_20 0 rfl rfl ?_
  refine x_bipush (v := 8) dX4_init_21 (by decide) ?_
  refine x_icmp_ge (tgt := 45) dX4_init_23 (by decide) (fun c_23 => False.elim (absurd c_23 (by decide))) (fun c_23 => ?_)
  refine x_aload_n dX4_init_26 1 rfl rfl ?_
  refine x_gR (b := b + 45) dX4_init_27 fl_4_11 rfl (L130.2.1 44 (by decide)) (L130.2.2.1 45 (by decide)) ?_
  refine x_iload_n dX4_init_30 0 rfl rfl ?_
  refine x_Lnw (ci := 0) L130 dX4_init_31 rfl (tw_at 366 (by decide +kernel) rfl) (tw_at 368 (by decide +kernel) rfl) (tw_at 83 (by decide +kernel) rfl) rfl (by decide +kernel) (Nat.le_of_ble_eq_true rfl) (Nat.le_of_ble_eq_true rfl) (fun S131 I131 R131 L131 => ?_)
  refine x_dup dX4_init_34 rfl ?_
  refine x_callI (c_X0_init_48 (G := G) L131) dX4_init_35 crc_X0_init ic_4_21 rfl rfl (Nat.le_of_ble_eq_true rfl) (roomy_k (by decide) (by decide)) (Nat.le_of_ble_eq_true rfl) (Nat.le_of_ble_eq_true rfl) ?_
  rintro _ _ ⟨rfl, S132, I132, R132, rfl, L132⟩
  refine x_LaR (ja := 45) (jv := 48) (j := 2) (kd := 10) (ci := 0) L132 dX4_init_38 rfl (by decide) (by decide) (by decide) rfl rfl rfl (by decide) (by decide) (by decide) (by decide) rfl (by decide +kernel) (fun R133 L133 => ?_)
  refine x_iinc (v := 3) (lv' := [(2, .int 3), (0, .ref (b + 44)), (1, .ref (b + 8))]) dX4_init_39 0 rfl (by decide) (by decide) rfl ?_
  refine x_goto (tgt := 20) dX4_init_42 (by decide) ?_
  refine x_iload_n dX4_init_20 0 rfl rfl ?_
  refine x_bipush (v := 8) dX4_init_21 (by decide) ?_
  refine x_icmp_ge (tgt := 45) dX4_init_23 (by decide) (fun c_23 => False.elim (absurd c_23 (by decide))) (fun c_23 => ?_)
  refine x_aload_n dX4_init_26 1 rfl rfl ?_
  refine x_gR (b := b + 45) dX4_init_27 fl_4_11 rfl (L133.2.1 44 (by decide)) (L133.2.2.1 45 (by decide)) ?_
  refine x_iload_n dX4_init_30 0 rfl rfl ?_
  refine x_Lnw (ci := 0) L133 dX4_init_31 rfl (tw_at 366 (by decide +kernel) rfl) (tw_at 368 (by decide +kernel) rfl) (tw_at 83 (by decide +kernel) rfl) rfl (by decide +kernel) (Nat.le_of_ble_eq_true rfl) (Nat.le_of_ble_eq_true rfl) (fun S134 I134 R134 L134 => ?_)
  refine x_dup dX4_init_34 rfl ?_
  refine x_callI (c_X0_init_49 (G := G) L134) dX4_init_35 crc_X0_init ic_4_21 rfl rfl (Nat.le_of_ble_eq_true rfl) (roomy_k (by decide) (by decide)) (Nat.le_of_ble_eq_true rfl) (Nat.le_of_ble_eq_true rfl) ?_
  rintro _ _ ⟨rfl, S135, I135, R135, rfl, L135⟩
  refine x_LaR (ja := 45) (jv := 49) (j := 3) (kd := 10) (ci := 0) L135 dX4_init_38 rfl (by decide) (by decide) (by decide) rfl rfl rfl (by decide) (by decide) (by decide) (by decide) rfl (by decide +kernel) (fun R136 L136 => ?_)
  refine x_iinc (v := 4) (lv' := [(2, .int 4), (0, .ref (b + 44)), (1, .ref (b + 8))]) dX4_init_39 0 rfl (by decide) (by decide) rfl ?_
  refine x_goto (tgt := 20) dX4_init_42 (by decide) ?_
  refine x_iload_n dX4_init_20 0 rfl rfl ?_
  refine x_bipush (v := 8) dX4_init_21 (by decide) ?_
  refine x_icmp_ge (tgt := 45) dX4_init_23 (by decide) (fun c_23 => False.elim (absurd c_23 (by decide))) (fun c_23 => ?_)
  refine x_aload_n dX4_init_26 1 rfl rfl ?_
  refine x_gR (b := b + 45) dX4_init_27 fl_4_11 rfl (L136.2.1 44 (by decide)) (L136.2.2.1 45 (by decide)) ?_
  refine x_iload_n dX4_init_30 0 rfl rfl ?_
  refine x_Lnw (ci := 0) L136 dX4_init_31 rfl (tw_at 366 (by decide +kernel) rfl) (tw_at 368 (by decide +kernel) rfl) (tw_at 83 (by decide +kernel) rfl) rfl (by decide +kernel) (Nat.le_of_ble_eq_true rfl) (Nat.le_of_ble_eq_true rfl) (fun S137 I137 R137 L137 => ?_)
  refine x_dup dX4_init_34 rfl ?_
  refine x_callI (c_X0_init_50 (G := G) L137) dX4_init_35 crc_X0_init ic_4_21 rfl rfl (Nat.le_of_ble_eq_true rfl) (roomy_k (by decide) (by decide)) (Nat.le_of_ble_eq_true rfl) (Nat.le_of_ble_eq_true rfl) ?_
  rintro _ _ ⟨rfl, S138, I138, R138, rfl, L138⟩
  refine x_LaR (ja := 45) (jv := 50) (j := 4) (kd := 10) (ci := 0) L138 dX4_init_38 rfl (by decide) (by decide) (by decide) rfl rfl rfl (by decide) (by decide) (by decide) (by decide) rfl (by decide +kernel) (fun R139 L139 => ?_)
  refine x_iinc (v := 5) (lv' := [(2, .int 5), (0, .ref (b + 44)), (1, .ref (b + 8))]) dX4_init_39 0 rfl (by decide) (by decide) rfl ?_
  refine x_goto (tgt := 20) dX4_init_42 (by decide) ?_
  refine x_iload_n dX4_init_20 0 rfl rfl ?_
  refine x_bipush (v := 8) dX4_init_21 (by decide) ?_
  refine x_icmp_ge (tgt := 45) dX4_init_23 (by decide) (fun c_23 => False.elim (absurd c_23 (by decide))) (fun c_23 => ?_)
  refine x_aload_n dX4_init_26 1 rfl rfl ?_
  refine x_gR (b := b + 45) dX4_init_27 fl_4_11 rfl (L139.2.1 44 (by decide)) (L139.2.2.1 45 (by decide)) ?_
  refine x_iload_n dX4_init_30 0 rfl rfl ?_
  refine x_Lnw (ci := 0) L139 dX4_init_31 rfl (tw_at 366 (by decide +kernel) rfl) (tw_at 368 (by decide +kernel) rfl) (tw_at 83 (by decide +kernel) rfl) rfl (by decide +kernel) (Nat.le_of_ble_eq_true rfl) (Nat.le_of_ble_eq_true rfl) (fun S140 I140 R140 L140 => ?_)
  refine x_dup dX4_init_34 rfl ?_
  refine x_callI (c_X0_init_51 (G := G) L140) dX4_init_35 crc_X0_init ic_4_21 rfl rfl (Nat.le_of_ble_eq_true rfl) (roomy_k (by decide) (by decide)) (Nat.le_of_ble_eq_true rfl) (Nat.le_of_ble_eq_true rfl) ?_
  rintro _ _ ⟨rfl, S141, I141, R141, rfl, L141⟩
  refine x_LaR (ja := 45) (jv := 51) (j := 5) (kd := 10) (ci := 0) L141 dX4_init_38 rfl (by decide) (by decide) (by decide) rfl rfl rfl (by decide) (by decide) (by decide) (by decide) rfl (by decide +kernel) (fun R142 L142 => ?_)
  refine x_iinc (v := 6) (lv' := [(2, .int 6), (0, .ref (b + 44)), (1, .ref (b + 8))]) dX4_init_39 0 rfl (by decide) (by decide) rfl ?_
  refine x_goto (tgt := 20) dX4_init_42 (by decide) ?_
  refine x_iload_n dX4_init_20 0 rfl rfl ?_
  refine x_bipush (v := 8) dX4_init_21 (by decide) ?_
  refine x_icmp_ge (tgt := 45) dX4_init_23 (by decide) (fun c_23 => False.elim (absurd c_23 (by decide))) (fun c_23 => ?_)
  refine x_aload_n dX4_init_26 1 rfl rfl ?_
  refine x_gR (b := b + 45) dX4_init_27 fl_4_11 rfl (L142.2.1 44 (by decide)) (L142.2.2.1 45 (by decide)) ?_
  refine x_iload_n dX4_init_30 0 rfl rfl ?_
  refine x_Lnw (ci := 0) L142 dX4_init_31 rfl (tw_at 366 (by decide +kernel) rfl) (tw_at 368 (by decide +kernel) rfl) (tw_at 83 (by decide +kernel) rfl) rfl (by decide +kernel) (Nat.le_of_ble_eq_true rfl) (Nat.le_of_ble_eq_true rfl) (fun S143 I143 R143 L143 => ?_)
  refine x_dup dX4_init_34 rfl ?_
  refine x_callI (c_X0_init_52 (G := G) L143) dX4_init_35 crc_X0_init ic_4_21 rfl rfl (Nat.le_of_ble_eq_true rfl) (roomy_k (by decide) (by decide)) (Nat.le_of_ble_eq_true rfl) (Nat.le_of_ble_eq_true rfl) ?_
  rintro _ _ ⟨rfl, S144, I144, R144, rfl, L144⟩
  refine x_LaR (ja := 45) (jv := 52) (j := 6) (kd := 10) (ci := 0) L144 dX4_init_38 rfl (by decide) (by decide) (by decide) rfl rfl rfl (by decide) (by decide) (by decide) (by decide) rfl (by decide +kernel) (fun R145 L145 => ?_)
  refine x_iinc (v := 7) (lv' := [(2, .int 7), (0, .ref (b + 44)), (1, .ref (b + 8))]) dX4_init_39 0 rfl (by decide) (by decide) rfl ?_
  refine x_goto (tgt := 20) dX4_init_42 (by decide) ?_
  refine x_iload_n dX4_init_20 0 rfl rfl ?_
  refine x_bipush (v := 8) dX4_init_21 (by decide) ?_
  refine x_icmp_ge (tgt := 45) dX4_init_23 (by decide) (fun c_23 => False.elim (absurd c_23 (by decide))) (fun c_23 => ?_)
  refine x_aload_n dX4_init_26 1 rfl rfl ?_
  refine x_gR (b := b + 45) dX4_init_27 fl_4_11 rfl (L145.2.1 44 (by decide)) (L145.2.2.1 45 (by decide)) ?_
  refine x_iload_n dX4_init_30 0 rfl rfl ?_
  refine x_Lnw (ci := 0) L145 dX4_init_31 rfl (tw_at 366 (by decide +kernel) rfl) (tw_at 368 (by decide +kernel) rfl) (tw_at 83 (by decide +kernel) rfl) rfl (by decide +kernel) (Nat.le_of_ble_eq_true rfl) (Nat.le_of_ble_eq_true rfl) (fun S146 I146 R146 L146 => ?_)
  refine x_dup dX4_init_34 rfl ?_
  refine x_callI (c_X0_init_53 (G := G) L146) dX4_init_35 crc_X0_init ic_4_21 rfl rfl (Nat.le_of_ble_eq_true rfl) (roomy_k (by decide) (by decide)) (Nat.le_of_ble_eq_true rfl) (Nat.le_of_ble_eq_true rfl) ?_
  rintro _ _ ⟨rfl, S147, I147, R147, rfl, L147⟩
  refine x_LaR (ja := 45) (jv := 53) (j := 7) (kd := 10) (ci := 0) L147 dX4_init_38 rfl (by decide) (by decide) (by decide) rfl rfl rfl (by decide) (by decide) (by decide) (by decide) rfl (by decide +kernel) (fun R148 L148 => ?_)
  refine x_iinc (v := 8) (lv' := [(2, .int 8), (0, .ref (b + 44)), (1, .ref (b + 8))]) dX4_init_39 0 rfl (by decide) (by decide) rfl ?_
  refine x_goto (tgt := 20) dX4_init_42 (by decide) ?_
  refine x_iload_n dX4_init_20 0 rfl rfl ?_
  refine x_bipush (v := 8) dX4_init_21 (by decide) ?_
  refine x_icmp_ge (tgt := 45) dX4_init_23 (by decide) (fun c_23 => ?_) (fun c_23 => False.elim (absurd (by decide) c_23))
  refine x_vret dX4_init_45 rfl (Nat.le_of_ble_eq_true rfl) (Nat.le_of_ble_eq_true rfl) ?_
  exact ⟨_, _, _, rfl, L148⟩

set_option maxHeartbeats 4000000 in
set_option maxRecDepth 100000 in
theorem c_X0_init_56 {G : GG} {b : Nat} {B : HI} {S0 : AH} {Sh : HS} {I : HI} {R : HR} (hL : Lay ccT2 b 57 58 1 B S0 Sh I R) : AM G 1 0 0 yX0_init cX0_init 1 none [.ref (b + 56)] (Sh, I, R) (qv fun g => ∃ (S9 : HS) (I9 : HI) (R9 : HR), g = (S9, I9, R9) ∧ Lay ccT2 b 57 58 1 B S0 S9 I9 R9) := by
  refine am_intro (by decide) (Nat.le_of_ble_eq_true rfl) ?_
  refine x_aload_n dX0_init_0 0 rfl rfl ?_
  refine x_oinit dX0_init_1 (tw_at 372 (by decide +kernel) rfl) (by decide) (Nat.le_of_ble_eq_true rfl) (Nat.le_of_ble_eq_true rfl) ?_
  refine x_vret dX0_init_4 rfl (Nat.le_of_ble_eq_true rfl) (Nat.le_of_ble_eq_true rfl) ?_
  exact ⟨_, _, _, rfl, hL⟩

set_option maxHeartbeats 4000000 in
set_option maxRecDepth 100000 in
theorem c_X0_init_57 {G : GG} {b : Nat} {B : HI} {S0 : AH} {Sh : HS} {I : HI} {R : HR} (hL : Lay ccT2 b 58 59 1 B S0 Sh I R) : AM G 1 0 0 yX0_init cX0_init 1 none [.ref (b + 57)] (Sh, I, R) (qv fun g => ∃ (S9 : HS) (I9 : HI) (R9 : HR), g = (S9, I9, R9) ∧ Lay ccT2 b 58 59 1 B S0 S9 I9 R9) := by
  refine am_intro (by decide) (Nat.le_of_ble_eq_true rfl) ?_
  refine x_aload_n dX0_init_0 0 rfl rfl ?_
  refine x_oinit dX0_init_1 (tw_at 372 (by decide +kernel) rfl) (by decide) (Nat.le_of_ble_eq_true rfl) (Nat.le_of_ble_eq_true rfl) ?_
  refine x_vret dX0_init_4 rfl (Nat.le_of_ble_eq_true rfl) (Nat.le_of_ble_eq_true rfl) ?_
  exact ⟨_, _, _, rfl, hL⟩

set_option maxHeartbeats 4000000 in
set_option maxRecDepth 100000 in
theorem c_X0_init_58 {G : GG} {b : Nat} {B : HI} {S0 : AH} {Sh : HS} {I : HI} {R : HR} (hL : Lay ccT2 b 59 60 1 B S0 Sh I R) : AM G 1 0 0 yX0_init cX0_init 1 none [.ref (b + 58)] (Sh, I, R) (qv fun g => ∃ (S9 : HS) (I9 : HI) (R9 : HR), g = (S9, I9, R9) ∧ Lay ccT2 b 59 60 1 B S0 S9 I9 R9) := by
  refine am_intro (by decide) (Nat.le_of_ble_eq_true rfl) ?_
  refine x_aload_n dX0_init_0 0 rfl rfl ?_
  refine x_oinit dX0_init_1 (tw_at 372 (by decide +kernel) rfl) (by decide) (Nat.le_of_ble_eq_true rfl) (Nat.le_of_ble_eq_true rfl) ?_
  refine x_vret dX0_init_4 rfl (Nat.le_of_ble_eq_true rfl) (Nat.le_of_ble_eq_true rfl) ?_
  exact ⟨_, _, _, rfl, hL⟩

set_option maxHeartbeats 4000000 in
set_option maxRecDepth 100000 in
theorem c_X0_init_59 {G : GG} {b : Nat} {B : HI} {S0 : AH} {Sh : HS} {I : HI} {R : HR} (hL : Lay ccT2 b 60 61 1 B S0 Sh I R) : AM G 1 0 0 yX0_init cX0_init 1 none [.ref (b + 59)] (Sh, I, R) (qv fun g => ∃ (S9 : HS) (I9 : HI) (R9 : HR), g = (S9, I9, R9) ∧ Lay ccT2 b 60 61 1 B S0 S9 I9 R9) := by
  refine am_intro (by decide) (Nat.le_of_ble_eq_true rfl) ?_
  refine x_aload_n dX0_init_0 0 rfl rfl ?_
  refine x_oinit dX0_init_1 (tw_at 372 (by decide +kernel) rfl) (by decide) (Nat.le_of_ble_eq_true rfl) (Nat.le_of_ble_eq_true rfl) ?_
  refine x_vret dX0_init_4 rfl (Nat.le_of_ble_eq_true rfl) (Nat.le_of_ble_eq_true rfl) ?_
  exact ⟨_, _, _, rfl, hL⟩

set_option maxHeartbeats 4000000 in
set_option maxRecDepth 100000 in
theorem c_X0_init_60 {G : GG} {b : Nat} {B : HI} {S0 : AH} {Sh : HS} {I : HI} {R : HR} (hL : Lay ccT2 b 61 62 1 B S0 Sh I R) : AM G 1 0 0 yX0_init cX0_init 1 none [.ref (b + 60)] (Sh, I, R) (qv fun g => ∃ (S9 : HS) (I9 : HI) (R9 : HR), g = (S9, I9, R9) ∧ Lay ccT2 b 61 62 1 B S0 S9 I9 R9) := by
  refine am_intro (by decide) (Nat.le_of_ble_eq_true rfl) ?_
  refine x_aload_n dX0_init_0 0 rfl rfl ?_
  refine x_oinit dX0_init_1 (tw_at 372 (by decide +kernel) rfl) (by decide) (Nat.le_of_ble_eq_true rfl) (Nat.le_of_ble_eq_true rfl) ?_
  refine x_vret dX0_init_4 rfl (Nat.le_of_ble_eq_true rfl) (Nat.le_of_ble_eq_true rfl) ?_
  exact ⟨_, _, _, rfl, hL⟩

set_option maxHeartbeats 4000000 in
set_option maxRecDepth 100000 in
theorem c_X0_init_61 {G : GG} {b : Nat} {B : HI} {S0 : AH} {Sh : HS} {I : HI} {R : HR} (hL : Lay ccT2 b 62 63 1 B S0 Sh I R) : AM G 1 0 0 yX0_init cX0_init 1 none [.ref (b + 61)] (Sh, I, R) (qv fun g => ∃ (S9 : HS) (I9 : HI) (R9 : HR), g = (S9, I9, R9) ∧ Lay ccT2 b 62 63 1 B S0 S9 I9 R9) := by
  refine am_intro (by decide) (Nat.le_of_ble_eq_true rfl) ?_
  refine x_aload_n dX0_init_0 0 rfl rfl ?_
  refine x_oinit dX0_init_1 (tw_at 372 (by decide +kernel) rfl) (by decide) (Nat.le_of_ble_eq_true rfl) (Nat.le_of_ble_eq_true rfl) ?_
  refine x_vret dX0_init_4 rfl (Nat.le_of_ble_eq_true rfl) (Nat.le_of_ble_eq_true rfl) ?_
  exact ⟨_, _, _, rfl, hL⟩

set_option maxHeartbeats 4000000 in
set_option maxRecDepth 100000 in
theorem c_X0_init_62 {G : GG} {b : Nat} {B : HI} {S0 : AH} {Sh : HS} {I : HI} {R : HR} (hL : Lay ccT2 b 63 64 1 B S0 Sh I R) : AM G 1 0 0 yX0_init cX0_init 1 none [.ref (b + 62)] (Sh, I, R) (qv fun g => ∃ (S9 : HS) (I9 : HI) (R9 : HR), g = (S9, I9, R9) ∧ Lay ccT2 b 63 64 1 B S0 S9 I9 R9) := by
  refine am_intro (by decide) (Nat.le_of_ble_eq_true rfl) ?_
  refine x_aload_n dX0_init_0 0 rfl rfl ?_
  refine x_oinit dX0_init_1 (tw_at 372 (by decide +kernel) rfl) (by decide) (Nat.le_of_ble_eq_true rfl) (Nat.le_of_ble_eq_true rfl) ?_
  refine x_vret dX0_init_4 rfl (Nat.le_of_ble_eq_true rfl) (Nat.le_of_ble_eq_true rfl) ?_
  exact ⟨_, _, _, rfl, hL⟩

set_option maxHeartbeats 4000000 in
set_option maxRecDepth 100000 in
theorem c_X0_init_63 {G : GG} {b : Nat} {B : HI} {S0 : AH} {Sh : HS} {I : HI} {R : HR} (hL : Lay ccT2 b 64 65 1 B S0 Sh I R) : AM G 1 0 0 yX0_init cX0_init 1 none [.ref (b + 63)] (Sh, I, R) (qv fun g => ∃ (S9 : HS) (I9 : HI) (R9 : HR), g = (S9, I9, R9) ∧ Lay ccT2 b 64 65 1 B S0 S9 I9 R9) := by
  refine am_intro (by decide) (Nat.le_of_ble_eq_true rfl) ?_
  refine x_aload_n dX0_init_0 0 rfl rfl ?_
  refine x_oinit dX0_init_1 (tw_at 372 (by decide +kernel) rfl) (by decide) (Nat.le_of_ble_eq_true rfl) (Nat.le_of_ble_eq_true rfl) ?_
  refine x_vret dX0_init_4 rfl (Nat.le_of_ble_eq_true rfl) (Nat.le_of_ble_eq_true rfl) ?_
  exact ⟨_, _, _, rfl, hL⟩

set_option maxHeartbeats 4000000 in
set_option maxRecDepth 100000 in
theorem c_X4_init_54 {G : GG} {b : Nat} {B : HI} {S0 : AH} {Sh : HS} {I : HI} {R : HR} (hL : Lay ccT2 b 55 56 1 B S0 Sh I R) : AM G 2 9 56 yX4_init cX4_init 3 none [.ref (b + 54), .ref (b + 8)] (Sh, I, R) (qv fun g => ∃ (S9 : HS) (I9 : HI) (R9 : HR), g = (S9, I9, R9) ∧ Lay ccT2 b 64 66 1 B S0 S9 I9 R9) := by
  refine am_intro (by decide) (Nat.le_of_ble_eq_true rfl) ?_
  refine x_aload_n dX4_init_0 0 rfl rfl ?_
  refine x_oinit dX4_init_1 (tw_at 365 (by decide +kernel) rfl) (by decide) (Nat.le_of_ble_eq_true rfl) (Nat.le_of_ble_eq_true rfl) ?_
  refine x_aload_n dX4_init_4 0 rfl rfl ?_
  refine x_bipush (v := 8) dX4_init_5 (by decide) ?_
  refine x_LnQ (N := 8) (kd := 10) hL dX4_init_7 (tw_at 366 (by decide +kernel) rfl) (fun _ h => h.2.2.2.2.1) (by decide) (by decide) rfl (by decide) (by decide) rfl (by decide +kernel) (Nat.le_of_ble_eq_true rfl) (Nat.le_of_ble_eq_true rfl) (fun S152 I152 R152 L152 => ?_)
  refine x_LpR (ja := 54) (jv := 55) L152 dX4_init_10 fl_4_11 rfl rfl rfl rfl rfl (by decide) rfl (by decide +kernel) (fun R153 L153 => ?_)
  refine x_aload_n dX4_init_13 0 rfl rfl ?_
  refine x_aload_n dX4_init_14 1 rfl rfl ?_
  refine x_LpR (ja := 54) (jv := 8) L153 dX4_init_15 fl_4_17 rfl rfl rfl rfl rfl (by decide) rfl (by decide +kernel) (fun R154 L154 => ?_)
  refine x_iconst (v := 0) dX4_init_18 (by decide) ?_
  refine x_istore_n (lv' := [(2, .int 0), (0, .ref (b + 54)), (1, .ref (b + 8))]) dX4_init_19 rfl (by decide) rfl ?_
  refine x_iload_n dX4_init_20 0 rfl rfl ?_
  refine x_bipush (v := 8) dX4_init_21 (by decide) ?_
  refine x_icmp_ge (tgt := 45) dX4_init_23 (by decide) (fun c_23 => False.elim (absurd c_23 (by decide))) (fun c_23 => ?_)
  refine x_aload_n dX4_init_26 1 rfl rfl ?_
  refine x_gR (b := b + 55) dX4_init_27 fl_4_11 rfl (L154.2.1 54 (by decide)) (L154.2.2.1 56 (by decide)) ?_
  refine x_iload_n dX4_init_30 0 rfl rfl ?_
  refine x_Lnw (ci := 0) L154 dX4_init_31 rfl (tw_at 366 (by decide +kernel) rfl) (tw_at 368 (by decide +kernel) rfl) (tw_at 83 (by decide +kernel) rfl) rfl (by decide +kernel) (Nat.le_of_ble_eq_true rfl) (Nat.le_of_ble_eq_true rfl) (fun S155 I155 R155 L155 => ?_)
  refine x_dup dX4_init_34 rfl ?_
  refine x_callI (c_X0_init_56 (G := G) L155) dX4_init_35 crc_X0_init ic_4_21 rfl rfl (Nat.le_of_ble_eq_true rfl) (roomy_k (by decide) (by decide)) (Nat.le_of_ble_eq_true rfl) (Nat.le_of_ble_eq_true rfl) ?_
  rintro _ _ ⟨rfl, S156, I156, R156, rfl, L156⟩
  refine x_LaR (ja := 55) (jv := 56) (j := 0) (kd := 10) (ci := 0) L156 dX4_init_38 rfl (by decide) (by decide) (by decide) rfl rfl rfl (by decide) (by decide) (by decide) (by decide) rfl (by decide +kernel) (fun R157 L157 => ?_)
  refine x_iinc (v := 1) (lv' := [(2, .int 1), (0, .ref (b + 54)), (1, .ref (b + 8))]) dX4_init_39 0 rfl (by decide) (by decide) rfl ?_
  refine x_goto (tgt := 20) dX4_init_42 (by decide) ?_
  refine x_iload_n dX4_init_20 0 rfl rfl ?_
  refine x_bipush (v := 8) dX4_init_21 (by decide) ?_
  refine x_icmp_ge (tgt := 45) dX4_init_23 (by decide) (fun c_23 => False.elim (absurd c_23 (by decide))) (fun c_23 => ?_)
  refine x_aload_n dX4_init_26 1 rfl rfl ?_
  refine x_gR (b := b + 55) dX4_init_27 fl_4_11 rfl (L157.2.1 54 (by decide)) (L157.2.2.1 56 (by decide)) ?_
  refine x_iload_n dX4_init_30 0 rfl rfl ?_
  refine x_Lnw (ci := 0) L157 dX4_init_31 rfl (tw_at 366 (by decide +kernel) rfl) (tw_at 368 (by decide +kernel) rfl) (tw_at 83 (by decide +kernel) rfl) rfl (by decide +kernel) (Nat.le_of_ble_eq_true rfl) (Nat.le_of_ble_eq_true rfl) (fun S158 I158 R158 L158 => ?_)
  refine x_dup dX4_init_34 rfl ?_
  refine x_callI (c_X0_init_57 (G := G) L158) dX4_init_35 crc_X0_init ic_4_21 rfl rfl (Nat.le_of_ble_eq_true rfl) (roomy_k (by decide) (by decide)) (Nat.le_of_ble_eq_true rfl) (Nat.le_of_ble_eq_true rfl) ?_
  rintro _ _ ⟨rfl, S159, I159, R159, rfl, L159⟩
  refine x_LaR (ja := 55) (jv := 57) (j := 1) (kd := 10) (ci := 0) L159 dX4_init_38 rfl (by decide) (by decide) (by decide) rfl rfl rfl (by decide) (by decide) (by decide) (by decide) rfl (by decide +kernel) (fun R160 L160 => ?_)
  refine x_iinc (v := 2) (lv' := [(2, .int 2), (0, .ref (b + 54)), (1, .ref (b + 8))]) dX4_init_39 0 rfl (by decide) (by decide) rfl ?_
  refine x_goto (tgt := 20) dX4_init_42 (by decide) ?_
  refine x_iload_n dX4_init_20 0 rfl rfl ?_
  refine x_bipush (v := 8) dX4_init_21 (by decide) ?_
  refine x_icmp_ge (tgt := 45) dX4_init_23 (by decide) (fun c_23 => False.elim (absurd c_23 (by decide))) (fun c_23 => ?_)
  refine x_aload_n dX4_init_26 1 rfl rfl ?_
  refine x_gR (b := b + 55) dX4_init_27 fl_4_11 rfl (L160.2.1 54 (by decide)) (L160.2.2.1 56 (by decide)) ?_
  refine x_iload_n dX4_init_30 0 rfl rfl ?_
  refine x_Lnw (ci := 0) L160 dX4_init_31 rfl (tw_at 366 (by decide +kernel) rfl) (tw_at 368 (by decide +kernel) rfl) (tw_at 83 (by decide +kernel) rfl) rfl (by decide +kernel) (Nat.le_of_ble_eq_true rfl) (Nat.le_of_ble_eq_true rfl) (fun S161 I161 R161 L161 => ?_)
  refine x_dup dX4_init_34 rfl ?_
  refine x_callI (c_X0_init_58 (G := G) L161) dX4_init_35 crc_X0_init ic_4_21 rfl rfl (Nat.le_of_ble_eq_true rfl) (roomy_k (by decide) (by decide)) (Nat.le_of_ble_eq_true rfl) (Nat.le_of_ble_eq_true rfl) ?_
  rintro _ _ ⟨rfl, S162, I162, R162, rfl, L162⟩
  refine x_LaR (ja := 55) (jv := 58) (j := 2) (kd := 10) (ci := 0) L162 dX4_init_38 rfl (by decide) (by decide) (by decide) rfl rfl rfl (by decide) (by decide) (by decide) (by decide) rfl (by decide +kernel) (fun R163 L163 => ?_)
  refine x_iinc (v := 3) (lv' := [(2, .int 3), (0, .ref (b + 54)), (1, .ref (b + 8))]) dX4_init_39 0 rfl (by decide) (by decide) rfl ?_
  refine x_goto (tgt := 20) dX4_init_42 (by decide) ?_
  refine x_iload_n dX4_init_20 0 rfl rfl ?_
  refine x_bipush (v := 8) dX4_init_21 (by decide) ?_
  refine x_icmp_ge (tgt := 45) dX4_init_23 (by decide) (fun c_23 => False.elim (absurd c_23 (by decide))) (fun c_23 => ?_)
  refine x_aload_n dX4_init_26 1 rfl rfl ?_
  refine x_gR (b := b + 55) dX4_init_27 fl_4_11 rfl (L163.2.1 54 (by decide)) (L163.2.2.1 56 (by decide)) ?_
  refine x_iload_n dX4_init_30 0 rfl rfl ?_
  refine x_Lnw (ci := 0) L163 dX4_init_31 rfl (tw_at 366 (by decide +kernel) rfl) (tw_at 368 (by decide +kernel) rfl) (tw_at 83 (by decide +kernel) rfl) rfl (by decide +kernel) (Nat.le_of_ble_eq_true rfl) (Nat.le_of_ble_eq_true rfl) (fun S164 I164 R164 L164 => ?_)
  refine x_dup dX4_init_34 rfl ?_
  refine x_callI (c_X0_init_59 (G := G) L164) dX4_init_35 crc_X0_init ic_4_21 rfl rfl (Nat.le_of_ble_eq_true rfl) (roomy_k (by decide) (by decide)) (Nat.le_of_ble_eq_true rfl) (Nat.le_of_ble_eq_true rfl) ?_
  rintro _ _ ⟨rfl, S165, I165, R165, rfl, L165⟩
  refine x_LaR (ja := 55) (jv := 59) (j := 3) (kd := 10) (ci := 0) L165 dX4_init_38 rfl (by decide) (by decide) (by decide) rfl rfl rfl (by decide) (by decide) (by decide) (by decide) rfl (by decide +kernel) (fun R166 L166 => ?_)
  refine x_iinc (v := 4) (lv' := [(2, .int 4), (0, .ref (b + 54)), (1, .ref (b + 8))]) dX4_init_39 0 rfl (by decide) (by decide) rfl ?_
  refine x_goto (tgt := 20) dX4_init_42 (by decide) ?_
  refine x_iload_n dX4_init_20 0 rfl rfl ?_
  refine x_bipush (v := 8) dX4_init_21 (by decide) ?_
  refine x_icmp_ge (tgt := 45) dX4_init_23 (by decide) (fun c_23 => False.elim (absurd c_23 (by decide))) (fun c_23 => ?_)
  refine x_aload_n dX4_init_26 1 rfl rfl ?_
  refine x_gR (b := b + 55) dX4_init_27 fl_4_11 rfl (L166.2.1 54 (by decide)) (L166.2.2.1 56 (by decide)) ?_
  refine x_iload_n dX4_init_30 0 rfl rfl ?_
  refine x_Lnw (ci := 0) L166 dX4_init_31 rfl (tw_at 366 (by decide +kernel) rfl) (tw_at 368 (by decide +kernel) rfl) (tw_at 83 (by decide +kernel) rfl) rfl (by decide +kernel) (Nat.le_of_ble_eq_true rfl) (Nat.le_of_ble_eq_true rfl) (fun S167 I167 R167 L167 => ?_)
  refine x_dup dX4_init_34 rfl ?_
  refine x_callI (c_X0_init_60 (G := G) L167) dX4_init_35 crc_X0_init ic_4_21 rfl rfl (Nat.le_of_ble_eq_true rfl) (roomy_k (by decide) (by decide)) (Nat.le_of_ble_eq_true rfl) (Nat.le_of_ble_eq_true rfl) ?_
  rintro _ _ ⟨rfl, S168, I168, R168, rfl, L168⟩
  refine x_LaR (ja := 55) (jv := 60) (j := 4) (kd := 10) (ci := 0) L168 dX4_init_38 rfl (by decide) (by decide) (by decide) rfl rfl rfl (by decide) (by decide) (by decide) (by decide) rfl (by decide +kernel) (fun R169 L169 => ?_)
  refine x_iinc (v := 5) (lv' := [(2, .int 5), (0, .ref (b + 54)), (1, .ref (b + 8))]) dX4_init_39 0 rfl (by decide) (by decide) rfl ?_
  refine x_goto (tgt := 20) dX4_init_42 (by decide) ?_
  refine x_iload_n dX4_init_20 0 rfl rfl ?_
  refine x_bipush (v := 8) dX4_init_21 (by decide) ?_
  refine x_icmp_ge (tgt := 45) dX4_init_23 (by decide) (fun c_23 => False.elim (absurd c_23 (by decide))) (fun c_23 => ?_)
  refine x_aload_n dX4_init_26 1 rfl rfl ?_
  refine x_gR (b := b + 55) dX4_init_27 fl_4_11 rfl (L169.2.1 54 (by decide)) (L169.2.2.1 56 (by decide)) ?_
  refine x_iload_n dX4_init_30 0 rfl rfl ?_
  refine x_Lnw (ci := 0) L169 dX4_init_31 rfl (tw_at 366 (by decide +kernel) rfl) (tw_at 368 (by decide +kernel) rfl) (tw_at 83 (by decide +kernel) rfl) rfl (by decide +kernel) (Nat.le_of_ble_eq_true rfl) (Nat.le_of_ble_eq_true rfl) (fun S170 I170 R170 L170 => ?_)
  refine x_dup dX4_init_34 rfl ?_
  refine x_callI (c_X0_init_61 (G := G) L170) dX4_init_35 crc_X0_init ic_4_21 rfl rfl (Nat.le_of_ble_eq_true rfl) (roomy_k (by decide) (by decide)) (Nat.le_of_ble_eq_true rfl) (Nat.le_of_ble_eq_true rfl) ?_
  rintro _ _ ⟨rfl, S171, I171, R171, rfl, L171⟩
  refine x_LaR (ja := 55) (jv := 61) (j := 5) (kd := 10) (ci := 0) L171 dX4_init_38 rfl (by decide) (by decide) (by decide) rfl rfl rfl (by decide) (by decide) (by decide) (by decide) rfl (by decide +kernel) (fun R172 L172 => ?_)
  refine x_iinc (v := 6) (lv' := [(2, .int 6), (0, .ref (b + 54)), (1, .ref (b + 8))]) dX4_init_39 0 rfl (by decide) (by decide) rfl ?_
  refine x_goto (tgt := 20) dX4_init_42 (by decide) ?_
  refine x_iload_n dX4_init_20 0 rfl rfl ?_
  refine x_bipush (v := 8) dX4_init_21 (by decide) ?_
  refine x_icmp_ge (tgt := 45) dX4_init_23 (by decide) (fun c_23 => False.elim (absurd c_23 (by decide))) (fun c_23 => ?_)
  refine x_aload_n dX4_init_26 1 rfl rfl ?_
  refine x_gR (b := b + 55) dX4_init_27 fl_4_11 rfl (L172.2.1 54 (by decide)) (L172.2.2.1 56 (by decide)) ?_
  refine x_iload_n dX4_init_30 0 rfl rfl ?_
  refine x_Lnw (ci := 0) L172 dX4_init_31 rfl (tw_at 366 (by decide +kernel) rfl) (tw_at 368 (by decide +kernel) rfl) (tw_at 83 (by decide +kernel) rfl) rfl (by decide +kernel) (Nat.le_of_ble_eq_true rfl) (Nat.le_of_ble_eq_true rfl) (fun S173 I173 R173 L173 => ?_)
  refine x_dup dX4_init_34 rfl ?_
  refine x_callI (c_X0_init_62 (G := G) L173) dX4_init_35 crc_X0_init ic_4_21 rfl rfl (Nat.le_of_ble_eq_true rfl) (roomy_k (by decide) (by decide)) (Nat.le_of_ble_eq_true rfl) (Nat.le_of_ble_eq_true rfl) ?_
  rintro _ _ ⟨rfl, S174, I174, R174, rfl, L174⟩
  refine x_LaR (ja := 55) (jv := 62) (j := 6) (kd := 10) (ci := 0) L174 dX4_init_38 rfl (by decide) (by decide) (by decide) rfl rfl rfl (by decide) (by decide) (by decide) (by decide) rfl (by decide +kernel) (fun R175 L175 => ?_)
  refine x_iinc (v := 7) (lv' := [(2, .int 7), (0, .ref (b + 54)), (1, .ref (b + 8))]) dX4_init_39 0 rfl (by decide) (by decide) rfl ?_
  refine x_goto (tgt := 20) dX4_init_42 (by decide) ?_
  refine x_iload_n dX4_init_20 0 rfl rfl ?_
  refine x_bipush (v := 8) dX4_init_21 (by decide) ?_
  refine x_icmp_ge (tgt := 45) dX4_init_23 (by decide) (fun c_23 => False.elim (absurd c_23 (by decide))) (fun c_23 => ?_)
  refine x_aload_n dX4_init_26 1 rfl rfl ?_
  refine x_gR (b := b + 55) dX4_init_27 fl_4_11 rfl (L175.2.1 54 (by decide)) (L175.2.2.1 56 (by decide)) ?_
  refine x_iload_n dX4_init_30 0 rfl rfl ?_
  refine x_Lnw (ci := 0) L175 dX4_init_31 rfl (tw_at 366 (by decide +kernel) rfl) (tw_at 368 (by decide +kernel) rfl) (tw_at 83 (by decide +kernel) rfl) rfl (by decide +kernel) (Nat.le_of_ble_eq_true rfl) (Nat.le_of_ble_eq_true rfl) (fun S176 I176 R176 L176 => ?_)
  refine x_dup dX4_init_34 rfl ?_
  refine x_callI (c_X0_init_63 (G := G) L176) dX4_init_35 crc_X0_init ic_4_21 rfl rfl (Nat.le_of_ble_eq_true rfl) (roomy_k (by decide) (by decide)) (Nat.le_of_ble_eq_true rfl) (Nat.le_of_ble_eq_true rfl) ?_
  rintro _ _ ⟨rfl, S177, I177, R177, rfl, L177⟩
  refine x_LaR (ja := 55) (jv := 63) (j := 7) (kd := 10) (ci := 0) L177 dX4_init_38 rfl (by decide) (by decide) (by decide) rfl rfl rfl (by decide) (by decide) (by decide) (by decide) rfl (by decide +kernel) (fun R178 L178 => ?_)
  refine x_iinc (v := 8) (lv' := [(2, .int 8), (0, .ref (b + 54)), (1, .ref (b + 8))]) dX4_init_39 0 rfl (by decide) (by decide) rfl ?_
  refine x_goto (tgt := 20) dX4_init_42 (by decide) ?_
  refine x_iload_n dX4_init_20 0 rfl rfl ?_
  refine x_bipush (v := 8) dX4_init_21 (by decide) ?_
  refine x_icmp_ge (tgt := 45) dX4_init_23 (by decide) (fun c_23 => ?_) (fun c_23 => False.elim (absurd (by decide) c_23))
  refine x_vret dX4_init_45 rfl (Nat.le_of_ble_eq_true rfl) (Nat.le_of_ble_eq_true rfl) ?_
  exact ⟨_, _, _, rfl, L178⟩

set_option maxHeartbeats 4000000 in
set_option maxRecDepth 100000 in
theorem c_X1_init_64 {G : GG} {b : Nat} {B : HI} {S0 : AH} {Sh : HS} {I : HI} {R : HR} (hL : Lay ccT2 b 65 67 1 B S0 Sh I R) : AM G 1 4 27 yX1_init cX1_init 2 none [.ref (b + 64), .ref (b + 44)] (Sh, I, R) (qv fun g => ∃ (S9 : HS) (I9 : HI) (R9 : HR), g = (S9, I9, R9) ∧ Lay ccT2 b 69 72 1 B S0 S9 I9 R9) := by
  refine am_intro (by decide) (Nat.le_of_ble_eq_true rfl) ?_
  refine x_aload_n dX1_init_0 0 rfl rfl ?_
  refine x_oinit dX1_init_1 (tw_at 437 (by decide +kernel) rfl) (by decide) (Nat.le_of_ble_eq_true rfl) (Nat.le_of_ble_eq_true rfl) ?_
  refine x_aload_n dX1_init_4 0 rfl rfl ?_
  refine x_iconst (v := 3) dX1_init_5 (by decide) ?_
  refine x_bipush (v := 8) dX1_init_6 (by decide) ?_
  refine x_Lmu hL dX1_init_8 (tw_at 438 (by decide +kernel) rfl) rfl rfl (by decide +kernel) rfl rfl rfl rfl rfl rfl rfl (Nat.le_of_ble_eq_true rfl) (Nat.le_of_ble_eq_true rfl) (fun S182 I182 R182 L182 => ?_)
  refine x_LpR (ja := 64) (jv := 65) L182 dX1_init_12 fl_1_11 rfl rfl rfl rfl rfl (by decide) rfl (by decide +kernel) (fun R183 L183 => ?_)
  refine x_aload_n dX1_init_15 0 rfl rfl ?_
  refine x_aload_n dX1_init_16 1 rfl rfl ?_
  refine x_LpR (ja := 64) (jv := 44) L183 dX1_init_17 fl_1_16 rfl rfl rfl rfl rfl (by decide) rfl (by decide +kernel) (fun R184 L184 => ?_)
  refine x_vret dX1_init_20 rfl (Nat.le_of_ble_eq_true rfl) (Nat.le_of_ble_eq_true rfl) ?_
  exact ⟨_, _, _, rfl, L184⟩

set_option maxHeartbeats 4000000 in
set_option maxRecDepth 100000 in
theorem ci_3 {G : GG} {b : Nat} {B : HI} {S0 : AH} {F9 : HS → HI → HR → Prop} {Sh : HS} {I : HI} {R : HR} (hL : Lay ccT2 b 34 34 0 B S0 Sh I R) (hQ : ∀ S9 I9 R9, Lay ccT2 b 69 73 1 B S0 S9 I9 R9 → ∃ (S8 : HS) (I8 : HI) (R8 : HR), (S9, I9, R9) = (S8, I8, R8) ∧ F9 S8 I8 R8) : X G (kM G 42 68 2128 (qv fun g => ∃ (S9 : HS) (I9 : HI) (R9 : HR), g = (S9, I9, R9) ∧ F9 S9 I9 R9)) yX7_init cX7_init 2 none 33 1915 153 [(0, .ref b)] [] (Sh, I, R) := by
  refine x_aload_n dX7_init_153 0 rfl rfl ?_
  refine x_iconst (v := 1) dX7_init_154 (by decide) ?_
  refine x_LpI (ja := 0) hL dX7_init_155 fl_7_64 rfl rfl rfl rfl (by decide) rfl (fun I90 L90 => ?_)
  refine x_aload_n dX7_init_158 0 rfl rfl ?_
  refine x_Lnw (ci := 4) L90 dX7_init_159 rfl (tw_at 360 (by decide +kernel) rfl) (tw_at 361 (by decide +kernel) rfl) (tw_at 82 (by decide +kernel) rfl) rfl (by decide +kernel) (Nat.le_of_ble_eq_true rfl) (Nat.le_of_ble_eq_true rfl) (fun S91 I91 R91 L91 => ?_)
  refine x_dup dX7_init_162 rfl ?_
  refine x_aload_n dX7_init_163 0 rfl rfl ?_
  refine x_gR (b := b + 6) dX7_init_164 fl_7_27 rfl (L91.2.1 0 (by decide)) (L91.2.2.1 6 (by decide)) ?_
  refine x_iconst (v := 0) dX7_init_167 (by decide) ?_
  refine x_aa (j := 0) (b := b + 8) dX7_init_168 (L91.2.1 6 (by decide)) (by decide) (by decide) (by decide) (by decide) (by decide) (L91.2.2.1 10 (by decide)) ?_
  refine x_callI (c_X4_init_34 (G := G) L91) dX7_init_169 crc_X4_init ic_7_70 rfl rfl (Nat.le_of_ble_eq_true rfl) (roomy_k (by decide) (by decide)) (Nat.le_of_ble_eq_true rfl) (Nat.le_of_ble_eq_true rfl) ?_
  rintro _ _ ⟨rfl, S119, I119, R119, rfl, L119⟩
  refine x_LpR (ja := 0) (jv := 34) L119 dX7_init_172 fl_7_73 rfl rfl rfl rfl rfl (by decide) rfl (by decide +kernel) (fun R120 L120 => ?_)
  refine x_aload_n dX7_init_175 0 rfl rfl ?_
  refine x_Lnw (ci := 4) L120 dX7_init_176 rfl (tw_at 360 (by decide +kernel) rfl) (tw_at 361 (by decide +kernel) rfl) (tw_at 82 (by decide +kernel) rfl) rfl (by decide +kernel) (Nat.le_of_ble_eq_true rfl) (Nat.le_of_ble_eq_true rfl) (fun S121 I121 R121 L121 => ?_)
  refine x_dup dX7_init_179 rfl ?_
  refine x_aload_n dX7_init_180 0 rfl rfl ?_
  refine x_gR (b := b + 6) dX7_init_181 fl_7_27 rfl (L121.2.1 0 (by decide)) (L121.2.2.1 6 (by decide)) ?_
  refine x_iconst (v := 0) dX7_init_184 (by decide) ?_
  refine x_aa (j := 0) (b := b + 8) dX7_init_185 (L121.2.1 6 (by decide)) (by decide) (by decide) (by decide) (by decide) (by decide) (L121.2.2.1 10 (by decide)) ?_
  refine x_callI (c_X4_init_44 (G := G) L121) dX7_init_186 crc_X4_init ic_7_70 rfl rfl (Nat.le_of_ble_eq_true rfl) (roomy_k (by decide) (by decide)) (Nat.le_of_ble_eq_true rfl) (Nat.le_of_ble_eq_true rfl) ?_
  rintro _ _ ⟨rfl, S149, I149, R149, rfl, L149⟩
  refine x_LpR (ja := 0) (jv := 44) L149 dX7_init_189 fl_7_77 rfl rfl rfl rfl rfl (by decide) rfl (by decide +kernel) (fun R150 L150 => ?_)
  refine x_aload_n dX7_init_192 0 rfl rfl ?_
  refine x_Lnw (ci := 4) L150 dX7_init_193 rfl (tw_at 360 (by decide +kernel) rfl) (tw_at 361 (by decide +kernel) rfl) (tw_at 82 (by decide +kernel) rfl) rfl (by decide +kernel) (Nat.le_of_ble_eq_true rfl) (Nat.le_of_ble_eq_true rfl) (fun S151 I151 R151 L151 => ?_)
  refine x_dup dX7_init_196 rfl ?_
  refine x_aload_n dX7_init_197 0 rfl rfl ?_
  refine x_gR (b := b + 6) dX7_init_198 fl_7_27 rfl (L151.2.1 0 (by decide)) (L151.2.2.1 6 (by decide)) ?_
  refine x_iconst (v := 0) dX7_init_201 (by decide) ?_
  refine x_aa (j := 0) (b := b + 8) dX7_init_202 (L151.2.1 6 (by decide)) (by decide) (by decide) (by decide) (by decide) (by decide) (L151.2.2.1 10 (by decide)) ?_
  refine x_callI (c_X4_init_54 (G := G) L151) dX7_init_203 crc_X4_init ic_7_70 rfl rfl (Nat.le_of_ble_eq_true rfl) (roomy_k (by decide) (by decide)) (Nat.le_of_ble_eq_true rfl) (Nat.le_of_ble_eq_true rfl) ?_
  rintro _ _ ⟨rfl, S179, I179, R179, rfl, L179⟩
  refine x_LpR (ja := 0) (jv := 54) L179 dX7_init_206 fl_7_80 rfl rfl rfl rfl rfl (by decide) rfl (by decide +kernel) (fun R180 L180 => ?_)
  refine x_aload_n dX7_init_209 0 rfl rfl ?_
  refine x_Lnw (ci := 1) L180 dX7_init_210 rfl (tw_at 432 (by decide +kernel) rfl) (tw_at 433 (by decide +kernel) rfl) (tw_at 84 (by decide +kernel) rfl) rfl (by decide +kernel) (Nat.le_of_ble_eq_true rfl) (Nat.le_of_ble_eq_true rfl) (fun S181 I181 R181 L181 => ?_)
  refine x_dup dX7_init_213 rfl ?_
  refine x_aload_n dX7_init_214 0 rfl rfl ?_
  refine x_gR (b := b + 44) dX7_init_215 fl_7_77 rfl (L181.2.1 0 (by decide)) (L181.2.2.1 55 (by decide)) ?_
  refine x_callI (c_X1_init_64 (G := G) L181) dX7_init_218 crc_X1_init ic_7_85 rfl rfl (Nat.le_of_ble_eq_true rfl) (roomy_k (by decide) (by decide)) (Nat.le_of_ble_eq_true rfl) (Nat.le_of_ble_eq_true rfl) ?_
  rintro _ _ ⟨rfl, S185, I185, R185, rfl, L185⟩
  refine x_LpR (ja := 0) (jv := 64) L185 dX7_init_221 fl_7_88 rfl rfl rfl rfl rfl (by decide) rfl (by decide +kernel) (fun R186 L186 => ?_)
  refine x_vret dX7_init_224 rfl (Nat.le_of_ble_eq_true rfl) (Nat.le_of_ble_eq_true rfl) ?_
  exact hQ _ _ _ L186

set_option maxHeartbeats 4000000 in
set_option maxRecDepth 100000 in
theorem ci_1 {G : GG} {b : Nat} {B : HI} {S0 : AH} {F9 : HS → HI → HR → Prop} {Sh : HS} {I : HI} {R : HR} (hL : Lay ccT b 1 0 0 B S0 Sh I R) (hk : ∀ S9 I9 R9, Lay ccT b 34 34 10 B S0 S9 I9 R9 → X G (kM G 42 68 2128 (qv fun g => ∃ (S9 : HS) (I9 : HI) (R9 : HR), g = (S9, I9, R9) ∧ F9 S9 I9 R9)) yX7_init cX7_init 2 none 33 1915 103 [(1, .int 0), (0, .ref b)] [] (S9, I9, R9)) : X G (kM G 42 68 2128 (qv fun g => ∃ (S9 : HS) (I9 : HI) (R9 : HR), g = (S9, I9, R9) ∧ F9 S9 I9 R9)) yX7_init cX7_init 2 none 0 0 0 [(0, .ref b)] [] (Sh, I, R) := by
  refine x_aload_n dX7_init_0 0 rfl rfl ?_
  refine x_oinit dX7_init_1 (tw_at 95 (by decide +kernel) rfl) (by decide) (Nat.le_of_ble_eq_true rfl) (Nat.le_of_ble_eq_true rfl) ?_
  refine x_aload_n dX7_init_4 0 rfl rfl ?_
  refine x_Lnw (ci := 5) hL dX7_init_5 rfl (tw_at 98 (by decide +kernel) rfl) (tw_at 99 (by decide +kernel) rfl) (tw_at 74 (by decide +kernel) rfl) rfl (by decide +kernel) (Nat.le_of_ble_eq_true rfl) (Nat.le_of_ble_eq_true rfl) (fun S1 I1 R1 L1 => ?_)
  refine x_dup dX7_init_8 rfl ?_
  refine x_callI (c_X5_init_1 (G := G) L1) dX7_init_9 crc_X5_init ic_7_9 rfl rfl (Nat.le_of_ble_eq_true rfl) (roomy_k (by decide) (by decide)) (Nat.le_of_ble_eq_true rfl) (Nat.le_of_ble_eq_true rfl) ?_
  rintro _ _ ⟨rfl, S8, I8, R8, rfl, L8⟩
  refine x_LpR (ja := 0) (jv := 1) L8 dX7_init_12 fl_7_10 rfl rfl rfl rfl rfl (by decide) rfl (by decide +kernel) (fun R9 L9 => ?_)
  refine x_aload_n dX7_init_15 0 rfl rfl ?_
  refine x_Lnw (ci := 2) L9 dX7_init_16 rfl (tw_at 121 (by decide +kernel) rfl) (tw_at 122 (by decide +kernel) rfl) (tw_at 75 (by decide +kernel) rfl) rfl (by decide +kernel) (Nat.le_of_ble_eq_true rfl) (Nat.le_of_ble_eq_true rfl) (fun S10 I10 R10 L10 => ?_)
  refine x_dup dX7_init_19 rfl ?_
  refine x_aload_n dX7_init_20 0 rfl rfl ?_
  refine x_gR (b := b + 1) dX7_init_21 fl_7_10 rfl (L10.2.1 0 (by decide)) (L10.2.2.1 3 (by decide)) ?_
  refine x_callI (c_X2_init_5 (G := G) L10) dX7_init_24 crc_X2_init ic_7_18 rfl rfl (Nat.le_of_ble_eq_true rfl) (roomy_k (by decide) (by decide)) (Nat.le_of_ble_eq_true rfl) (Nat.le_of_ble_eq_true rfl) ?_
  rintro _ _ ⟨rfl, S12, I12, R12, rfl, L12⟩
  refine x_LpR (ja := 0) (jv := 5) L12 dX7_init_27 fl_7_21 rfl rfl rfl rfl rfl (by decide) rfl (by decide +kernel) (fun R13 L13 => ?_)
  refine x_aload_n dX7_init_30 0 rfl rfl ?_
  refine x_bipush (v := 6) dX7_init_31 (by decide) ?_
  refine x_LnQ (N := 6) (kd := 11) L13 dX7_init_33 (tw_at 143 (by decide +kernel) rfl) (fun _ h => h.2.2.2.2.2.1) (by decide) (by decide) rfl (by decide) (by decide) rfl (by decide +kernel) (Nat.le_of_ble_eq_true rfl) (Nat.le_of_ble_eq_true rfl) (fun S14 I14 R14 L14 => ?_)
  refine x_LpR (ja := 0) (jv := 6) L14 dX7_init_36 fl_7_27 rfl rfl rfl rfl rfl (by decide) rfl (by decide +kernel) (fun R15 L15 => ?_)
  refine x_aload_n dX7_init_39 0 rfl rfl ?_
  refine x_iconst (v := 4) dX7_init_40 (by decide) ?_
  refine x_LnQ (N := 4) (kd := 12) L15 dX7_init_41 (tw_at 145 (by decide +kernel) rfl) (fun _ h => h.2.2.2.2.2.2.1) (by decide) (by decide) rfl (by decide) (by decide) rfl (by decide +kernel) (Nat.le_of_ble_eq_true rfl) (Nat.le_of_ble_eq_true rfl) (fun S16 I16 R16 L16 => ?_)
  refine x_LpR (ja := 0) (jv := 7) L16 dX7_init_44 fl_7_33 rfl rfl rfl rfl rfl (by decide) rfl (by decide +kernel) (fun R17 L17 => ?_)
  refine x_iconst (v := 0) dX7_init_47 (by decide) ?_
  refine x_istore_n (lv' := [(1, .int 0), (0, .ref b)]) dX7_init_48 rfl (by decide) rfl ?_
  refine x_iload_n dX7_init_49 0 rfl rfl ?_
  refine x_bipush (v := 6) dX7_init_50 (by decide) ?_
  refine x_icmp_ge (tgt := 75) dX7_init_52 (by decide) (fun c_52 => False.elim (absurd c_52 (by decide))) (fun c_52 => ?_)
  refine x_aload_n dX7_init_55 1 rfl rfl ?_
  refine x_gR (b := b + 6) dX7_init_56 fl_7_27 rfl (L17.2.1 0 (by decide)) (L17.2.2.1 6 (by decide)) ?_
  refine x_iload_n dX7_init_59 0 rfl rfl ?_
  refine x_Lnw (ci := 6) L17 dX7_init_60 rfl (tw_at 143 (by decide +kernel) rfl) (tw_at 147 (by decide +kernel) rfl) (tw_at 76 (by decide +kernel) rfl) rfl (by decide +kernel) (Nat.le_of_ble_eq_true rfl) (Nat.le_of_ble_eq_true rfl) (fun S18 I18 R18 L18 => ?_)
  refine x_dup dX7_init_63 rfl ?_
  refine x_iload_n dX7_init_64 0 rfl rfl ?_
  refine x_callI (c_X6_init_8 (G := G) L18) dX7_init_65 crc_X6_init ic_7_37 rfl rfl (Nat.le_of_ble_eq_true rfl) (roomy_k (by decide) (by decide)) (Nat.le_of_ble_eq_true rfl) (Nat.le_of_ble_eq_true rfl) ?_
  rintro _ _ ⟨rfl, S24, I24, R24, rfl, L24⟩
  refine x_LaR (ja := 6) (jv := 8) (j := 0) (kd := 11) (ci := 6) L24 dX7_init_68 rfl (by decide) (by decide) (by decide) rfl rfl rfl (by decide) (by decide) (by decide) (by decide) rfl (by decide +kernel) (fun R25 L25 => ?_)
  refine x_iinc (v := 1) (lv' := [(1, .int 1), (0, .ref b)]) dX7_init_69 0 rfl (by decide) (by decide) rfl ?_
  refine x_goto (tgt := 49) dX7_init_72 (by decide) ?_
  refine x_iload_n dX7_init_49 0 rfl rfl ?_
  refine x_bipush (v := 6) dX7_init_50 (by decide) ?_
  refine x_icmp_ge (tgt := 75) dX7_init_52 (by decide) (fun c_52 => False.elim (absurd c_52 (by decide))) (fun c_52 => ?_)
  refine x_aload_n dX7_init_55 1 rfl rfl ?_
  refine x_gR (b := b + 6) dX7_init_56 fl_7_27 rfl (L25.2.1 0 (by decide)) (L25.2.2.1 6 (by decide)) ?_
  refine x_iload_n dX7_init_59 0 rfl rfl ?_
  refine x_Lnw (ci := 6) L25 dX7_init_60 rfl (tw_at 143 (by decide +kernel) rfl) (tw_at 147 (by decide +kernel) rfl) (tw_at 76 (by decide +kernel) rfl) rfl (by decide +kernel) (Nat.le_of_ble_eq_true rfl) (Nat.le_of_ble_eq_true rfl) (fun S26 I26 R26 L26 => ?_)
  refine x_dup dX7_init_63 rfl ?_
  refine x_iload_n dX7_init_64 0 rfl rfl ?_
  refine x_callI (c_X6_init_11 (G := G) L26) dX7_init_65 crc_X6_init ic_7_37 rfl rfl (Nat.le_of_ble_eq_true rfl) (roomy_k (by decide) (by decide)) (Nat.le_of_ble_eq_true rfl) (Nat.le_of_ble_eq_true rfl) ?_
  rintro _ _ ⟨rfl, S32, I32, R32, rfl, L32⟩
  refine x_LaR (ja := 6) (jv := 11) (j := 1) (kd := 11) (ci := 6) L32 dX7_init_68 rfl (by decide) (by decide) (by decide) rfl rfl rfl (by decide) (by decide) (by decide) (by decide) rfl (by decide +kernel) (fun R33 L33 => ?_)
  refine x_iinc (v := 2) (lv' := [(1, .int 2), (0, .ref b)]) dX7_init_69 0 rfl (by decide) (by decide) rfl ?_
  refine x_goto (tgt := 49) dX7_init_72 (by decide) ?_
  refine x_iload_n dX7_init_49 0 rfl rfl ?_
  refine x_bipush (v := 6) dX7_init_50 (by decide) ?_
  refine x_icmp_ge (tgt := 75) dX7_init_52 (by decide) (fun c_52 => False.elim (absurd c_52 (by decide))) (fun c_52 => ?_)
  refine x_aload_n dX7_init_55 1 rfl rfl ?_
  refine x_gR (b := b + 6) dX7_init_56 fl_7_27 rfl (L33.2.1 0 (by decide)) (L33.2.2.1 6 (by decide)) ?_
  refine x_iload_n dX7_init_59 0 rfl rfl ?_
  refine x_Lnw (ci := 6) L33 dX7_init_60 rfl (tw_at 143 (by decide +kernel) rfl) (tw_at 147 (by decide +kernel) rfl) (tw_at 76 (by decide +kernel) rfl) rfl (by decide +kernel) (Nat.le_of_ble_eq_true rfl) (Nat.le_of_ble_eq_true rfl) (fun S34 I34 R34 L34 => ?_)
  refine x_dup dX7_init_63 rfl ?_
  refine x_iload_n dX7_init_64 0 rfl rfl ?_
  refine x_callI (c_X6_init_14 (G := G) L34) dX7_init_65 crc_X6_init ic_7_37 rfl rfl (Nat.le_of_ble_eq_true rfl) (roomy_k (by decide) (by decide)) (Nat.le_of_ble_eq_true rfl) (Nat.le_of_ble_eq_true rfl) ?_
  rintro _ _ ⟨rfl, S40, I40, R40, rfl, L40⟩
  refine x_LaR (ja := 6) (jv := 14) (j := 2) (kd := 11) (ci := 6) L40 dX7_init_68 rfl (by decide) (by decide) (by decide) rfl rfl rfl (by decide) (by decide) (by decide) (by decide) rfl (by decide +kernel) (fun R41 L41 => ?_)
  refine x_iinc (v := 3) (lv' := [(1, .int 3), (0, .ref b)]) dX7_init_69 0 rfl (by decide) (by decide) rfl ?_
  refine x_goto (tgt := 49) dX7_init_72 (by decide) ?_
  refine x_iload_n dX7_init_49 0 rfl rfl ?_
  refine x_bipush (v := 6) dX7_init_50 (by decide) ?_
  refine x_icmp_ge (tgt := 75) dX7_init_52 (by decide) (fun c_52 => False.elim (absurd c_52 (by decide))) (fun c_52 => ?_)
  refine x_aload_n dX7_init_55 1 rfl rfl ?_
  refine x_gR (b := b + 6) dX7_init_56 fl_7_27 rfl (L41.2.1 0 (by decide)) (L41.2.2.1 6 (by decide)) ?_
  refine x_iload_n dX7_init_59 0 rfl rfl ?_
  refine x_Lnw (ci := 6) L41 dX7_init_60 rfl (tw_at 143 (by decide +kernel) rfl) (tw_at 147 (by decide +kernel) rfl) (tw_at 76 (by decide +kernel) rfl) rfl (by decide +kernel) (Nat.le_of_ble_eq_true rfl) (Nat.le_of_ble_eq_true rfl) (fun S42 I42 R42 L42 => ?_)
  refine x_dup dX7_init_63 rfl ?_
  refine x_iload_n dX7_init_64 0 rfl rfl ?_
  refine x_callI (c_X6_init_17 (G := G) L42) dX7_init_65 crc_X6_init ic_7_37 rfl rfl (Nat.le_of_ble_eq_true rfl) (roomy_k (by decide) (by decide)) (Nat.le_of_ble_eq_true rfl) (Nat.le_of_ble_eq_true rfl) ?_
  rintro _ _ ⟨rfl, S48, I48, R48, rfl, L48⟩
  refine x_LaR (ja := 6) (jv := 17) (j := 3) (kd := 11) (ci := 6) L48 dX7_init_68 rfl (by decide) (by decide) (by decide) rfl rfl rfl (by decide) (by decide) (by decide) (by decide) rfl (by decide +kernel) (fun R49 L49 => ?_)
  refine x_iinc (v := 4) (lv' := [(1, .int 4), (0, .ref b)]) dX7_init_69 0 rfl (by decide) (by decide) rfl ?_
  refine x_goto (tgt := 49) dX7_init_72 (by decide) ?_
  refine x_iload_n dX7_init_49 0 rfl rfl ?_
  refine x_bipush (v := 6) dX7_init_50 (by decide) ?_
  refine x_icmp_ge (tgt := 75) dX7_init_52 (by decide) (fun c_52 => False.elim (absurd c_52 (by decide))) (fun c_52 => ?_)
  refine x_aload_n dX7_init_55 1 rfl rfl ?_
  refine x_gR (b := b + 6) dX7_init_56 fl_7_27 rfl (L49.2.1 0 (by decide)) (L49.2.2.1 6 (by decide)) ?_
  refine x_iload_n dX7_init_59 0 rfl rfl ?_
  refine x_Lnw (ci := 6) L49 dX7_init_60 rfl (tw_at 143 (by decide +kernel) rfl) (tw_at 147 (by decide +kernel) rfl) (tw_at 76 (by decide +kernel) rfl) rfl (by decide +kernel) (Nat.le_of_ble_eq_true rfl) (Nat.le_of_ble_eq_true rfl) (fun S50 I50 R50 L50 => ?_)
  refine x_dup dX7_init_63 rfl ?_
  refine x_iload_n dX7_init_64 0 rfl rfl ?_
  refine x_callI (c_X6_init_20 (G := G) L50) dX7_init_65 crc_X6_init ic_7_37 rfl rfl (Nat.le_of_ble_eq_true rfl) (roomy_k (by decide) (by decide)) (Nat.le_of_ble_eq_true rfl) (Nat.le_of_ble_eq_true rfl) ?_
  rintro _ _ ⟨rfl, S56, I56, R56, rfl, L56⟩
  refine x_LaR (ja := 6) (jv := 20) (j := 4) (kd := 11) (ci := 6) L56 dX7_init_68 rfl (by decide) (by decide) (by decide) rfl rfl rfl (by decide) (by decide) (by decide) (by decide) rfl (by decide +kernel) (fun R57 L57 => ?_)
  refine x_iinc (v := 5) (lv' := [(1, .int 5), (0, .ref b)]) dX7_init_69 0 rfl (by decide) (by decide) rfl ?_
  refine x_goto (tgt := 49) dX7_init_72 (by decide) ?_
  refine x_iload_n dX7_init_49 0 rfl rfl ?_
  refine x_bipush (v := 6) dX7_init_50 (by decide) ?_
  refine x_icmp_ge (tgt := 75) dX7_init_52 (by decide) (fun c_52 => False.elim (absurd c_52 (by decide))) (fun c_52 => ?_)
  refine x_aload_n dX7_init_55 1 rfl rfl ?_
  refine x_gR (b := b + 6) dX7_init_56 fl_7_27 rfl (L57.2.1 0 (by decide)) (L57.2.2.1 6 (by decide)) ?_
  refine x_iload_n dX7_init_59 0 rfl rfl ?_
  refine x_Lnw (ci := 6) L57 dX7_init_60 rfl (tw_at 143 (by decide +kernel) rfl) (tw_at 147 (by decide +kernel) rfl) (tw_at 76 (by decide +kernel) rfl) rfl (by decide +kernel) (Nat.le_of_ble_eq_true rfl) (Nat.le_of_ble_eq_true rfl) (fun S58 I58 R58 L58 => ?_)
  refine x_dup dX7_init_63 rfl ?_
  refine x_iload_n dX7_init_64 0 rfl rfl ?_
  refine x_callI (c_X6_init_23 (G := G) L58) dX7_init_65 crc_X6_init ic_7_37 rfl rfl (Nat.le_of_ble_eq_true rfl) (roomy_k (by decide) (by decide)) (Nat.le_of_ble_eq_true rfl) (Nat.le_of_ble_eq_true rfl) ?_
  rintro _ _ ⟨rfl, S64, I64, R64, rfl, L64⟩
  refine x_LaR (ja := 6) (jv := 23) (j := 5) (kd := 11) (ci := 6) L64 dX7_init_68 rfl (by decide) (by decide) (by decide) rfl rfl rfl (by decide) (by decide) (by decide) (by decide) rfl (by decide +kernel) (fun R65 L65 => ?_)
  refine x_iinc (v := 6) (lv' := [(1, .int 6), (0, .ref b)]) dX7_init_69 0 rfl (by decide) (by decide) rfl ?_
  refine x_goto (tgt := 49) dX7_init_72 (by decide) ?_
  refine x_iload_n dX7_init_49 0 rfl rfl ?_
  refine x_bipush (v := 6) dX7_init_50 (by decide) ?_
  refine x_icmp_ge (tgt := 75) dX7_init_52 (by decide) (fun c_52 => ?_) (fun c_52 => False.elim (absurd (by decide) c_52))
  refine x_iconst (v := 0) dX7_init_75 (by decide) ?_
  refine x_istore_n (lv' := [(1, .int 0), (0, .ref b)]) dX7_init_76 rfl (by decide) rfl ?_
  refine x_iload_n dX7_init_77 0 rfl rfl ?_
  refine x_iconst (v := 4) dX7_init_78 (by decide) ?_
  refine x_icmp_ge (tgt := 101) dX7_init_79 (by decide) (fun c_79 => False.elim (absurd c_79 (by decide))) (fun c_79 => ?_)
  refine x_aload_n dX7_init_82 1 rfl rfl ?_
  refine x_gR (b := b + 7) dX7_init_83 fl_7_33 rfl (L65.2.1 0 (by decide)) (L65.2.2.1 7 (by decide)) ?_
  refine x_iload_n dX7_init_86 0 rfl rfl ?_
  refine x_Lnw (ci := 3) L65 dX7_init_87 rfl (tw_at 145 (by decide +kernel) rfl) (tw_at 175 (by decide +kernel) rfl) (tw_at 77 (by decide +kernel) rfl) rfl (by decide +kernel) (Nat.le_of_ble_eq_true rfl) (Nat.le_of_ble_eq_true rfl) (fun S66 I66 R66 L66 => ?_)
  refine x_dup dX7_init_90 rfl ?_
  refine x_callI (c_X3_init_26 (G := G) L66) dX7_init_91 crc_X3_init ic_7_40 rfl rfl (Nat.le_of_ble_eq_true rfl) (roomy_k (by decide) (by decide)) (Nat.le_of_ble_eq_true rfl) (Nat.le_of_ble_eq_true rfl) ?_
  rintro _ _ ⟨rfl, S70, I70, R70, rfl, L70⟩
  refine x_LaR (ja := 7) (jv := 26) (j := 0) (kd := 12) (ci := 3) L70 dX7_init_94 rfl (by decide) (by decide) (by decide) rfl rfl rfl (by decide) (by decide) (by decide) (by decide) rfl (by decide +kernel) (fun R71 L71 => ?_)
  refine x_iinc (v := 1) (lv' := [(1, .int 1), (0, .ref b)]) dX7_init_95 0 rfl (by decide) (by decide) rfl ?_
  refine x_goto (tgt := 77) dX7_init_98 (by decide) ?_
  refine x_iload_n dX7_init_77 0 rfl rfl ?_
  refine x_iconst (v := 4) dX7_init_78 (by decide) ?_
  refine x_icmp_ge (tgt := 101) dX7_init_79 (by decide) (fun c_79 => False.elim (absurd c_79 (by decide))) (fun c_79 => ?_)
  refine x_aload_n dX7_init_82 1 rfl rfl ?_
  refine x_gR (b := b + 7) dX7_init_83 fl_7_33 rfl (L71.2.1 0 (by decide)) (L71.2.2.1 7 (by decide)) ?_
  refine x_iload_n dX7_init_86 0 rfl rfl ?_
  refine x_Lnw (ci := 3) L71 dX7_init_87 rfl (tw_at 145 (by decide +kernel) rfl) (tw_at 175 (by decide +kernel) rfl) (tw_at 77 (by decide +kernel) rfl) rfl (by decide +kernel) (Nat.le_of_ble_eq_true rfl) (Nat.le_of_ble_eq_true rfl) (fun S72 I72 R72 L72 => ?_)
  refine x_dup dX7_init_90 rfl ?_
  refine x_callI (c_X3_init_28 (G := G) L72) dX7_init_91 crc_X3_init ic_7_40 rfl rfl (Nat.le_of_ble_eq_true rfl) (roomy_k (by decide) (by decide)) (Nat.le_of_ble_eq_true rfl) (Nat.le_of_ble_eq_true rfl) ?_
  rintro _ _ ⟨rfl, S76, I76, R76, rfl, L76⟩
  refine x_LaR (ja := 7) (jv := 28) (j := 1) (kd := 12) (ci := 3) L76 dX7_init_94 rfl (by decide) (by decide) (by decide) rfl rfl rfl (by decide) (by decide) (by decide) (by decide) rfl (by decide +kernel) (fun R77 L77 => ?_)
  refine x_iinc (v := 2) (lv' := [(1, .int 2), (0, .ref b)]) dX7_init_95 0 rfl (by decide) (by decide) rfl ?_
  refine x_goto (tgt := 77) dX7_init_98 (by decide) ?_
  refine x_iload_n dX7_init_77 0 rfl rfl ?_
  refine x_iconst (v := 4) dX7_init_78 (by decide) ?_
  refine x_icmp_ge (tgt := 101) dX7_init_79 (by decide) (fun c_79 => False.elim (absurd c_79 (by decide))) (fun c_79 => ?_)
  refine x_aload_n dX7_init_82 1 rfl rfl ?_
  refine x_gR (b := b + 7) dX7_init_83 fl_7_33 rfl (L77.2.1 0 (by decide)) (L77.2.2.1 7 (by decide)) ?_
  refine x_iload_n dX7_init_86 0 rfl rfl ?_
  refine x_Lnw (ci := 3) L77 dX7_init_87 rfl (tw_at 145 (by decide +kernel) rfl) (tw_at 175 (by decide +kernel) rfl) (tw_at 77 (by decide +kernel) rfl) rfl (by decide +kernel) (Nat.le_of_ble_eq_true rfl) (Nat.le_of_ble_eq_true rfl) (fun S78 I78 R78 L78 => ?_)
  refine x_dup dX7_init_90 rfl ?_
  refine x_callI (c_X3_init_30 (G := G) L78) dX7_init_91 crc_X3_init ic_7_40 rfl rfl (Nat.le_of_ble_eq_true rfl) (roomy_k (by decide) (by decide)) (Nat.le_of_ble_eq_true rfl) (Nat.le_of_ble_eq_true rfl) ?_
  rintro _ _ ⟨rfl, S82, I82, R82, rfl, L82⟩
  refine x_LaR (ja := 7) (jv := 30) (j := 2) (kd := 12) (ci := 3) L82 dX7_init_94 rfl (by decide) (by decide) (by decide) rfl rfl rfl (by decide) (by decide) (by decide) (by decide) rfl (by decide +kernel) (fun R83 L83 => ?_)
  refine x_iinc (v := 3) (lv' := [(1, .int 3), (0, .ref b)]) dX7_init_95 0 rfl (by decide) (by decide) rfl ?_
  refine x_goto (tgt := 77) dX7_init_98 (by decide) ?_
  refine x_iload_n dX7_init_77 0 rfl rfl ?_
  refine x_iconst (v := 4) dX7_init_78 (by decide) ?_
  refine x_icmp_ge (tgt := 101) dX7_init_79 (by decide) (fun c_79 => False.elim (absurd c_79 (by decide))) (fun c_79 => ?_)
  refine x_aload_n dX7_init_82 1 rfl rfl ?_
  refine x_gR (b := b + 7) dX7_init_83 fl_7_33 rfl (L83.2.1 0 (by decide)) (L83.2.2.1 7 (by decide)) ?_
  refine x_iload_n dX7_init_86 0 rfl rfl ?_
  refine x_Lnw (ci := 3) L83 dX7_init_87 rfl (tw_at 145 (by decide +kernel) rfl) (tw_at 175 (by decide +kernel) rfl) (tw_at 77 (by decide +kernel) rfl) rfl (by decide +kernel) (Nat.le_of_ble_eq_true rfl) (Nat.le_of_ble_eq_true rfl) (fun S84 I84 R84 L84 => ?_)
  refine x_dup dX7_init_90 rfl ?_
  refine x_callI (c_X3_init_32 (G := G) L84) dX7_init_91 crc_X3_init ic_7_40 rfl rfl (Nat.le_of_ble_eq_true rfl) (roomy_k (by decide) (by decide)) (Nat.le_of_ble_eq_true rfl) (Nat.le_of_ble_eq_true rfl) ?_
  rintro _ _ ⟨rfl, S88, I88, R88, rfl, L88⟩
  refine x_LaR (ja := 7) (jv := 32) (j := 3) (kd := 12) (ci := 3) L88 dX7_init_94 rfl (by decide) (by decide) (by decide) rfl rfl rfl (by decide) (by decide) (by decide) (by decide) rfl (by decide +kernel) (fun R89 L89 => ?_)
  refine x_iinc (v := 4) (lv' := [(1, .int 4), (0, .ref b)]) dX7_init_95 0 rfl (by decide) (by decide) rfl ?_
  refine x_goto (tgt := 77) dX7_init_98 (by decide) ?_
  refine x_iload_n dX7_init_77 0 rfl rfl ?_
  refine x_iconst (v := 4) dX7_init_78 (by decide) ?_
  refine x_icmp_ge (tgt := 101) dX7_init_79 (by decide) (fun c_79 => ?_) (fun c_79 => False.elim (absurd (by decide) c_79))
  refine x_iconst (v := 0) dX7_init_101 (by decide) ?_
  refine x_istore_n (lv' := [(1, .int 0), (0, .ref b)]) dX7_init_102 rfl (by decide) rfl ?_
  refine x_sub [0, 1] rfl ?_
  exact hk _ _ _ L89
