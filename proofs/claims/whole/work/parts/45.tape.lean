/-! THE TAPE AND ITS TOKENS, in numbers -/
def TPp (Sh : HS) (I : HI) (R : HR) (Tp : Nat) (tb : Nat → Int32) (ts : Nat) : Prop := Sh.2 Tp = (5, 4) ∧ Sh.2 (Tp + 1) = (9, 160) ∧ Sh.2 (Tp + 2) = (9, 161) ∧ Sh.2 (Tp + 3) = (9, 161) ∧ R Tp 0 = some (Tp + 1) ∧ R Tp 2 = some (Tp + 2) ∧ R Tp 3 = some (Tp + 3) ∧ I Tp 1 = nI ts ∧ ts ≤ 160 ∧ ∀ j, j < ts → I (Tp + 1) j = tb j
def byF (tb : Nat → Int32) (ts p : Nat) : Int32 := if p < ts then tb p else -1
def srF (b : Int32) : Int32 := if 48 ≤ b ∧ b ≤ 57 then 1 else if 97 ≤ b ∧ b ≤ 122 then 2 else if b = 10 ∨ b = 32 then 0 else if b = 40 ∨ b = 41 ∨ b = 42 ∨ b = 43 ∨ b = 45 ∨ b = 59 ∨ b = 60 ∨ b = 61 then 3 else 4
def behG (tb : Nat → Int32) (ts : Nat) (s : Int32) : Nat → Nat → Nat
  | 0, p => p
  | n + 1, p => if srF (byF tb ts p) = s then behG tb ts s n (p + 1) else p
def behF (tb : Nat → Int32) (ts : Nat) (s : Int32) (p : Nat) : Nat := behG tb ts s (ts - p) p
theorem beh_go {tb : Nat → Int32} {ts p : Nat} {s : Int32} (h : p < ts) (h2 : srF (byF tb ts p) = s) : behF tb ts s p = behF tb ts s (p + 1) := by
  unfold behF
  rw [show ts - p = (ts - (p + 1)) + 1 by omega]
  conv => lhs; unfold behG
  rw [if_pos h2]
theorem beh_no {tb : Nat → Int32} {ts p : Nat} {s : Int32} (h : p < ts → ¬ srF (byF tb ts p) = s) : behF tb ts s p = p := by
  unfold behF
  by_cases q : p < ts
  · rw [show ts - p = (ts - (p + 1)) + 1 by omega]
    unfold behG
    rw [if_neg (h q)]
  · rw [show ts - p = 0 by omega]
    rfl
theorem behG_le {tb : Nat → Int32} {ts : Nat} {s : Int32} : ∀ (n p : Nat), p ≤ behG tb ts s n p ∧ behG tb ts s n p ≤ p + n
  | 0, p => ⟨Nat.le_refl _, Nat.le_refl _⟩
  | n + 1, p => by
    unfold behG
    split
    · have := behG_le (tb := tb) (ts := ts) (s := s) n (p + 1)
      omega
    · omega
theorem beh_le {tb : Nat → Int32} {ts p : Nat} {s : Int32} (h : p ≤ ts) : p ≤ behF tb ts s p ∧ behF tb ts s p ≤ ts := by
  have := behG_le (tb := tb) (ts := ts) (s := s) (ts - p) p
  unfold behF
  omega
def nuF (tb : Nat → Int32) (ts f m : Nat) : Int32 := fd (fun j r => r * 10 + byF tb ts (f + j) - 48) 0 m
def wdP (tb : Nat → Int32) (ts i f t : Nat) : Prop := t - f = kTn i ∧ ∀ j, j < kTn i → byF tb ts (f + j) = kC i j
noncomputable def ntF (tb : Nat → Int32) (ts f t : Nat) : Int32 := if 4 < t - f then 2 else 1000 + nuF tb ts f (t - f)
noncomputable def wtF (tb : Nat → Int32) (ts f t : Nat) : Int32 := by
  classical
  exact if wdP tb ts 1 f t then 3 else if wdP tb ts 2 f t then 4 else if wdP tb ts 3 f t then 5 else if wdP tb ts 4 f t then -9 else if wdP tb ts 5 f t then -10 else if wdP tb ts 6 f t then -7 else if wdP tb ts 7 f t then -1 else if wdP tb ts 8 f t then -2 else if wdP tb ts 9 f t then -3 else if wdP tb ts 10 f t then -4 else if wdP tb ts 11 f t then -5 else if wdP tb ts 12 f t then -6 else 2
def fmF (tb : Nat → Int32) (ts p : Nat) : Nat := behF tb ts 0 p
noncomputable def tkF (tb : Nat → Int32) (ts p : Nat) : Int32 := if srF (byF tb ts (fmF tb ts p)) = 1 then ntF tb ts (fmF tb ts p) (behF tb ts 1 (fmF tb ts p)) else if srF (byF tb ts (fmF tb ts p)) = 2 then wtF tb ts (fmF tb ts p) (behF tb ts 2 (fmF tb ts p)) else if srF (byF tb ts (fmF tb ts p)) = 3 then byF tb ts (fmF tb ts p) else if fmF tb ts p < ts then 2 else 1
def nxF (tb : Nat → Int32) (ts p : Nat) : Nat := if srF (byF tb ts (fmF tb ts p)) = 1 then behF tb ts 1 (fmF tb ts p) else if srF (byF tb ts (fmF tb ts p)) = 2 then behF tb ts 2 (fmF tb ts p) else if srF (byF tb ts (fmF tb ts p)) = 3 then fmF tb ts p + 1 else p
def poF (tb : Nat → Int32) (ts : Nat) : Nat → Nat
  | 0 => 0
  | k + 1 => nxF tb ts (poF tb ts k)
def endT (t : Int32) : Prop := t = 1 ∨ t = 2
theorem sr_end : srF (-1) = 4 := by decide
theorem by_lt {tb : Nat → Int32} {ts p : Nat} (h : ¬ srF (byF tb ts p) = 4) : p < ts := by
  unfold byF at h
  split at h
  · assumption
  · exact absurd sr_end h
theorem nx_le {tb : Nat → Int32} {ts p : Nat} (h : p ≤ ts) : p ≤ nxF tb ts p ∧ nxF tb ts p ≤ ts := by
  have h1 := beh_le (tb := tb) (s := 0) h
  have hf : fmF tb ts p = behF tb ts 0 p := rfl
  unfold nxF
  split
  · have := beh_le (tb := tb) (s := 1) h1.2
    rw [hf]
    omega
  · split
    · have := beh_le (tb := tb) (s := 2) h1.2
      rw [hf]
      omega
    · split
      · rename_i q
        have := by_lt (tb := tb) (ts := ts) (p := fmF tb ts p) (by rw [q]; decide)
        rw [hf] at *
        omega
      · omega
theorem nx_lt {tb : Nat → Int32} {ts p : Nat} (h : p ≤ ts) (he : ¬ endT (tkF tb ts p)) : p < nxF tb ts p := by
  have h1 := beh_le (tb := tb) (s := 0) h
  have hf : fmF tb ts p = behF tb ts 0 p := rfl
  have go : ∀ s : Int32, srF (byF tb ts (fmF tb ts p)) = s → ¬ s = 4 → fmF tb ts p < behF tb ts s (fmF tb ts p) := by
    intro s e e4
    have hlt := by_lt (tb := tb) (ts := ts) (p := fmF tb ts p) (by rw [e]; exact e4)
    rw [beh_go hlt e]
    have := beh_le (tb := tb) (s := s) (show fmF tb ts p + 1 ≤ ts by omega)
    omega
  unfold nxF
  split
  · rename_i q
    have := go 1 q (by decide)
    rw [hf] at *
    omega
  · split
    · rename_i q
      have := go 2 q (by decide)
      rw [hf] at *
      omega
    · split
      · rw [hf]
        omega
      · rename_i q1 q2 q3
        exfalso
        apply he
        unfold tkF
        rw [if_neg q1, if_neg q2, if_neg q3]
        split
        · exact Or.inr rfl
        · exact Or.inl rfl

set_option maxHeartbeats 4000000 in
set_option maxRecDepth 100000 in
theorem k_byteAt {G : GG} {Sh : HS} {I : HI} {R : HR} {Tp ts : Nat} {tb : Nat → Int32} (ht : TPp Sh I R Tp tb ts) {p : Nat} (hp : p < 1000) : AM G 1 0 0 yX5_byteAt cX5_byteAt 2 (some .int) [.ref Tp, .int (nI p)] (Sh, I, R) (qi fun r g => r = byF tb ts p ∧ g = (Sh, I, R)) := by
  obtain ⟨t0, t1, t2, t3, q0, q2, q3, hts, hts2, hby⟩ := id ht
  refine am_intro (by decide) (Nat.le_of_ble_eq_true rfl) ?_
  refine x_iload_n dX5_byteAt_0 1 rfl rfl ?_
  refine x_if_lt (tgt := 28) dX5_byteAt_1 (by decide) (fun c_1 => False.elim (nI_pos (by omega) c_1)) (fun c_1 => ?_)
  refine x_iload_n dX5_byteAt_4 1 rfl rfl ?_
  refine x_aload_n dX5_byteAt_5 0 rfl rfl ?_
  refine x_gI (v := nI ts) dX5_byteAt_6 fl_5_21 rfl t0 hts ?_
  refine x_icmp_ge (tgt := 28) dX5_byteAt_9 (by decide) (fun c_9 => ?_) (fun c_9 => ?_)
  · have c_9 : ts ≤ p := (nI_leI (a := ts) (b := p) (by omega) (by omega)).mp c_9
    refine x_iconst (v := (-1)) dX5_byteAt_28 (by decide) ?_
    refine x_iret dX5_byteAt_29 rfl (Nat.le_refl _) (Nat.le_refl _) ?_
    refine ⟨?_, rfl⟩
    unfold byF
    rw [if_neg (by omega)]
  · have c_9 : ¬ ts ≤ p := fun zz9 => c_9 ((nI_leI (a := ts) (b := p) (by omega) (by omega)).mpr zz9)
    refine x_iload_n dX5_byteAt_12 1 rfl rfl ?_
    refine x_sipush (v := nI 160) dX5_byteAt_13 (by decide) ?_
    refine x_icmp_ge (tgt := 28) dX5_byteAt_16 (by decide) (fun c_16 => False.elim (absurd ((nI_leI (a := 160) (by omega) (by omega)).mp c_16) (by omega))) (fun c_16 => ?_)
    refine x_aload_n dX5_byteAt_19 0 rfl rfl ?_
    refine x_gR (b := Tp + 1) dX5_byteAt_20 fl_5_9 rfl t0 q0 ?_
    refine x_iload_n dX5_byteAt_23 1 rfl rfl ?_
    refine x_ia (j := p) (v := tb p) dX5_byteAt_24 t1 rfl (by omega) (by omega) (hby p (by omega)) ?_
    refine x_goto (tgt := 29) dX5_byteAt_25 (by decide) ?_
    refine x_iret dX5_byteAt_29 rfl (Nat.le_refl _) (Nat.le_refl _) ?_
    refine ⟨?_, rfl⟩
    unfold byF
    rw [if_pos (by omega)]

set_option maxHeartbeats 4000000 in
set_option maxRecDepth 100000 in
theorem k_sortAt {G : GG} {Sh : HS} {I : HI} {R : HR} {Tp ts : Nat} {tb : Nat → Int32} (ht : TPp Sh I R Tp tb ts) {p : Nat} (hp : p < 1000) : AM G 2 0 0 yX5_sortAt cX5_sortAt 3 (some .int) [.ref Tp, .int (nI p)] (Sh, I, R) (qi fun r g => r = srF (byF tb ts p) ∧ g = (Sh, I, R)) := by
  obtain ⟨t0, t1, t2, t3, q0, q2, q3, hts, hts2, hby⟩ := id ht
  refine am_intro (by decide) (Nat.le_of_ble_eq_true rfl) ?_
  refine x_aload_n dX5_sortAt_0 0 rfl rfl ?_
  refine x_iload_n dX5_sortAt_1 1 rfl rfl ?_
  refine x_callV (k_byteAt (G := G) ht (p := p) (by omega)) dX5_sortAt_2 crc_X5_byteAt vc_5_39 t0 rfl rfl rfl rfl (Nat.le_of_ble_eq_true rfl) (roomy_k (by omega) (by decide)) (Nat.le_refl _) (Nat.le_refl _) ?_
  rintro _ _ ⟨_, rfl, rfl, rfl⟩
  refine x_topi (fun xb e_xb => ?_)
  refine x_istore_n (lv' := [(2, .int xb), (0, .ref Tp), (1, .int (nI p))]) dX5_sortAt_5 rfl (by decide) rfl ?_
  refine x_iload_n dX5_sortAt_6 0 rfl rfl ?_
  refine x_bipush (v := 48) dX5_sortAt_7 (by decide) ?_
  refine x_icmp_lt (tgt := 20) dX5_sortAt_9 (by decide) (fun c_9 => ?_) (fun c_9 => ?_)
  · refine x_iload_n dX5_sortAt_20 0 rfl rfl ?_
    refine x_bipush (v := 97) dX5_sortAt_21 (by decide) ?_
    refine x_icmp_lt (tgt := 34) dX5_sortAt_23 (by decide) (fun c_23 => ?_) (fun c_23 => ?_)
    · refine x_iload_n dX5_sortAt_34 0 rfl rfl ?_
      refine x_lsc 128 dX5_sortAt_35 (by decide) (by decide) (by decide) (fun c_35 => ?_) ?_
      · have d_35 : ¬ xb = 10 ∧ ¬ xb = 32 ∧ ¬ xb = 40 ∧ ¬ xb = 41 ∧ ¬ xb = 42 ∧ ¬ xb = 43 ∧ ¬ xb = 45 ∧ ¬ xb = 59 ∧ ¬ xb = 60 ∧ ¬ xb = 61 := ⟨fun q => c_35 (10, 89) (by simp) (q.trans (by decide)), fun q => c_35 (32, 89) (by simp) (q.trans (by decide)), fun q => c_35 (40, 91) (by simp) (q.trans (by decide)), fun q => c_35 (41, 91) (by simp) (q.trans (by decide)), fun q => c_35 (42, 91) (by simp) (q.trans (by decide)), fun q => c_35 (43, 91) (by simp) (q.trans (by decide)), fun q => c_35 (45, 91) (by simp) (q.trans (by decide)), fun q => c_35 (59, 91) (by simp) (q.trans (by decide)), fun q => c_35 (60, 91) (by simp) (q.trans (by decide)), fun q => c_35 (61, 91) (by simp) (q.trans (by decide))⟩
        refine x_iconst (v := 4) dX5_sortAt_128 (by decide) ?_
        refine x_iret dX5_sortAt_129 rfl (Nat.le_refl _) (Nat.le_refl _) ?_
        refine ⟨?_, rfl⟩
        rw [← e_xb]
        unfold srF
        rw [if_neg (fun z => absurd c_9 (Int32.not_lt.mpr z.1))]
        rw [if_neg (fun z => absurd c_23 (Int32.not_lt.mpr z.1))]
        obtain ⟨z1, z2, z3, z4, z5, z6, z7, z8, z9, z0⟩ := d_35
        rw [if_neg (fun z => z.elim z1 z2), if_neg (by simp [z3, z4, z5, z6, z7, z8, z9, z0])]
      · refine List.forall_mem_cons.mpr ⟨fun c_35 => ?_, List.forall_mem_cons.mpr ⟨fun c_35 => ?_, List.forall_mem_cons.mpr ⟨fun c_35 => ?_, List.forall_mem_cons.mpr ⟨fun c_35 => ?_, List.forall_mem_cons.mpr ⟨fun c_35 => ?_, List.forall_mem_cons.mpr ⟨fun c_35 => ?_, List.forall_mem_cons.mpr ⟨fun c_35 => ?_, List.forall_mem_cons.mpr ⟨fun c_35 => ?_, List.forall_mem_cons.mpr ⟨fun c_35 => ?_, List.forall_mem_cons.mpr ⟨fun c_35 => ?_, fun _ h9 => absurd h9 List.not_mem_nil⟩⟩⟩⟩⟩⟩⟩⟩⟩⟩
        · have c_35 : xb = 10 := c_35.trans (by decide)
          show X _ _ _ _ _ _ _ _ 124 _ _ _
          refine x_iconst (v := 0) dX5_sortAt_124 (by decide) ?_
          refine x_iret dX5_sortAt_125 rfl (Nat.le_refl _) (Nat.le_refl _) ?_
          refine ⟨?_, rfl⟩
          rw [← e_xb]
          unfold srF
          rw [if_neg (fun z => absurd c_9 (Int32.not_lt.mpr z.1))]
          rw [if_neg (fun z => absurd c_23 (Int32.not_lt.mpr z.1))]
          rw [c_35]
          rfl
        · have c_35 : xb = 32 := c_35.trans (by decide)
          show X _ _ _ _ _ _ _ _ 124 _ _ _
          refine x_iconst (v := 0) dX5_sortAt_124 (by decide) ?_
          refine x_iret dX5_sortAt_125 rfl (Nat.le_refl _) (Nat.le_refl _) ?_
          refine ⟨?_, rfl⟩
          rw [← e_xb]
          unfold srF
          rw [if_neg (fun z => absurd c_9 (Int32.not_lt.mpr z.1))]
          rw [if_neg (fun z => absurd c_23 (Int32.not_lt.mpr z.1))]
          rw [c_35]
          rfl
        · have c_35 : xb = 40 := c_35.trans (by decide)
          show X _ _ _ _ _ _ _ _ 126 _ _ _
          refine x_iconst (v := 3) dX5_sortAt_126 (by decide) ?_
          refine x_iret dX5_sortAt_127 rfl (Nat.le_refl _) (Nat.le_refl _) ?_
          refine ⟨?_, rfl⟩
          rw [← e_xb]
          unfold srF
          rw [if_neg (fun z => absurd c_9 (Int32.not_lt.mpr z.1))]
          rw [if_neg (fun z => absurd c_23 (Int32.not_lt.mpr z.1))]
          rw [c_35]
          rfl
        · have c_35 : xb = 41 := c_35.trans (by decide)
          show X _ _ _ _ _ _ _ _ 126 _ _ _
          refine x_iconst (v := 3) dX5_sortAt_126 (by decide) ?_
          refine x_iret dX5_sortAt_127 rfl (Nat.le_refl _) (Nat.le_refl _) ?_
          refine ⟨?_, rfl⟩
          rw [← e_xb]
          unfold srF
          rw [if_neg (fun z => absurd c_9 (Int32.not_lt.mpr z.1))]
          rw [if_neg (fun z => absurd c_23 (Int32.not_lt.mpr z.1))]
          rw [c_35]
          rfl
        · have c_35 : xb = 42 := c_35.trans (by decide)
          show X _ _ _ _ _ _ _ _ 126 _ _ _
          refine x_iconst (v := 3) dX5_sortAt_126 (by decide) ?_
          refine x_iret dX5_sortAt_127 rfl (Nat.le_refl _) (Nat.le_refl _) ?_
          refine ⟨?_, rfl⟩
          rw [← e_xb]
          unfold srF
          rw [if_neg (fun z => absurd c_9 (Int32.not_lt.mpr z.1))]
          rw [if_neg (fun z => absurd c_23 (Int32.not_lt.mpr z.1))]
          rw [c_35]
          rfl
        · have c_35 : xb = 43 := c_35.trans (by decide)
          show X _ _ _ _ _ _ _ _ 126 _ _ _
          refine x_iconst (v := 3) dX5_sortAt_126 (by decide) ?_
          refine x_iret dX5_sortAt_127 rfl (Nat.le_refl _) (Nat.le_refl _) ?_
          refine ⟨?_, rfl⟩
          rw [← e_xb]
          unfold srF
          rw [if_neg (fun z => absurd c_9 (Int32.not_lt.mpr z.1))]
          rw [if_neg (fun z => absurd c_23 (Int32.not_lt.mpr z.1))]
          rw [c_35]
          rfl
        · have c_35 : xb = 45 := c_35.trans (by decide)
          show X _ _ _ _ _ _ _ _ 126 _ _ _
          refine x_iconst (v := 3) dX5_sortAt_126 (by decide) ?_
          refine x_iret dX5_sortAt_127 rfl (Nat.le_refl _) (Nat.le_refl _) ?_
          refine ⟨?_, rfl⟩
          rw [← e_xb]
          unfold srF
          rw [if_neg (fun z => absurd c_9 (Int32.not_lt.mpr z.1))]
          rw [if_neg (fun z => absurd c_23 (Int32.not_lt.mpr z.1))]
          rw [c_35]
          rfl
        · have c_35 : xb = 59 := c_35.trans (by decide)
          show X _ _ _ _ _ _ _ _ 126 _ _ _
          refine x_iconst (v := 3) dX5_sortAt_126 (by decide) ?_
          refine x_iret dX5_sortAt_127 rfl (Nat.le_refl _) (Nat.le_refl _) ?_
          refine ⟨?_, rfl⟩
          rw [← e_xb]
          unfold srF
          rw [if_neg (fun z => absurd c_9 (Int32.not_lt.mpr z.1))]
          rw [if_neg (fun z => absurd c_23 (Int32.not_lt.mpr z.1))]
          rw [c_35]
          rfl
        · have c_35 : xb = 60 := c_35.trans (by decide)
          show X _ _ _ _ _ _ _ _ 126 _ _ _
          refine x_iconst (v := 3) dX5_sortAt_126 (by decide) ?_
          refine x_iret dX5_sortAt_127 rfl (Nat.le_refl _) (Nat.le_refl _) ?_
          refine ⟨?_, rfl⟩
          rw [← e_xb]
          unfold srF
          rw [if_neg (fun z => absurd c_9 (Int32.not_lt.mpr z.1))]
          rw [if_neg (fun z => absurd c_23 (Int32.not_lt.mpr z.1))]
          rw [c_35]
          rfl
        · have c_35 : xb = 61 := c_35.trans (by decide)
          show X _ _ _ _ _ _ _ _ 126 _ _ _
          refine x_iconst (v := 3) dX5_sortAt_126 (by decide) ?_
          refine x_iret dX5_sortAt_127 rfl (Nat.le_refl _) (Nat.le_refl _) ?_
          refine ⟨?_, rfl⟩
          rw [← e_xb]
          unfold srF
          rw [if_neg (fun z => absurd c_9 (Int32.not_lt.mpr z.1))]
          rw [if_neg (fun z => absurd c_23 (Int32.not_lt.mpr z.1))]
          rw [c_35]
          rfl
    · refine x_iload_n dX5_sortAt_26 0 rfl rfl ?_
      refine x_bipush (v := 122) dX5_sortAt_27 (by decide) ?_
      refine x_icmp_gt (tgt := 34) dX5_sortAt_29 (by decide) (fun c_29 => ?_) (fun c_29 => ?_)
      · refine x_iload_n dX5_sortAt_34 0 rfl rfl ?_
        refine x_lsc 128 dX5_sortAt_35 (by decide) (by decide) (by decide) (fun c_35 => ?_) ?_
        · have d_35 : ¬ xb = 10 ∧ ¬ xb = 32 ∧ ¬ xb = 40 ∧ ¬ xb = 41 ∧ ¬ xb = 42 ∧ ¬ xb = 43 ∧ ¬ xb = 45 ∧ ¬ xb = 59 ∧ ¬ xb = 60 ∧ ¬ xb = 61 := ⟨fun q => c_35 (10, 89) (by simp) (q.trans (by decide)), fun q => c_35 (32, 89) (by simp) (q.trans (by decide)), fun q => c_35 (40, 91) (by simp) (q.trans (by decide)), fun q => c_35 (41, 91) (by simp) (q.trans (by decide)), fun q => c_35 (42, 91) (by simp) (q.trans (by decide)), fun q => c_35 (43, 91) (by simp) (q.trans (by decide)), fun q => c_35 (45, 91) (by simp) (q.trans (by decide)), fun q => c_35 (59, 91) (by simp) (q.trans (by decide)), fun q => c_35 (60, 91) (by simp) (q.trans (by decide)), fun q => c_35 (61, 91) (by simp) (q.trans (by decide))⟩
          refine x_iconst (v := 4) dX5_sortAt_128 (by decide) ?_
          refine x_iret dX5_sortAt_129 rfl (Nat.le_refl _) (Nat.le_refl _) ?_
          refine ⟨?_, rfl⟩
          rw [← e_xb]
          unfold srF
          rw [if_neg (fun z => absurd c_9 (Int32.not_lt.mpr z.1))]
          rw [if_neg (fun z => absurd c_29 (Int32.not_lt.mpr z.2))]
          obtain ⟨z1, z2, z3, z4, z5, z6, z7, z8, z9, z0⟩ := d_35
          rw [if_neg (fun z => z.elim z1 z2), if_neg (by simp [z3, z4, z5, z6, z7, z8, z9, z0])]
        · refine List.forall_mem_cons.mpr ⟨fun c_35 => ?_, List.forall_mem_cons.mpr ⟨fun c_35 => ?_, List.forall_mem_cons.mpr ⟨fun c_35 => ?_, List.forall_mem_cons.mpr ⟨fun c_35 => ?_, List.forall_mem_cons.mpr ⟨fun c_35 => ?_, List.forall_mem_cons.mpr ⟨fun c_35 => ?_, List.forall_mem_cons.mpr ⟨fun c_35 => ?_, List.forall_mem_cons.mpr ⟨fun c_35 => ?_, List.forall_mem_cons.mpr ⟨fun c_35 => ?_, List.forall_mem_cons.mpr ⟨fun c_35 => ?_, fun _ h9 => absurd h9 List.not_mem_nil⟩⟩⟩⟩⟩⟩⟩⟩⟩⟩
          · have c_35 : xb = 10 := c_35.trans (by decide)
            show X _ _ _ _ _ _ _ _ 124 _ _ _
            refine x_iconst (v := 0) dX5_sortAt_124 (by decide) ?_
            refine x_iret dX5_sortAt_125 rfl (Nat.le_refl _) (Nat.le_refl _) ?_
            refine ⟨?_, rfl⟩
            rw [← e_xb]
            unfold srF
            rw [if_neg (fun z => absurd c_9 (Int32.not_lt.mpr z.1))]
            rw [if_neg (fun z => absurd c_29 (Int32.not_lt.mpr z.2))]
            rw [c_35]
            rfl
          · have c_35 : xb = 32 := c_35.trans (by decide)
            show X _ _ _ _ _ _ _ _ 124 _ _ _
            refine x_iconst (v := 0) dX5_sortAt_124 (by decide) ?_
            refine x_iret dX5_sortAt_125 rfl (Nat.le_refl _) (Nat.le_refl _) ?_
            refine ⟨?_, rfl⟩
            rw [← e_xb]
            unfold srF
            rw [if_neg (fun z => absurd c_9 (Int32.not_lt.mpr z.1))]
            rw [if_neg (fun z => absurd c_29 (Int32.not_lt.mpr z.2))]
            rw [c_35]
            rfl
          · have c_35 : xb = 40 := c_35.trans (by decide)
            show X _ _ _ _ _ _ _ _ 126 _ _ _
            refine x_iconst (v := 3) dX5_sortAt_126 (by decide) ?_
            refine x_iret dX5_sortAt_127 rfl (Nat.le_refl _) (Nat.le_refl _) ?_
            refine ⟨?_, rfl⟩
            rw [← e_xb]
            unfold srF
            rw [if_neg (fun z => absurd c_9 (Int32.not_lt.mpr z.1))]
            rw [if_neg (fun z => absurd c_29 (Int32.not_lt.mpr z.2))]
            rw [c_35]
            rfl
          · have c_35 : xb = 41 := c_35.trans (by decide)
            show X _ _ _ _ _ _ _ _ 126 _ _ _
            refine x_iconst (v := 3) dX5_sortAt_126 (by decide) ?_
            refine x_iret dX5_sortAt_127 rfl (Nat.le_refl _) (Nat.le_refl _) ?_
            refine ⟨?_, rfl⟩
            rw [← e_xb]
            unfold srF
            rw [if_neg (fun z => absurd c_9 (Int32.not_lt.mpr z.1))]
            rw [if_neg (fun z => absurd c_29 (Int32.not_lt.mpr z.2))]
            rw [c_35]
            rfl
          · have c_35 : xb = 42 := c_35.trans (by decide)
            show X _ _ _ _ _ _ _ _ 126 _ _ _
            refine x_iconst (v := 3) dX5_sortAt_126 (by decide) ?_
            refine x_iret dX5_sortAt_127 rfl (Nat.le_refl _) (Nat.le_refl _) ?_
            refine ⟨?_, rfl⟩
            rw [← e_xb]
            unfold srF
            rw [if_neg (fun z => absurd c_9 (Int32.not_lt.mpr z.1))]
            rw [if_neg (fun z => absurd c_29 (Int32.not_lt.mpr z.2))]
            rw [c_35]
            rfl
          · have c_35 : xb = 43 := c_35.trans (by decide)
            show X _ _ _ _ _ _ _ _ 126 _ _ _
            refine x_iconst (v := 3) dX5_sortAt_126 (by decide) ?_
            refine x_iret dX5_sortAt_127 rfl (Nat.le_refl _) (Nat.le_refl _) ?_
            refine ⟨?_, rfl⟩
            rw [← e_xb]
            unfold srF
            rw [if_neg (fun z => absurd c_9 (Int32.not_lt.mpr z.1))]
            rw [if_neg (fun z => absurd c_29 (Int32.not_lt.mpr z.2))]
            rw [c_35]
            rfl
          · have c_35 : xb = 45 := c_35.trans (by decide)
            show X _ _ _ _ _ _ _ _ 126 _ _ _
            refine x_iconst (v := 3) dX5_sortAt_126 (by decide) ?_
            refine x_iret dX5_sortAt_127 rfl (Nat.le_refl _) (Nat.le_refl _) ?_
            refine ⟨?_, rfl⟩
            rw [← e_xb]
            unfold srF
            rw [if_neg (fun z => absurd c_9 (Int32.not_lt.mpr z.1))]
            rw [if_neg (fun z => absurd c_29 (Int32.not_lt.mpr z.2))]
            rw [c_35]
            rfl
          · have c_35 : xb = 59 := c_35.trans (by decide)
            show X _ _ _ _ _ _ _ _ 126 _ _ _
            refine x_iconst (v := 3) dX5_sortAt_126 (by decide) ?_
            refine x_iret dX5_sortAt_127 rfl (Nat.le_refl _) (Nat.le_refl _) ?_
            refine ⟨?_, rfl⟩
            rw [← e_xb]
            unfold srF
            rw [if_neg (fun z => absurd c_9 (Int32.not_lt.mpr z.1))]
            rw [if_neg (fun z => absurd c_29 (Int32.not_lt.mpr z.2))]
            rw [c_35]
            rfl
          · have c_35 : xb = 60 := c_35.trans (by decide)
            show X _ _ _ _ _ _ _ _ 126 _ _ _
            refine x_iconst (v := 3) dX5_sortAt_126 (by decide) ?_
            refine x_iret dX5_sortAt_127 rfl (Nat.le_refl _) (Nat.le_refl _) ?_
            refine ⟨?_, rfl⟩
            rw [← e_xb]
            unfold srF
            rw [if_neg (fun z => absurd c_9 (Int32.not_lt.mpr z.1))]
            rw [if_neg (fun z => absurd c_29 (Int32.not_lt.mpr z.2))]
            rw [c_35]
            rfl
          · have c_35 : xb = 61 := c_35.trans (by decide)
            show X _ _ _ _ _ _ _ _ 126 _ _ _
            refine x_iconst (v := 3) dX5_sortAt_126 (by decide) ?_
            refine x_iret dX5_sortAt_127 rfl (Nat.le_refl _) (Nat.le_refl _) ?_
            refine ⟨?_, rfl⟩
            rw [← e_xb]
            unfold srF
            rw [if_neg (fun z => absurd c_9 (Int32.not_lt.mpr z.1))]
            rw [if_neg (fun z => absurd c_29 (Int32.not_lt.mpr z.2))]
            rw [c_35]
            rfl
      · refine x_iconst (v := 2) dX5_sortAt_32 (by decide) ?_
        refine x_iret dX5_sortAt_33 rfl (Nat.le_refl _) (Nat.le_refl _) ?_
        refine ⟨?_, rfl⟩
        rw [← e_xb]
        unfold srF
        rw [if_neg (fun z => absurd c_9 (Int32.not_lt.mpr z.1))]
        rw [if_pos ⟨Int32.not_lt.mp c_23, Int32.not_lt.mp (fun z => c_29 z)⟩]
  · refine x_iload_n dX5_sortAt_12 0 rfl rfl ?_
    refine x_bipush (v := 57) dX5_sortAt_13 (by decide) ?_
    refine x_icmp_gt (tgt := 20) dX5_sortAt_15 (by decide) (fun c_15 => ?_) (fun c_15 => ?_)
    · refine x_iload_n dX5_sortAt_20 0 rfl rfl ?_
      refine x_bipush (v := 97) dX5_sortAt_21 (by decide) ?_
      refine x_icmp_lt (tgt := 34) dX5_sortAt_23 (by decide) (fun c_23 => ?_) (fun c_23 => ?_)
      · refine x_iload_n dX5_sortAt_34 0 rfl rfl ?_
        refine x_lsc 128 dX5_sortAt_35 (by decide) (by decide) (by decide) (fun c_35 => ?_) ?_
        · have d_35 : ¬ xb = 10 ∧ ¬ xb = 32 ∧ ¬ xb = 40 ∧ ¬ xb = 41 ∧ ¬ xb = 42 ∧ ¬ xb = 43 ∧ ¬ xb = 45 ∧ ¬ xb = 59 ∧ ¬ xb = 60 ∧ ¬ xb = 61 := ⟨fun q => c_35 (10, 89) (by simp) (q.trans (by decide)), fun q => c_35 (32, 89) (by simp) (q.trans (by decide)), fun q => c_35 (40, 91) (by simp) (q.trans (by decide)), fun q => c_35 (41, 91) (by simp) (q.trans (by decide)), fun q => c_35 (42, 91) (by simp) (q.trans (by decide)), fun q => c_35 (43, 91) (by simp) (q.trans (by decide)), fun q => c_35 (45, 91) (by simp) (q.trans (by decide)), fun q => c_35 (59, 91) (by simp) (q.trans (by decide)), fun q => c_35 (60, 91) (by simp) (q.trans (by decide)), fun q => c_35 (61, 91) (by simp) (q.trans (by decide))⟩
          refine x_iconst (v := 4) dX5_sortAt_128 (by decide) ?_
          refine x_iret dX5_sortAt_129 rfl (Nat.le_refl _) (Nat.le_refl _) ?_
          refine ⟨?_, rfl⟩
          rw [← e_xb]
          unfold srF
          rw [if_neg (fun z => absurd c_15 (Int32.not_lt.mpr z.2))]
          rw [if_neg (fun z => absurd c_23 (Int32.not_lt.mpr z.1))]
          obtain ⟨z1, z2, z3, z4, z5, z6, z7, z8, z9, z0⟩ := d_35
          rw [if_neg (fun z => z.elim z1 z2), if_neg (by simp [z3, z4, z5, z6, z7, z8, z9, z0])]
        · refine List.forall_mem_cons.mpr ⟨fun c_35 => ?_, List.forall_mem_cons.mpr ⟨fun c_35 => ?_, List.forall_mem_cons.mpr ⟨fun c_35 => ?_, List.forall_mem_cons.mpr ⟨fun c_35 => ?_, List.forall_mem_cons.mpr ⟨fun c_35 => ?_, List.forall_mem_cons.mpr ⟨fun c_35 => ?_, List.forall_mem_cons.mpr ⟨fun c_35 => ?_, List.forall_mem_cons.mpr ⟨fun c_35 => ?_, List.forall_mem_cons.mpr ⟨fun c_35 => ?_, List.forall_mem_cons.mpr ⟨fun c_35 => ?_, fun _ h9 => absurd h9 List.not_mem_nil⟩⟩⟩⟩⟩⟩⟩⟩⟩⟩
          · have c_35 : xb = 10 := c_35.trans (by decide)
            show X _ _ _ _ _ _ _ _ 124 _ _ _
            refine x_iconst (v := 0) dX5_sortAt_124 (by decide) ?_
            refine x_iret dX5_sortAt_125 rfl (Nat.le_refl _) (Nat.le_refl _) ?_
            refine ⟨?_, rfl⟩
            rw [← e_xb]
            unfold srF
            rw [if_neg (fun z => absurd c_15 (Int32.not_lt.mpr z.2))]
            rw [if_neg (fun z => absurd c_23 (Int32.not_lt.mpr z.1))]
            rw [c_35]
            rfl
          · have c_35 : xb = 32 := c_35.trans (by decide)
            show X _ _ _ _ _ _ _ _ 124 _ _ _
            refine x_iconst (v := 0) dX5_sortAt_124 (by decide) ?_
            refine x_iret dX5_sortAt_125 rfl (Nat.le_refl _) (Nat.le_refl _) ?_
            refine ⟨?_, rfl⟩
            rw [← e_xb]
            unfold srF
            rw [if_neg (fun z => absurd c_15 (Int32.not_lt.mpr z.2))]
            rw [if_neg (fun z => absurd c_23 (Int32.not_lt.mpr z.1))]
            rw [c_35]
            rfl
          · have c_35 : xb = 40 := c_35.trans (by decide)
            show X _ _ _ _ _ _ _ _ 126 _ _ _
            refine x_iconst (v := 3) dX5_sortAt_126 (by decide) ?_
            refine x_iret dX5_sortAt_127 rfl (Nat.le_refl _) (Nat.le_refl _) ?_
            refine ⟨?_, rfl⟩
            rw [← e_xb]
            unfold srF
            rw [if_neg (fun z => absurd c_15 (Int32.not_lt.mpr z.2))]
            rw [if_neg (fun z => absurd c_23 (Int32.not_lt.mpr z.1))]
            rw [c_35]
            rfl
          · have c_35 : xb = 41 := c_35.trans (by decide)
            show X _ _ _ _ _ _ _ _ 126 _ _ _
            refine x_iconst (v := 3) dX5_sortAt_126 (by decide) ?_
            refine x_iret dX5_sortAt_127 rfl (Nat.le_refl _) (Nat.le_refl _) ?_
            refine ⟨?_, rfl⟩
            rw [← e_xb]
            unfold srF
            rw [if_neg (fun z => absurd c_15 (Int32.not_lt.mpr z.2))]
            rw [if_neg (fun z => absurd c_23 (Int32.not_lt.mpr z.1))]
            rw [c_35]
            rfl
          · have c_35 : xb = 42 := c_35.trans (by decide)
            show X _ _ _ _ _ _ _ _ 126 _ _ _
            refine x_iconst (v := 3) dX5_sortAt_126 (by decide) ?_
            refine x_iret dX5_sortAt_127 rfl (Nat.le_refl _) (Nat.le_refl _) ?_
            refine ⟨?_, rfl⟩
            rw [← e_xb]
            unfold srF
            rw [if_neg (fun z => absurd c_15 (Int32.not_lt.mpr z.2))]
            rw [if_neg (fun z => absurd c_23 (Int32.not_lt.mpr z.1))]
            rw [c_35]
            rfl
          · have c_35 : xb = 43 := c_35.trans (by decide)
            show X _ _ _ _ _ _ _ _ 126 _ _ _
            refine x_iconst (v := 3) dX5_sortAt_126 (by decide) ?_
            refine x_iret dX5_sortAt_127 rfl (Nat.le_refl _) (Nat.le_refl _) ?_
            refine ⟨?_, rfl⟩
            rw [← e_xb]
            unfold srF
            rw [if_neg (fun z => absurd c_15 (Int32.not_lt.mpr z.2))]
            rw [if_neg (fun z => absurd c_23 (Int32.not_lt.mpr z.1))]
            rw [c_35]
            rfl
          · have c_35 : xb = 45 := c_35.trans (by decide)
            show X _ _ _ _ _ _ _ _ 126 _ _ _
            refine x_iconst (v := 3) dX5_sortAt_126 (by decide) ?_
            refine x_iret dX5_sortAt_127 rfl (Nat.le_refl _) (Nat.le_refl _) ?_
            refine ⟨?_, rfl⟩
            rw [← e_xb]
            unfold srF
            rw [if_neg (fun z => absurd c_15 (Int32.not_lt.mpr z.2))]
            rw [if_neg (fun z => absurd c_23 (Int32.not_lt.mpr z.1))]
            rw [c_35]
            rfl
          · have c_35 : xb = 59 := c_35.trans (by decide)
            show X _ _ _ _ _ _ _ _ 126 _ _ _
            refine x_iconst (v := 3) dX5_sortAt_126 (by decide) ?_
            refine x_iret dX5_sortAt_127 rfl (Nat.le_refl _) (Nat.le_refl _) ?_
            refine ⟨?_, rfl⟩
            rw [← e_xb]
            unfold srF
            rw [if_neg (fun z => absurd c_15 (Int32.not_lt.mpr z.2))]
            rw [if_neg (fun z => absurd c_23 (Int32.not_lt.mpr z.1))]
            rw [c_35]
            rfl
          · have c_35 : xb = 60 := c_35.trans (by decide)
            show X _ _ _ _ _ _ _ _ 126 _ _ _
            refine x_iconst (v := 3) dX5_sortAt_126 (by decide) ?_
            refine x_iret dX5_sortAt_127 rfl (Nat.le_refl _) (Nat.le_refl _) ?_
            refine ⟨?_, rfl⟩
            rw [← e_xb]
            unfold srF
            rw [if_neg (fun z => absurd c_15 (Int32.not_lt.mpr z.2))]
            rw [if_neg (fun z => absurd c_23 (Int32.not_lt.mpr z.1))]
            rw [c_35]
            rfl
          · have c_35 : xb = 61 := c_35.trans (by decide)
            show X _ _ _ _ _ _ _ _ 126 _ _ _
            refine x_iconst (v := 3) dX5_sortAt_126 (by decide) ?_
            refine x_iret dX5_sortAt_127 rfl (Nat.le_refl _) (Nat.le_refl _) ?_
            refine ⟨?_, rfl⟩
            rw [← e_xb]
            unfold srF
            rw [if_neg (fun z => absurd c_15 (Int32.not_lt.mpr z.2))]
            rw [if_neg (fun z => absurd c_23 (Int32.not_lt.mpr z.1))]
            rw [c_35]
            rfl
      · refine x_iload_n dX5_sortAt_26 0 rfl rfl ?_
        refine x_bipush (v := 122) dX5_sortAt_27 (by decide) ?_
        refine x_icmp_gt (tgt := 34) dX5_sortAt_29 (by decide) (fun c_29 => ?_) (fun c_29 => ?_)
        · refine x_iload_n dX5_sortAt_34 0 rfl rfl ?_
          refine x_lsc 128 dX5_sortAt_35 (by decide) (by decide) (by decide) (fun c_35 => ?_) ?_
          · have d_35 : ¬ xb = 10 ∧ ¬ xb = 32 ∧ ¬ xb = 40 ∧ ¬ xb = 41 ∧ ¬ xb = 42 ∧ ¬ xb = 43 ∧ ¬ xb = 45 ∧ ¬ xb = 59 ∧ ¬ xb = 60 ∧ ¬ xb = 61 := ⟨fun q => c_35 (10, 89) (by simp) (q.trans (by decide)), fun q => c_35 (32, 89) (by simp) (q.trans (by decide)), fun q => c_35 (40, 91) (by simp) (q.trans (by decide)), fun q => c_35 (41, 91) (by simp) (q.trans (by decide)), fun q => c_35 (42, 91) (by simp) (q.trans (by decide)), fun q => c_35 (43, 91) (by simp) (q.trans (by decide)), fun q => c_35 (45, 91) (by simp) (q.trans (by decide)), fun q => c_35 (59, 91) (by simp) (q.trans (by decide)), fun q => c_35 (60, 91) (by simp) (q.trans (by decide)), fun q => c_35 (61, 91) (by simp) (q.trans (by decide))⟩
            refine x_iconst (v := 4) dX5_sortAt_128 (by decide) ?_
            refine x_iret dX5_sortAt_129 rfl (Nat.le_refl _) (Nat.le_refl _) ?_
            refine ⟨?_, rfl⟩
            rw [← e_xb]
            unfold srF
            rw [if_neg (fun z => absurd c_15 (Int32.not_lt.mpr z.2))]
            rw [if_neg (fun z => absurd c_29 (Int32.not_lt.mpr z.2))]
            obtain ⟨z1, z2, z3, z4, z5, z6, z7, z8, z9, z0⟩ := d_35
            rw [if_neg (fun z => z.elim z1 z2), if_neg (by simp [z3, z4, z5, z6, z7, z8, z9, z0])]
          · refine List.forall_mem_cons.mpr ⟨fun c_35 => ?_, List.forall_mem_cons.mpr ⟨fun c_35 => ?_, List.forall_mem_cons.mpr ⟨fun c_35 => ?_, List.forall_mem_cons.mpr ⟨fun c_35 => ?_, List.forall_mem_cons.mpr ⟨fun c_35 => ?_, List.forall_mem_cons.mpr ⟨fun c_35 => ?_, List.forall_mem_cons.mpr ⟨fun c_35 => ?_, List.forall_mem_cons.mpr ⟨fun c_35 => ?_, List.forall_mem_cons.mpr ⟨fun c_35 => ?_, List.forall_mem_cons.mpr ⟨fun c_35 => ?_, fun _ h9 => absurd h9 List.not_mem_nil⟩⟩⟩⟩⟩⟩⟩⟩⟩⟩
            · have c_35 : xb = 10 := c_35.trans (by decide)
              show X _ _ _ _ _ _ _ _ 124 _ _ _
              refine x_iconst (v := 0) dX5_sortAt_124 (by decide) ?_
              refine x_iret dX5_sortAt_125 rfl (Nat.le_refl _) (Nat.le_refl _) ?_
              refine ⟨?_, rfl⟩
              rw [← e_xb]
              unfold srF
              rw [if_neg (fun z => absurd c_15 (Int32.not_lt.mpr z.2))]
              rw [if_neg (fun z => absurd c_29 (Int32.not_lt.mpr z.2))]
              rw [c_35]
              rfl
            · have c_35 : xb = 32 := c_35.trans (by decide)
              show X _ _ _ _ _ _ _ _ 124 _ _ _
              refine x_iconst (v := 0) dX5_sortAt_124 (by decide) ?_
              refine x_iret dX5_sortAt_125 rfl (Nat.le_refl _) (Nat.le_refl _) ?_
              refine ⟨?_, rfl⟩
              rw [← e_xb]
              unfold srF
              rw [if_neg (fun z => absurd c_15 (Int32.not_lt.mpr z.2))]
              rw [if_neg (fun z => absurd c_29 (Int32.not_lt.mpr z.2))]
              rw [c_35]
              rfl
            · have c_35 : xb = 40 := c_35.trans (by decide)
              show X _ _ _ _ _ _ _ _ 126 _ _ _
              refine x_iconst (v := 3) dX5_sortAt_126 (by decide) ?_
              refine x_iret dX5_sortAt_127 rfl (Nat.le_refl _) (Nat.le_refl _) ?_
              refine ⟨?_, rfl⟩
              rw [← e_xb]
              unfold srF
              rw [if_neg (fun z => absurd c_15 (Int32.not_lt.mpr z.2))]
              rw [if_neg (fun z => absurd c_29 (Int32.not_lt.mpr z.2))]
              rw [c_35]
              rfl
            · have c_35 : xb = 41 := c_35.trans (by decide)
              show X _ _ _ _ _ _ _ _ 126 _ _ _
              refine x_iconst (v := 3) dX5_sortAt_126 (by decide) ?_
              refine x_iret dX5_sortAt_127 rfl (Nat.le_refl _) (Nat.le_refl _) ?_
              refine ⟨?_, rfl⟩
              rw [← e_xb]
              unfold srF
              rw [if_neg (fun z => absurd c_15 (Int32.not_lt.mpr z.2))]
              rw [if_neg (fun z => absurd c_29 (Int32.not_lt.mpr z.2))]
              rw [c_35]
              rfl
            · have c_35 : xb = 42 := c_35.trans (by decide)
              show X _ _ _ _ _ _ _ _ 126 _ _ _
              refine x_iconst (v := 3) dX5_sortAt_126 (by decide) ?_
              refine x_iret dX5_sortAt_127 rfl (Nat.le_refl _) (Nat.le_refl _) ?_
              refine ⟨?_, rfl⟩
              rw [← e_xb]
              unfold srF
              rw [if_neg (fun z => absurd c_15 (Int32.not_lt.mpr z.2))]
              rw [if_neg (fun z => absurd c_29 (Int32.not_lt.mpr z.2))]
              rw [c_35]
              rfl
            · have c_35 : xb = 43 := c_35.trans (by decide)
              show X _ _ _ _ _ _ _ _ 126 _ _ _
              refine x_iconst (v := 3) dX5_sortAt_126 (by decide) ?_
              refine x_iret dX5_sortAt_127 rfl (Nat.le_refl _) (Nat.le_refl _) ?_
              refine ⟨?_, rfl⟩
              rw [← e_xb]
              unfold srF
              rw [if_neg (fun z => absurd c_15 (Int32.not_lt.mpr z.2))]
              rw [if_neg (fun z => absurd c_29 (Int32.not_lt.mpr z.2))]
              rw [c_35]
              rfl
            · have c_35 : xb = 45 := c_35.trans (by decide)
              show X _ _ _ _ _ _ _ _ 126 _ _ _
              refine x_iconst (v := 3) dX5_sortAt_126 (by decide) ?_
              refine x_iret dX5_sortAt_127 rfl (Nat.le_refl _) (Nat.le_refl _) ?_
              refine ⟨?_, rfl⟩
              rw [← e_xb]
              unfold srF
              rw [if_neg (fun z => absurd c_15 (Int32.not_lt.mpr z.2))]
              rw [if_neg (fun z => absurd c_29 (Int32.not_lt.mpr z.2))]
              rw [c_35]
              rfl
            · have c_35 : xb = 59 := c_35.trans (by decide)
              show X _ _ _ _ _ _ _ _ 126 _ _ _
              refine x_iconst (v := 3) dX5_sortAt_126 (by decide) ?_
              refine x_iret dX5_sortAt_127 rfl (Nat.le_refl _) (Nat.le_refl _) ?_
              refine ⟨?_, rfl⟩
              rw [← e_xb]
              unfold srF
              rw [if_neg (fun z => absurd c_15 (Int32.not_lt.mpr z.2))]
              rw [if_neg (fun z => absurd c_29 (Int32.not_lt.mpr z.2))]
              rw [c_35]
              rfl
            · have c_35 : xb = 60 := c_35.trans (by decide)
              show X _ _ _ _ _ _ _ _ 126 _ _ _
              refine x_iconst (v := 3) dX5_sortAt_126 (by decide) ?_
              refine x_iret dX5_sortAt_127 rfl (Nat.le_refl _) (Nat.le_refl _) ?_
              refine ⟨?_, rfl⟩
              rw [← e_xb]
              unfold srF
              rw [if_neg (fun z => absurd c_15 (Int32.not_lt.mpr z.2))]
              rw [if_neg (fun z => absurd c_29 (Int32.not_lt.mpr z.2))]
              rw [c_35]
              rfl
            · have c_35 : xb = 61 := c_35.trans (by decide)
              show X _ _ _ _ _ _ _ _ 126 _ _ _
              refine x_iconst (v := 3) dX5_sortAt_126 (by decide) ?_
              refine x_iret dX5_sortAt_127 rfl (Nat.le_refl _) (Nat.le_refl _) ?_
              refine ⟨?_, rfl⟩
              rw [← e_xb]
              unfold srF
              rw [if_neg (fun z => absurd c_15 (Int32.not_lt.mpr z.2))]
              rw [if_neg (fun z => absurd c_29 (Int32.not_lt.mpr z.2))]
              rw [c_35]
              rfl
        · refine x_iconst (v := 2) dX5_sortAt_32 (by decide) ?_
          refine x_iret dX5_sortAt_33 rfl (Nat.le_refl _) (Nat.le_refl _) ?_
          refine ⟨?_, rfl⟩
          rw [← e_xb]
          unfold srF
          rw [if_neg (fun z => absurd c_15 (Int32.not_lt.mpr z.2))]
          rw [if_pos ⟨Int32.not_lt.mp c_23, Int32.not_lt.mp (fun z => c_29 z)⟩]
    · refine x_iconst (v := 1) dX5_sortAt_18 (by decide) ?_
      refine x_iret dX5_sortAt_19 rfl (Nat.le_refl _) (Nat.le_refl _) ?_
      refine ⟨?_, rfl⟩
      rw [← e_xb]
      unfold srF
      rw [if_pos ⟨Int32.not_lt.mp c_9, Int32.not_lt.mp (fun z => c_15 z)⟩]

set_option maxHeartbeats 4000000 in
set_option maxRecDepth 100000 in
theorem k_behind_l {G : GG} {Sh : HS} {I : HI} {R : HR} {Tp ts : Nat} {tb : Nat → Int32} (ht : TPp Sh I R Tp tb ts) {p : Nat} {s : Int32} : ∀ (m : Nat) (i : Nat), (i ≤ ts) → (ts < i + m) → (behF tb ts s i = behF tb ts s p) → X G (kM G 3 0 0 (qi fun r g => r = nI (behF tb ts s p) ∧ g = (Sh, I, R))) yX5_behind cX5_behind 4 (some .int) 0 0 2 [(3, .int (nI i)), (0, .ref Tp), (1, .int (nI p)), (2, .int s)] [] (Sh, I, R) := by
  intro m
  induction m with
  | zero =>
    intro i hi hm hv
    exact absurd hm (by omega)
  | succ m ih =>
    intro i hi hm hv
    obtain ⟨t0, t1, t2, t3, q0, q2, q3, hts, hts2, hby⟩ := id ht
    refine x_iload_n dX5_behind_2 0 rfl rfl ?_
    refine x_aload_n dX5_behind_3 1 rfl rfl ?_
    refine x_gI (v := nI ts) dX5_behind_4 fl_5_21 rfl t0 hts ?_
    refine x_icmp_ge (tgt := 25) dX5_behind_7 (by decide) (fun c_7 => ?_) (fun c_7 => ?_)
    · have c_7 : ts ≤ i := (nI_leI (a := ts) (b := i) (by omega) (by omega)).mp c_7
      refine x_iload_n dX5_behind_25 0 rfl rfl ?_
      refine x_iret dX5_behind_26 rfl (Nat.le_refl _) (Nat.le_refl _) ?_
      refine ⟨?_, rfl⟩
      rw [← hv, beh_no (fun z => absurd c_7 (by omega))]
    · have c_7 : ¬ ts ≤ i := fun zz9 => c_7 ((nI_leI (a := ts) (b := i) (by omega) (by omega)).mpr zz9)
      refine x_aload_n dX5_behind_10 1 rfl rfl ?_
      refine x_iload_n dX5_behind_11 0 rfl rfl ?_
      refine x_callV (k_sortAt (G := G) ht (p := i) (by omega)) dX5_behind_12 crc_X5_sortAt vc_5_29 t0 rfl rfl rfl rfl (Nat.le_of_ble_eq_true rfl) (roomy_k (by omega) (by decide)) (Nat.le_refl _) (Nat.le_refl _) ?_
      rintro _ _ ⟨_, rfl, rfl, rfl⟩
      refine x_iload_n dX5_behind_15 3 rfl rfl ?_
      refine x_icmp_ne (tgt := 25) dX5_behind_16 (by decide) (fun c_16 => ?_) (fun c_16 => ?_)
      · refine x_iload_n dX5_behind_25 0 rfl rfl ?_
        refine x_iret dX5_behind_26 rfl (Nat.le_refl _) (Nat.le_refl _) ?_
        refine ⟨?_, rfl⟩
        rw [← hv, beh_no (fun _ => c_16)]
      · refine x_iinc (v := nI (i + 1)) (lv' := [(3, .int (nI (i + 1))), (0, .ref Tp), (1, .int (nI p)), (2, .int s)]) dX5_behind_19 0 rfl (nI_1 i) (by decide) rfl ?_
        refine x_goto (tgt := 2) dX5_behind_22 (by decide) ?_
        refine x_sub [0, 1, 2, 3] rfl ?_
        exact ih (i + 1) (by omega) (by omega) (by rw [← hv]; exact (beh_go (by omega) c_16).symm)

set_option maxHeartbeats 4000000 in
set_option maxRecDepth 100000 in
theorem k_behind {G : GG} {Sh : HS} {I : HI} {R : HR} {Tp ts : Nat} {tb : Nat → Int32} (ht : TPp Sh I R Tp tb ts) {p : Nat} {s : Int32} (hp : p ≤ ts) : AM G 3 0 0 yX5_behind cX5_behind 4 (some .int) [.ref Tp, .int (nI p), .int s] (Sh, I, R) (qi fun r g => r = nI (behF tb ts s p) ∧ g = (Sh, I, R)) := by
  obtain ⟨t0, t1, t2, t3, q0, q2, q3, hts, hts2, hby⟩ := id ht
  refine am_intro (by decide) (Nat.le_of_ble_eq_true rfl) ?_
  refine x_iload_n dX5_behind_0 1 rfl rfl ?_
  refine x_istore_n (lv' := [(3, .int (nI p)), (0, .ref Tp), (1, .int (nI p)), (2, .int s)]) dX5_behind_1 rfl (by decide) rfl ?_
  refine x_sub [0, 1, 2, 3] rfl ?_
  exact k_behind_l ht (ts + 1) p hp (by omega) rfl

set_option maxHeartbeats 4000000 in
set_option maxRecDepth 100000 in
theorem k_numberToken_l {G : GG} {Sh : HS} {I : HI} {R : HR} {Tp ts : Nat} {tb : Nat → Int32} (ht : TPp Sh I R Tp tb ts) {f t : Nat} (hft : f ≤ t) (htt : t ≤ ts) (h4 : ¬ 4 < t - f) : ∀ (m : Nat) (q : Nat) (acc : Int32), (f + q ≤ t) → (t < f + q + m) → (acc = nuF tb ts f q) → X G (kM G 2 0 0 (qi fun r g => r = ntF tb ts f t ∧ g = (Sh, I, R))) yX5_numberToken cX5_numberToken 5 (some .int) 0 0 14 [(4, .int (nI (f + q))), (3, .int acc), (0, .ref Tp), (1, .int (nI f)), (2, .int (nI t))] [] (Sh, I, R) := by
  intro m
  induction m with
  | zero =>
    intro q acc hq hm hv
    exact absurd hm (by omega)
  | succ m ih =>
    intro q acc hq hm hv
    obtain ⟨t0, t1, t2, t3, q0, q2, q3, hts, hts2, hby⟩ := id ht
    refine x_iload dX5_numberToken_14 0 rfl ?_
    refine x_iload_n dX5_numberToken_16 4 rfl rfl ?_
    refine x_icmp_ge (tgt := 41) dX5_numberToken_17 (by decide) (fun c_17 => ?_) (fun c_17 => ?_)
    · have c_17 : t ≤ (f + q) := (nI_leI (a := t) (b := (f + q)) (by omega) (by omega)).mp c_17
      refine x_sipush (v := 1000) dX5_numberToken_41 (by decide) ?_
      refine x_iload_n dX5_numberToken_44 1 rfl rfl ?_
      refine x_iadd dX5_numberToken_45 ?_
      refine x_iret dX5_numberToken_46 rfl (Nat.le_refl _) (Nat.le_refl _) ?_
      refine ⟨?_, rfl⟩
      unfold ntF
      rw [if_neg h4, hv, show q = t - f by omega]
    · have c_17 : ¬ t ≤ (f + q) := fun zz9 => c_17 ((nI_leI (a := t) (b := (f + q)) (by omega) (by omega)).mpr zz9)
      refine x_iload_n dX5_numberToken_20 1 rfl rfl ?_
      refine x_bipush (v := 10) dX5_numberToken_21 (by decide) ?_
      refine x_imul dX5_numberToken_23 ?_
      refine x_aload_n dX5_numberToken_24 2 rfl rfl ?_
      refine x_iload dX5_numberToken_25 0 rfl ?_
      refine x_callV (k_byteAt (G := G) ht (p := (f + q)) (by omega)) dX5_numberToken_27 crc_X5_byteAt vc_5_39 t0 rfl rfl rfl rfl (Nat.le_of_ble_eq_true rfl) (roomy_k (by omega) (by decide)) (Nat.le_refl _) (Nat.le_refl _) ?_
      rintro _ _ ⟨_, rfl, rfl, rfl⟩
      refine x_iadd dX5_numberToken_30 ?_
      refine x_bipush (v := 48) dX5_numberToken_31 (by decide) ?_
      refine x_isub dX5_numberToken_33 ?_
      refine x_topi (fun xq1 e_xq1 => ?_)
      refine x_istore_n (lv' := [(3, .int xq1), (4, .int (nI (f + q))), (0, .ref Tp), (1, .int (nI f)), (2, .int (nI t))]) dX5_numberToken_34 rfl (by decide) rfl ?_
      refine x_iinc (v := nI (f + q + 1)) (lv' := [(4, .int (nI (f + q + 1))), (3, .int xq1), (0, .ref Tp), (1, .int (nI f)), (2, .int (nI t))]) dX5_numberToken_35 1 rfl (nI_1 (f + q)) (by decide) rfl ?_
      refine x_goto (tgt := 14) dX5_numberToken_38 (by decide) ?_
      refine x_sub [0, 1, 2, 3, 4] rfl ?_
      exact ih (q + 1) xq1 (by omega) (by omega) (by rw [e_xq1, hv]; rfl)

set_option maxHeartbeats 4000000 in
set_option maxRecDepth 100000 in
theorem k_numberToken {G : GG} {Sh : HS} {I : HI} {R : HR} {Tp ts : Nat} {tb : Nat → Int32} (ht : TPp Sh I R Tp tb ts) {f t : Nat} (hft : f ≤ t) (htt : t ≤ ts) : AM G 2 0 0 yX5_numberToken cX5_numberToken 5 (some .int) [.ref Tp, .int (nI f), .int (nI t)] (Sh, I, R) (qi fun r g => r = ntF tb ts f t ∧ g = (Sh, I, R)) := by
  obtain ⟨t0, t1, t2, t3, q0, q2, q3, hts, hts2, hby⟩ := id ht
  refine am_intro (by decide) (Nat.le_of_ble_eq_true rfl) ?_
  refine x_iload_n dX5_numberToken_0 2 rfl rfl ?_
  refine x_iload_n dX5_numberToken_1 1 rfl rfl ?_
  refine x_isub dX5_numberToken_2 ?_
  refine x_iconst (v := 4) dX5_numberToken_3 (by decide) ?_
  refine x_icmp_le (tgt := 9) dX5_numberToken_4 (by decide) (fun c_4 => ?_) (fun c_4 => ?_)
  · refine x_iconst (v := 0) dX5_numberToken_9 (by decide) ?_
    refine x_istore_n (lv' := [(3, .int 0), (0, .ref Tp), (1, .int (nI f)), (2, .int (nI t))]) dX5_numberToken_10 rfl (by decide) rfl ?_
    refine x_iload_n dX5_numberToken_11 2 rfl rfl ?_
    refine x_istore (lv' := [(4, .int (nI f)), (3, .int 0), (0, .ref Tp), (1, .int (nI f)), (2, .int (nI t))]) dX5_numberToken_12 (by decide) rfl ?_
    refine x_sub [0, 1, 2, 3, 4] rfl ?_
    rw [pk_sub hft] at c_4
    exact k_numberToken_l ht hft htt (fun z => absurd ((nI_leI (b := 4) (by omega) (by omega)).mp c_4) (by omega)) (t - f + 1) 0 0 (by omega) (by omega) rfl
  · refine x_iconst (v := 2) dX5_numberToken_7 (by decide) ?_
    refine x_iret dX5_numberToken_8 rfl (Nat.le_refl _) (Nat.le_refl _) ?_
    refine ⟨?_, rfl⟩
    unfold ntF
    rw [if_pos]
    rw [pk_sub hft] at c_4
    exact Nat.not_le.mp (fun z => c_4 ((nI_leI (b := 4) (by omega) (by omega)).mpr z))

