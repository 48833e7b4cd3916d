theorem idx_of {i : Int32} {n : Nat} (h1 : ¬ i < 0) (h2 : ¬ nI n ≤ i) (hn : n < 2147483648) : ∃ j : Nat, j < n ∧ i = nI j := by
  rcases pk_ix i hn with q | q | q
  · exact absurd q h1
  · exact absurd q h2
  · exact q
theorem idx_no {i : Int32} {n j : Nat} (h : i < 0 ∨ nI n ≤ i) (hj : j < n) (hn : n < 2147483648) : i ≠ nI j := by
  intro e
  subst e
  rcases h with q | q
  · exact nI_pos (by omega) q
  · have := (nI_leI (by omega) (by omega)).mp q
    omega

set_option maxHeartbeats 4000000 in
set_option maxRecDepth 100000 in
theorem k_at {G : GG} {Sh : HS} {I : HI} {R : HR} {i : Int32} {S n : Nat} (hS : ShS Sh S) (hR : RS R S) (hn : I S 1 = nI n) (hn8 : n ≤ 8) : AM G 1 0 0 yX4_at cX4_at 2 (some (.object "Sandcastles$Fort")) [.ref S, .int i] (Sh, I, R) (qa fun r g => g = (Sh, I, R) ∧ ((∃ j, j < n ∧ i = nI j ∧ r = some (S + 2 + j)) ∨ ((∀ j, j < n → i ≠ nI j) ∧ r = none))) := by
  refine am_intro (by decide) (Nat.le_of_ble_eq_true rfl) ?_
  refine x_iload_n dX4_at_0 1 rfl rfl ?_
  refine x_if_lt (tgt := 27) dX4_at_1 (by decide) (fun c_1 => ?_) (fun c_1 => ?_)
  · refine x_null dX4_at_27 ?_
    refine x_aretN dX4_at_28 rfl (Or.inl ⟨_, rfl⟩) (Nat.le_refl _) (Nat.le_refl _) ?_
    exact ⟨rfl, Or.inr ⟨fun j hj => idx_no (Or.inl c_1) hj (by omega), rfl⟩⟩
  · refine x_iload_n dX4_at_4 1 rfl rfl ?_
    refine x_aload_n dX4_at_5 0 rfl rfl ?_
    refine x_gI (v := nI n) dX4_at_6 fl_4_22 rfl hS.1 hn ?_
    refine x_icmp_ge (tgt := 27) dX4_at_9 (by decide) (fun c_9 => ?_) (fun c_9 => ?_)
    · refine x_null dX4_at_27 ?_
      refine x_aretN dX4_at_28 rfl (Or.inl ⟨_, rfl⟩) (Nat.le_refl _) (Nat.le_refl _) ?_
      exact ⟨rfl, Or.inr ⟨fun j hj => idx_no (Or.inr c_9) hj (by omega), rfl⟩⟩
    · refine x_iload_n dX4_at_12 1 rfl rfl ?_
      refine x_bipush (v := nI 8) dX4_at_13 (by decide) ?_
      refine x_icmp_ge (tgt := 27) dX4_at_15 (by decide) (fun c_15 => ?_) (fun c_15 => ?_)
      · refine x_null dX4_at_27 ?_
        refine x_aretN dX4_at_28 rfl (Or.inl ⟨_, rfl⟩) (Nat.le_refl _) (Nat.le_refl _) ?_
        exact ⟨rfl, Or.inr ⟨fun j hj => idx_no (Or.inr (Int32.le_trans (nI_le hn8 (by omega)) c_15)) hj (by omega), rfl⟩⟩
      · obtain ⟨j, hj, hij⟩ := idx_of c_1 c_9 (by omega)
        refine x_aload_n dX4_at_18 0 rfl rfl ?_
        refine x_gR (b := S + 1) dX4_at_19 fl_4_11 rfl hS.1 hR.1 ?_
        refine x_iload_n dX4_at_22 1 rfl rfl ?_
        refine x_aa (j := j) (b := S + 2 + j) dX4_at_23 hS.2.1 (by decide) (by decide) hij (by omega) (by omega) (hR.2 j (by omega)) ?_
        refine x_goto (tgt := 28) dX4_at_24 (by decide) ?_
        refine x_aret dX4_at_28 rfl (Or.inl ⟨_, rfl⟩) (Nat.le_refl _) (Nat.le_refl _) ?_
        exact ⟨rfl, Or.inl ⟨j, hj, hij, rfl⟩⟩

set_option maxHeartbeats 4000000 in
set_option maxRecDepth 100000 in
theorem k_shelterOf_l {G : GG} {Sh : HS} {I : HI} {R : HR} {S n : Nat} (hS : ShS Sh S) (hR : RS R S) (hn : I S 1 = nI n) (hn8 : n ≤ 8) {f : Nat} (hf : Sh.2 f = (0, 6)) : ∀ (m : Nat) (i : Nat) (acc : Int32), (i ≤ n) → (n < i + m) → (acc = shelF (fun o k => I (S + 2 + o) k) (I f 2) i) → X G (kM G 1 0 0 (qi fun r g => r = shelF (fun o k => I (S + 2 + o) k) (I f 2) n ∧ g = (Sh, I, R))) yX4_shelterOf cX4_shelterOf 5 (some .int) 0 0 4 [(3, .int (nI i)), (2, .int acc), (0, .ref S), (1, .ref f)] [] (Sh, I, R) := by
  intro m
  induction m with
  | zero =>
    intro i acc hi hm hacc
    exact absurd hm (by omega)
  | succ m ih =>
    intro i acc hi hm hacc
    refine x_iload_n dX4_shelterOf_4 0 rfl rfl ?_
    refine x_aload_n dX4_shelterOf_5 2 rfl rfl ?_
    refine x_gI (v := nI n) dX4_shelterOf_6 fl_4_22 rfl hS.1 hn ?_
    refine x_icmp_ge (tgt := 64) dX4_shelterOf_9 (by decide) (fun c_9 => ?_) (fun c_9 => ?_)
    · have c_9 : n ≤ i := (nI_leI (a := n) (b := i) (by omega) (by omega)).mp c_9
      refine x_iload_n dX4_shelterOf_64 1 rfl rfl ?_
      refine x_iret dX4_shelterOf_65 rfl (Nat.le_refl _) (Nat.le_refl _) ?_
      have : i = n := by omega
      subst this
      exact ⟨hacc, rfl⟩
    · have c_9 : ¬ n ≤ i := fun q => c_9 ((nI_leI (a := n) (b := i) (by omega) (by omega)).mpr q)
      refine x_iload_n dX4_shelterOf_12 0 rfl rfl ?_
      refine x_bipush (v := nI 8) dX4_shelterOf_13 (by decide) ?_
      refine x_icmp_ge (tgt := 64) dX4_shelterOf_15 (by decide) (fun c_15 => ?_) (fun c_15 => ?_)
      · have c_15 : 8 ≤ i := (nI_leI (a := 8) (b := i) (by omega) (by omega)).mp c_15
        refine x_iload_n dX4_shelterOf_64 1 rfl rfl ?_
        refine x_iret dX4_shelterOf_65 rfl (Nat.le_refl _) (Nat.le_refl _) ?_
        have : i = n := by omega
        subst this
        exact ⟨hacc, rfl⟩
      · have c_15 : ¬ 8 ≤ i := fun q => c_15 ((nI_leI (a := 8) (b := i) (by omega) (by omega)).mpr q)
        refine x_aload_n dX4_shelterOf_18 2 rfl rfl ?_
        refine x_gR (b := S + 1) dX4_shelterOf_19 fl_4_11 rfl hS.1 hR.1 ?_
        refine x_iload_n dX4_shelterOf_22 0 rfl rfl ?_
        refine x_aa (j := i) (b := S + 2 + i) dX4_shelterOf_23 hS.2.1 (by decide) (by decide) rfl (by omega) (by omega) (hR.2 i (by omega)) ?_
        refine x_astore (lv' := [(4, .ref (S + 2 + i)), (3, .int (nI i)), (2, .int acc), (0, .ref S), (1, .ref f)]) dX4_shelterOf_24 (by decide) rfl ?_
        refine x_aload dX4_shelterOf_26 0 rfl ?_
        refine x_gI (v := I (S + 2 + i) 2) dX4_shelterOf_28 fl_4_57 rfl (hS.2.2 i (by omega)) rfl ?_
        refine x_aload_n dX4_shelterOf_31 4 rfl rfl ?_
        refine x_gI (v := I f 2) dX4_shelterOf_32 fl_4_57 rfl hf rfl ?_
        refine x_icmp_ge (tgt := 58) dX4_shelterOf_35 (by decide) (fun c_35 => ?_) (fun c_35 => ?_)
        · refine x_iinc (v := nI (i + 1)) (lv' := [(3, .int (nI (i + 1))), (4, .ref (S + 2 + i)), (2, .int acc), (0, .ref S), (1, .ref f)]) dX4_shelterOf_58 1 rfl (nI_1 i) (by decide) rfl ?_
          refine x_goto (tgt := 4) dX4_shelterOf_61 (by decide) ?_
          refine x_sub [0, 2, 3, 4] rfl ?_
          exact ih _ _ (by omega) (by omega) (by
            unfold shelF at *
            rw [fd_s, ← hacc]
            rw [if_neg (fun q => absurd q.1 (Int32.not_lt.mpr c_35))])
        · refine x_aload dX4_shelterOf_38 0 rfl ?_
          refine x_gI (v := I (S + 2 + i) 4) dX4_shelterOf_40 fl_4_60 rfl (hS.2.2 i (by omega)) rfl ?_
          refine x_if_le (tgt := 58) dX4_shelterOf_43 (by decide) (fun c_43 => ?_) (fun c_43 => ?_)
          · refine x_iinc (v := nI (i + 1)) (lv' := [(3, .int (nI (i + 1))), (4, .ref (S + 2 + i)), (2, .int acc), (0, .ref S), (1, .ref f)]) dX4_shelterOf_58 1 rfl (nI_1 i) (by decide) rfl ?_
            refine x_goto (tgt := 4) dX4_shelterOf_61 (by decide) ?_
            refine x_sub [0, 2, 3, 4] rfl ?_
            exact ih _ _ (by omega) (by omega) (by
              unfold shelF at *
              rw [fd_s, ← hacc]
              rw [if_neg (fun q => absurd q.2.1 (Int32.not_lt.mpr c_43))])
          · refine x_aload dX4_shelterOf_46 0 rfl ?_
            refine x_gI (v := I (S + 2 + i) 0) dX4_shelterOf_48 fl_4_63 rfl (hS.2.2 i (by omega)) rfl ?_
            refine x_iconst (v := 2) dX4_shelterOf_51 (by decide) ?_
            refine x_icmp_eq (tgt := 58) dX4_shelterOf_52 (by decide) (fun c_52 => ?_) (fun c_52 => ?_)
            · refine x_iinc (v := nI (i + 1)) (lv' := [(3, .int (nI (i + 1))), (4, .ref (S + 2 + i)), (2, .int acc), (0, .ref S), (1, .ref f)]) dX4_shelterOf_58 1 rfl (nI_1 i) (by decide) rfl ?_
              refine x_goto (tgt := 4) dX4_shelterOf_61 (by decide) ?_
              refine x_sub [0, 2, 3, 4] rfl ?_
              exact ih _ _ (by omega) (by omega) (by
                unfold shelF at *
                rw [fd_s, ← hacc]
                rw [if_neg (fun q => q.2.2 c_52)])
            · obtain ⟨xq1, e_xq1⟩ : ∃ z : Int32, z = acc + 1 := ⟨_, rfl⟩
              refine x_iinc (v := xq1) (lv' := [(2, .int xq1), (4, .ref (S + 2 + i)), (3, .int (nI i)), (0, .ref S), (1, .ref f)]) dX4_shelterOf_55 2 rfl e_xq1.symm (by decide) rfl ?_
              refine x_iinc (v := nI (i + 1)) (lv' := [(3, .int (nI (i + 1))), (2, .int xq1), (4, .ref (S + 2 + i)), (0, .ref S), (1, .ref f)]) dX4_shelterOf_58 2 rfl (nI_1 i) (by decide) rfl ?_
              refine x_goto (tgt := 4) dX4_shelterOf_61 (by decide) ?_
              refine x_sub [0, 1, 3, 4] rfl ?_
              exact ih _ _ (by omega) (by omega) (by
                unfold shelF at *
                rw [fd_s, ← hacc]
                subst_vars
                rw [if_pos ⟨Int32.not_le.mp c_35, Int32.not_le.mp c_43, c_52⟩])

set_option maxHeartbeats 4000000 in
set_option maxRecDepth 100000 in
theorem k_shelterOf {G : GG} {Sh : HS} {I : HI} {R : HR} {S n : Nat} (hS : ShS Sh S) (hR : RS R S) (hn : I S 1 = nI n) (hn8 : n ≤ 8) {f : Nat} (hf : Sh.2 f = (0, 6)) : AM G 1 0 0 yX4_shelterOf cX4_shelterOf 5 (some .int) [.ref S, .ref f] (Sh, I, R) (qi fun r g => r = shelF (fun o k => I (S + 2 + o) k) (I f 2) n ∧ g = (Sh, I, R)) := by
  refine am_intro (by decide) (Nat.le_of_ble_eq_true rfl) ?_
  refine x_iconst (v := nI 0) dX4_shelterOf_0 (by decide) ?_
  refine x_istore_n (lv' := [(2, .int (nI 0)), (0, .ref S), (1, .ref f)]) dX4_shelterOf_1 rfl (by decide) rfl ?_
  refine x_iconst (v := nI 0) dX4_shelterOf_2 (by decide) ?_
  refine x_istore_n (lv' := [(3, .int (nI 0)), (2, .int (nI 0)), (0, .ref S), (1, .ref f)]) dX4_shelterOf_3 rfl (by decide) rfl ?_
  exact k_shelterOf_l hS hR hn hn8 hf (n + 1) 0 (nI 0) (by omega) (by omega) rfl

