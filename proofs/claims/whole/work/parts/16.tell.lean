theorem push_ok {T : Nat} {I J : HI} {v : Int32} {st : List Int32} (h : offT T I J) (hs : stkF (J (T + 2)) st) : ∃ J' : HI, J' = u2 (u2 J (T + 2) st.length v) T 6 (nI (st.length + 1)) ∧ offT T I J' ∧ J' T 6 = nI (v :: st).length ∧ stkF (J' (T + 2)) (v :: st) := by
  refine ⟨_, rfl, fun a k q => ?_, u2_same, ?_, ?_⟩
  · rw [u2_ne (fun e => q (Or.inl e)), u2_ne (fun e => q (Or.inr e.1))]
    exact h a k q
  · rw [u2_ne (by omega), u2_same]
  · refine hs.up (fun j hj => ?_)
    rw [u2_ne (by omega), u2_ne (by omega)]
theorem pop_ok {T : Nat} {I J : HI} {x : Int32} {st : List Int32} (h : offT T I J) (hs : stkF (J (T + 2)) (x :: st)) : ∃ J' : HI, J' = u2 J T 6 (nI st.length) ∧ offT T I J' ∧ J' T 6 = nI st.length ∧ stkF (J' (T + 2)) st := by
  refine ⟨_, rfl, fun a k q => ?_, u2_same, ?_⟩
  · rw [u2_ne (fun e => q (Or.inl e))]
    exact h a k q
  · refine hs.2.up (fun j hj => ?_)
    rw [u2_ne (by omega)]

set_option maxHeartbeats 4000000 in
set_option maxRecDepth 100000 in
theorem k_tell_l {G : GG} {Sh : HS} {I : HI} {R : HR} {T : Nat} (hT : ShT Sh T) (hRT : RT R T) {S n f : Nat} (hS : ShS Sh S) (hR : RS R S) (hn : I S 1 = nI n) (hn8 : n ≤ 8) (hf : Sh.2 f = (0, 6)) (hTS : T + 3 ≤ S) (hSf : S ≤ f) {P : List Int32} {fr to : Nat} (hP : atF I T fr P) (hto : to = fr + P.length) (hto2 : to ≤ 160) (hok0 : okF P 0) : ∀ (m : Nat) (i : Nat) (st : List Int32) (J : HI), (i ≤ P.length) → (P.length < i + m) → (offT T I J) → (J T 6 = nI st.length) → (stkF (J (T + 2)) st) → (st.length ≤ 40) → (okF (P.drop i) st.length) → (evF (cxI I S f n) (P.drop i) st = evF (cxI I S f n) P []) → X G (kM G 3 0 0 (qi fun r g => r = mxI 0 (topF (cxI I S f n) P) ∧ ∃ I2 : HI, offT T I I2 ∧ g = (Sh, I2, R))) yX6_tell cX6_tell 8 (some .int) 0 0 8 [(5, .int (nI (fr + i))), (0, .ref T), (1, .int (nI fr)), (2, .int (nI to)), (3, .ref S), (4, .ref f)] [] (Sh, J, R) := by
  intro m
  induction m with
  | zero =>
    intro i st J hi hm hoff hdep hst hl40 hok hev
    exact absurd hm (by omega)
  | succ m ih =>
    intro i st J hi hm hoff hdep hst hl40 hok hev
    refine x_iload dX6_tell_8 0 rfl ?_
    refine x_if_lt (tgt := 145) dX6_tell_10 (by decide) (fun c_10 => False.elim (nI_pos (by omega) c_10)) (fun c_10 => ?_)
    refine x_iload dX6_tell_13 0 rfl ?_
    refine x_iload_n dX6_tell_15 3 rfl rfl ?_
    refine x_icmp_ge (tgt := 145) dX6_tell_16 (by decide) (fun c_16 => ?_) (fun c_16 => ?_)
    · have c_16 : to ≤ (fr + i) := (nI_leI (a := to) (b := (fr + i)) (by omega) (by omega)).mp c_16
      have hi2 : i = P.length := by omega
      rw [hi2, List.drop_length] at hok hev
      have hlen : st.length = 1 := hok
      obtain ⟨v, rfl⟩ := List.length_eq_one_iff.mp hlen
      have hev : [v] = evF (cxI I S f n) P [] := hev
      refine x_iconst (v := 0) dX6_tell_145 (by decide) ?_
      refine x_aload_n dX6_tell_146 1 rfl rfl ?_
      refine x_callV (k_pop (G := G) (I := J) hT hRT (d := 0) hdep (by omega)) dX6_tell_147 crc_X6_pop vc_6_52 hT.1 rfl rfl rfl rfl (Nat.le_of_ble_eq_true rfl) (roomy_k (by omega) (by decide)) (Nat.le_refl _) (Nat.le_refl _) ?_
      rintro _ _ ⟨r, rfl, hr, rfl⟩
      refine x_vali (hr.trans hst.1) ?_
      refine x_mmax dX6_tell_150 sc_6_64 (Nat.le_of_ble_eq_true rfl) (roomy_k (by omega) (by decide)) (Nat.le_refl _) (Nat.le_refl _) ?_
      refine x_iret dX6_tell_153 rfl (Nat.le_refl _) (Nat.le_refl _) ?_
      refine ⟨?_, _, ?_, rfl⟩
      · unfold topF
        rw [← hev]
        rfl
      · obtain ⟨J1, e1, hoff1, hdep1, hst1⟩ := pop_ok hoff hst
        rw [show u2 J T 6 (nI 0) = J1 from e1.symm]
        exact hoff1
    · have c_16 : ¬ to ≤ (fr + i) := fun q => c_16 ((nI_leI (a := to) (b := (fr + i)) (by omega) (by omega)).mpr q)
      refine x_iload dX6_tell_19 0 rfl ?_
      refine x_sipush (v := 160) dX6_tell_21 (by decide) ?_
      refine x_icmp_ge (tgt := 145) dX6_tell_24 (by decide) (fun c_24 => False.elim (by have := (nI_leI (a := 160) (b := fr + i) (by omega) (by omega)).mp c_24; omega)) (fun c_24 => ?_)
      obtain ⟨x, hx⟩ : ∃ x, P[i]? = some x := ⟨P[i], List.getElem?_eq_getElem (by omega)⟩
      refine x_aload_n dX6_tell_27 1 rfl rfl ?_
      refine x_gR (b := T + 1) dX6_tell_28 fl_6_9 rfl hT.1 hRT.1 ?_
      refine x_iload dX6_tell_31 0 rfl ?_
      refine x_ia (j := fr + i) (v := x) dX6_tell_33 hT.2.1 rfl (by omega) (by omega) (by rw [hoff (T + 1) (fr + i) (by unfold scr; omega)]; exact hP i x hx) ?_
      refine x_istore (lv' := [(6, .int x), (5, .int (nI (fr + i))), (0, .ref T), (1, .int (nI fr)), (2, .int (nI to)), (3, .ref S), (4, .ref f)]) dX6_tell_34 (by decide) rfl ?_
      rw [drop_at hx] at hok hev
      have hev : evF (cxI I S f n) (P.drop (i + 1)) (stepF (cxI I S f n) x st) = evF (cxI I S f n) P [] := hev
      refine x_iload dX6_tell_36 0 rfl ?_
      refine x_if_lt (tgt := 50) dX6_tell_38 (by decide) (fun c_38 => ?_) (fun c_38 => ?_)
      · refine x_iload dX6_tell_50 0 rfl ?_
        refine x_bipush (v := (-6)) dX6_tell_52 (by decide) ?_
        refine x_icmp_lt (tgt := 72) dX6_tell_54 (by decide) (fun c_54 => ?_) (fun c_54 => ?_)
        · refine x_iload dX6_tell_72 0 rfl ?_
          refine x_bipush (v := (-8)) dX6_tell_74 (by decide) ?_
          refine x_icmp_lt (tgt := 118) dX6_tell_76 (by decide) (fun c_76 => ?_) (fun c_76 => ?_)
          · refine x_aload_n dX6_tell_118 2 rfl rfl ?_
            have hk := ok_bin hok c_54 c_76
            obtain ⟨b, a, t, rfl⟩ : ∃ b a t, st = b :: a :: t := by
              cases st with
              | nil => exact absurd hk.1 (by decide)
              | cons b t0 =>
                cases t0 with
                | nil => exact absurd hk.1 (by simp)
                | cons a t => exact ⟨b, a, t, rfl⟩
            refine x_callV (k_pop (G := G) (I := J) hT hRT (d := (a :: t).length) hdep (by simp at hl40 ⊢; omega)) dX6_tell_119 crc_X6_pop vc_6_52 hT.1 rfl rfl rfl rfl (Nat.le_of_ble_eq_true rfl) (roomy_k (by omega) (by decide)) (Nat.le_refl _) (Nat.le_refl _) ?_
            rintro _ _ ⟨r, rfl, hr, rfl⟩
            refine x_vali (hr.trans hst.1) ?_
            obtain ⟨J1, e1, hoff1, hdep1, hst1⟩ := pop_ok hoff hst
            rw [← e1]
            refine x_istore (lv' := [(7, .int b), (6, .int x), (5, .int (nI (fr + i))), (0, .ref T), (1, .int (nI fr)), (2, .int (nI to)), (3, .ref S), (4, .ref f)]) dX6_tell_122 (by decide) rfl ?_
            refine x_aload_n dX6_tell_124 3 rfl rfl ?_
            refine x_iload dX6_tell_125 1 rfl ?_
            refine x_aload_n dX6_tell_127 3 rfl rfl ?_
            refine x_callV (k_pop (G := G) (I := J1) hT hRT (d := t.length) hdep1 (by simp at hl40; omega)) dX6_tell_128 crc_X6_pop vc_6_52 hT.1 rfl rfl rfl rfl (Nat.le_of_ble_eq_true rfl) (roomy_k (by omega) (by decide)) (Nat.le_refl _) (Nat.le_refl _) ?_
            rintro _ _ ⟨r, rfl, hr2, rfl⟩
            refine x_vali (hr2.trans hst1.1) ?_
            obtain ⟨J2, e2, hoff2, hdep2, hst2⟩ := pop_ok hoff1 hst1
            rw [← e2]
            refine x_iload dX6_tell_131 0 rfl ?_
            refine x_callS (rest := [.ref T]) (k_joined (G := G) (Sh := Sh) (I := J2) (R := R) (c := x) (a := a) (b := b)) dX6_tell_133 crc_X6_joined sc_6_60 rfl rfl (Nat.le_of_ble_eq_true rfl) (roomy_k (by omega) (by decide)) (Nat.le_refl _) (Nat.le_refl _) ?_
            rintro _ _ ⟨r3, rfl, hr3, rfl⟩
            refine x_callV (k_push (G := G) (I := J2) hT hRT (v := r3) (d := t.length) hdep2 (by simp at hl40; omega)) dX6_tell_136 crc_X6_push vc_6_44 hT.1 rfl rfl rfl rfl (Nat.le_of_ble_eq_true rfl) (roomy_k (by omega) (by decide)) (Nat.le_refl _) (Nat.le_refl _) ?_
            rintro _ _ ⟨rfl, rfl⟩
            obtain ⟨J3, e3, hoff3, hdep3, hst3⟩ := push_ok (v := r3) hoff2 hst2
            rw [← e3]
            refine x_iinc (v := nI (fr + i + 1)) (lv' := [(5, .int (nI (fr + i + 1))), (7, .int b), (6, .int x), (0, .ref T), (1, .int (nI fr)), (2, .int (nI to)), (3, .ref S), (4, .ref f)]) dX6_tell_139 2 rfl (nI_1 (fr + i)) (by decide) rfl ?_
            refine x_goto (tgt := 8) dX6_tell_142 (by decide) ?_
            refine x_sub [0, 3, 4, 5, 6, 7] rfl ?_
            rw [step_bin c_38 c_54 c_76, ← hr3] at hev
            exact ih (i + 1) (r3 :: t) J3 (by omega) (by omega) hoff3 hdep3 hst3 (by simp at hl40 ⊢; omega) hk.2 hev
          · refine x_aload_n dX6_tell_79 2 rfl rfl ?_
            have hk := ok_un hok c_54 c_76
            obtain ⟨a, t, rfl⟩ : ∃ a t, st = a :: t := by
              cases st with
              | nil => exact absurd hk.1 (by decide)
              | cons a t => exact ⟨a, t, rfl⟩
            refine x_callV (k_pop (G := G) (I := J) hT hRT (d := t.length) hdep (by simp at hl40; omega)) dX6_tell_80 crc_X6_pop vc_6_52 hT.1 rfl rfl rfl rfl (Nat.le_of_ble_eq_true rfl) (roomy_k (by omega) (by decide)) (Nat.le_refl _) (Nat.le_refl _) ?_
            rintro _ _ ⟨r, rfl, hr, rfl⟩
            refine x_vali (hr.trans hst.1) ?_
            obtain ⟨J1, e1, hoff1, hdep1, hst1⟩ := pop_ok hoff hst
            rw [← e1]
            refine x_istore (lv' := [(7, .int a), (6, .int x), (5, .int (nI (fr + i))), (0, .ref T), (1, .int (nI fr)), (2, .int (nI to)), (3, .ref S), (4, .ref f)]) dX6_tell_83 (by decide) rfl ?_
            refine x_aload_n dX6_tell_85 3 rfl rfl ?_
            refine x_iload dX6_tell_86 1 rfl ?_
            refine x_bipush (v := (-8)) dX6_tell_88 (by decide) ?_
            refine x_icmp_ne (tgt := 99) dX6_tell_90 (by decide) (fun c_90 => ?_) (fun c_90 => ?_)
            · refine x_iload dX6_tell_99 0 rfl ?_
              refine x_if_ne (tgt := 108) dX6_tell_101 (by decide) (fun c_101 => ?_) (fun c_101 => ?_)
              · refine x_iconst (v := 0) dX6_tell_108 (by decide) ?_
                refine x_callS (rest := [.ref T]) (k_truth (G := G) (Sh := Sh) (I := J1) (R := R) (b := 0) (by first | exact Or.inl rfl | exact Or.inr rfl)) dX6_tell_109 crc_X6_truth sc_6_56 rfl rfl (Nat.le_of_ble_eq_true rfl) (roomy_k (by omega) (by decide)) (Nat.le_refl _) (Nat.le_refl _) ?_
                rintro _ _ ⟨r2, rfl, hr2, rfl⟩
                subst hr2
                refine x_callV (k_push (G := G) (I := J1) hT hRT (v := 0) (d := t.length) hdep1 (by simp at hl40; omega)) dX6_tell_112 crc_X6_push vc_6_44 hT.1 rfl rfl rfl rfl (Nat.le_of_ble_eq_true rfl) (roomy_k (by omega) (by decide)) (Nat.le_refl _) (Nat.le_refl _) ?_
                rintro _ _ ⟨rfl, rfl⟩
                obtain ⟨J3, e3, hoff3, hdep3, hst3⟩ := push_ok (v := 0) hoff1 hst1
                rw [← e3]
                refine x_goto (tgt := 139) dX6_tell_115 (by decide) ?_
                refine x_iinc (v := nI (fr + i + 1)) (lv' := [(5, .int (nI (fr + i + 1))), (7, .int a), (6, .int x), (0, .ref T), (1, .int (nI fr)), (2, .int (nI to)), (3, .ref S), (4, .ref f)]) dX6_tell_139 2 rfl (nI_1 (fr + i)) (by decide) rfl ?_
                refine x_goto (tgt := 8) dX6_tell_142 (by decide) ?_
                refine x_sub [0, 3, 4, 5, 6, 7] rfl ?_
                rw [step_un c_38 c_54 c_76, if_neg c_90, bI_f c_101] at hev
                exact ih (i + 1) (0 :: t) J3 (by omega) (by omega) hoff3 hdep3 hst3 (by simp at hl40 ⊢; omega) hk.2 hev
              · refine x_iconst (v := 1) dX6_tell_104 (by decide) ?_
                refine x_goto (tgt := 109) dX6_tell_105 (by decide) ?_
                refine x_callS (rest := [.ref T]) (k_truth (G := G) (Sh := Sh) (I := J1) (R := R) (b := 1) (by first | exact Or.inl rfl | exact Or.inr rfl)) dX6_tell_109 crc_X6_truth sc_6_56 rfl rfl (Nat.le_of_ble_eq_true rfl) (roomy_k (by omega) (by decide)) (Nat.le_refl _) (Nat.le_refl _) ?_
                rintro _ _ ⟨r2, rfl, hr2, rfl⟩
                subst hr2
                refine x_callV (k_push (G := G) (I := J1) hT hRT (v := 1) (d := t.length) hdep1 (by simp at hl40; omega)) dX6_tell_112 crc_X6_push vc_6_44 hT.1 rfl rfl rfl rfl (Nat.le_of_ble_eq_true rfl) (roomy_k (by omega) (by decide)) (Nat.le_refl _) (Nat.le_refl _) ?_
                rintro _ _ ⟨rfl, rfl⟩
                obtain ⟨J3, e3, hoff3, hdep3, hst3⟩ := push_ok (v := 1) hoff1 hst1
                rw [← e3]
                refine x_goto (tgt := 139) dX6_tell_115 (by decide) ?_
                refine x_iinc (v := nI (fr + i + 1)) (lv' := [(5, .int (nI (fr + i + 1))), (7, .int a), (6, .int x), (0, .ref T), (1, .int (nI fr)), (2, .int (nI to)), (3, .ref S), (4, .ref f)]) dX6_tell_139 2 rfl (nI_1 (fr + i)) (by decide) rfl ?_
                refine x_goto (tgt := 8) dX6_tell_142 (by decide) ?_
                refine x_sub [0, 3, 4, 5, 6, 7] rfl ?_
                rw [step_un c_38 c_54 c_76, if_neg c_90, bI_t c_101] at hev
                exact ih (i + 1) (1 :: t) J3 (by omega) (by omega) hoff3 hdep3 hst3 (by simp at hl40 ⊢; omega) hk.2 hev
            · refine x_iload dX6_tell_93 0 rfl ?_
              refine x_ineg dX6_tell_95 ?_
              refine x_goto (tgt := 112) dX6_tell_96 (by decide) ?_
              refine x_callV (k_push (G := G) (I := J1) hT hRT (v := -a) (d := t.length) hdep1 (by simp at hl40; omega)) dX6_tell_112 crc_X6_push vc_6_44 hT.1 rfl rfl rfl rfl (Nat.le_of_ble_eq_true rfl) (roomy_k (by omega) (by decide)) (Nat.le_refl _) (Nat.le_refl _) ?_
              rintro _ _ ⟨rfl, rfl⟩
              obtain ⟨J3, e3, hoff3, hdep3, hst3⟩ := push_ok (v := -a) hoff1 hst1
              rw [← e3]
              refine x_goto (tgt := 139) dX6_tell_115 (by decide) ?_
              refine x_iinc (v := nI (fr + i + 1)) (lv' := [(5, .int (nI (fr + i + 1))), (7, .int a), (6, .int x), (0, .ref T), (1, .int (nI fr)), (2, .int (nI to)), (3, .ref S), (4, .ref f)]) dX6_tell_139 2 rfl (nI_1 (fr + i)) (by decide) rfl ?_
              refine x_goto (tgt := 8) dX6_tell_142 (by decide) ?_
              refine x_sub [0, 3, 4, 5, 6, 7] rfl ?_
              rw [step_un c_38 c_54 c_76, if_pos c_90] at hev
              exact ih (i + 1) ((-a) :: t) J3 (by omega) (by omega) hoff3 hdep3 hst3 (by simp at hl40 ⊢; omega) hk.2 hev
        · refine x_aload_n dX6_tell_57 2 rfl rfl ?_
          refine x_iload dX6_tell_58 0 rfl ?_
          refine x_aload_n dX6_tell_60 5 rfl rfl ?_
          refine x_aload dX6_tell_61 6 rfl ?_
          refine x_callS (rest := [.ref T]) (k_named (G := G) (I := J) hS hR ((hoff.out hTS).trans hn) hn8 hf (x := x)) dX6_tell_63 crc_X6_named sc_6_48 rfl rfl (Nat.le_of_ble_eq_true rfl) (roomy_k (by omega) (by decide)) (Nat.le_refl _) (Nat.le_refl _) ?_
          rintro _ _ ⟨r, rfl, hr, rfl⟩
          rw [cx_off hoff hTS hSf] at hr
          have hk := ok_num hok c_54
          refine x_callV (k_push (G := G) (I := J) hT hRT (v := r) (d := st.length) hdep hk.1) dX6_tell_66 crc_X6_push vc_6_44 hT.1 rfl rfl rfl rfl (Nat.le_of_ble_eq_true rfl) (roomy_k (by omega) (by decide)) (Nat.le_refl _) (Nat.le_refl _) ?_
          rintro _ _ ⟨rfl, rfl⟩
          obtain ⟨J3, e3, hoff3, hdep3, hst3⟩ := push_ok (v := r) hoff hst
          rw [← e3]
          refine x_goto (tgt := 139) dX6_tell_69 (by decide) ?_
          refine x_iinc (v := nI (fr + i + 1)) (lv' := [(5, .int (nI (fr + i + 1))), (6, .int x), (0, .ref T), (1, .int (nI fr)), (2, .int (nI to)), (3, .ref S), (4, .ref f)]) dX6_tell_139 1 rfl (nI_1 (fr + i)) (by decide) rfl ?_
          refine x_goto (tgt := 8) dX6_tell_142 (by decide) ?_
          refine x_sub [0, 2, 3, 4, 5, 6] rfl ?_
          rw [step_name c_38 c_54, ← hr] at hev
          exact ih (i + 1) (r :: st) J3 (by omega) (by omega) hoff3 hdep3 hst3 (by have := hk.1; simp; omega) hk.2 hev
      · refine x_aload_n dX6_tell_41 2 rfl rfl ?_
        refine x_iload dX6_tell_42 0 rfl ?_
        have hk := ok_num hok (fun q => c_38 (Int32.lt_trans q (by decide)))
        refine x_callV (k_push (G := G) (I := J) hT hRT (v := x) (d := st.length) hdep hk.1) dX6_tell_44 crc_X6_push vc_6_44 hT.1 rfl rfl rfl rfl (Nat.le_of_ble_eq_true rfl) (roomy_k (by omega) (by decide)) (Nat.le_refl _) (Nat.le_refl _) ?_
        rintro _ _ ⟨rfl, rfl⟩
        obtain ⟨J3, e3, hoff3, hdep3, hst3⟩ := push_ok (v := x) hoff hst
        rw [← e3]
        refine x_goto (tgt := 139) dX6_tell_47 (by decide) ?_
        refine x_iinc (v := nI (fr + i + 1)) (lv' := [(5, .int (nI (fr + i + 1))), (6, .int x), (0, .ref T), (1, .int (nI fr)), (2, .int (nI to)), (3, .ref S), (4, .ref f)]) dX6_tell_139 1 rfl (nI_1 (fr + i)) (by decide) rfl ?_
        refine x_goto (tgt := 8) dX6_tell_142 (by decide) ?_
        refine x_sub [0, 2, 3, 4, 5, 6] rfl ?_
        rw [step_num c_38] at hev
        exact ih (i + 1) (x :: st) J3 (by omega) (by omega) hoff3 hdep3 hst3 (by have := hk.1; simp; omega) hk.2 hev

set_option maxHeartbeats 4000000 in
set_option maxRecDepth 100000 in
theorem k_tell {G : GG} {Sh : HS} {I : HI} {R : HR} {T : Nat} (hT : ShT Sh T) (hRT : RT R T) {S n f : Nat} (hS : ShS Sh S) (hR : RS R S) (hn : I S 1 = nI n) (hn8 : n ≤ 8) (hf : Sh.2 f = (0, 6)) (hTS : T + 3 ≤ S) (hSf : S ≤ f) {P : List Int32} {fr to : Nat} (hP : atF I T fr P) (hto : to = fr + P.length) (hto2 : to ≤ 160) (hok0 : okF P 0) : AM G 3 0 0 yX6_tell cX6_tell 8 (some .int) [.ref T, .int (nI fr), .int (nI to), .ref S, .ref f] (Sh, I, R) (qi fun r g => r = mxI 0 (topF (cxI I S f n) P) ∧ ∃ I2 : HI, offT T I I2 ∧ g = (Sh, I2, R)) := by
  refine am_intro (by decide) (Nat.le_of_ble_eq_true rfl) ?_
  refine x_aload_n dX6_tell_0 0 rfl rfl ?_
  refine x_iconst (v := 0) dX6_tell_1 (by decide) ?_
  refine x_pI dX6_tell_2 fl_6_41 rfl rfl rfl hT.1 (fun Iq1 e_Iq1 => ?_)
  refine x_iload_n dX6_tell_5 1 rfl rfl ?_
  refine x_istore (lv' := [(5, .int (nI fr)), (0, .ref T), (1, .int (nI fr)), (2, .int (nI to)), (3, .ref S), (4, .ref f)]) dX6_tell_6 (by decide) rfl ?_
  exact k_tell_l hT hRT hS hR hn hn8 hf hTS hSf hP hto hto2 hok0 (P.length + 1) 0 [] Iq1 (by omega) (by omega) (fun a k q => by rw [e_Iq1]; exact u2_ne (fun e => q (Or.inl e))) (by rw [e_Iq1]; exact u2_same) trivial (by simp) hok0 rfl

