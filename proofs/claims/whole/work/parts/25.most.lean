set_option maxHeartbeats 4000000 in
set_option maxRecDepth 100000 in
theorem k_most_l {G : GG} {Sh : HS} {I : HI} {R : HR} {S T n Gm w : Nat} {P : Nat → List Int32} (hG : ShG Sh Gm) (hRG : RG R Gm S) (hSG : S + 10 ≤ Gm) (hw : w < 3) {d : Nat} (hd : 8 ≤ d) (hleast : LeastC G Sh R S T n Gm P w d) {v : SV} {lo hi : Int32} (w0 : SW Sh I R S T n P) (hs0 : SR I S n v) : ∀ (m : Nat) (i : Nat) (val fo : Int32) (J : HI), (i ≤ n) → (n < i + m) → (abF val (mgF P n (mvF P n w) v i) lo hi) → (SR J S n v) → (frG T S Gm (w + 1) I J) → (lo.toInt < -792 → 792 < hi.toInt → val = (ffF P n (mvF P n w) v i).1 ∧ fo = (ffF P n (mvF P n w) v i).2) → X G (kM G (d + 1) 0 0 (qi fun r g => ∃ J : HI, g = (Sh, J, R) ∧ abF r (mvF P n (w + 1) v) lo hi ∧ SR J S n v ∧ frG T S Gm (w + 1) I J ∧ (lo.toInt < -792 → 792 < hi.toInt → 1 ≤ w + 1 → J Gm 2 = (ffF P n (mvF P n (w + 1 - 1)) v n).2))) yX1_most cX1_most 10 (some .int) 0 0 34 [(6, .int (nI i)), (5, .int val), (4, .int fo), (0, .ref Gm), (1, .int (nI (w + 1))), (2, .int lo), (3, .int hi)] [] (Sh, J, R) := by
  intro m
  induction m with
  | zero =>
    intro i val fo J hi_ hm hab hs hfr hff
    exact absurd hm (by omega)
  | succ m ih =>
    intro i val fo J hi_ hm hab hs hfr hff
    obtain ⟨hS, hR, hn, hn8, hrl, hT, hRT, hTX, hTS⟩ := id w0
    have w1 := w0.frG hSG hfr
    refine x_iload dX1_most_34 0 rfl ?_
    refine x_aload_n dX1_most_36 3 rfl rfl ?_
    refine x_gR (b := S) dX1_most_37 fl_1_16 rfl hG.1 hRG.1 ?_
    refine x_gI (v := nI n) dX1_most_40 fl_1_30 rfl hS.1 (w1.2.2.1) ?_
    refine x_icmp_ge (tgt := 137) dX1_most_43 (by decide) (fun c_43 => ?_) (fun c_43 => ?_)
    · have c_43 : n ≤ i := (nI_leI (a := n) (b := i) (by omega) (by omega)).mp c_43
      refine x_aload_n dX1_most_137 3 rfl rfl ?_
      refine x_iload dX1_most_138 2 rfl ?_
      refine x_pI dX1_most_140 fl_1_56 rfl rfl rfl hG.1 (fun Iq1 e_Iq1 => ?_)
      refine x_iload dX1_most_143 1 rfl ?_
      refine x_iret dX1_most_145 rfl (Nat.le_refl _) (Nat.le_refl _) ?_
      have hin : i = n := by omega
      subst hin
      exact ⟨Iq1, rfl, hab, ⟨fun j hj k hk => by rw [e_Iq1, u2_ne (by omega)]; exact hs.1 j hj k hk, by rw [e_Iq1, u2_ne (by omega)]; exact hs.2.1, by rw [e_Iq1, u2_ne (by omega)]; exact hs.2.2⟩, (fun a k q1 q2 q3 q4 q5 => by rw [e_Iq1, u2_ne (by omega)]; exact hfr a k q1 q2 q3 q4 q5), fun z1 z2 _ => by rw [e_Iq1, u2_same]; exact (hff z1 z2).2⟩
    · have c_43 : ¬ n ≤ i := fun zz9 => c_43 ((nI_leI (a := n) (b := i) (by omega) (by omega)).mpr zz9)
      refine x_iload dX1_most_46 1 rfl ?_
      refine x_iload_n dX1_most_48 6 rfl rfl ?_
      refine x_icmp_ge (tgt := 137) dX1_most_49 (by decide) (fun c_49 => ?_) (fun c_49 => ?_)
      · refine x_aload_n dX1_most_137 3 rfl rfl ?_
        refine x_iload dX1_most_138 2 rfl ?_
        refine x_pI dX1_most_140 fl_1_56 rfl rfl rfl hG.1 (fun Iq2 e_Iq2 => ?_)
        refine x_iload dX1_most_143 1 rfl ?_
        refine x_iret dX1_most_145 rfl (Nat.le_refl _) (Nat.le_refl _) ?_
        refine ⟨Iq2, rfl, ab_ge hab c_49 (mg_mono hi_), ⟨fun j hj k hk => by rw [e_Iq2, u2_ne (by omega)]; exact hs.1 j hj k hk, by rw [e_Iq2, u2_ne (by omega)]; exact hs.2.1, by rw [e_Iq2, u2_ne (by omega)]; exact hs.2.2⟩, (fun a k q1 q2 q3 q4 q5 => by rw [e_Iq2, u2_ne (by omega)]; exact hfr a k q1 q2 q3 q4 q5), fun z1 z2 _ => ?_⟩
        exfalso
        obtain ⟨h7, h8⟩ := hff z1 z2
        have h5 := small_mg (P := P) (n := n) (small_mv (P := P) hn8 w) v i
        have e3 := z2
        rw [ff_mg] at h7
        unfold smallI at h5
        rw [h7] at c_49
        simp only [Int32.le_iff_toInt_le] at c_49
        omega
      · refine x_aload_n dX1_most_52 3 rfl rfl ?_
        refine x_gR (b := S) dX1_most_53 fl_1_16 rfl hG.1 hRG.1 ?_
        refine x_iload dX1_most_56 0 rfl ?_
        refine x_callV (k_at_in (G := G) (I := J) hS hR w1.2.2.1 hn8 (i := i) (by omega)) dX1_most_58 crc_X4_at vc_1_34 hS.1 rfl rfl rfl rfl (Nat.le_of_ble_eq_true rfl) (roomy_k (by omega) (by decide)) (Nat.le_refl _) (Nat.le_refl _) ?_
        rintro _ _ ⟨_, rfl, rfl, rfl⟩
        refine x_astore (lv' := [(7, .ref (S + 2 + i)), (6, .int (nI i)), (5, .int val), (4, .int fo), (0, .ref Gm), (1, .int (nI (w + 1))), (2, .int lo), (3, .int hi)]) dX1_most_61 (by decide) rfl ?_
        refine x_aload dX1_most_63 0 rfl ?_
        refine x_ifnull dX1_most_65 ?_
        refine x_aload dX1_most_68 0 rfl ?_
        refine x_gI (v := v.1 i 3) dX1_most_70 fl_1_38 rfl (hS.2.2 i (by omega)) (hs.1 i (by omega) 3 (by omega)) ?_
        refine x_if_eq (tgt := 79) dX1_most_73 (by decide) (fun c_73 => ?_) (fun c_73 => ?_)
        · refine x_aload dX1_most_79 0 rfl ?_
          refine x_gI (v := v.1 i 4) dX1_most_81 fl_1_43 rfl (hS.2.2 i (by omega)) (hs.1 i (by omega) 4 (by omega)) ?_
          refine x_topi (fun xq3 e_xq3 => ?_)
          refine x_istore (lv' := [(8, .int xq3), (7, .ref (S + 2 + i)), (6, .int (nI i)), (5, .int val), (4, .int fo), (0, .ref Gm), (1, .int (nI (w + 1))), (2, .int lo), (3, .int hi)]) dX1_most_84 (by decide) rfl ?_
          refine x_aload_n dX1_most_86 5 rfl rfl ?_
          refine x_gR (b := S) dX1_most_87 fl_1_16 rfl hG.1 hRG.1 ?_
          refine x_aload dX1_most_90 1 rfl ?_
          refine x_callV (k_raise (G := G) (I := J) w1 hs (i := i) (by omega)) dX1_most_92 crc_X4_raise vc_1_46 hS.1 rfl rfl rfl rfl (Nat.le_of_ble_eq_true rfl) (roomy_k (by omega) (by decide)) (Nat.le_refl _) (Nat.le_refl _) ?_
          rintro _ _ ⟨rfl, J2, rfl, hs2, hf2⟩
          refine x_aload_n dX1_most_95 5 rfl rfl ?_
          refine x_iload_n dX1_most_96 6 rfl rfl ?_
          refine x_iload_n dX1_most_97 7 rfl rfl ?_
          refine x_iload dX1_most_98 3 rfl ?_
          refine x_mmax dX1_most_100 sc_1_50 (Nat.le_of_ble_eq_true rfl) (roomy_k (by omega) (by decide)) (Nat.le_refl _) (Nat.le_refl _) ?_
          refine x_iload_n dX1_most_103 8 rfl rfl ?_
          refine x_callV (hleast J2 (spadeF P n i v) (mxI lo val) hi (w1.fr hf2) hs2) dX1_most_104 crc_X1_least vc_1_26 hG.1 rfl rfl rfl rfl (Nat.le_of_ble_eq_true rfl) (roomy_k (by omega) (by decide)) (Nat.le_refl _) (Nat.le_refl _) ?_
          rintro _ _ ⟨r, rfl, J3, rfl, hab2, hs3, hf3⟩
          refine x_istore (lv' := [(9, .int r), (8, .int xq3), (7, .ref (S + 2 + i)), (6, .int (nI i)), (5, .int val), (4, .int fo), (0, .ref Gm), (1, .int (nI (w + 1))), (2, .int lo), (3, .int hi)]) dX1_most_107 (by decide) rfl ?_
          refine x_aload dX1_most_109 2 rfl ?_
          refine x_iload dX1_most_111 1 rfl ?_
          refine x_pI dX1_most_113 fl_1_43 rfl rfl rfl (hS.2.2 i (by omega)) (fun Iq4 e_Iq4 => ?_)
          refine x_iload dX1_most_116 0 rfl ?_
          refine x_iload dX1_most_118 4 rfl ?_
          refine x_icmp_le (tgt := 131) dX1_most_120 (by decide) (fun c_120 => ?_) (fun c_120 => ?_)
          · refine x_iinc (v := nI (i + 1)) (lv' := [(6, .int (nI (i + 1))), (9, .int r), (8, .int xq3), (7, .ref (S + 2 + i)), (5, .int val), (4, .int fo), (0, .ref Gm), (1, .int (nI (w + 1))), (2, .int lo), (3, .int hi)]) dX1_most_131 3 rfl (nI_1 i) (by decide) rfl ?_
            refine x_goto (tgt := 34) dX1_most_134 (by decide) ?_
            refine x_sub [0, 4, 5, 6, 7, 8, 9] rfl ?_
            exact ih (i + 1) val fo Iq4 (by omega) (by omega) (by
              have h9 := ab_max hab c_49 hab2
              rw [show mxI val r = val from if_neg (Int32.not_lt.mpr c_120)] at h9
              unfold mgF at *
              rw [fd_s, if_pos c_73]
              exact h9) (by rw [e_Iq4, e_xq3]; exact hs3.back (by omega)) (hfr.tr (hf2.g.tr (hf3.tr (fun a k q1 q2 q3 q4 q5 => by rw [e_Iq4, u2_ne (by omega)])))) (fun z1 z2 => by
              obtain ⟨h7, h8⟩ := hff z1 z2
              have h6 := small_lv (P := P) (n := n) (small_mv (P := P) hn8 w) (spadeF P n i v) n
              have h5 := small_mg (P := P) (n := n) (small_mv (P := P) hn8 w) v i
              have e3 := z2
              have h3 := mx_t (a := lo) (b := val)
              have e2 := z1
              rw [ff_mg] at h7
              have h4 : val < lvF P n (mvF P n w) (spadeF P n i v) n ↔ val < r := by
                unfold abF smallI at *
                rw [h7] at hab ⊢
                rw [h7] at h3 hab2
                simp only [Int32.lt_iff_toInt_lt, Int32.le_iff_toInt_le] at *
                omega
              have h2 : val < r → r = lvF P n (mvF P n w) (spadeF P n i v) n := by
                intro z
                have z3 := h4.mpr z
                refine ab_in hab2 ?_ ?_
                · unfold smallI at *
                  rw [h7] at z3 h3 ⊢
                  simp only [Int32.lt_iff_toInt_lt, Int32.le_iff_toInt_le] at *
                  omega
                · unfold smallI at *
                  simp only [Int32.lt_iff_toInt_lt] at *
                  omega
              unfold ffF at h8 ⊢
              rw [fd_s]
              have e1 : (fd (fun i b => if v.1 i 3 = 0 ∧ b.1 < lvF P n (mvF P n w) (spadeF P n i v) n then (lvF P n (mvF P n w) (spadeF P n i v) n, nI i) else b) (lvF P n (mvF P n w) v n, -1) i).1 = val := by
                have := ff_mg (P := P) (n := n) (g := mvF P n w) (v := v) (j := i)
                unfold ffF at this
                rw [this, h7]
              rw [if_neg (fun q => by
                have q2 := q.2
                rw [e1] at q2
                exact absurd (h4.mp q2) (Int32.not_lt.mpr c_120))]
              exact ⟨e1.symm, h8⟩)
          · refine x_iload dX1_most_123 0 rfl ?_
            refine x_istore (lv' := [(5, .int r), (9, .int r), (8, .int xq3), (7, .ref (S + 2 + i)), (6, .int (nI i)), (4, .int fo), (0, .ref Gm), (1, .int (nI (w + 1))), (2, .int lo), (3, .int hi)]) dX1_most_125 (by decide) rfl ?_
            refine x_iload dX1_most_127 4 rfl ?_
            refine x_istore (lv' := [(4, .int (nI i)), (5, .int r), (9, .int r), (8, .int xq3), (7, .ref (S + 2 + i)), (6, .int (nI i)), (0, .ref Gm), (1, .int (nI (w + 1))), (2, .int lo), (3, .int hi)]) dX1_most_129 (by decide) rfl ?_
            refine x_iinc (v := nI (i + 1)) (lv' := [(6, .int (nI (i + 1))), (4, .int (nI i)), (5, .int r), (9, .int r), (8, .int xq3), (7, .ref (S + 2 + i)), (0, .ref Gm), (1, .int (nI (w + 1))), (2, .int lo), (3, .int hi)]) dX1_most_131 5 rfl (nI_1 i) (by decide) rfl ?_
            refine x_goto (tgt := 34) dX1_most_134 (by decide) ?_
            refine x_sub [0, 2, 1, 6, 7, 8, 9] rfl ?_
            exact ih (i + 1) r (nI i) Iq4 (by omega) (by omega) (by
              have h9 := ab_max hab c_49 hab2
              rw [show mxI val r = r from if_pos (Int32.not_le.mp c_120)] at h9
              unfold mgF at *
              rw [fd_s, if_pos c_73]
              exact h9) (by rw [e_Iq4, e_xq3]; exact hs3.back (by omega)) (hfr.tr (hf2.g.tr (hf3.tr (fun a k q1 q2 q3 q4 q5 => by rw [e_Iq4, u2_ne (by omega)])))) (fun z1 z2 => by
              obtain ⟨h7, h8⟩ := hff z1 z2
              have h6 := small_lv (P := P) (n := n) (small_mv (P := P) hn8 w) (spadeF P n i v) n
              have h5 := small_mg (P := P) (n := n) (small_mv (P := P) hn8 w) v i
              have e3 := z2
              have h3 := mx_t (a := lo) (b := val)
              have e2 := z1
              rw [ff_mg] at h7
              have h4 : val < lvF P n (mvF P n w) (spadeF P n i v) n ↔ val < r := by
                unfold abF smallI at *
                rw [h7] at hab ⊢
                rw [h7] at h3 hab2
                simp only [Int32.lt_iff_toInt_lt, Int32.le_iff_toInt_le] at *
                omega
              have h2 : val < r → r = lvF P n (mvF P n w) (spadeF P n i v) n := by
                intro z
                have z3 := h4.mpr z
                refine ab_in hab2 ?_ ?_
                · unfold smallI at *
                  rw [h7] at z3 h3 ⊢
                  simp only [Int32.lt_iff_toInt_lt, Int32.le_iff_toInt_le] at *
                  omega
                · unfold smallI at *
                  simp only [Int32.lt_iff_toInt_lt] at *
                  omega
              unfold ffF at h8 ⊢
              rw [fd_s]
              have z := Int32.not_le.mp c_120
              have e1 : (fd (fun i b => if v.1 i 3 = 0 ∧ b.1 < lvF P n (mvF P n w) (spadeF P n i v) n then (lvF P n (mvF P n w) (spadeF P n i v) n, nI i) else b) (lvF P n (mvF P n w) v n, -1) i).1 = val := by
                have := ff_mg (P := P) (n := n) (g := mvF P n w) (v := v) (j := i)
                unfold ffF at this
                rw [this, h7]
              rw [if_pos ⟨c_73, by rw [e1]; exact h4.mpr z⟩]
              exact ⟨h2 z, rfl⟩)
        · refine x_goto (tgt := 131) dX1_most_76 (by decide) ?_
          refine x_iinc (v := nI (i + 1)) (lv' := [(6, .int (nI (i + 1))), (7, .ref (S + 2 + i)), (5, .int val), (4, .int fo), (0, .ref Gm), (1, .int (nI (w + 1))), (2, .int lo), (3, .int hi)]) dX1_most_131 1 rfl (nI_1 i) (by decide) rfl ?_
          refine x_goto (tgt := 34) dX1_most_134 (by decide) ?_
          refine x_sub [0, 2, 3, 4, 5, 6, 7] rfl ?_
          exact ih (i + 1) val fo J (by omega) (by omega) (by
            unfold mgF at *
            rw [fd_s, if_neg c_73]
            exact hab) hs hfr (fun z1 z2 => by
            have h8 := hff z1 z2
            unfold ffF at *
            rw [fd_s, if_neg (fun q => c_73 q.1)]
            exact h8)

set_option maxHeartbeats 4000000 in
set_option maxRecDepth 100000 in
theorem k_most_s {G : GG} {Sh : HS} {R : HR} {S T n Gm w : Nat} {P : Nat → List Int32} (hG : ShG Sh Gm) (hRG : RG R Gm S) (hSG : S + 10 ≤ Gm) (hw : w < 3) {d : Nat} (hd : 8 ≤ d) (hleast : LeastC G Sh R S T n Gm P w d) : MostC G Sh R S T n Gm P (w + 1) (d + 1) := by
  intro I v lo hi w0 hs0
  obtain ⟨hS, hR, hn, hn8, hrl, hT, hRT, hTX, hTS⟩ := id w0
  refine am_intro (by decide) (Nat.le_of_ble_eq_true rfl) ?_
  refine x_iload_n dX1_most_0 1 rfl rfl ?_
  refine x_iconst (v := 1) dX1_most_1 (by decide) ?_
  refine x_icmp_lt (tgt := 10) dX1_most_2 (by decide) (fun c_2 => False.elim (by have := (nI_ltI (a := w + 1) (b := 1) (by omega) (by omega)).mp c_2; omega)) (fun c_2 => ?_)
  refine x_iload_n dX1_most_5 1 rfl rfl ?_
  refine x_iconst (v := 3) dX1_most_6 (by decide) ?_
  refine x_icmp_le (tgt := 19) dX1_most_7 (by decide) (fun c_7 => ?_) (fun c_7 => False.elim (c_7 ((nI_leI (a := w + 1) (b := 3) (by omega) (by omega)).mpr (by omega))))
  refine x_iconst (v := (-1)) dX1_most_19 (by decide) ?_
  refine x_istore (lv' := [(4, .int (-1)), (0, .ref Gm), (1, .int (nI (w + 1))), (2, .int lo), (3, .int hi)]) dX1_most_20 (by decide) rfl ?_
  refine x_aload_n dX1_most_22 1 rfl rfl ?_
  refine x_iload_n dX1_most_23 2 rfl rfl ?_
  refine x_iload_n dX1_most_24 3 rfl rfl ?_
  refine x_iload_n dX1_most_25 4 rfl rfl ?_
  refine x_callV (hleast I v lo hi w0 hs0) dX1_most_26 crc_X1_least vc_1_26 hG.1 rfl rfl rfl rfl (Nat.le_of_ble_eq_true rfl) (roomy_k (by omega) (by decide)) (Nat.le_refl _) (Nat.le_refl _) ?_
  rintro _ _ ⟨r, rfl, J3, rfl, hab2, hs3, hf3⟩
  refine x_istore (lv' := [(5, .int r), (4, .int (-1)), (0, .ref Gm), (1, .int (nI (w + 1))), (2, .int lo), (3, .int hi)]) dX1_most_29 (by decide) rfl ?_
  refine x_iconst (v := 0) dX1_most_31 (by decide) ?_
  refine x_istore (lv' := [(6, .int 0), (5, .int r), (4, .int (-1)), (0, .ref Gm), (1, .int (nI (w + 1))), (2, .int lo), (3, .int hi)]) dX1_most_32 (by decide) rfl ?_
  exact k_most_l hG hRG hSG hw hd hleast w0 hs0 (n + 1) 0 r (-1) J3 (by omega) (by omega) hab2 hs3 hf3 (fun z1 z2 => ⟨by
    have h6 := small_lv (P := P) (n := n) (small_mv (P := P) hn8 w) v n
    show r = lvF P n (mvF P n w) v n
    refine ab_in hab2 ?_ ?_
    · rw [Int32.lt_iff_toInt_lt]
      unfold smallI at h6
      omega
    · rw [Int32.lt_iff_toInt_lt]
      unfold smallI at h6
      omega, rfl⟩)

set_option maxHeartbeats 4000000 in
set_option maxRecDepth 100000 in
theorem k_most_0 {G : GG} {Sh : HS} {R : HR} {S T n Gm : Nat} {P : Nat → List Int32} (hG : ShG Sh Gm) (hRG : RG R Gm S) (hSG : S + 10 ≤ Gm) : MostC G Sh R S T n Gm P 0 6 := by
  intro I v lo hi w0 hs0
  obtain ⟨hS, hR, hn, hn8, hrl, hT, hRT, hTX, hTS⟩ := id w0
  refine am_intro (by decide) (Nat.le_of_ble_eq_true rfl) ?_
  refine x_iload_n dX1_most_0 1 rfl rfl ?_
  refine x_iconst (v := 1) dX1_most_1 (by decide) ?_
  refine x_icmp_lt (tgt := 10) dX1_most_2 (by decide) (fun c_2 => ?_) (fun c_2 => False.elim (c_2 (by decide)))
  refine x_aload_n dX1_most_10 0 rfl rfl ?_
  refine x_gR (b := S) dX1_most_11 fl_1_16 rfl hG.1 hRG.1 ?_
  refine x_iconst (v := 0) dX1_most_14 (by decide) ?_
  refine x_callV (k_valueOf (G := G) (I := I) w0 hs0 (r := 0)) dX1_most_15 crc_X4_valueOf vc_1_20 hS.1 rfl rfl rfl rfl (Nat.le_of_ble_eq_true rfl) (roomy_k (by omega) (by decide)) (Nat.le_refl _) (Nat.le_refl _) ?_
  rintro _ _ ⟨r, rfl, hr, J, hoff, rfl⟩
  refine x_iret dX1_most_18 rfl (Nat.le_refl _) (Nat.le_refl _) ?_
  subst hr
  exact ⟨J, rfl, ⟨fun _ => Int32.le_refl _, fun _ => Int32.le_refl _⟩, hs0.off hoff hTS, hoff.fr.g, fun _ _ q => absurd q (by omega)⟩

/-- THE GAME of w waves, from this world on -/
theorem k_most {G : GG} {Sh : HS} {R : HR} {S T n Gm : Nat} {P : Nat → List Int32} (hG : ShG Sh Gm) (hRG : RG R Gm S) (hSG : S + 10 ≤ Gm) : ∀ w : Nat, w ≤ 3 → MostC G Sh R S T n Gm P w (6 + 3 * w)
  | 0, _ => k_most_0 hG hRG hSG
  | w + 1, h => k_most_s hG hRG hSG (by omega) (d := 6 + 3 * w + 2) (by omega) (k_least hG hRG hSG (by omega) (d := 6 + 3 * w + 1) (by omega) (k_beh hG hRG hSG (by omega) (d := 6 + 3 * w) (by omega) (k_most hG hRG hSG w (by omega))))

