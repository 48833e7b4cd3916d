/-! THE GAME, as the reference searches it -/
noncomputable def evP (P : Nat → List Int32) (n : Nat) (g : SV → Int32) (v : SV) (j : Nat) : Int32 × Int32 := fd (fun i b => if v.1 i 3 = 0 ∧ b.1 < g (spadeF P n i v) then (g (spadeF P n i v), nI i) else b) (g v, -1) j
noncomputable def odP (P : Nat → List Int32) (n : Nat) (g : SV → Int32) (v : SV) (j : Nat) : Int32 × Int32 := fd (fun i b => if v.1 i 3 = 1 ∧ g (beatF P n (spadeF P n i v)) < b.1 then (g (beatF P n (spadeF P n i v)), nI i) else b) (g (beatF P n v), -1) j
noncomputable def seP (P : Nat → List Int32) (n L : Nat) (g : SV → Int32) (v : SV) (j : Nat) : Int32 × Int32 := if (L + 1) % 2 = 0 then evP P n g v j else odP P n g v j
noncomputable def seV (P : Nat → List Int32) (n : Nat) : Nat → SV → Int32
  | 0, v => valueF P n 0 v
  | L + 1, v => (seP P n L (seV P n L) v n).1
theorem od_lv {P : Nat → List Int32} {n : Nat} {g : SV → Int32} {v : SV} {j : Nat} : (odP P n g v j).1 = lvF P n g v j := by
  induction j with
  | zero => rfl
  | succ j ih =>
    unfold odP lvF at *
    rw [fd_s, fd_s]
    by_cases h : v.1 j 3 = 1
    · rw [if_pos h]
      by_cases h2 : g (beatF P n (spadeF P n j v)) < (fd (fun i b => if v.1 i 3 = 1 ∧ g (beatF P n (spadeF P n i v)) < b.1 then (g (beatF P n (spadeF P n i v)), nI i) else b) (g (beatF P n v), -1) j).1
      · rw [if_pos ⟨h, h2⟩, ← ih]
        unfold mnI
        rw [if_pos h2]
      · rw [if_neg (fun q => h2 q.2), ← ih]
        unfold mnI
        rw [if_neg h2]
    · rw [if_neg h, if_neg (fun q => h q.1), ih]
theorem se_mv {P : Nat → List Int32} {n : Nat} (w : Nat) : (∀ v, seV P n (2 * w) v = mvF P n w v) ∧ ∀ v, seV P n (2 * w + 1) v = lvF P n (mvF P n w) v n := by
  have odd : ∀ w, (∀ v, seV P n (2 * w) v = mvF P n w v) → ∀ v, seV P n (2 * w + 1) v = lvF P n (mvF P n w) v n := by
    intro w h v
    show (seP P n (2 * w) (seV P n (2 * w)) v n).1 = _
    unfold seP
    rw [if_neg (by omega), od_lv, show seV P n (2 * w) = mvF P n w from funext h]
  induction w with
  | zero => exact ⟨fun _ => rfl, odd 0 (fun _ => rfl)⟩
  | succ w ih =>
    have h1 : ∀ v, seV P n (2 * (w + 1)) v = mvF P n (w + 1) v := by
      intro v
      show (seP P n (2 * w + 1) (seV P n (2 * w + 1)) v n).1 = _
      unfold seP
      rw [if_pos (by omega), show seV P n (2 * w + 1) = fun u => lvF P n (mvF P n w) u n from funext ih.2]
      show (ffF P n (mvF P n w) v n).1 = mgF P n (mvF P n w) v n
      exact ff_mg
    exact ⟨h1, odd (w + 1) h1⟩
theorem se_ff {P : Nat → List Int32} {n w : Nat} {v : SV} : seP P n (2 * w + 1) (seV P n (2 * w + 1)) v n = ffF P n (mvF P n w) v n := by
  unfold seP
  rw [if_pos (by omega), show seV P n (2 * w + 1) = fun u => lvF P n (mvF P n w) u n from funext (se_mv w).2]
  rfl
/-- the heights stand aside in the games' row -/
def savP (m L : Nat) (J J2 : HI) : Prop := (∀ k, k < 8 → J2 (m + 12) (8 * L + k) = J (m + 1 + 4) k) ∧ ∀ a k, ¬ (a = m + 12 ∧ 8 * L ≤ k ∧ k < 8 * L + 8) → J2 a k = J a k
def rstP (m L : Nat) (J J2 : HI) : Prop := (∀ k, k < 8 → J2 (m + 1 + 4) k = J (m + 12) (8 * L + k)) ∧ ∀ a k, ¬ (a = m + 1 + 4 ∧ k < 8) → J2 a k = J a k
def gmE (m L : Nat) (I J : HI) : Prop := ∀ k, 8 * L ≤ k → J (m + 12) k = I (m + 12) k
theorem savP.pv {m L : Nat} {J J2 : HI} (h : savP m L J J2) : pvM m J J2 := fun a k q => h.2 a k (by unfold prM at q; omega)
theorem sea_back {m L : Nat} {J J2 J4 J5 J6 J7 : HI} (h : savP m L J J2) (hf : frM m J2 J4) (hp : pvM m J4 J5) (hg : gmE m L J4 J5) (e : ∀ a k, ¬ (a = m ∧ k = 1) → J6 a k = J5 a k) (ew : J6 m 1 = J m 1) (hr : rstP m L J6 J7) : pvM m J J7 ∧ gmE m (L + 1) J J7 := by
  refine ⟨fun a k q => ?_, fun k hk => ?_⟩
  · have q' : ¬ (a = m + 10 ∨ a = m + 11 ∨ a = m + 12 ∨ a = m + 13 ∨ (a = m ∧ ((16 ≤ k ∧ k ≤ 21) ∨ k = 24 ∨ k = 25 ∨ k = 27))) := q
    by_cases z : a = m + 1 + 4 ∧ k < 8
    · rw [z.1, hr.1 k z.2, e _ _ (by omega), hg _ (by omega), hf _ _ (by omega) (by omega) (by omega) (by omega)]
      exact h.1 k z.2
    · rw [hr.2 a k z]
      by_cases z2 : a = m ∧ k = 1
      · rw [z2.1, z2.2]
        exact ew
      · rw [e a k z2, hp a k q, hf a k (by omega) (by omega) z z2]
        exact h.2 a k (by omega)
  · rw [hr.2 _ _ (by omega), e _ _ (by omega), hg k (by omega), hf _ _ (by omega) (by omega) (by omega) (by omega)]
    exact h.2 _ _ (by omega)
def SeC (G : GG) (Sh : HS) (R : HR) (m n t : Nat) (P : Nat → List Int32) (L d : Nat) : Prop := ∀ (I : HI) (v : SV), MW Sh I R m n t P → MS I m n v → NB n v → AM G d 0 0 yX8_search cX8_search 8 (some .int) [.ref m, .int (nI L)] (Sh, I, R) (qi fun r g => r = seV P n L v ∧ ∃ J : HI, g = (Sh, J, R) ∧ pvM m I J ∧ gmE m L I J ∧ ∀ w, L = w + 1 → J m 27 = (seP P n w (seV P n w) v n).2)
theorem nI_m8 {a : Nat} : nI (a + 8) - 8 = nI a := by
  rw [show (8 : Int32) = nI 8 from rfl, pk_sub (by omega)]
  congr 1

set_option maxHeartbeats 4000000 in
set_option maxRecDepth 100000 in
theorem k_save_l {G : GG} {Sh : HS} {I : HI} {R : HR} {K : XK} {m L : Nat} (hsh : MSh Sh m) (hrf : MRf R m) (hL : L < 6) {f be fo r : Int32} (kk : ∀ J9 : HI, savP m L I J9 → X G K yX8_search cX8_search 8 (some .int) 0 0 89 [(6, .int (nI 8)), (5, .int f), (4, .int be), (3, .int fo), (0, .ref m), (1, .int (nI (L + 1))), (2, .int r)] [] (Sh, J9, R)) : ∀ (m9 : Nat) (i : Nat) (J : HI), (i ≤ 8) → (8 < i + m9) → (∀ k, k < i → J (m + 12) (8 * L + k) = I (m + 1 + 4) k) → (∀ a k, ¬ (a = m + 12 ∧ 8 * L ≤ k ∧ k < 8 * L + 8) → J a k = I a k) → X G K yX8_search cX8_search 8 (some .int) 0 0 54 [(6, .int (nI i)), (5, .int f), (4, .int be), (3, .int fo), (0, .ref m), (1, .int (nI (L + 1))), (2, .int r)] [] (Sh, J, R) := by
  intro m9
  induction m9 with
  | zero =>
    intro i J hi hm hv1 hv2
    exact absurd hm (by omega)
  | succ m9 ih =>
    intro i J hi hm hv1 hv2
    obtain ⟨z0, z1, z6, z7, z8, z9, z10, z11, z12, z13, z14, z15, z16, z17⟩ := id hsh
    obtain ⟨y1, y6, y7, y8, y9, y10, y11, y12, y13, y14, y15, y16, y17⟩ := id hrf
    refine x_iload dX8_search_54 0 rfl ?_
    refine x_bipush (v := nI 8) dX8_search_56 (by decide) ?_
    refine x_icmp_ge (tgt := 89) dX8_search_58 (by decide) (fun c_58 => ?_) (fun c_58 => ?_)
    · have c_58 : 8 ≤ i := (nI_leI (a := 8) (b := i) (by omega) (by omega)).mp c_58
      have hi8 : i = 8 := by omega
      subst hi8
      exact kk J ⟨hv1, hv2⟩
    · have c_58 : ¬ 8 ≤ i := fun zz9 => c_58 ((nI_leI (a := 8) (b := i) (by omega) (by omega)).mpr zz9)
      refine x_aload_n dX8_search_61 4 rfl rfl ?_
      refine x_gR (b := m + 12) dX8_search_62 fl_8_43 rfl z0 y12 ?_
      refine x_bipush (v := nI 8) dX8_search_65 (by decide) ?_
      refine x_iload_n dX8_search_67 5 rfl rfl ?_
      refine x_imul dX8_search_68 ?_
      refine x_vali (pk_mul 8 (L + 1)) ?_
      refine x_iload dX8_search_69 0 rfl ?_
      refine x_iadd dX8_search_71 ?_
      refine x_vali (nI_add (8 * (L + 1)) i) ?_
      refine x_bipush (v := 8) dX8_search_72 (by decide) ?_
      refine x_isub dX8_search_74 ?_
      refine x_aload_n dX8_search_75 4 rfl rfl ?_
      refine x_gR (b := m + 1 + 4) dX8_search_76 fl_8_22 rfl z0 (y1 4 (by omega)) ?_
      refine x_iload dX8_search_79 0 rfl ?_
      refine x_ia (j := i) (v := J (m + 1 + 4) i) dX8_search_81 (z1 4 (by omega)) rfl (by omega) (by omega) rfl ?_
      refine x_is (j := 8 * L + i) dX8_search_82 z12 (by rw [show 8 * (L + 1) + i = (8 * L + i) + 8 by omega]; exact nI_m8) (by omega) (by omega) (fun Iq1 e_Iq1 => ?_)
      refine x_iinc (v := nI (i + 1)) (lv' := [(6, .int (nI (i + 1))), (5, .int f), (4, .int be), (3, .int fo), (0, .ref m), (1, .int (nI (L + 1))), (2, .int r)]) dX8_search_83 0 rfl (nI_1 i) (by decide) rfl ?_
      refine x_goto (tgt := 54) dX8_search_86 (by decide) ?_
      refine x_sub [0, 1, 2, 3, 4, 5, 6] rfl ?_
      exact ih (i + 1) Iq1 (by omega) (by omega) (fun k hk => by
        rw [e_Iq1]
        by_cases z : k = i
        · rw [z, u2_same]
          exact hv2 _ _ (by omega)
        · rw [u2_ne (by omega)]
          exact hv1 k (by omega)) (fun a k z => by
        rw [e_Iq1, u2_ne (by omega)]
        exact hv2 a k z)

set_option maxHeartbeats 4000000 in
set_option maxRecDepth 100000 in
theorem k_rest_l {G : GG} {Sh : HS} {I : HI} {R : HR} {K : XK} {m L : Nat} (hsh : MSh Sh m) (hrf : MRf R m) (hL : L < 6) {f be fo r x : Int32} (kk : ∀ J9 : HI, rstP m L I J9 → X G K yX8_search cX8_search 8 (some .int) 0 0 172 [(7, .int (nI 8)), (6, .int x), (5, .int f), (4, .int be), (3, .int fo), (0, .ref m), (1, .int (nI (L + 1))), (2, .int r)] [] (Sh, J9, R)) : ∀ (m9 : Nat) (i : Nat) (J : HI), (i ≤ 8) → (8 < i + m9) → (∀ k, k < i → J (m + 1 + 4) k = I (m + 12) (8 * L + k)) → (∀ a k, ¬ (a = m + 1 + 4 ∧ k < 8) → J a k = I a k) → X G K yX8_search cX8_search 8 (some .int) 0 0 137 [(7, .int (nI i)), (6, .int x), (5, .int f), (4, .int be), (3, .int fo), (0, .ref m), (1, .int (nI (L + 1))), (2, .int r)] [] (Sh, J, R) := by
  intro m9
  induction m9 with
  | zero =>
    intro i J hi hm hv1 hv2
    exact absurd hm (by omega)
  | succ m9 ih =>
    intro i J hi hm hv1 hv2
    obtain ⟨z0, z1, z6, z7, z8, z9, z10, z11, z12, z13, z14, z15, z16, z17⟩ := id hsh
    obtain ⟨y1, y6, y7, y8, y9, y10, y11, y12, y13, y14, y15, y16, y17⟩ := id hrf
    refine x_iload dX8_search_137 0 rfl ?_
    refine x_bipush (v := nI 8) dX8_search_139 (by decide) ?_
    refine x_icmp_ge (tgt := 172) dX8_search_141 (by decide) (fun c_141 => ?_) (fun c_141 => ?_)
    · have c_141 : 8 ≤ i := (nI_leI (a := 8) (b := i) (by omega) (by omega)).mp c_141
      have hi8 : i = 8 := by omega
      subst hi8
      exact kk J ⟨hv1, hv2⟩
    · have c_141 : ¬ 8 ≤ i := fun zz9 => c_141 ((nI_leI (a := 8) (b := i) (by omega) (by omega)).mpr zz9)
      refine x_aload_n dX8_search_144 5 rfl rfl ?_
      refine x_gR (b := m + 1 + 4) dX8_search_145 fl_8_22 rfl z0 (y1 4 (by omega)) ?_
      refine x_iload dX8_search_148 0 rfl ?_
      refine x_aload_n dX8_search_150 5 rfl rfl ?_
      refine x_gR (b := m + 12) dX8_search_151 fl_8_43 rfl z0 y12 ?_
      refine x_bipush (v := nI 8) dX8_search_154 (by decide) ?_
      refine x_iload_n dX8_search_156 6 rfl rfl ?_
      refine x_imul dX8_search_157 ?_
      refine x_vali (pk_mul 8 (L + 1)) ?_
      refine x_iload dX8_search_158 0 rfl ?_
      refine x_iadd dX8_search_160 ?_
      refine x_vali (nI_add (8 * (L + 1)) i) ?_
      refine x_bipush (v := 8) dX8_search_161 (by decide) ?_
      refine x_isub dX8_search_163 ?_
      refine x_ia (j := 8 * L + i) (v := J (m + 12) (8 * L + i)) dX8_search_164 z12 (by rw [show 8 * (L + 1) + i = (8 * L + i) + 8 by omega]; exact nI_m8) (by omega) (by omega) rfl ?_
      refine x_is (j := i) dX8_search_165 (z1 4 (by omega)) rfl (by omega) (by omega) (fun Iq1 e_Iq1 => ?_)
      refine x_iinc (v := nI (i + 1)) (lv' := [(7, .int (nI (i + 1))), (6, .int x), (5, .int f), (4, .int be), (3, .int fo), (0, .ref m), (1, .int (nI (L + 1))), (2, .int r)]) dX8_search_166 0 rfl (nI_1 i) (by decide) rfl ?_
      refine x_goto (tgt := 137) dX8_search_169 (by decide) ?_
      refine x_sub [0, 1, 2, 3, 4, 5, 6, 7] rfl ?_
      exact ih (i + 1) Iq1 (by omega) (by omega) (fun k hk => by
        rw [e_Iq1]
        by_cases z : k = i
        · rw [z, u2_same]
          exact hv2 _ _ (by omega)
        · rw [u2_ne (by omega)]
          exact hv1 k (by omega)) (fun a k z => by
        rw [e_Iq1, u2_ne (by omega)]
        exact hv2 a k z)

set_option maxHeartbeats 4000000 in
set_option maxRecDepth 100000 in
theorem k_search_l {G : GG} {Sh : HS} {I : HI} {R : HR} {m n t L : Nat} {P : Nat → List Int32} (w : MW Sh I R m n t P) {v : SV} (hs : MS I m n v) (hnb : NB n v) (hL : L < 6) (hse : SeC G Sh R m n t P L (5 + L)) {r : Int32} (hr : (r = 0 ∧ (L + 1) % 2 = 0) ∨ (r = 1 ∧ ¬ (L + 1) % 2 = 0)) : ∀ (m9 : Nat) (q : Nat) (be fo : Int32) (J : HI), (q ≤ n) → (n < q + m9) → ((be, fo) = seP P n L (seV P n L) v q) → (pvM m I J) → (gmE m (L + 1) I J) → X G (kM G (5 + (L + 1)) 0 0 (qi fun r g => r = seV P n (L + 1) v ∧ ∃ J : HI, g = (Sh, J, R) ∧ pvM m I J ∧ gmE m (L + 1) I J ∧ ∀ w, L + 1 = w + 1 → J m 27 = (seP P n w (seV P n w) v n).2)) yX8_search cX8_search 8 (some .int) 0 0 22 [(5, .int (nI q)), (4, .int be), (3, .int fo), (0, .ref m), (1, .int (nI (L + 1))), (2, .int r)] [] (Sh, J, R) := by
  intro m9
  induction m9 with
  | zero =>
    intro q be fo J hq hm hpe hpv hgm
    exact absurd hm (by omega)
  | succ m9 ih =>
    intro q be fo J hq hm hpe hpv hgm
    obtain ⟨hsh, hrf, hn, hn8, hru, hr6, cd9, hcd9, htx⟩ := id w
    obtain ⟨z0, z1, z6, z7, z8, z9, z10, z11, z12, z13, z14, z15, z16, z17⟩ := id hsh
    obtain ⟨y1, y6, y7, y8, y9, y10, y11, y12, y13, y14, y15, y16, y17⟩ := id hrf
    have wJ := w.pv hpv
    have sJ := hs.pv hpv
    refine x_iload dX8_search_22 0 rfl ?_
    refine x_aload_n dX8_search_24 3 rfl rfl ?_
    refine x_gI (v := nI n) dX8_search_25 fl_8_79 rfl z0 (by rw [hpv _ _ (by unfold prM; omega)]; exact hn) ?_
    refine x_icmp_ge (tgt := 215) dX8_search_28 (by decide) (fun c_28 => ?_) (fun c_28 => ?_)
    · have c_28 : n ≤ q := (nI_leI (a := n) (b := q) (by omega) (by omega)).mp c_28
      refine x_aload_n dX8_search_215 3 rfl rfl ?_
      refine x_iload_n dX8_search_216 2 rfl rfl ?_
      refine x_pI dX8_search_217 fl_8_289 rfl rfl rfl z0 (fun Iq1 e_Iq1 => ?_)
      refine x_iload dX8_search_220 1 rfl ?_
      refine x_iret dX8_search_222 rfl (Nat.le_refl _) (Nat.le_refl _) ?_
      have hqn : q = n := by omega
      subst hqn
      refine ⟨?_, _, rfl, fun a k z => ?_, fun k hk => ?_, fun w9 hw9 => ?_⟩
      · show _ = (seP P q L (seV P q L) v q).1
        rw [← hpe]
      · rw [e_Iq1, u2_ne (by unfold prM at z; omega)]
        exact hpv a k z
      · rw [e_Iq1, u2_ne (by omega)]
        exact hgm k hk
      · have : w9 = L := by omega
        subst this
        rw [e_Iq1, u2_same, ← hpe]
    · have c_28 : ¬ n ≤ q := fun zz9 => c_28 ((nI_leI (a := n) (b := q) (by omega) (by omega)).mpr zz9)
      have hqn : q < n := by omega
      refine x_iload dX8_search_31 0 rfl ?_
      refine x_iconst (v := (-1)) dX8_search_33 (by decide) ?_
      refine x_icmp_eq (tgt := 51) dX8_search_34 (by decide) (fun c_34 => False.elim (absurd (show nI q < 0 by rw [c_34]; decide) (nI_pos (by omega)))) (fun c_34 => ?_)
      refine x_aload_n dX8_search_37 3 rfl rfl ?_
      refine x_gR (b := m + 1 + 3) dX8_search_38 fl_8_19 rfl z0 (y1 3 (by omega)) ?_
      refine x_iload dX8_search_41 0 rfl ?_
      refine x_ia (j := q) (v := v.1 q 3) dX8_search_43 (z1 3 (by omega)) rfl (by omega) (by omega) (sJ.1 q hqn 3 (by omega)) ?_
      refine x_iload_n dX8_search_44 5 rfl rfl ?_
      refine x_icmp_eq (tgt := 51) dX8_search_45 (by decide) (fun c_45 => ?_) (fun c_45 => ?_)
      · refine x_iconst (v := nI 0) dX8_search_51 (by decide) ?_
        refine x_istore (lv' := [(6, .int (nI 0)), (5, .int (nI q)), (4, .int be), (3, .int fo), (0, .ref m), (1, .int (nI (L + 1))), (2, .int r)]) dX8_search_52 (by decide) rfl ?_
        refine x_sub [0, 1, 2, 3, 4, 5, 6] rfl ?_
        refine k_save_l (I := J) hsh hrf hL (fun J2 hsv => ?_) 9 0 J (by omega) (by omega) (fun k hk => absurd hk (by omega)) (fun _ _ _ => rfl)
        have w2 := wJ.pv hsv.pv
        have s2 := sJ.pv hsv.pv
        refine x_iload dX8_search_89 1 rfl ?_
        refine x_iconst (v := (-1)) dX8_search_91 (by decide) ?_
        refine x_icmp_eq (tgt := 101) dX8_search_92 (by decide) (fun c_92 => False.elim (absurd (show nI q < 0 by rw [c_92]; decide) (nI_pos (by omega)))) (fun c_92 => ?_)
        refine x_aload_n dX8_search_95 4 rfl rfl ?_
        refine x_iload dX8_search_96 1 rfl ?_
        refine x_callV (k_raised (G := G) (I := J2) w2 s2 (f := q) hqn) dX8_search_98 crc_X8_raised vc_8_242 z0 rfl rfl rfl rfl (Nat.le_of_ble_eq_true rfl) (roomy_k (by omega) (by decide)) (Nat.le_refl _) (Nat.le_refl _) ?_
        rintro _ _ ⟨rfl, J3, rfl, s3, hf3⟩
        have w3 := w2.fr hf3
        have nb3 : NB n (spadeF P n q v) := hnb.spade
        refine x_iload_n dX8_search_101 6 rfl rfl ?_
        refine x_iconst (v := 1) dX8_search_102 (by decide) ?_
        refine x_icmp_ne (tgt := 110) dX8_search_103 (by decide) (fun c_103 => ?_) (fun c_103 => ?_)
        · have hr0 : r = 0 ∧ (L + 1) % 2 = 0 := hr.resolve_right (fun z => c_103 z.1)
          refine x_aload_n dX8_search_110 4 rfl rfl ?_
          refine x_iload_n dX8_search_111 5 rfl rfl ?_
          refine x_iconst (v := 1) dX8_search_112 (by decide) ?_
          refine x_isub dX8_search_113 ?_
          refine x_vali (nI_pred L) ?_
          refine x_callV (hse J3 _ w3 s3 nb3) dX8_search_114 crc_X8_search vc_8_286 z0 rfl rfl rfl rfl (Nat.le_of_ble_eq_true rfl) (roomy_k (by omega) (by decide)) (Nat.le_refl _) (Nat.le_refl _) ?_
          rintro _ _ ⟨x9, rfl, hx9, J5, rfl, hp5, hg5, -⟩
          have hw5 : J5 m 1 = J m 1 := by
            rw [hp5 _ _ (by unfold prM; omega), s3.2.2, sJ.2.2] <;> rfl
          refine x_istore (lv' := [(6, .int x9), (5, .int (nI q)), (4, .int be), (3, .int fo), (0, .ref m), (1, .int (nI (L + 1))), (2, .int r)]) dX8_search_117 (by decide) rfl ?_
          refine x_iload_n dX8_search_119 6 rfl rfl ?_
          refine x_iconst (v := 1) dX8_search_120 (by decide) ?_
          refine x_icmp_ne (tgt := 134) dX8_search_121 (by decide) (fun c_121 => ?_) (fun c_121 => False.elim (c_103 c_121))
          refine x_iconst (v := nI 0) dX8_search_134 (by decide) ?_
          refine x_istore (lv' := [(7, .int (nI 0)), (6, .int x9), (5, .int (nI q)), (4, .int be), (3, .int fo), (0, .ref m), (1, .int (nI (L + 1))), (2, .int r)]) dX8_search_135 (by decide) rfl ?_
          refine x_sub [0, 1, 2, 3, 4, 5, 6, 7] rfl ?_
          refine k_rest_l (I := J5) hsh hrf hL (fun J7 hrs => ?_) 9 0 J5 (by omega) (by omega) (fun k hk => absurd hk (by omega)) (fun _ _ _ => rfl)
          obtain ⟨hp7, hg7⟩ := sea_back hsv hf3 hp5 hg5 (fun _ _ _ => rfl) hw5 hrs
          refine x_iload dX8_search_172 2 rfl ?_
          refine x_iconst (v := (-1)) dX8_search_174 (by decide) ?_
          refine x_icmp_eq (tgt := 202) dX8_search_175 (by decide) (fun c_175 => False.elim (absurd (show nI q < 0 by rw [c_175]; decide) (nI_pos (by omega)))) (fun c_175 => ?_)
          refine x_iload_n dX8_search_178 7 rfl rfl ?_
          refine x_if_ne (tgt := 192) dX8_search_179 (by decide) (fun c_179 => False.elim (c_179 hr0.1)) (fun c_179 => ?_)
          refine x_iload dX8_search_182 1 rfl ?_
          refine x_iload dX8_search_184 3 rfl ?_
          refine x_icmp_gt (tgt := 202) dX8_search_186 (by decide) (fun c_186 => ?_) (fun c_186 => ?_)
          · refine x_iload dX8_search_202 1 rfl ?_
            refine x_istore (lv' := [(4, .int x9), (7, .int (nI 8)), (6, .int x9), (5, .int (nI q)), (3, .int fo), (0, .ref m), (1, .int (nI (L + 1))), (2, .int r)]) dX8_search_204 (by decide) rfl ?_
            refine x_iload dX8_search_206 3 rfl ?_
            refine x_istore_n (lv' := [(3, .int (nI q)), (4, .int x9), (7, .int (nI 8)), (6, .int x9), (5, .int (nI q)), (0, .ref m), (1, .int (nI (L + 1))), (2, .int r)]) dX8_search_208 rfl (by decide) rfl ?_
            refine x_iinc (v := nI (q + 1)) (lv' := [(5, .int (nI (q + 1))), (3, .int (nI q)), (4, .int x9), (7, .int (nI 8)), (6, .int x9), (0, .ref m), (1, .int (nI (L + 1))), (2, .int r)]) dX8_search_209 4 rfl (nI_1 q) (by decide) rfl ?_
            refine x_goto (tgt := 22) dX8_search_212 (by decide) ?_
            refine x_sub [0, 2, 1, 5, 6, 7] rfl ?_
            exact ih (q + 1) x9 (nI q) J7 (by omega) (by omega) (by
              unfold seP evP at *
              rw [if_pos hr0.2] at *
              rw [fd_s]
              rw [if_pos ⟨c_45.trans hr0.1, by rw [← hpe, ← hx9]; exact c_186⟩, ← hx9]) (hpv.tr hp7) (fun k hk => (hg7 k hk).trans (hgm k hk))
          · refine x_goto (tgt := 209) dX8_search_189 (by decide) ?_
            refine x_iinc (v := nI (q + 1)) (lv' := [(5, .int (nI (q + 1))), (7, .int (nI 8)), (6, .int x9), (4, .int be), (3, .int fo), (0, .ref m), (1, .int (nI (L + 1))), (2, .int r)]) dX8_search_209 2 rfl (nI_1 q) (by decide) rfl ?_
            refine x_goto (tgt := 22) dX8_search_212 (by decide) ?_
            refine x_sub [0, 3, 4, 5, 6, 7] rfl ?_
            exact ih (q + 1) be fo J7 (by omega) (by omega) (by
              unfold seP evP at *
              rw [if_pos hr0.2] at *
              rw [fd_s]
              rw [if_neg (fun z => c_186 (by have z2 := z.2; rw [← hpe, ← hx9] at z2; exact z2)), ← hpe]) (hpv.tr hp7) (fun k hk => (hg7 k hk).trans (hgm k hk))
        · refine x_aload_n dX8_search_106 4 rfl rfl ?_
          refine x_callV (k_comes (G := G) (I := J3) w3 s3 nb3) dX8_search_107 crc_X8_comes vc_8_236 z0 rfl rfl rfl rfl (Nat.le_of_ble_eq_true rfl) (roomy_k (by omega) (by decide)) (Nat.le_refl _) (Nat.le_refl _) ?_
          rintro _ _ ⟨rfl, J4, rfl, s4, hf4⟩
          have w4 := w3.fr hf4
          have nb4 := nb3.beat (P := P)
          have hr1 : ¬ (L + 1) % 2 = 0 := fun z => hr.elim (fun y => absurd (y.1.symm.trans c_103) (by decide)) (fun y => y.2 z)
          refine x_aload_n dX8_search_110 4 rfl rfl ?_
          refine x_iload_n dX8_search_111 5 rfl rfl ?_
          refine x_iconst (v := 1) dX8_search_112 (by decide) ?_
          refine x_isub dX8_search_113 ?_
          refine x_vali (nI_pred L) ?_
          refine x_callV (hse J4 _ w4 s4 nb4) dX8_search_114 crc_X8_search vc_8_286 z0 rfl rfl rfl rfl (Nat.le_of_ble_eq_true rfl) (roomy_k (by omega) (by decide)) (Nat.le_refl _) (Nat.le_refl _) ?_
          rintro _ _ ⟨x9, rfl, hx9, J5, rfl, hp5, hg5, -⟩
          have hw5 : J5 m 1 - 1 = J m 1 := by
            rw [hp5 _ _ (by unfold prM; omega), s4.2.2, sJ.2.2]
            exact Int32.add_sub_cancel _ 1
          refine x_istore (lv' := [(6, .int x9), (5, .int (nI q)), (4, .int be), (3, .int fo), (0, .ref m), (1, .int (nI (L + 1))), (2, .int r)]) dX8_search_117 (by decide) rfl ?_
          refine x_iload_n dX8_search_119 6 rfl rfl ?_
          refine x_iconst (v := 1) dX8_search_120 (by decide) ?_
          refine x_icmp_ne (tgt := 134) dX8_search_121 (by decide) (fun c_121 => False.elim (c_121 c_103)) (fun c_121 => ?_)
          refine x_aload_n dX8_search_124 4 rfl rfl ?_
          refine x_dup dX8_search_125 rfl ?_
          refine x_gI (v := J5 m 1) dX8_search_126 fl_8_89 rfl z0 rfl ?_
          refine x_iconst (v := 1) dX8_search_129 (by decide) ?_
          refine x_isub dX8_search_130 ?_
          refine x_pI dX8_search_131 fl_8_89 rfl rfl rfl z0 (fun Iq2 e_Iq2 => ?_)
          refine x_iconst (v := nI 0) dX8_search_134 (by decide) ?_
          refine x_istore (lv' := [(7, .int (nI 0)), (6, .int x9), (5, .int (nI q)), (4, .int be), (3, .int fo), (0, .ref m), (1, .int (nI (L + 1))), (2, .int r)]) dX8_search_135 (by decide) rfl ?_
          refine x_sub [0, 1, 2, 3, 4, 5, 6, 7] rfl ?_
          refine k_rest_l (I := Iq2) hsh hrf hL (fun J7 hrs => ?_) 9 0 Iq2 (by omega) (by omega) (fun k hk => absurd hk (by omega)) (fun _ _ _ => rfl)
          obtain ⟨hp7, hg7⟩ := sea_back hsv (hf3.tr hf4) hp5 hg5 (fun a k z => by rw [e_Iq2, u2_ne z]) (by rw [e_Iq2, u2_same]; exact hw5) hrs
          refine x_iload dX8_search_172 2 rfl ?_
          refine x_iconst (v := (-1)) dX8_search_174 (by decide) ?_
          refine x_icmp_eq (tgt := 202) dX8_search_175 (by decide) (fun c_175 => False.elim (absurd (show nI q < 0 by rw [c_175]; decide) (nI_pos (by omega)))) (fun c_175 => ?_)
          refine x_iload_n dX8_search_178 7 rfl rfl ?_
          refine x_if_ne (tgt := 192) dX8_search_179 (by decide) (fun c_179 => ?_) (fun c_179 => False.elim (absurd (c_103.symm.trans c_179) (by decide)))
          refine x_iload dX8_search_192 1 rfl ?_
          refine x_iload dX8_search_194 3 rfl ?_
          refine x_icmp_lt (tgt := 202) dX8_search_196 (by decide) (fun c_196 => ?_) (fun c_196 => ?_)
          · refine x_iload dX8_search_202 1 rfl ?_
            refine x_istore (lv' := [(4, .int x9), (7, .int (nI 8)), (6, .int x9), (5, .int (nI q)), (3, .int fo), (0, .ref m), (1, .int (nI (L + 1))), (2, .int r)]) dX8_search_204 (by decide) rfl ?_
            refine x_iload dX8_search_206 3 rfl ?_
            refine x_istore_n (lv' := [(3, .int (nI q)), (4, .int x9), (7, .int (nI 8)), (6, .int x9), (5, .int (nI q)), (0, .ref m), (1, .int (nI (L + 1))), (2, .int r)]) dX8_search_208 rfl (by decide) rfl ?_
            refine x_iinc (v := nI (q + 1)) (lv' := [(5, .int (nI (q + 1))), (3, .int (nI q)), (4, .int x9), (7, .int (nI 8)), (6, .int x9), (0, .ref m), (1, .int (nI (L + 1))), (2, .int r)]) dX8_search_209 4 rfl (nI_1 q) (by decide) rfl ?_
            refine x_goto (tgt := 22) dX8_search_212 (by decide) ?_
            refine x_sub [0, 2, 1, 5, 6, 7] rfl ?_
            exact ih (q + 1) x9 (nI q) J7 (by omega) (by omega) (by
              unfold seP odP at *
              rw [if_neg hr1] at *
              rw [fd_s]
              rw [if_pos ⟨c_45.trans c_103, by rw [← hpe, ← hx9]; exact c_196⟩, ← hx9]) (hpv.tr hp7) (fun k hk => (hg7 k hk).trans (hgm k hk))
          · refine x_goto (tgt := 209) dX8_search_199 (by decide) ?_
            refine x_iinc (v := nI (q + 1)) (lv' := [(5, .int (nI (q + 1))), (7, .int (nI 8)), (6, .int x9), (4, .int be), (3, .int fo), (0, .ref m), (1, .int (nI (L + 1))), (2, .int r)]) dX8_search_209 2 rfl (nI_1 q) (by decide) rfl ?_
            refine x_goto (tgt := 22) dX8_search_212 (by decide) ?_
            refine x_sub [0, 3, 4, 5, 6, 7] rfl ?_
            exact ih (q + 1) be fo J7 (by omega) (by omega) (by
              unfold seP odP at *
              rw [if_neg hr1] at *
              rw [fd_s]
              rw [if_neg (fun z => c_196 (by have z2 := z.2; rw [← hpe, ← hx9] at z2; exact z2)), ← hpe]) (hpv.tr hp7) (fun k hk => (hg7 k hk).trans (hgm k hk))
      · refine x_goto (tgt := 209) dX8_search_48 (by decide) ?_
        refine x_iinc (v := nI (q + 1)) (lv' := [(5, .int (nI (q + 1))), (4, .int be), (3, .int fo), (0, .ref m), (1, .int (nI (L + 1))), (2, .int r)]) dX8_search_209 0 rfl (nI_1 q) (by decide) rfl ?_
        refine x_goto (tgt := 22) dX8_search_212 (by decide) ?_
        refine x_sub [0, 1, 2, 3, 4, 5] rfl ?_
        exact ih (q + 1) be fo J (by omega) (by omega) (by
          unfold seP evP odP at *
          rw [hpe]
          split
          · rename_i ev
            rw [fd_s, if_neg (fun z => c_45 (by rw [z.1]; exact (hr.resolve_right (fun y => y.2 ev)).1.symm))]
          · rename_i ev
            rw [fd_s, if_neg (fun z => c_45 (by rw [z.1]; exact (hr.resolve_left (fun y => ev y.2)).1.symm))]) hpv hgm

set_option maxHeartbeats 4000000 in
set_option maxRecDepth 100000 in
theorem k_search_a {G : GG} {Sh : HS} {I : HI} {R : HR} {m n t L : Nat} {P : Nat → List Int32} (w : MW Sh I R m n t P) {v : SV} (hs : MS I m n v) (hnb : NB n v) (hL : L < 6) (hse : SeC G Sh R m n t P L (5 + L)) {r : Int32} (hr : (r = 0 ∧ (L + 1) % 2 = 0) ∨ (r = 1 ∧ ¬ (L + 1) % 2 = 0)) : X G (kM G (5 + (L + 1)) 0 0 (qi fun r g => r = seV P n (L + 1) v ∧ ∃ J : HI, g = (Sh, J, R) ∧ pvM m I J ∧ gmE m (L + 1) I J ∧ ∀ w, L + 1 = w + 1 → J m 27 = (seP P n w (seV P n w) v n).2)) yX8_search cX8_search 8 (some .int) 0 0 22 [(5, .int (-1)), (4, .int 0), (3, .int (-1)), (0, .ref m), (1, .int (nI (L + 1))), (2, .int r)] [] (Sh, I, R) := by
  obtain ⟨hsh, hrf, hn, hn8, hru, hr6, cd9, hcd9, htx⟩ := id w
  obtain ⟨z0, z1, z6, z7, z8, z9, z10, z11, z12, z13, z14, z15, z16, z17⟩ := id hsh
  obtain ⟨y1, y6, y7, y8, y9, y10, y11, y12, y13, y14, y15, y16, y17⟩ := id hrf
  have wJ := w
  have sJ := hs
  refine x_iload dX8_search_22 0 rfl ?_
  refine x_aload_n dX8_search_24 3 rfl rfl ?_
  refine x_gI (v := nI n) dX8_search_25 fl_8_79 rfl z0 hn ?_
  refine x_icmp_ge (tgt := 215) dX8_search_28 (by decide) (fun c_28 => False.elim (absurd (Int32.le_trans (nI_pos' (n := n) (by omega)) c_28) (by decide))) (fun c_28 => ?_)
  refine x_iload dX8_search_31 0 rfl ?_
  refine x_iconst (v := (-1)) dX8_search_33 (by decide) ?_
  refine x_icmp_eq (tgt := 51) dX8_search_34 (by decide) (fun c_34 => ?_) (fun c_34 => False.elim (c_34 rfl))
  refine x_iconst (v := nI 0) dX8_search_51 (by decide) ?_
  refine x_istore (lv' := [(6, .int (nI 0)), (5, .int (-1)), (4, .int 0), (3, .int (-1)), (0, .ref m), (1, .int (nI (L + 1))), (2, .int r)]) dX8_search_52 (by decide) rfl ?_
  refine x_sub [0, 1, 2, 3, 4, 5, 6] rfl ?_
  refine k_save_l (I := I) hsh hrf hL (fun J2 hsv => ?_) 9 0 I (by omega) (by omega) (fun k hk => absurd hk (by omega)) (fun _ _ _ => rfl)
  have w2 := wJ.pv hsv.pv
  have s2 := sJ.pv hsv.pv
  refine x_iload dX8_search_89 1 rfl ?_
  refine x_iconst (v := (-1)) dX8_search_91 (by decide) ?_
  refine x_icmp_eq (tgt := 101) dX8_search_92 (by decide) (fun c_92 => ?_) (fun c_92 => False.elim (c_92 rfl))
  refine x_iload_n dX8_search_101 6 rfl rfl ?_
  refine x_iconst (v := 1) dX8_search_102 (by decide) ?_
  refine x_icmp_ne (tgt := 110) dX8_search_103 (by decide) (fun c_103 => ?_) (fun c_103 => ?_)
  · have hr0 : r = 0 ∧ (L + 1) % 2 = 0 := hr.resolve_right (fun z => c_103 z.1)
    refine x_aload_n dX8_search_110 4 rfl rfl ?_
    refine x_iload_n dX8_search_111 5 rfl rfl ?_
    refine x_iconst (v := 1) dX8_search_112 (by decide) ?_
    refine x_isub dX8_search_113 ?_
    refine x_vali (nI_pred L) ?_
    refine x_callV (hse J2 _ w2 s2 hnb) dX8_search_114 crc_X8_search vc_8_286 z0 rfl rfl rfl rfl (Nat.le_of_ble_eq_true rfl) (roomy_k (by omega) (by decide)) (Nat.le_refl _) (Nat.le_refl _) ?_
    rintro _ _ ⟨x9, rfl, hx9, J5, rfl, hp5, hg5, -⟩
    have hw5 : J5 m 1 = I m 1 := by
      rw [hp5 _ _ (by unfold prM; omega), s2.2.2, sJ.2.2] <;> rfl
    refine x_istore (lv' := [(6, .int x9), (5, .int (-1)), (4, .int 0), (3, .int (-1)), (0, .ref m), (1, .int (nI (L + 1))), (2, .int r)]) dX8_search_117 (by decide) rfl ?_
    refine x_iload_n dX8_search_119 6 rfl rfl ?_
    refine x_iconst (v := 1) dX8_search_120 (by decide) ?_
    refine x_icmp_ne (tgt := 134) dX8_search_121 (by decide) (fun c_121 => ?_) (fun c_121 => False.elim (c_103 c_121))
    refine x_iconst (v := nI 0) dX8_search_134 (by decide) ?_
    refine x_istore (lv' := [(7, .int (nI 0)), (6, .int x9), (5, .int (-1)), (4, .int 0), (3, .int (-1)), (0, .ref m), (1, .int (nI (L + 1))), (2, .int r)]) dX8_search_135 (by decide) rfl ?_
    refine x_sub [0, 1, 2, 3, 4, 5, 6, 7] rfl ?_
    refine k_rest_l (I := J5) hsh hrf hL (fun J7 hrs => ?_) 9 0 J5 (by omega) (by omega) (fun k hk => absurd hk (by omega)) (fun _ _ _ => rfl)
    obtain ⟨hp7, hg7⟩ := sea_back hsv frM.rf hp5 hg5 (fun _ _ _ => rfl) hw5 hrs
    refine x_iload dX8_search_172 2 rfl ?_
    refine x_iconst (v := (-1)) dX8_search_174 (by decide) ?_
    refine x_icmp_eq (tgt := 202) dX8_search_175 (by decide) (fun c_175 => ?_) (fun c_175 => False.elim (c_175 rfl))
    refine x_iload dX8_search_202 1 rfl ?_
    refine x_istore (lv' := [(4, .int x9), (7, .int (nI 8)), (6, .int x9), (5, .int (-1)), (3, .int (-1)), (0, .ref m), (1, .int (nI (L + 1))), (2, .int r)]) dX8_search_204 (by decide) rfl ?_
    refine x_iload dX8_search_206 3 rfl ?_
    refine x_istore_n (lv' := [(3, .int (-1)), (4, .int x9), (7, .int (nI 8)), (6, .int x9), (5, .int (-1)), (0, .ref m), (1, .int (nI (L + 1))), (2, .int r)]) dX8_search_208 rfl (by decide) rfl ?_
    obtain ⟨xq1, e_xq1⟩ : ∃ z : Int32, z = (-1) + 1 := ⟨_, rfl⟩
    refine x_iinc (v := xq1) (lv' := [(5, .int xq1), (3, .int (-1)), (4, .int x9), (7, .int (nI 8)), (6, .int x9), (0, .ref m), (1, .int (nI (L + 1))), (2, .int r)]) dX8_search_209 4 rfl e_xq1.symm (by decide) rfl ?_
    refine x_goto (tgt := 22) dX8_search_212 (by decide) ?_
    have h09 : xq1 = nI 0 := by rw [e_xq1]; decide
    subst h09
    refine x_sub [0, 2, 1, 5, 6, 7] rfl ?_
    exact k_search_l w hs hnb hL hse hr (n + 1) 0 x9 (-1) J7 (by omega) (by omega) (by
      unfold seP evP
      rw [if_pos hr0.2, hx9]
      rfl) hp7 hg7
  · refine x_aload_n dX8_search_106 4 rfl rfl ?_
    refine x_callV (k_comes (G := G) (I := J2) w2 s2 hnb) dX8_search_107 crc_X8_comes vc_8_236 z0 rfl rfl rfl rfl (Nat.le_of_ble_eq_true rfl) (roomy_k (by omega) (by decide)) (Nat.le_refl _) (Nat.le_refl _) ?_
    rintro _ _ ⟨rfl, J4, rfl, s4, hf4⟩
    have w4 := w2.fr hf4
    have nb4 := hnb.beat (P := P)
    have hr1 : ¬ (L + 1) % 2 = 0 := fun z => hr.elim (fun y => absurd (y.1.symm.trans c_103) (by decide)) (fun y => y.2 z)
    refine x_aload_n dX8_search_110 4 rfl rfl ?_
    refine x_iload_n dX8_search_111 5 rfl rfl ?_
    refine x_iconst (v := 1) dX8_search_112 (by decide) ?_
    refine x_isub dX8_search_113 ?_
    refine x_vali (nI_pred L) ?_
    refine x_callV (hse J4 _ w4 s4 nb4) dX8_search_114 crc_X8_search vc_8_286 z0 rfl rfl rfl rfl (Nat.le_of_ble_eq_true rfl) (roomy_k (by omega) (by decide)) (Nat.le_refl _) (Nat.le_refl _) ?_
    rintro _ _ ⟨x9, rfl, hx9, J5, rfl, hp5, hg5, -⟩
    have hw5 : J5 m 1 - 1 = I m 1 := by
      rw [hp5 _ _ (by unfold prM; omega), s4.2.2, sJ.2.2]
      exact Int32.add_sub_cancel _ 1
    refine x_istore (lv' := [(6, .int x9), (5, .int (-1)), (4, .int 0), (3, .int (-1)), (0, .ref m), (1, .int (nI (L + 1))), (2, .int r)]) dX8_search_117 (by decide) rfl ?_
    refine x_iload_n dX8_search_119 6 rfl rfl ?_
    refine x_iconst (v := 1) dX8_search_120 (by decide) ?_
    refine x_icmp_ne (tgt := 134) dX8_search_121 (by decide) (fun c_121 => False.elim (c_121 c_103)) (fun c_121 => ?_)
    refine x_aload_n dX8_search_124 4 rfl rfl ?_
    refine x_dup dX8_search_125 rfl ?_
    refine x_gI (v := J5 m 1) dX8_search_126 fl_8_89 rfl z0 rfl ?_
    refine x_iconst (v := 1) dX8_search_129 (by decide) ?_
    refine x_isub dX8_search_130 ?_
    refine x_pI dX8_search_131 fl_8_89 rfl rfl rfl z0 (fun Iq2 e_Iq2 => ?_)
    refine x_iconst (v := nI 0) dX8_search_134 (by decide) ?_
    refine x_istore (lv' := [(7, .int (nI 0)), (6, .int x9), (5, .int (-1)), (4, .int 0), (3, .int (-1)), (0, .ref m), (1, .int (nI (L + 1))), (2, .int r)]) dX8_search_135 (by decide) rfl ?_
    refine x_sub [0, 1, 2, 3, 4, 5, 6, 7] rfl ?_
    refine k_rest_l (I := Iq2) hsh hrf hL (fun J7 hrs => ?_) 9 0 Iq2 (by omega) (by omega) (fun k hk => absurd hk (by omega)) (fun _ _ _ => rfl)
    obtain ⟨hp7, hg7⟩ := sea_back hsv hf4 hp5 hg5 (fun a k z => by rw [e_Iq2, u2_ne z]) (by rw [e_Iq2, u2_same]; exact hw5) hrs
    refine x_iload dX8_search_172 2 rfl ?_
    refine x_iconst (v := (-1)) dX8_search_174 (by decide) ?_
    refine x_icmp_eq (tgt := 202) dX8_search_175 (by decide) (fun c_175 => ?_) (fun c_175 => False.elim (c_175 rfl))
    refine x_iload dX8_search_202 1 rfl ?_
    refine x_istore (lv' := [(4, .int x9), (7, .int (nI 8)), (6, .int x9), (5, .int (-1)), (3, .int (-1)), (0, .ref m), (1, .int (nI (L + 1))), (2, .int r)]) dX8_search_204 (by decide) rfl ?_
    refine x_iload dX8_search_206 3 rfl ?_
    refine x_istore_n (lv' := [(3, .int (-1)), (4, .int x9), (7, .int (nI 8)), (6, .int x9), (5, .int (-1)), (0, .ref m), (1, .int (nI (L + 1))), (2, .int r)]) dX8_search_208 rfl (by decide) rfl ?_
    obtain ⟨xq3, e_xq3⟩ : ∃ z : Int32, z = (-1) + 1 := ⟨_, rfl⟩
    refine x_iinc (v := xq3) (lv' := [(5, .int xq3), (3, .int (-1)), (4, .int x9), (7, .int (nI 8)), (6, .int x9), (0, .ref m), (1, .int (nI (L + 1))), (2, .int r)]) dX8_search_209 4 rfl e_xq3.symm (by decide) rfl ?_
    refine x_goto (tgt := 22) dX8_search_212 (by decide) ?_
    have h09 : xq3 = nI 0 := by rw [e_xq3]; decide
    subst h09
    refine x_sub [0, 2, 1, 5, 6, 7] rfl ?_
    exact k_search_l w hs hnb hL hse hr (n + 1) 0 x9 (-1) J7 (by omega) (by omega) (by
      unfold seP odP
      rw [if_neg hr1, hx9]
      rfl) hp7 hg7

theorem nI_sm2 {L : Nat} (hL : L < 6) : (nI (L + 1) - nI (L + 1) / 2 * 2 = 0 ∧ (L + 1) % 2 = 0) ∨ (nI (L + 1) - nI (L + 1) / 2 * 2 = 1 ∧ ¬ (L + 1) % 2 = 0) := by
  rw [show (2 : Int32) = nI 2 from rfl, nI_rem (by omega) (by omega) (by omega)]
  have : (L + 1) % 2 = 0 ∨ (L + 1) % 2 = 1 := by omega
  rcases this with e | e
  · rw [e]; exact Or.inl ⟨rfl, rfl⟩
  · rw [e]; exact Or.inr ⟨rfl, by omega⟩

set_option maxHeartbeats 4000000 in
set_option maxRecDepth 100000 in
theorem k_search_s {G : GG} {Sh : HS} {R : HR} {m n t L : Nat} {P : Nat → List Int32} (hL : L < 6) (hse : SeC G Sh R m n t P L (5 + L)) : SeC G Sh R m n t P (L + 1) (5 + (L + 1)) := by
  intro I v w hs hnb
  obtain ⟨hsh, hrf, hn, hn8, hru, hr6, cd9, hcd9, htx⟩ := id w
  obtain ⟨z0, z1, z6, z7, z8, z9, z10, z11, z12, z13, z14, z15, z16, z17⟩ := id hsh
  obtain ⟨y1, y6, y7, y8, y9, y10, y11, y12, y13, y14, y15, y16, y17⟩ := id hrf
  refine am_intro (by decide) (Nat.le_of_ble_eq_true rfl) ?_
  refine x_iload_n dX8_search_0 1 rfl rfl ?_
  refine x_if_ne (tgt := 10) dX8_search_1 (by decide) (fun c_1 => ?_) (fun c_1 => False.elim (nI_ne0 (by omega) (by omega) c_1))
  refine x_iload_n dX8_search_10 1 rfl rfl ?_
  refine x_iconst (v := 2) dX8_search_11 (by decide) ?_
  refine x_irem dX8_search_12 (by decide) ?_
  refine x_topi (fun r e_r => ?_)
  refine x_istore_n (lv' := [(2, .int r), (0, .ref m), (1, .int (nI (L + 1)))]) dX8_search_13 rfl (by decide) rfl ?_
  refine x_iconst (v := (-1)) dX8_search_14 (by decide) ?_
  refine x_istore_n (lv' := [(3, .int (-1)), (2, .int r), (0, .ref m), (1, .int (nI (L + 1)))]) dX8_search_15 rfl (by decide) rfl ?_
  refine x_iconst (v := 0) dX8_search_16 (by decide) ?_
  refine x_istore (lv' := [(4, .int 0), (3, .int (-1)), (2, .int r), (0, .ref m), (1, .int (nI (L + 1)))]) dX8_search_17 (by decide) rfl ?_
  refine x_iconst (v := (-1)) dX8_search_19 (by decide) ?_
  refine x_istore (lv' := [(5, .int (-1)), (4, .int 0), (3, .int (-1)), (2, .int r), (0, .ref m), (1, .int (nI (L + 1)))]) dX8_search_20 (by decide) rfl ?_
  refine x_sub [0, 1, 2, 4, 5, 3] rfl ?_
  exact k_search_a w hs hnb hL hse (by rw [e_r]; exact nI_sm2 hL)

set_option maxHeartbeats 4000000 in
set_option maxRecDepth 100000 in
theorem k_search_0 {G : GG} {Sh : HS} {R : HR} {m n t : Nat} {P : Nat → List Int32} : SeC G Sh R m n t P 0 5 := by
  intro I v w hs hnb
  obtain ⟨hsh, hrf, hn, hn8, hru, hr6, cd9, hcd9, htx⟩ := id w
  obtain ⟨z0, z1, z6, z7, z8, z9, z10, z11, z12, z13, z14, z15, z16, z17⟩ := id hsh
  obtain ⟨y1, y6, y7, y8, y9, y10, y11, y12, y13, y14, y15, y16, y17⟩ := id hrf
  refine am_intro (by decide) (Nat.le_of_ble_eq_true rfl) ?_
  refine x_iload_n dX8_search_0 1 rfl rfl ?_
  refine x_if_ne (tgt := 10) dX8_search_1 (by decide) (fun c_1 => False.elim (c_1 rfl)) (fun c_1 => ?_)
  refine x_aload_n dX8_search_4 0 rfl rfl ?_
  refine x_iconst (v := 0) dX8_search_5 (by decide) ?_
  refine x_callV (k_mvalueOf (G := G) w hs (r := 0)) dX8_search_6 crc_X8_valueOf vc_8_255 z0 rfl rfl rfl rfl (Nat.le_of_ble_eq_true rfl) (roomy_k (by omega) (by decide)) (Nat.le_refl _) (Nat.le_refl _) ?_
  rintro _ _ ⟨x9, rfl, hx9, J3, hof3, rfl⟩
  refine x_iret dX8_search_9 rfl (Nat.le_refl _) (Nat.le_refl _) ?_
  exact ⟨hx9, J3, rfl, hof3.pv, fun k _ => hof3 _ _ (by omega), fun w9 hw9 => absurd hw9 (by omega)⟩

theorem k_search {G : GG} {Sh : HS} {R : HR} {m n t : Nat} {P : Nat → List Int32} : ∀ L : Nat, L ≤ 6 → SeC G Sh R m n t P L (5 + L)
  | 0, _ => k_search_0
  | L + 1, h => k_search_s (by omega) (k_search L (by omega))

set_option maxHeartbeats 4000000 in
set_option maxRecDepth 100000 in
theorem k_mgame {G : GG} {Sh : HS} {I : HI} {R : HR} {m : Nat} {σ : SG} (hm0 : MI m Sh I R σ) (hw0 : WI σ) {n w : Int32} : AM G 12 0 0 yX8_game cX8_game 4 (some .int) [.ref m, .int n, .int w] (Sh, I, R) (qi (qryM m Sh I R (gameF σ n w))) := by
  obtain ⟨hsh, hrf, ⟨hn, hn8⟩, hs, ⟨hru, hrt⟩, ⟨htc, htc6⟩, hmt, hmp, him, hse⟩ := id hm0
  have hmw := hm0.mw
  have hnb := hw0.nb
  obtain ⟨z0, z1, z6, z7, z8, z9, z10, z11, z12, z13, z14, z15, z16, z17⟩ := id hsh
  obtain ⟨y1, y6, y7, y8, y9, y10, y11, y12, y13, y14, y15, y16, y17⟩ := id hrf
  refine am_intro (by decide) (Nat.le_of_ble_eq_true rfl) ?_
  refine x_iload_n dX8_game_0 1 rfl rfl ?_
  refine x_iconst (v := 1) dX8_game_1 (by decide) ?_
  refine x_iconst (v := 3) dX8_game_2 (by decide) ?_
  refine x_callS (rest := []) (k_mwithin (G := G) (Sh := Sh) (I := I) (R := R) (v := n) (lo := 1) (hi := 3)) dX8_game_3 crc_X8_within sc_8_82 rfl rfl (Nat.le_of_ble_eq_true rfl) (roomy_k (by omega) (by decide)) (Nat.le_refl _) (Nat.le_refl _) ?_
  rintro _ _ ⟨rw, rfl, hrw, rfl⟩
  subst hrw
  refine x_if_eqB (tgt := 18) dX8_game_6 (by decide) (fun c_6 => ?_) (fun c_6 => ?_)
  · refine x_ldcw (v := (-100000)) dX8_game_18 (tw_at 1164 (by decide +kernel) rfl) ?_
    refine x_iret dX8_game_21 rfl (Nat.le_refl _) (Nat.le_refl _) ?_
    refine ⟨?_, I, rfl, pvM.rf⟩
    unfold gameF
    rw [if_neg (fun z => c_6 ⟨z.1, z.2.1⟩)]
  · refine x_iload_n dX8_game_9 2 rfl rfl ?_
    refine x_iconst (v := 0) dX8_game_10 (by decide) ?_
    refine x_iconst (v := 1) dX8_game_11 (by decide) ?_
    refine x_callS (rest := []) (k_mwithin (G := G) (Sh := Sh) (I := I) (R := R) (v := w) (lo := 0) (hi := 1)) dX8_game_12 crc_X8_within sc_8_82 rfl rfl (Nat.le_of_ble_eq_true rfl) (roomy_k (by omega) (by decide)) (Nat.le_refl _) (Nat.le_refl _) ?_
    rintro _ _ ⟨rw, rfl, hrw, rfl⟩
    subst hrw
    refine x_if_neB (tgt := 22) dX8_game_15 (by decide) (fun c_15 => ?_) (fun c_15 => ?_)
    · obtain ⟨k0, hk0, rfl⟩ := nI_of2 (M := 3) (n := 3) (by decide) (fun z => absurd (Int32.le_trans c_6.1 (Int32.le_of_lt z)) (by decide)) c_6.2
      have hk1 : 1 ≤ k0 := (nI_leI (a := 1) (b := k0) (by omega) (by omega)).mp c_6.1
      obtain ⟨k, rfl⟩ : ∃ k, k0 = k + 1 := ⟨k0 - 1, by omega⟩
      refine x_aload_n dX8_game_22 0 rfl rfl ?_
      refine x_iconst (v := nI 2) dX8_game_23 (by decide) ?_
      refine x_iload_n dX8_game_24 1 rfl rfl ?_
      refine x_imul dX8_game_25 ?_
      refine x_vali (pk_mul 2 (k + 1)) ?_
      refine x_callV (k_search (G := G) (2 * (k + 1)) (by omega) I (gW σ) hmw hs hnb) dX8_game_26 crc_X8_search vc_8_286 z0 rfl rfl rfl rfl (Nat.le_of_ble_eq_true rfl) (roomy_k (by omega) (by decide)) (Nat.le_refl _) (Nat.le_refl _) ?_
      rintro _ _ ⟨x9, rfl, hx9, J9, rfl, hp9, -, hfm⟩
      refine x_istore_n (lv' := [(3, .int x9), (0, .ref m), (1, .int (nI (k + 1))), (2, .int w)]) dX8_game_29 rfl (by decide) rfl ?_
      refine x_iload_n dX8_game_30 3 rfl rfl ?_
      refine x_if_ne (tgt := 38) dX8_game_31 (by decide) (fun c_31 => ?_) (fun c_31 => ?_)
      · refine x_aload_n dX8_game_38 1 rfl rfl ?_
        refine x_gI (v := J9 m 27) dX8_game_39 fl_8_289 rfl z0 rfl ?_
        refine x_iret dX8_game_42 rfl (Nat.le_refl _) (Nat.le_refl _) ?_
        refine ⟨?_, J9, rfl, hp9⟩
        unfold gameF
        rw [if_pos ⟨c_6.1, c_6.2, ans_of c_15⟩, nI_clamp (by omega), if_neg c_31]
        exact (hfm (2 * k + 1) (by omega)).trans (congrArg Prod.snd se_ff)
      · refine x_iload_n dX8_game_34 0 rfl rfl ?_
        refine x_goto (tgt := 42) dX8_game_35 (by decide) ?_
        refine x_iret dX8_game_42 rfl (Nat.le_refl _) (Nat.le_refl _) ?_
        refine ⟨?_, J9, rfl, hp9⟩
        unfold gameF
        rw [if_pos ⟨c_6.1, c_6.2, ans_of c_15⟩, nI_clamp (by omega), if_pos c_31]
        exact hx9.trans ((se_mv (k + 1)).1 _)
    · refine x_ldcw (v := (-100000)) dX8_game_18 (tw_at 1164 (by decide +kernel) rfl) ?_
      refine x_iret dX8_game_21 rfl (Nat.le_refl _) (Nat.le_refl _) ?_
      refine ⟨?_, I, rfl, pvM.rf⟩
      unfold gameF
      rw [if_neg (fun z => c_15 (ans_in z.2.2))]

