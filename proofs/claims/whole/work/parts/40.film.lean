theorem mm40 {k : Nat} (hk : k ≤ 40) : mxI 0 (mnI 40 (nI k)) = nI k := by
  unfold mxI mnI
  by_cases e : k = 40
  · subst e
    decide
  · have hz : nI k < (40 : Int32) := (nI_ltI (b := 40) (by omega) (by omega)).mpr (by omega)
    simp only [hz, if_true]
    by_cases e0 : k = 0
    · subst e0
      decide
    · have hz0 : (0 : Int32) < nI k := (nI_ltI (a := 0) (by omega) (by omega)).mpr (by omega)
      simp only [hz0, if_true]
/-- but for a sheet's cells -/
def shE (A : Nat) (I J : HI) : Prop := ∀ a k, ¬ (a = A ∧ (k = 1 ∨ k = 2)) → ¬ a = A + 1 → J a k = I a k
theorem TH.sheet {b t : Nat} {Sh : HS} {I J : HI} {R : HR} {σ : SG} {v : SV} (h : TH b Sh I R σ v) (ht : t < 4) (hru : gRu σ < 6) (e : shE (b + 26 + 2 * t) I J) : TH b Sh J R σ v := by
  obtain ⟨⟨a1, a2, a3, a4, a5, a6, a7, a8, a9⟩, hs⟩ := h
  exact ⟨⟨a1, a2, (e _ _ (by omega) (by omega)).trans a3, a4, a5, a6, a7, a8.same (fun q hq => e _ _ (by omega) (by omega)) (fun q => e _ _ (by omega) (by omega)), a9⟩, fun j hj q hq => (e _ _ (by omega) (by omega)).trans (hs.1 j hj q hq), (e _ _ (by omega) (by omega)).trans hs.2.1, (e _ _ (by omega) (by omega)).trans hs.2.2⟩
noncomputable def mixF (p : Nat → Nat → Prop) (I J : HI) : HI := by
  classical
  exact fun a k => if p a k then I a k else J a k
theorem mix_t {p : Nat → Nat → Prop} {I J : HI} {a k : Nat} (h : p a k) : mixF p I J a k = I a k := by
  unfold mixF
  simp [h]
theorem mix_f {p : Nat → Nat → Prop} {I J : HI} {a k : Nat} (h : ¬ p a k) : mixF p I J a k = J a k := by
  unfold mixF
  simp [h]
/-- a sheet has changed, and the class's own business -/
theorem CI.sheetP {b s : Nat} {Sh : HS} {I J : HI} {R R' : HR} {σ : SG} {so : Int32} {sz : Nat} {ro : Nat → Int32} (h : CI b Sh I R σ) (hs : s < 4) (e : ∀ a k, ¬ (a = b + 26 + 2 * s ∧ (k = 1 ∨ k = 2)) → ¬ a = b + 26 + 2 * s + 1 → ¬ prv b a k → J a k = I a k) (e2 : rvE b R R') (k1 : J (b + 26 + 2 * s) 1 = so) (k2 : J (b + 26 + 2 * s) 2 = nI sz) (k3 : sz ≤ 40) (k4 : ∀ j, j < 40 → J (b + 26 + 2 * s + 1) j = ro j) : CI b Sh J R' (withSh σ s (so, sz, ro)) := by
  have h1 : CI b Sh (mixF (prv b) I J) R (withSh σ s (so, sz, ro)) := by
    refine h.sheetU hs (fun a k q1 q2 => ?_) ?_ ?_ k3 (fun j hj => ?_)
    · by_cases hp : prv b a k
      · exact mix_t hp
      · rw [mix_f hp]
        exact e a k q1 q2 hp
    · rw [mix_f (by unfold prv; omega)]
      exact k1
    · rw [mix_f (by unfold prv; omega)]
      exact k2
    · rw [mix_f (by unfold prv; omega)]
      exact k4 j hj
  exact h1.pv (fun a k q => (mix_f q).symm) e2
noncomputable def filmRo (σ : SG) (i k q : Nat) : Nat → Int32 := fun j => if j < q then cutF 0 ((passF (gP σ) (gN σ) (gW σ) (j + 1)).1 i 4) else 0
noncomputable def filmV (σ : SG) (s f n : Int32) : Int32 := by
  classical
  exact match idF 4 s, idF (gN σ) f with
    | some _, some _ => if aheadP n then n else -2
    | _, _ => -2
noncomputable def filmS (σ : SG) (s f n : Int32) : SG := by
  classical
  exact match idF 4 s, idF (gN σ) f with
    | some t, some i => if aheadP n then withSh σ t (0, n.toNatClampNeg, filmRo σ i n.toNatClampNeg n.toNatClampNeg) else σ
    | _, _ => σ

set_option maxHeartbeats 4000000 in
set_option maxRecDepth 100000 in
theorem k_film_l {G : GG} {Sh : HS} {I : HI} {R : HR} {b : Nat} {σ : SG} (hc : CI b Sh I R σ) {t i k : Nat} (ht9 : t < 4) (hi : i < gN σ) (hk : k ≤ 40) {R3 : HR} (hrv : rvE b R R3) {s f : Int32} : ∀ (m : Nat) (q : Nat) (J : HI), (q ≤ k) → (k < q + m) → (TH b Sh J R3 σ (passF (gP σ) (gN σ) (gW σ) q)) → (∀ a k, ¬ (a = b + 26 + 2 * t ∧ (k = 1 ∨ k = 2)) → ¬ a = b + 26 + 2 * t + 1 → ¬ prv b a k → J a k = I a k) → (J (b + 26 + 2 * t) 1 = 0) → (J (b + 26 + 2 * t) 2 = nI k) → (∀ j, j < 40 → J (b + 26 + 2 * t + 1) j = filmRo σ i k q j) → X G (kM G 6 0 0 (qi (updI b Sh I R (nI k) (withSh σ t (0, k, filmRo σ i k k))))) yX7_film cX7_film 7 (some .int) 0 0 47 [(6, .int (nI q)), (5, .ref (b + 44 + 2 + i)), (4, .ref (b + 26 + 2 * t)), (0, .ref b), (1, .int s), (2, .int f), (3, .int (nI k))] [] (Sh, J, R3) := by
  intro m
  induction m with
  | zero =>
    intro q J hq hm ht hfr hk1 hk2 hro
    exact absurd hm (by omega)
  | succ m ih =>
    intro q J hq hm ht hfr hk1 hk2 hro
    obtain ⟨⟨s0, s1, s2, s3, s4, s5, s6, s7, sT, sS, sA, sB, sC, sG⟩, ⟨r0, r1, r2, r4, r5, r6, r8, r9, rt0, rt2, rt3, rr0, rT, rS, rTT, rSS, rA, rB, rC, rG⟩, hCT, hCK, hCTp, hCIm, hCSe⟩ := id hc
    have hn8 : gN σ ≤ 8 := hCK.2.1
    have hru := hc.ru
    have hs := hc.sr
    have hw := hc.sw
    have hsz9 := (hCSe t ht9).2.2.1
    refine x_iload dX7_film_47 0 rfl ?_
    refine x_iload_n dX7_film_49 6 rfl rfl ?_
    refine x_icmp_ge (tgt := 79) dX7_film_50 (by decide) (fun c_50 => ?_) (fun c_50 => ?_)
    · have c_50 : k ≤ q := (nI_leI (a := k) (b := q) (by omega) (by omega)).mp c_50
      refine x_iload_n dX7_film_79 6 rfl rfl ?_
      refine x_iret dX7_film_80 rfl (Nat.le_refl _) (Nat.le_refl _) ?_
      have hqk : q = k := by omega
      subst hqk
      exact ⟨rfl, J, R3, rfl, hc.sheetP ht9 hfr hrv hk1 hk2 hk hro, fun a k q => hfr a k (by omega) (by omega) (by unfold prv; omega), hrv.fc⟩
    · have c_50 : ¬ k ≤ q := fun zz9 => c_50 ((nI_leI (a := k) (b := q) (by omega) (by omega)).mpr zz9)
      refine x_aload_n dX7_film_53 3 rfl rfl ?_
      refine x_gR (b := b + 44) dX7_film_54 fl_7_77 rfl s0 ((hrv _ _ (by omega)).trans r5) ?_
      refine x_callV (k_beat (G := G) ht.1 ht.2) dX7_film_57 crc_X4_beat vc_7_158 sB.1 rfl rfl rfl rfl (Nat.le_of_ble_eq_true rfl) (roomy_k (by omega) (by decide)) (Nat.le_refl _) (Nat.le_refl _) ?_
      rintro _ _ ⟨rfl, J8, rfl, hs8, hf8⟩
      have ht := ht.fr hf8 hs8
      have hp8 := hf8.pv hru rfl
      refine x_aload dX7_film_60 2 rfl ?_
      refine x_iload dX7_film_62 0 rfl ?_
      refine x_aload dX7_film_64 1 rfl ?_
      refine x_gI (v := (passF (gP σ) (gN σ) (gW σ) (q + 1)).1 i 4) dX7_film_66 fl_7_132 rfl (sB.2.2 i (by omega)) (ht.2.1 i hi 4 (by omega)) ?_
      refine x_callV (k_put (G := G) (Sh := Sh) (I := J8) (R := R3) (A := b + 26 + 2 * t) (sz := k) (i := nI q) (v := (passF (gP σ) (gN σ) (gW σ) (q + 1)).1 i 4) (sS t ht9) ((hrv _ _ (by omega)).trans (rSS t ht9)) ((hp8 _ _ (by unfold prv; omega)).trans hk2) hk) dX7_film_69 crc_X3_put vc_7_237 (sS t (by omega)).1 rfl rfl rfl rfl (Nat.le_of_ble_eq_true rfl) (roomy_k (by omega) (by decide)) (Nat.le_refl _) (Nat.le_refl _) ?_
      rintro _ _ ⟨r, rfl, (⟨j, hj, hij, rfl, rfl⟩ | ⟨hor, rfl, rfl⟩)⟩
      · have hjq : q = j := (nI_eq (by omega) (by omega)).mp hij
        subst hjq
        obtain ⟨J9, eJ⟩ : ∃ z : HI, z = u2 J8 (b + 26 + 2 * t + 1) q (cutF (J8 (b + 26 + 2 * t) 1) ((passF (gP σ) (gN σ) (gW σ) (q + 1)).1 i 4)) := ⟨_, rfl⟩
        rw [← eJ]
        refine x_pop dX7_film_72 rfl ?_
        refine x_iinc (v := nI (q + 1)) (lv' := [(6, .int (nI (q + 1))), (5, .ref (b + 44 + 2 + i)), (4, .ref (b + 26 + 2 * t)), (0, .ref b), (1, .int s), (2, .int f), (3, .int (nI k))]) dX7_film_73 0 rfl (nI_1 q) (by decide) rfl ?_
        refine x_goto (tgt := 47) dX7_film_76 (by decide) ?_
        refine x_sub [0, 1, 2, 3, 4, 5, 6] rfl ?_
        have he : shE (b + 26 + 2 * t) J8 J9 := fun a k q1 q2 => by rw [eJ, u2_ne (by omega)]
        have hk1' : J8 (b + 26 + 2 * t) 1 = 0 := (hp8 _ _ (by unfold prv; omega)).trans hk1
        exact ih (q + 1) J9 (by omega) (by omega) (ht.sheet ht9 hru he) (fun a k q1 q2 q3 => (he a k q1 q2).trans ((hp8 a k q3).trans (hfr a k q1 q2 q3))) (by rw [eJ, u2_ne (by omega)]; exact hk1') (by rw [eJ, u2_ne (by omega)]; exact (hp8 _ _ (by unfold prv; omega)).trans hk2) (fun j hj => by
          rw [eJ]
          by_cases e : j = q
          · subst e
            rw [u2_same, hk1']
            unfold filmRo
            rw [if_pos (by omega)]
          · rw [u2_ne (by omega), (hp8 _ _ (by unfold prv; omega)), hro j hj]
            unfold filmRo
            by_cases e2 : j < q
            · rw [if_pos e2, if_pos (by omega)]
            · rw [if_neg e2, if_neg (by omega)])
      · rcases hor with z | z
        · exact absurd z (nI_pos (by omega))
        · exact absurd ((nI_leI (by omega) (by omega)).mp z) (by omega)

set_option maxHeartbeats 4000000 in
set_option maxRecDepth 100000 in
theorem k_film {G : GG} {Sh : HS} {I : HI} {R : HR} {b : Nat} {σ : SG} (hc : CI b Sh I R σ) {s f n : Int32} : AM G 6 0 0 yX7_film cX7_film 7 (some .int) [.ref b, .int s, .int f, .int n] (Sh, I, R) (qi (updI b Sh I R (filmV σ s f n) (filmS σ s f n))) := by
  obtain ⟨⟨s0, s1, s2, s3, s4, s5, s6, s7, sT, sS, sA, sB, sC, sG⟩, ⟨r0, r1, r2, r4, r5, r6, r8, r9, rt0, rt2, rt3, rr0, rT, rS, rTT, rSS, rA, rB, rC, rG⟩, hCT, hCK, hCTp, hCIm, hCSe⟩ := id hc
  have hn8 : gN σ ≤ 8 := hCK.2.1
  have hru := hc.ru
  have hs := hc.sr
  have hw := hc.sw
  refine am_intro (by decide) (Nat.le_of_ble_eq_true rfl) ?_
  refine x_aload_n dX7_film_0 0 rfl rfl ?_
  refine x_iload_n dX7_film_1 1 rfl rfl ?_
  refine x_callV (k_sheetAt (G := G) hc (i := s)) dX7_film_2 crc_X7_sheetAt vc_7_185 s0 rfl rfl rfl rfl (Nat.le_of_ble_eq_true rfl) (roomy_k (by omega) (by decide)) (Nat.le_refl _) (Nat.le_refl _) ?_
  rintro _ _ ⟨_, rfl, rfl, (⟨t, ht9, hit, rfl⟩ | ⟨hno4, rfl⟩)⟩
  · refine x_astore (lv' := [(4, .ref (b + 26 + 2 * t)), (0, .ref b), (1, .int s), (2, .int f), (3, .int n)]) dX7_film_5 (by decide) rfl ?_
    refine x_aload_n dX7_film_7 1 rfl rfl ?_
    refine x_callV (k_think (G := G) hc) dX7_film_8 crc_X7_think vc_7_175 s0 rfl rfl rfl rfl (Nat.le_of_ble_eq_true rfl) (roomy_k (by omega) (by decide)) (Nat.le_refl _) (Nat.le_refl _) ?_
    rintro _ _ ⟨_, rfl, rfl, J801t, R801t, rfl, ht, hpv, hrv⟩
    refine x_iload_n dX7_film_11 3 rfl rfl ?_
    refine x_callV (k_at (G := G) (Sh := Sh) (I := J801t) (R := R801t) (S := b + 44) (n := gN σ) (i := f) sB ht.rs ht.sz hn8) dX7_film_12 crc_X4_at vc_7_106 sB.1 rfl rfl rfl rfl (Nat.le_of_ble_eq_true rfl) (roomy_k (by omega) (by decide)) (Nat.le_refl _) (Nat.le_refl _) ?_
    rintro _ _ ⟨_, rfl, rfl, (⟨i, hi, hii, rfl⟩ | ⟨hno, rfl⟩)⟩
    · refine x_astore (lv' := [(5, .ref (b + 44 + 2 + i)), (4, .ref (b + 26 + 2 * t)), (0, .ref b), (1, .int s), (2, .int f), (3, .int n)]) dX7_film_15 (by decide) rfl ?_
      refine x_aload dX7_film_17 1 rfl ?_
      refine x_ifnull dX7_film_19 ?_
      refine x_aload dX7_film_22 0 rfl ?_
      refine x_ifnull dX7_film_24 ?_
      refine x_iload_n dX7_film_27 5 rfl rfl ?_
      refine x_callS (rest := []) (k_isAhead (G := G) (Sh := Sh) (I := J801t) (R := R801t) (n := n)) dX7_film_28 crc_X7_isAhead sc_7_168 rfl rfl (Nat.le_of_ble_eq_true rfl) (roomy_k (by omega) (by decide)) (Nat.le_refl _) (Nat.le_refl _) ?_
      rintro _ _ ⟨_, rfl, rfl, rfl⟩
      refine x_if_neB (tgt := 37) dX7_film_31 (by decide) (fun c_31 => ?_) (fun c_31 => ?_)
      · obtain ⟨k, hk, rfl⟩ := ahead_nat c_31
        refine x_aload dX7_film_37 1 rfl ?_
        refine x_iconst (v := 0) dX7_film_39 (by decide) ?_
        refine x_iload_n dX7_film_40 5 rfl rfl ?_
        refine x_callV (k_become (G := G) (I := J801t) (R := R801t) (A := b + 26 + 2 * t) (so := 0) (nn := nI k) (sS t ht9) ((hc.pv hpv hrv).2.1.2.2.2.2.2.2.2.2.2.2.2.2.2.2.2.1 t ht9)) dX7_film_41 crc_X3_become vc_7_233 (sS t (by omega)).1 rfl rfl rfl rfl (Nat.le_of_ble_eq_true rfl) (roomy_k (by omega) (by decide)) (Nat.le_refl _) (Nat.le_refl _) ?_
        rintro _ _ ⟨rfl, J7, rfl, h1, h2, h3, h4⟩
        refine x_iconst (v := 0) dX7_film_44 (by decide) ?_
        refine x_istore (lv' := [(6, .int 0), (5, .ref (b + 44 + 2 + i)), (4, .ref (b + 26 + 2 * t)), (0, .ref b), (1, .int s), (2, .int f), (3, .int (nI k))]) dX7_film_45 (by decide) rfl ?_
        refine x_sub [0, 1, 2, 3, 4, 5, 6] rfl ?_
        have hfin : filmV σ s f (nI k) = nI k ∧ filmS σ s f (nI k) = withSh σ t (0, k, filmRo σ i k k) := by
          unfold filmV filmS
          rw [hit, idF_in (n := 4) ht9 (by omega), hii, idF_in hi hn8]
          dsimp only
          rw [if_pos c_31, if_pos c_31, nI_clamp (by omega)]
          exact ⟨rfl, rfl⟩
        rw [hfin.1, hfin.2]
        have he : shE (b + 26 + 2 * t) _ J7 := fun a k q1 q2 => h4 a k (by omega) (by omega)
        exact k_film_l hc ht9 hi hk hrv (k + 1) 0 J7 (by omega) (by omega) (ht.sheet ht9 hru he) (fun a k q1 q2 q3 => (he a k q1 q2).trans (hpv a k q3)) h1 (h2.trans (mm40 hk)) (fun j hj => (h3 j hj).trans (by unfold filmRo; rw [if_neg (by omega)]))
      · refine x_bipush (v := (-2)) dX7_film_34 (by decide) ?_
        refine x_iret dX7_film_36 rfl (Nat.le_refl _) (Nat.le_refl _) ?_
        unfold filmV filmS
        rw [hit, idF_in (n := 4) ht9 (by omega)]
        rw [hii, idF_in hi hn8]
        dsimp only
        rw [if_neg c_31, if_neg c_31]
        exact ⟨rfl, J801t, R801t, rfl, hc.pv hpv hrv, hpv.fc, hrv.fc⟩
    · refine x_astoreN (lv' := [(5, .null), (4, .ref (b + 26 + 2 * t)), (0, .ref b), (1, .int s), (2, .int f), (3, .int n)]) dX7_film_15 (by decide) rfl ?_
      refine x_aload dX7_film_17 1 rfl ?_
      refine x_ifnull dX7_film_19 ?_
      refine x_aloadN dX7_film_22 0 rfl ?_
      refine x_ifnullN (tgt := 34) dX7_film_24 (by decide) ?_
      refine x_bipush (v := (-2)) dX7_film_34 (by decide) ?_
      refine x_iret dX7_film_36 rfl (Nat.le_refl _) (Nat.le_refl _) ?_
      unfold filmV filmS
      rw [hit, idF_in (n := 4) ht9 (by omega)]
      rw [idF_out hn8 hno]
      exact ⟨rfl, J801t, R801t, rfl, hc.pv hpv hrv, hpv.fc, hrv.fc⟩
  · refine x_astoreN (lv' := [(4, .null), (0, .ref b), (1, .int s), (2, .int f), (3, .int n)]) dX7_film_5 (by decide) rfl ?_
    refine x_aload_n dX7_film_7 1 rfl rfl ?_
    refine x_callV (k_think (G := G) hc) dX7_film_8 crc_X7_think vc_7_175 s0 rfl rfl rfl rfl (Nat.le_of_ble_eq_true rfl) (roomy_k (by omega) (by decide)) (Nat.le_refl _) (Nat.le_refl _) ?_
    rintro _ _ ⟨_, rfl, rfl, J802t, R802t, rfl, ht, hpv, hrv⟩
    refine x_iload_n dX7_film_11 3 rfl rfl ?_
    refine x_callV (k_at (G := G) (Sh := Sh) (I := J802t) (R := R802t) (S := b + 44) (n := gN σ) (i := f) sB ht.rs ht.sz hn8) dX7_film_12 crc_X4_at vc_7_106 sB.1 rfl rfl rfl rfl (Nat.le_of_ble_eq_true rfl) (roomy_k (by omega) (by decide)) (Nat.le_refl _) (Nat.le_refl _) ?_
    rintro _ _ ⟨_, rfl, rfl, (⟨i, hi, hii, rfl⟩ | ⟨hno, rfl⟩)⟩
    · refine x_astore (lv' := [(5, .ref (b + 44 + 2 + i)), (4, .null), (0, .ref b), (1, .int s), (2, .int f), (3, .int n)]) dX7_film_15 (by decide) rfl ?_
      refine x_aloadN dX7_film_17 1 rfl ?_
      refine x_ifnullN (tgt := 34) dX7_film_19 (by decide) ?_
      refine x_bipush (v := (-2)) dX7_film_34 (by decide) ?_
      refine x_iret dX7_film_36 rfl (Nat.le_refl _) (Nat.le_refl _) ?_
      unfold filmV filmS
      rw [idF_out (n := 4) (by omega) hno4]
      exact ⟨rfl, J802t, R802t, rfl, hc.pv hpv hrv, hpv.fc, hrv.fc⟩
    · refine x_astoreN (lv' := [(5, .null), (4, .null), (0, .ref b), (1, .int s), (2, .int f), (3, .int n)]) dX7_film_15 (by decide) rfl ?_
      refine x_aloadN dX7_film_17 1 rfl ?_
      refine x_ifnullN (tgt := 34) dX7_film_19 (by decide) ?_
      refine x_bipush (v := (-2)) dX7_film_34 (by decide) ?_
      refine x_iret dX7_film_36 rfl (Nat.le_refl _) (Nat.le_refl _) ?_
      unfold filmV filmS
      rw [idF_out (n := 4) (by omega) hno4]
      exact ⟨rfl, J802t, R802t, rfl, hc.pv hpv hrv, hpv.fc, hrv.fc⟩

