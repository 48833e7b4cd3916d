/-! WAVES THAT WERE TOLD, in numbers -/
noncomputable def foF (P : Nat → List Int32) (n i : Nat) (ro : Nat → Int32) : Nat → Nat → SV → Int32
  | 0, _, _ => -1
  | c + 1, q, v => if (beatF P n v).1 i 4 = ro q then foF P n i ro c (q + 1) (beatF P n v) else nI q
def chF (σ : SG) (w : Int32) : Nat := if w = 1 then 6 else if w = 2 then 10 else if w = 3 then 10 else if w = 4 then 16 else gTc σ
def suF (σ : SG) (i : Nat) (w : Int32) (c : Nat) : Nat × SV := if w = 1 then (gRu σ, upV (gW σ) i 0 (nI c)) else if w = 2 then (gRu σ, upV (gW σ) i 1 (nI c)) else if w = 3 then (gRu σ, ((gW σ).1, nI c, (gW σ).2.2)) else if w = 4 then (gRu σ, upV (gW σ) i 2 (nI c)) else (c, gW σ)
noncomputable def tellsG (σ : SG) (t i : Nat) (w : Int32) (m : Nat) : Int32 := fd (fun c r => if foF (gPP σ (suF σ i w c).1) (gN σ) i (gRo σ t) (gSz σ t) 0 (suF σ i w c).2 = -1 then r ||| ((1 : Int32) <<< (nI c &&& 31)) else r) 0 m
noncomputable def tellsF (σ : SG) (s f w : Int32) : Int32 := match idF 4 s, idF (gN σ) f with
  | some t, some i => if w < 0 ∨ 5 < w then -2 else if gSo σ t = -1 then -11 else if w = 0 then foF (gP σ) (gN σ) i (gRo σ t) (gSz σ t) 0 (gW σ) else tellsG σ t i w (chF σ w)
  | _, _ => -2
/-- the thought strand under a rule -/
def TH2 (b : Nat) (Sh : HS) (I : HI) (R : HR) (σ : SG) (r : Nat) (v : SV) : Prop := r < gTc σ ∧ SW Sh I R (b + 44) (b + 8 + 3 * r) (gN σ) (gPP σ r) ∧ SR I (b + 44) (gN σ) v
theorem TH.to2 {b : Nat} {Sh : HS} {I J : HI} {R R' : HR} {σ : SG} {v : SV} (hc : CI b Sh I R σ) (h : TH b Sh J R' σ v) : TH2 b Sh J R' σ (gRu σ) v := ⟨hc.2.2.2.1.2.2.2.2, h⟩
theorem TH.to2r {b c : Nat} {Sh : HS} {I J : HI} {R R' : HR} {σ : SG} {v : SV} (hc : CI b Sh I R σ) (hpv : pvE b I J) (hrv : rvE b R R') (h : TH b Sh J R' σ v) (hcc : c < gTc σ) : TH2 b Sh J (u2 R' (b + 44) 4 (some (b + 8 + 3 * c))) σ c v := by
  have h6 : gTc σ ≤ 6 := hc.2.2.1.2.2.1
  have h2 := hc.pv hpv hrv
  obtain ⟨⟨a1, a2, a3, a4, a5, a6, a7, a8, a9⟩, hs⟩ := h
  refine ⟨hcc, ⟨a1, ⟨(u2_ne (by omega)).trans a2.1, fun i hi => (u2_ne (by omega)).trans (a2.2 i hi)⟩, a3, a4, u2_same, hc.1.2.2.2.2.2.2.2.2.1 _ (by omega), ?_, h2.2.2.1.2.2.2.1 _ hcc, by omega⟩, hs⟩
  have := h2.2.1.2.2.2.2.2.2.2.2.2.2.2.2.2.2.1 c (by omega)
  exact ⟨(u2_ne (by omega)).trans this.1, (u2_ne (by omega)).trans this.2⟩

set_option maxHeartbeats 4000000 in
set_option maxRecDepth 100000 in
theorem k_firstOther_l {G : GG} {Sh : HS} {I : HI} {R : HR} {b : Nat} {σ : SG} (hc : CI b Sh I R σ) {t i r : Nat} (ht9 : t < 4) (hi : i < gN σ) {R3 : HR} (hrv : rvE b R R3) {v : SV} : ∀ (m : Nat) (q : Nat) (u : SV) (J : HI), (q ≤ gSz σ t) → (gSz σ t < q + m) → (foF (gPP σ r) (gN σ) i (gRo σ t) (gSz σ t - q) q u = foF (gPP σ r) (gN σ) i (gRo σ t) (gSz σ t) 0 v) → (TH2 b Sh J R3 σ r u) → (pvE b I J) → X G (kM G 6 0 0 (qi fun x g => x = foF (gPP σ r) (gN σ) i (gRo σ t) (gSz σ t) 0 v ∧ ∃ J2 : HI, g = (Sh, J2, R3) ∧ pvE b I J2)) yX7_firstOther cX7_firstOther 4 (some .int) 0 0 2 [(3, .int (nI q)), (0, .ref b), (1, .ref (b + 26 + 2 * t)), (2, .ref (b + 44 + 2 + i))] [] (Sh, J, R3) := by
  intro m
  induction m with
  | zero =>
    intro q u J hq hm hval ht hpv
    exact absurd hm (by omega)
  | succ m ih =>
    intro q u J hq hm hval ht hpv
    obtain ⟨⟨s0, s1, s2, s3, s4, s5, s6, s7, sT, sS, sA, sB, sC, sG⟩, ⟨r0, r1, r2, r4, r5, r6, r8, r9, rt0, rt2, rt3, rr0, rT, rS, rTT, rSS, rA, rB, rC, rG⟩, hCT, hCK, hCTp, hCIm, hCSe⟩ := id hc
    have hn8 : gN σ ≤ 8 := hCK.2.1
    have hru := hc.ru
    have hs := hc.sr
    have hw := hc.sw
    have hsz9 := (hCSe t ht9).2.2.1
    have htc6 := hCT.2.2.1
    refine x_iload_n dX7_firstOther_2 0 rfl rfl ?_
    refine x_aload_n dX7_firstOther_3 2 rfl rfl ?_
    refine x_gI (v := nI (gSz σ t)) dX7_firstOther_4 fl_7_197 rfl (sS t (by omega)).1 ((hc.pv hpv hrv).2.2.2.2.2.2 t ht9).2.1 ?_
    refine x_icmp_ge (tgt := 37) dX7_firstOther_7 (by decide) (fun c_7 => ?_) (fun c_7 => ?_)
    · have c_7 : (gSz σ t) ≤ q := (nI_leI (a := (gSz σ t)) (b := q) (by omega) (by omega)).mp c_7
      refine x_iconst (v := (-1)) dX7_firstOther_37 (by decide) ?_
      refine x_iret dX7_firstOther_38 rfl (Nat.le_refl _) (Nat.le_refl _) ?_
      exact ⟨by rw [← hval, show gSz σ t - q = 0 by omega]; rfl, J, rfl, hpv⟩
    · have c_7 : ¬ (gSz σ t) ≤ q := fun zz9 => c_7 ((nI_leI (a := (gSz σ t)) (b := q) (by omega) (by omega)).mpr zz9)
      refine x_aload_n dX7_firstOther_10 1 rfl rfl ?_
      refine x_gR (b := b + 44) dX7_firstOther_11 fl_7_77 rfl s0 ((hrv _ _ (by omega)).trans r5) ?_
      refine x_callV (k_beat (G := G) ht.2.1 ht.2.2) dX7_firstOther_14 crc_X4_beat vc_7_158 sB.1 rfl rfl rfl rfl (Nat.le_of_ble_eq_true rfl) (roomy_k (by omega) (by decide)) (Nat.le_refl _) (Nat.le_refl _) ?_
      rintro _ _ ⟨rfl, J8, rfl, hs8, hf8⟩
      have hr6 : r < 6 := by have := ht.1; omega
      have ht := (⟨ht.1, ht.2.1.fr hf8, hs8⟩ : TH2 b Sh J8 R3 σ r _)
      have hpv := hpv.tr (hf8.pv hr6 rfl)
      refine x_aload_n dX7_firstOther_17 3 rfl rfl ?_
      refine x_gI (v := (beatF (gPP σ r) (gN σ) u).1 i 4) dX7_firstOther_18 fl_7_132 rfl (sB.2.2 i (by omega)) (ht.2.2.1 i hi 4 (by omega)) ?_
      refine x_aload_n dX7_firstOther_21 2 rfl rfl ?_
      refine x_iload_n dX7_firstOther_22 0 rfl rfl ?_
      refine x_callV (k_item (G := G) (Sh := Sh) (I := J8) (R := R3) (A := b + 26 + 2 * t) (sz := gSz σ t) (sS t ht9) ((hc.pv hpv hrv).2.1.2.2.2.2.2.2.2.2.2.2.2.2.2.2.2.1 t ht9) ((hc.pv hpv hrv).2.2.2.2.2.2 t ht9).2.1 ((hc.pv hpv hrv).2.2.2.2.2.2 t ht9).2.2.1 (i := nI q)) dX7_firstOther_23 crc_X3_item vc_7_198 (sS t (by omega)).1 rfl rfl rfl rfl (Nat.le_of_ble_eq_true rfl) (roomy_k (by omega) (by decide)) (Nat.le_refl _) (Nat.le_refl _) ?_
      rintro _ _ ⟨_, rfl, hvi, rfl⟩
      refine x_vali (hvi.trans ((itF_in (by omega) (by have := (hCSe t ht9).2.2.1; omega)).trans (((hc.pv hpv hrv).2.2.2.2.2.2 t ht9).2.2.2 q (by have := (hCSe t ht9).2.2.1; omega)))) ?_
      refine x_icmp_eq (tgt := 31) dX7_firstOther_26 (by decide) (fun c_26 => ?_) (fun c_26 => ?_)
      · refine x_iinc (v := nI (q + 1)) (lv' := [(3, .int (nI (q + 1))), (0, .ref b), (1, .ref (b + 26 + 2 * t)), (2, .ref (b + 44 + 2 + i))]) dX7_firstOther_31 0 rfl (nI_1 q) (by decide) rfl ?_
        refine x_goto (tgt := 2) dX7_firstOther_34 (by decide) ?_
        refine x_sub [0, 1, 2, 3] rfl ?_
        exact ih (q + 1) _ J8 (by omega) (by omega) (by
          rw [← hval, show gSz σ t - q = (gSz σ t - (q + 1)) + 1 by omega]
          conv => rhs; unfold foF
          rw [if_pos c_26]) ht hpv
      · refine x_iload_n dX7_firstOther_29 0 rfl rfl ?_
        refine x_iret dX7_firstOther_30 rfl (Nat.le_refl _) (Nat.le_refl _) ?_
        refine ⟨?_, J8, rfl, hpv⟩
        rw [← hval, show gSz σ t - q = (gSz σ t - (q + 1)) + 1 by omega]
        unfold foF
        rw [if_neg c_26]

set_option maxHeartbeats 4000000 in
set_option maxRecDepth 100000 in
theorem k_firstOther {G : GG} {Sh : HS} {I : HI} {R : HR} {b : Nat} {σ : SG} (hc : CI b Sh I R σ) {t i r : Nat} (ht9 : t < 4) (hi : i < gN σ) {R3 : HR} {J : HI} (hpv : pvE b I J) (hrv : rvE b R R3) {v : SV} (ht : TH2 b Sh J R3 σ r v) : AM G 6 0 0 yX7_firstOther cX7_firstOther 4 (some .int) [.ref b, .ref (b + 26 + 2 * t), .ref (b + 44 + 2 + i)] (Sh, J, R3) (qi fun x g => x = foF (gPP σ r) (gN σ) i (gRo σ t) (gSz σ t) 0 v ∧ ∃ J2 : HI, g = (Sh, J2, R3) ∧ pvE b I J2) := by
  obtain ⟨⟨s0, s1, s2, s3, s4, s5, s6, s7, sT, sS, sA, sB, sC, sG⟩, ⟨r0, r1, r2, r4, r5, r6, r8, r9, rt0, rt2, rt3, rr0, rT, rS, rTT, rSS, rA, rB, rC, rG⟩, hCT, hCK, hCTp, hCIm, hCSe⟩ := id hc
  have hn8 : gN σ ≤ 8 := hCK.2.1
  have hru := hc.ru
  have hs := hc.sr
  have hw := hc.sw
  have hsz9 := (hCSe t ht9).2.2.1
  have htc6 := hCT.2.2.1
  refine am_intro (by decide) (Nat.le_of_ble_eq_true rfl) ?_
  refine x_iconst (v := 0) dX7_firstOther_0 (by decide) ?_
  refine x_istore_n (lv' := [(3, .int 0), (0, .ref b), (1, .ref (b + 26 + 2 * t)), (2, .ref (b + 44 + 2 + i))]) dX7_firstOther_1 rfl (by decide) rfl ?_
  exact k_firstOther_l hc ht9 hi hrv (gSz σ t + 1) 0 v J (by omega) (by omega) rfl ht hpv

set_option maxHeartbeats 4000000 in
set_option maxRecDepth 100000 in
theorem k_choicesOf {G : GG} {Sh : HS} {I : HI} {R : HR} {b : Nat} {σ : SG} (hc : CI b Sh I R σ) {J : HI} {R3 : HR} (hpv : pvE b I J) (hrv : rvE b R R3) {w : Int32} : AM G 1 0 0 yX7_choicesOf cX7_choicesOf 2 (some .int) [.ref b, .int w] (Sh, J, R3) (qi fun r g => r = nI (chF σ w) ∧ g = (Sh, J, R3)) := by
  obtain ⟨⟨s0, s1, s2, s3, s4, s5, s6, s7, sT, sS, sA, sB, sC, sG⟩, ⟨r0, r1, r2, r4, r5, r6, r8, r9, rt0, rt2, rt3, rr0, rT, rS, rTT, rSS, rA, rB, rC, rG⟩, hCT, hCK, hCTp, hCIm, hCSe⟩ := id hc
  have hn8 : gN σ ≤ 8 := hCK.2.1
  have hru := hc.ru
  have hs := hc.sr
  have hw := hc.sw
  refine am_intro (by decide) (Nat.le_of_ble_eq_true rfl) ?_
  refine x_iload_n dX7_choicesOf_0 1 rfl rfl ?_
  refine x_tsw [(1, 32), (2, 35), (3, 38), (4, 41)] 44 dX7_choicesOf_1 (by decide) (by decide +kernel) (fun c_1 => ?_) ?_
  · have d_1 : ¬ w = 1 ∧ ¬ w = 2 ∧ ¬ w = 3 ∧ ¬ w = 4 := ⟨fun q => c_1 (1, 32) (by simp) (q.trans (by decide)), fun q => c_1 (2, 35) (by simp) (q.trans (by decide)), fun q => c_1 (3, 38) (by simp) (q.trans (by decide)), fun q => c_1 (4, 41) (by simp) (q.trans (by decide))⟩
    refine x_aload_n dX7_choicesOf_44 0 rfl rfl ?_
    refine x_gI (v := nI (gTc σ)) dX7_choicesOf_45 fl_7_64 rfl s0 ((hc.pv hpv hrv).2.2.1.1) ?_
    refine x_iret dX7_choicesOf_48 rfl (Nat.le_refl _) (Nat.le_refl _) ?_
    refine ⟨?_, rfl⟩
    unfold chF
    obtain ⟨z1, z2, z3, z4⟩ := d_1
    rw [if_neg z1, if_neg z2, if_neg z3, if_neg z4]
  · refine List.forall_mem_cons.mpr ⟨fun c_1 => ?_, List.forall_mem_cons.mpr ⟨fun c_1 => ?_, List.forall_mem_cons.mpr ⟨fun c_1 => ?_, List.forall_mem_cons.mpr ⟨fun c_1 => ?_, fun _ h9 => absurd h9 List.not_mem_nil⟩⟩⟩⟩
    · have c_1 : w = 1 := c_1.trans (by decide)
      refine x_bipush (v := 6) dX7_choicesOf_32 (by decide) ?_
      refine x_iret dX7_choicesOf_34 rfl (Nat.le_refl _) (Nat.le_refl _) ?_
      refine ⟨?_, rfl⟩
      unfold chF
      subst c_1
      rfl
    · have c_1 : w = 2 := c_1.trans (by decide)
      refine x_bipush (v := 10) dX7_choicesOf_35 (by decide) ?_
      refine x_iret dX7_choicesOf_37 rfl (Nat.le_refl _) (Nat.le_refl _) ?_
      refine ⟨?_, rfl⟩
      unfold chF
      subst c_1
      rfl
    · have c_1 : w = 3 := c_1.trans (by decide)
      refine x_bipush (v := 10) dX7_choicesOf_38 (by decide) ?_
      refine x_iret dX7_choicesOf_40 rfl (Nat.le_refl _) (Nat.le_refl _) ?_
      refine ⟨?_, rfl⟩
      unfold chF
      subst c_1
      rfl
    · have c_1 : w = 4 := c_1.trans (by decide)
      refine x_bipush (v := 16) dX7_choicesOf_41 (by decide) ?_
      refine x_iret dX7_choicesOf_43 rfl (Nat.le_refl _) (Nat.le_refl _) ?_
      refine ⟨?_, rfl⟩
      unfold chF
      subst c_1
      rfl

set_option maxHeartbeats 4000000 in
set_option maxRecDepth 100000 in
theorem k_suppose {G : GG} {Sh : HS} {I : HI} {R : HR} {b : Nat} {σ : SG} (hc : CI b Sh I R σ) {i c : Nat} (hi : i < gN σ) {J : HI} {R3 : HR} (hpv : pvE b I J) (hrv : rvE b R R3) (ht : TH b Sh J R3 σ (gW σ)) {w : Int32} (hcc : c < chF σ w) : AM G 1 0 0 yX7_suppose cX7_suppose 4 none [.ref b, .ref (b + 44 + 2 + i), .int w, .int (nI c)] (Sh, J, R3) (qv fun g => ∃ (J2 : HI) (R2 : HR), g = (Sh, J2, R2) ∧ TH2 b Sh J2 R2 σ (suF σ i w c).1 (suF σ i w c).2 ∧ pvE b J J2 ∧ rvE b R3 R2) := by
  obtain ⟨⟨s0, s1, s2, s3, s4, s5, s6, s7, sT, sS, sA, sB, sC, sG⟩, ⟨r0, r1, r2, r4, r5, r6, r8, r9, rt0, rt2, rt3, rr0, rT, rS, rTT, rSS, rA, rB, rC, rG⟩, hCT, hCK, hCTp, hCIm, hCSe⟩ := id hc
  have hn8 : gN σ ≤ 8 := hCK.2.1
  have hru := hc.ru
  have hs := hc.sr
  have hw := hc.sw
  refine am_intro (by decide) (Nat.le_of_ble_eq_true rfl) ?_
  refine x_iload_n dX7_suppose_0 2 rfl rfl ?_
  refine x_tsw [(1, 32), (2, 40), (3, 48), (4, 59)] 67 dX7_suppose_1 (by decide) (by decide +kernel) (fun c_1 => ?_) ?_
  · have d_1 : ¬ w = 1 ∧ ¬ w = 2 ∧ ¬ w = 3 ∧ ¬ w = 4 := ⟨fun q => c_1 (1, 32) (by simp) (q.trans (by decide)), fun q => c_1 (2, 40) (by simp) (q.trans (by decide)), fun q => c_1 (3, 48) (by simp) (q.trans (by decide)), fun q => c_1 (4, 59) (by simp) (q.trans (by decide))⟩
    have hc6 : c < 6 := by
      have h9 := hcc
      have h8 := hCT.2.2.1
      obtain ⟨z1, z2, z3, z4⟩ := d_1
      unfold chF at h9
      rw [if_neg z1, if_neg z2, if_neg z3, if_neg z4] at h9
      omega
    refine x_iload_n dX7_suppose_67 3 rfl rfl ?_
    refine x_if_lt (tgt := 90) dX7_suppose_68 (by decide) (fun c_68 => False.elim (nI_pos (by omega) c_68)) (fun c_68 => ?_)
    refine x_iload_n dX7_suppose_71 3 rfl rfl ?_
    refine x_bipush (v := 6) dX7_suppose_72 (by decide) ?_
    refine x_icmp_ge (tgt := 90) dX7_suppose_74 (by decide) (fun c_74 => False.elim (absurd ((nI_leI (a := 6) (b := c) (by omega) (by omega)).mp c_74) (by omega))) (fun c_74 => ?_)
    refine x_aload_n dX7_suppose_77 0 rfl rfl ?_
    refine x_gR (b := b + 44) dX7_suppose_78 fl_7_77 rfl s0 ((hrv _ _ (by omega)).trans r5) ?_
    refine x_aload_n dX7_suppose_81 0 rfl rfl ?_
    refine x_gR (b := b + 6) dX7_suppose_82 fl_7_27 rfl s0 ((hrv _ _ (by omega)).trans r2) ?_
    refine x_iload_n dX7_suppose_85 3 rfl rfl ?_
    refine x_aa (j := c) (b := b + 8 + 3 * c) dX7_suppose_86 s6 (by decide) (by decide) rfl (by omega) (by omega) ((hrv _ _ (by omega)).trans (rT c (by omega))) ?_
    refine x_pR dX7_suppose_87 fl_7_151 rfl rfl rfl rfl sB.1 (fun Rq1 e_Rq1 => ?_)
    refine x_vret dX7_suppose_90 rfl (Nat.le_refl _) (Nat.le_refl _) ?_
    refine ⟨J, Rq1, rfl, ?_⟩
    obtain ⟨z1, z2, z3, z4⟩ := d_1
    have hsu : suF σ i w c = (c, gW σ) := by
      unfold suF
      rw [if_neg z1, if_neg z2, if_neg z3, if_neg z4]
    rw [hsu, e_Rq1]
    exact ⟨ht.to2r hc hpv hrv (by have h9 := hcc; unfold chF at h9; rw [if_neg z1, if_neg z2, if_neg z3, if_neg z4] at h9; exact h9), pvE.rf, fun a k q => u2_ne q⟩
  · refine List.forall_mem_cons.mpr ⟨fun c_1 => ?_, List.forall_mem_cons.mpr ⟨fun c_1 => ?_, List.forall_mem_cons.mpr ⟨fun c_1 => ?_, List.forall_mem_cons.mpr ⟨fun c_1 => ?_, fun _ h9 => absurd h9 List.not_mem_nil⟩⟩⟩⟩
    · have c_1 : w = 1 := c_1.trans (by decide)
      refine x_aload_n dX7_suppose_32 1 rfl rfl ?_
      refine x_iload_n dX7_suppose_33 3 rfl rfl ?_
      refine x_pI dX7_suppose_34 fl_7_135 rfl rfl rfl (sB.2.2 i (by omega)) (fun Iq2 e_Iq2 => ?_)
      refine x_goto (tgt := 90) dX7_suppose_37 (by decide) ?_
      refine x_vret dX7_suppose_90 rfl (Nat.le_refl _) (Nat.le_refl _) ?_
      refine ⟨Iq2, R3, rfl, ?_⟩
      subst c_1
      have hth := ht.put (x := nI c) hi hn8 (k := 0) (by omega)
      rw [← e_Iq2] at hth
      exact ⟨hth.1.to2 hc, hth.2, rvE.rf⟩
    · have c_1 : w = 2 := c_1.trans (by decide)
      refine x_aload_n dX7_suppose_40 1 rfl rfl ?_
      refine x_iload_n dX7_suppose_41 3 rfl rfl ?_
      refine x_pI dX7_suppose_42 fl_7_121 rfl rfl rfl (sB.2.2 i (by omega)) (fun Iq3 e_Iq3 => ?_)
      refine x_goto (tgt := 90) dX7_suppose_45 (by decide) ?_
      refine x_vret dX7_suppose_90 rfl (Nat.le_refl _) (Nat.le_refl _) ?_
      refine ⟨Iq3, R3, rfl, ?_⟩
      subst c_1
      have hth := ht.put (x := nI c) hi hn8 (k := 1) (by omega)
      rw [← e_Iq3] at hth
      exact ⟨hth.1.to2 hc, hth.2, rvE.rf⟩
    · have c_1 : w = 3 := c_1.trans (by decide)
      refine x_aload_n dX7_suppose_48 0 rfl rfl ?_
      refine x_gR (b := b + 44) dX7_suppose_49 fl_7_77 rfl s0 ((hrv _ _ (by omega)).trans r5) ?_
      refine x_iload_n dX7_suppose_52 3 rfl rfl ?_
      refine x_pI dX7_suppose_53 fl_7_100 rfl rfl rfl sB.1 (fun Iq4 e_Iq4 => ?_)
      refine x_goto (tgt := 90) dX7_suppose_56 (by decide) ?_
      refine x_vret dX7_suppose_90 rfl (Nat.le_refl _) (Nat.le_refl _) ?_
      refine ⟨Iq4, R3, rfl, ?_⟩
      subst c_1
      have hth := ht.moon (x := nI c) hn8
      rw [← e_Iq4] at hth
      exact ⟨hth.1.to2 hc, hth.2, rvE.rf⟩
    · have c_1 : w = 4 := c_1.trans (by decide)
      refine x_aload_n dX7_suppose_59 1 rfl rfl ?_
      refine x_iload_n dX7_suppose_60 3 rfl rfl ?_
      refine x_pI dX7_suppose_61 fl_7_126 rfl rfl rfl (sB.2.2 i (by omega)) (fun Iq5 e_Iq5 => ?_)
      refine x_goto (tgt := 90) dX7_suppose_64 (by decide) ?_
      refine x_vret dX7_suppose_90 rfl (Nat.le_refl _) (Nat.le_refl _) ?_
      refine ⟨Iq5, R3, rfl, ?_⟩
      subst c_1
      have hth := ht.put (x := nI c) hi hn8 (k := 2) (by omega)
      rw [← e_Iq5] at hth
      exact ⟨hth.1.to2 hc, hth.2, rvE.rf⟩

theorem chF_le {σ : SG} {w : Int32} (h : gTc σ ≤ 6) : chF σ w ≤ 16 := by
  unfold chF
  split
  · omega
  split
  · omega
  split
  · omega
  split
  · omega
  · omega

set_option maxHeartbeats 4000000 in
set_option maxRecDepth 100000 in
theorem k_tells_l {G : GG} {Sh : HS} {I : HI} {R : HR} {b : Nat} {σ : SG} (hc : CI b Sh I R σ) {t i : Nat} (ht9 : t < 4) (hi : i < gN σ) {s f w : Int32} : ∀ (m : Nat) (q : Nat) (acc : Int32) (J : HI) (R3 : HR), (q ≤ chF σ w) → (chF σ w < q + m) → (acc = tellsG σ t i w q) → (pvE b I J) → (rvE b R R3) → X G (kM G 7 0 0 (qi (qryI b Sh I R (tellsG σ t i w (chF σ w))))) yX7_tells cX7_tells 9 (some .int) 0 0 76 [(8, .int (nI q)), (7, .int (nI (chF σ w))), (6, .int acc), (5, .ref (b + 44 + 2 + i)), (4, .ref (b + 26 + 2 * t)), (0, .ref b), (1, .int s), (2, .int f), (3, .int w)] [] (Sh, J, R3) := by
  intro m
  induction m with
  | zero =>
    intro q acc J R3 hq hm hacc hpv hrv
    exact absurd hm (by omega)
  | succ m ih =>
    intro q acc J R3 hq hm hacc hpv hrv
    obtain ⟨⟨s0, s1, s2, s3, s4, s5, s6, s7, sT, sS, sA, sB, sC, sG⟩, ⟨r0, r1, r2, r4, r5, r6, r8, r9, rt0, rt2, rt3, rr0, rT, rS, rTT, rSS, rA, rB, rC, rG⟩, hCT, hCK, hCTp, hCIm, hCSe⟩ := id hc
    have hn8 : gN σ ≤ 8 := hCK.2.1
    have hru := hc.ru
    have hs := hc.sr
    have hw := hc.sw
    have hsz9 := (hCSe t ht9).2.2.1
    have htc6 := hCT.2.2.1
    have hc16 := chF_le (w := w) htc6
    refine x_iload dX7_tells_76 0 rfl ?_
    refine x_iload dX7_tells_78 1 rfl ?_
    refine x_icmp_ge (tgt := 124) dX7_tells_80 (by decide) (fun c_80 => ?_) (fun c_80 => ?_)
    · have c_80 : (chF σ w) ≤ q := (nI_leI (a := (chF σ w)) (b := q) (by omega) (by omega)).mp c_80
      refine x_iload dX7_tells_124 2 rfl ?_
      refine x_iret dX7_tells_126 rfl (Nat.le_refl _) (Nat.le_refl _) ?_
      have hqz : q = chF σ w := by omega
      subst hqz
      exact ⟨hacc, J, R3, rfl, hpv, hrv⟩
    · have c_80 : ¬ (chF σ w) ≤ q := fun zz9 => c_80 ((nI_leI (a := (chF σ w)) (b := q) (by omega) (by omega)).mpr zz9)
      refine x_aload_n dX7_tells_83 5 rfl rfl ?_
      refine x_callV (k_think (G := G) (hc.pv hpv hrv)) dX7_tells_84 crc_X7_think vc_7_175 s0 rfl rfl rfl rfl (Nat.le_of_ble_eq_true rfl) (roomy_k (by omega) (by decide)) (Nat.le_refl _) (Nat.le_refl _) ?_
      rintro _ _ ⟨_, rfl, rfl, J701t, R701t, rfl, ht, hpv2, hrv2⟩
      have hpv := hpv.tr hpv2
      have hrv := hrv.tr hrv2
      refine x_pop dX7_tells_87 rfl ?_
      refine x_aload_n dX7_tells_88 5 rfl rfl ?_
      refine x_aload dX7_tells_89 3 rfl ?_
      refine x_iload_n dX7_tells_91 8 rfl rfl ?_
      refine x_iload dX7_tells_92 0 rfl ?_
      refine x_callV (k_suppose (G := G) hc hi hpv hrv ht (c := q) (w := w) (by omega)) dX7_tells_94 crc_X7_suppose vc_7_230 s0 rfl rfl rfl rfl (Nat.le_of_ble_eq_true rfl) (roomy_k (by omega) (by decide)) (Nat.le_refl _) (Nat.le_refl _) ?_
      rintro _ _ ⟨rfl, J5, R5, rfl, ht2, hpv5, hrv5⟩
      have hpv := hpv.tr hpv5
      have hrv := hrv.tr hrv5
      refine x_aload_n dX7_tells_97 5 rfl rfl ?_
      refine x_aload dX7_tells_98 4 rfl ?_
      refine x_aload dX7_tells_100 3 rfl ?_
      refine x_callV (k_firstOther (G := G) hc ht9 hi hpv hrv ht2) dX7_tells_102 crc_X7_firstOther vc_7_223 s0 rfl rfl rfl rfl (Nat.le_of_ble_eq_true rfl) (roomy_k (by omega) (by decide)) (Nat.le_refl _) (Nat.le_refl _) ?_
      rintro _ _ ⟨x, rfl, hx, J9, rfl, hpv9⟩
      have hpv := hpv9
      refine x_iconst (v := (-1)) dX7_tells_105 (by decide) ?_
      refine x_icmp_ne (tgt := 118) dX7_tells_106 (by decide) (fun c_106 => ?_) (fun c_106 => ?_)
      · refine x_iinc (v := nI (q + 1)) (lv' := [(8, .int (nI (q + 1))), (7, .int (nI (chF σ w))), (6, .int acc), (5, .ref (b + 44 + 2 + i)), (4, .ref (b + 26 + 2 * t)), (0, .ref b), (1, .int s), (2, .int f), (3, .int w)]) dX7_tells_118 0 rfl (nI_1 q) (by decide) rfl ?_
        refine x_goto (tgt := 76) dX7_tells_121 (by decide) ?_
        refine x_sub [0, 1, 2, 3, 4, 5, 6, 7, 8] rfl ?_
        exact ih (q + 1) acc J9 R5 (by omega) (by omega) (by
          unfold tellsG at *
          rw [fd_s, ← hacc]
          rw [hx] at c_106
          rw [if_neg c_106]) hpv hrv
      · refine x_iload dX7_tells_109 2 rfl ?_
        refine x_iconst (v := 1) dX7_tells_111 (by decide) ?_
        refine x_iload dX7_tells_112 0 rfl ?_
        refine x_ishl dX7_tells_114 ?_
        refine x_ior dX7_tells_115 ?_
        refine x_topi (fun xq1 e_xq1 => ?_)
        refine x_istore (lv' := [(6, .int xq1), (8, .int (nI q)), (7, .int (nI (chF σ w))), (5, .ref (b + 44 + 2 + i)), (4, .ref (b + 26 + 2 * t)), (0, .ref b), (1, .int s), (2, .int f), (3, .int w)]) dX7_tells_116 (by decide) rfl ?_
        refine x_iinc (v := nI (q + 1)) (lv' := [(8, .int (nI (q + 1))), (6, .int xq1), (7, .int (nI (chF σ w))), (5, .ref (b + 44 + 2 + i)), (4, .ref (b + 26 + 2 * t)), (0, .ref b), (1, .int s), (2, .int f), (3, .int w)]) dX7_tells_118 1 rfl (nI_1 q) (by decide) rfl ?_
        refine x_goto (tgt := 76) dX7_tells_121 (by decide) ?_
        refine x_sub [0, 2, 1, 3, 4, 5, 6, 7, 8] rfl ?_
        exact ih (q + 1) xq1 J9 R5 (by omega) (by omega) (by
          unfold tellsG at *
          rw [fd_s, ← hacc]
          rw [hx] at c_106
          rw [if_pos c_106]
          exact e_xq1) hpv hrv

set_option maxHeartbeats 4000000 in
set_option maxRecDepth 100000 in
theorem k_tells {G : GG} {Sh : HS} {I : HI} {R : HR} {b : Nat} {σ : SG} (hc : CI b Sh I R σ) {s f w : Int32} : AM G 7 0 0 yX7_tells cX7_tells 9 (some .int) [.ref b, .int s, .int f, .int w] (Sh, I, R) (qi (qryI b Sh I R (tellsF σ s f w))) := by
  obtain ⟨⟨s0, s1, s2, s3, s4, s5, s6, s7, sT, sS, sA, sB, sC, sG⟩, ⟨r0, r1, r2, r4, r5, r6, r8, r9, rt0, rt2, rt3, rr0, rT, rS, rTT, rSS, rA, rB, rC, rG⟩, hCT, hCK, hCTp, hCIm, hCSe⟩ := id hc
  have hn8 : gN σ ≤ 8 := hCK.2.1
  have hru := hc.ru
  have hs := hc.sr
  have hw := hc.sw
  refine am_intro (by decide) (Nat.le_of_ble_eq_true rfl) ?_
  refine x_aload_n dX7_tells_0 0 rfl rfl ?_
  refine x_iload_n dX7_tells_1 1 rfl rfl ?_
  refine x_callV (k_sheetAt (G := G) hc (i := s)) dX7_tells_2 crc_X7_sheetAt vc_7_185 s0 rfl rfl rfl rfl (Nat.le_of_ble_eq_true rfl) (roomy_k (by omega) (by decide)) (Nat.le_refl _) (Nat.le_refl _) ?_
  rintro _ _ ⟨_, rfl, rfl, (⟨t, ht9, hit, rfl⟩ | ⟨hno4, rfl⟩)⟩
  · refine x_astore (lv' := [(4, .ref (b + 26 + 2 * t)), (0, .ref b), (1, .int s), (2, .int f), (3, .int w)]) dX7_tells_5 (by decide) rfl ?_
    refine x_aload_n dX7_tells_7 1 rfl rfl ?_
    refine x_callV (k_think (G := G) hc) dX7_tells_8 crc_X7_think vc_7_175 s0 rfl rfl rfl rfl (Nat.le_of_ble_eq_true rfl) (roomy_k (by omega) (by decide)) (Nat.le_refl _) (Nat.le_refl _) ?_
    rintro _ _ ⟨_, rfl, rfl, J702t, R702t, rfl, ht, hpv, hrv⟩
    refine x_iload_n dX7_tells_11 3 rfl rfl ?_
    refine x_callV (k_at (G := G) (Sh := Sh) (I := J702t) (R := R702t) (S := b + 44) (n := gN σ) (i := f) sB ht.rs ht.sz hn8) dX7_tells_12 crc_X4_at vc_7_106 sB.1 rfl rfl rfl rfl (Nat.le_of_ble_eq_true rfl) (roomy_k (by omega) (by decide)) (Nat.le_refl _) (Nat.le_refl _) ?_
    rintro _ _ ⟨_, rfl, rfl, (⟨i, hi, hii, rfl⟩ | ⟨hno, rfl⟩)⟩
    · refine x_astore (lv' := [(5, .ref (b + 44 + 2 + i)), (4, .ref (b + 26 + 2 * t)), (0, .ref b), (1, .int s), (2, .int f), (3, .int w)]) dX7_tells_15 (by decide) rfl ?_
      refine x_aload dX7_tells_17 1 rfl ?_
      refine x_ifnull dX7_tells_19 ?_
      refine x_aload dX7_tells_22 0 rfl ?_
      refine x_ifnull dX7_tells_24 ?_
      refine x_iload_n dX7_tells_27 5 rfl rfl ?_
      refine x_if_lt (tgt := 36) dX7_tells_28 (by decide) (fun c_28 => ?_) (fun c_28 => ?_)
      · refine x_bipush (v := (-2)) dX7_tells_36 (by decide) ?_
        refine x_iret dX7_tells_38 rfl (Nat.le_refl _) (Nat.le_refl _) ?_
        refine ⟨?_, J702t, R702t, rfl, hpv, hrv⟩
        unfold tellsF
        rw [hit, idF_in (n := 4) ht9 (by omega)]
        rw [hii, idF_in hi hn8]
        dsimp only
        rw [if_pos (Or.inl c_28)]
      · refine x_iload_n dX7_tells_31 5 rfl rfl ?_
        refine x_iconst (v := 5) dX7_tells_32 (by decide) ?_
        refine x_icmp_le (tgt := 39) dX7_tells_33 (by decide) (fun c_33 => ?_) (fun c_33 => ?_)
        · refine x_aload dX7_tells_39 1 rfl ?_
          refine x_callV (k_isMissing (G := G) (I := J702t) (A := b + 26 + 2 * t) (sS t ht9) ((hc.pv hpv hrv).2.1.2.2.2.2.2.2.2.2.2.2.2.2.2.2.2.1 t ht9)) dX7_tells_41 crc_X3_isMissing vc_7_189 (sS t (by omega)).1 rfl rfl rfl rfl (Nat.le_of_ble_eq_true rfl) (roomy_k (by omega) (by decide)) (Nat.le_refl _) (Nat.le_refl _) ?_
          rintro _ _ ⟨_, rfl, rfl, rfl⟩
          refine x_if_eqB (tgt := 50) dX7_tells_44 (by decide) (fun c_44 => ?_) (fun c_44 => ?_)
          · have hso9 : ¬ gSo σ t = -1 := fun z => c_44 (((hc.pv hpv hrv).2.2.2.2.2.2 t ht9).1.trans z)
            refine x_iload_n dX7_tells_50 5 rfl rfl ?_
            refine x_if_ne (tgt := 63) dX7_tells_51 (by decide) (fun c_51 => ?_) (fun c_51 => ?_)
            · refine x_iconst (v := 0) dX7_tells_63 (by decide) ?_
              refine x_istore (lv' := [(6, .int 0), (5, .ref (b + 44 + 2 + i)), (4, .ref (b + 26 + 2 * t)), (0, .ref b), (1, .int s), (2, .int f), (3, .int w)]) dX7_tells_64 (by decide) rfl ?_
              refine x_aload_n dX7_tells_66 3 rfl rfl ?_
              refine x_iload_n dX7_tells_67 6 rfl rfl ?_
              refine x_callV (k_choicesOf (G := G) hc hpv hrv (w := w)) dX7_tells_68 crc_X7_choicesOf vc_7_227 s0 rfl rfl rfl rfl (Nat.le_of_ble_eq_true rfl) (roomy_k (by omega) (by decide)) (Nat.le_refl _) (Nat.le_refl _) ?_
              rintro _ _ ⟨_, rfl, rfl, rfl⟩
              refine x_istore (lv' := [(7, .int (nI (chF σ w))), (6, .int 0), (5, .ref (b + 44 + 2 + i)), (4, .ref (b + 26 + 2 * t)), (0, .ref b), (1, .int s), (2, .int f), (3, .int w)]) dX7_tells_71 (by decide) rfl ?_
              refine x_iconst (v := 0) dX7_tells_73 (by decide) ?_
              refine x_istore (lv' := [(8, .int 0), (7, .int (nI (chF σ w))), (6, .int 0), (5, .ref (b + 44 + 2 + i)), (4, .ref (b + 26 + 2 * t)), (0, .ref b), (1, .int s), (2, .int f), (3, .int w)]) dX7_tells_74 (by decide) rfl ?_
              refine x_sub [0, 1, 2, 3, 4, 5, 6, 7, 8] rfl ?_
              have hfin : tellsF σ s f w = tellsG σ t i w (chF σ w) := by
                unfold tellsF
                rw [hit, idF_in (n := 4) ht9 (by omega), hii, idF_in hi hn8]
                dsimp only
                rw [if_neg (fun z => z.elim c_28 (fun z => absurd c_33 (Int32.not_le.mpr z))), if_neg hso9, if_neg c_51]
              rw [hfin]
              exact k_tells_l hc ht9 hi (chF σ w + 1) 0 0 J702t R702t (by omega) (by omega) rfl hpv hrv
            · refine x_aload_n dX7_tells_54 2 rfl rfl ?_
              refine x_aload dX7_tells_55 1 rfl ?_
              refine x_aload dX7_tells_57 0 rfl ?_
              refine x_callV (k_firstOther (G := G) hc ht9 hi hpv hrv (ht.to2 hc)) dX7_tells_59 crc_X7_firstOther vc_7_223 s0 rfl rfl rfl rfl (Nat.le_of_ble_eq_true rfl) (roomy_k (by omega) (by decide)) (Nat.le_refl _) (Nat.le_refl _) ?_
              rintro _ _ ⟨x, rfl, hx, J9, rfl, hpv9⟩
              have hpv := hpv9
              refine x_iret dX7_tells_62 rfl (Nat.le_refl _) (Nat.le_refl _) ?_
              refine ⟨?_, J9, R702t, rfl, hpv, hrv⟩
              unfold tellsF
              rw [hit, idF_in (n := 4) ht9 (by omega), hii, idF_in hi hn8]
              dsimp only
              rw [if_neg (fun z => z.elim c_28 (fun z => absurd c_33 (Int32.not_le.mpr z))), if_neg hso9, if_pos c_51]
              exact hx
          · refine x_bipush (v := (-11)) dX7_tells_47 (by decide) ?_
            refine x_iret dX7_tells_49 rfl (Nat.le_refl _) (Nat.le_refl _) ?_
            refine ⟨?_, J702t, R702t, rfl, hpv, hrv⟩
            unfold tellsF
            rw [hit, idF_in (n := 4) ht9 (by omega)]
            rw [hii, idF_in hi hn8]
            dsimp only
            rw [if_neg (fun z => z.elim c_28 (fun z => absurd c_33 (Int32.not_le.mpr z)))]
            rw [if_pos (((hc.pv hpv hrv).2.2.2.2.2.2 t ht9).1.symm.trans c_44)]
        · refine x_bipush (v := (-2)) dX7_tells_36 (by decide) ?_
          refine x_iret dX7_tells_38 rfl (Nat.le_refl _) (Nat.le_refl _) ?_
          refine ⟨?_, J702t, R702t, rfl, hpv, hrv⟩
          unfold tellsF
          rw [hit, idF_in (n := 4) ht9 (by omega)]
          rw [hii, idF_in hi hn8]
          dsimp only
          rw [if_pos (Or.inr (Int32.not_le.mp c_33))]
    · refine x_astoreN (lv' := [(5, .null), (4, .ref (b + 26 + 2 * t)), (0, .ref b), (1, .int s), (2, .int f), (3, .int w)]) dX7_tells_15 (by decide) rfl ?_
      refine x_aload dX7_tells_17 1 rfl ?_
      refine x_ifnull dX7_tells_19 ?_
      refine x_aloadN dX7_tells_22 0 rfl ?_
      refine x_ifnullN (tgt := 36) dX7_tells_24 (by decide) ?_
      refine x_bipush (v := (-2)) dX7_tells_36 (by decide) ?_
      refine x_iret dX7_tells_38 rfl (Nat.le_refl _) (Nat.le_refl _) ?_
      refine ⟨?_, J702t, R702t, rfl, hpv, hrv⟩
      unfold tellsF
      rw [hit, idF_in (n := 4) ht9 (by omega)]
      rw [idF_out hn8 hno]
  · refine x_astoreN (lv' := [(4, .null), (0, .ref b), (1, .int s), (2, .int f), (3, .int w)]) dX7_tells_5 (by decide) rfl ?_
    refine x_aload_n dX7_tells_7 1 rfl rfl ?_
    refine x_callV (k_think (G := G) hc) dX7_tells_8 crc_X7_think vc_7_175 s0 rfl rfl rfl rfl (Nat.le_of_ble_eq_true rfl) (roomy_k (by omega) (by decide)) (Nat.le_refl _) (Nat.le_refl _) ?_
    rintro _ _ ⟨_, rfl, rfl, J703t, R703t, rfl, ht, hpv, hrv⟩
    refine x_iload_n dX7_tells_11 3 rfl rfl ?_
    refine x_callV (k_at (G := G) (Sh := Sh) (I := J703t) (R := R703t) (S := b + 44) (n := gN σ) (i := f) sB ht.rs ht.sz hn8) dX7_tells_12 crc_X4_at vc_7_106 sB.1 rfl rfl rfl rfl (Nat.le_of_ble_eq_true rfl) (roomy_k (by omega) (by decide)) (Nat.le_refl _) (Nat.le_refl _) ?_
    rintro _ _ ⟨_, rfl, rfl, (⟨i, hi, hii, rfl⟩ | ⟨hno, rfl⟩)⟩
    · refine x_astore (lv' := [(5, .ref (b + 44 + 2 + i)), (4, .null), (0, .ref b), (1, .int s), (2, .int f), (3, .int w)]) dX7_tells_15 (by decide) rfl ?_
      refine x_aloadN dX7_tells_17 1 rfl ?_
      refine x_ifnullN (tgt := 36) dX7_tells_19 (by decide) ?_
      refine x_bipush (v := (-2)) dX7_tells_36 (by decide) ?_
      refine x_iret dX7_tells_38 rfl (Nat.le_refl _) (Nat.le_refl _) ?_
      refine ⟨?_, J703t, R703t, rfl, hpv, hrv⟩
      unfold tellsF
      rw [idF_out (n := 4) (by omega) hno4]
    · refine x_astoreN (lv' := [(5, .null), (4, .null), (0, .ref b), (1, .int s), (2, .int f), (3, .int w)]) dX7_tells_15 (by decide) rfl ?_
      refine x_aloadN dX7_tells_17 1 rfl ?_
      refine x_ifnullN (tgt := 36) dX7_tells_19 (by decide) ?_
      refine x_bipush (v := (-2)) dX7_tells_36 (by decide) ?_
      refine x_iret dX7_tells_38 rfl (Nat.le_refl _) (Nat.le_refl _) ?_
      refine ⟨?_, J703t, R703t, rfl, hpv, hrv⟩
      unfold tellsF
      rw [idF_out (n := 4) (by omega) hno4]

