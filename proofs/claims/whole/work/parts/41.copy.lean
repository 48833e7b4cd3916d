theorem tw_acN : tw (Cond.native arraycopyName) := tw_at 807 (by decide +kernel) rfl
theorem tw_acS : tw (Cond.static arraycopyName) := tw_at 806 (by decide +kernel) rfl
theorem tw_acI : tw (Cond.initialized "java/lang/System") := tw_at 89 (by decide +kernel) rfl
theorem ac_words : nativeFrameWords "java/lang/System" "arraycopy" 5 ≤ 20 := by decide +kernel
section
variable {G : GG} {K : XK} {y : MethodName} {cc : ByteArray} {L : Nat} {ret : Option FieldType} {cs sl pc : Nat} {lv : List (Nat × Value)} {st : List Value} {Sh : HS} {I : HI} {R : HR}
/-- System.arraycopy from an int[] into one, in range -/
theorem x_acopy {idx a0 a n0 n1 sp dp k : Nat} (hd : decode cc pc = .ok (.invokestatic idx, 3)) (hl : tw (Cond.methodLink y.cls idx arraycopyName)) (hs0 : Sh.2 a0 = (9, n0)) (hs1 : Sh.2 a = (9, n1)) (h4 : sp + k ≤ n0) (h5 : dp + k ≤ n1) (b0 : n0 < 1000000000) (b1 : n1 < 1000000000) (hW : (st.map fun v => v.category).sum ≤ 8) (hf : 1 ≤ K.1.frames) (hroom : 40 ≤ K.1.locals)
    (kk : ∀ I' : HI, I' = (fun q j => if q = a ∧ dp ≤ j ∧ j < dp + k then I a0 (sp + (j - dp)) else I q j) → X G K y cc L ret cs sl (pc + 3) lv st (Sh, I', R)) : X G K y cc L ret cs sl pc lv (.int (nI k) :: .int (nI dp) :: .ref a :: .int (nI sp) :: .ref a0 :: st) (Sh, I, R) := by
  intro p l e s m args below meth c locs H ls C Rl S V T hT X0
  have hts := C.2.2.2.2.1
  have hal0 := Rl.1 a0 (by show (Sh.2 a0).1 ≤ 13; rw [hs0]; show 9 ≤ 13; omega)
  have hal := Rl.1 a (by show (Sh.2 a).1 ≤ 13; rw [hs1]; show 9 ≤ 13; omega)
  have he0 := wsH_get (cA := G.2.1) hal0.1 hal0.2
  rw [en_ints (h := (Sh, I, R)) hs0] at he0
  have he1 := wsH_get (cA := G.2.1) hal.1 hal.2
  rw [en_ints (h := (Sh, I, R)) hs1] at he1
  have hc0 := Rl.2.2.2 _ _ he0
  have hc1 := Rl.2.2.2 _ _ he1
  have hty := C.2.2.2.2.2.2.2.2.1.1.2 0 _ rfl
  obtain ⟨-, k0, hk0, cm0, hkk0⟩ := hty.1 n0 (fun j => .int (I a0 j))
  have hkk0 : k0.kind = .array cm0 .int := hkk0
  have hk0 : s.vm.classes[(vp_cell (G.2.1 9) (n0, .inl (I a0))).cls]? = some k0 := hk0
  obtain ⟨-, k1, hk1, cm1, hkk1⟩ := hty.1 n1 (fun j => .int (I a j))
  have hkk1 : k1.kind = .array cm1 .int := hkk1
  have hk1 : s.vm.classes[(vp_cell (G.2.1 9) (n1, .inl (I a))).cls]? = some k1 := hk1
  have e0 : (nI sp).toInt = (sp : Int) := nI_toInt (by omega)
  have e2 : (nI dp).toInt = (dp : Int) := nI_toInt (by omega)
  have e3 : (nI k).toInt = (k : Int) := nI_toInt (by omega)
  have f0 : (nI sp).toNatClampNeg = sp := nI_clamp (by omega)
  have f2 : (nI dp).toNatClampNeg = dp := nI_clamp (by omega)
  have f3 : (nI k).toNatClampNeg = k := nI_clamp (by omega)
  obtain ⟨vm', X', step⟩ := X0.arraycopy C.1 C.2.2.2.1 (hts _ hl.mem) (hts _ tw_acN.mem) (hts _ tw_acS.mem) (hts _ tw_acI.mem) (src := a0) (dst := a) (srcPos := nI sp) (destPos := nI dp) (n := nI k) (by rw [hT]; exact hc0) (by rw [hT]; exact hc1)
    (fun _ h => by cases h) (fun _ h => by cases h) (fun h => by cases h) (fun h => by cases h) hk0 hk1 hkk0 hkk1 (by decide) (nI_pos (by omega)) (nI_pos (by omega)) (nI_pos (by omega))
    (by rw [e0, e3]; show ¬ _ > ((arrV _ n0 (fun j => .int (I a0 j))).slots.size : Int); rw [arrV_size]; omega)
    (by rw [e2, e3]; show ¬ _ > ((arrV _ n1 (fun j => .int (I a j))).slots.size : Int); rw [arrV_size]; omega)
    (fun vm₁ _ i hi => by
      rw [f3] at hi
      have ev : (vp_cell (G.2.1 9) (n0, .inl (I a0))).slots.getD ((nI sp).toNatClampNeg + i) .null = .int (I a0 (sp + i)) := by
        show (arrV _ n0 (fun j => .int (I a0 j))).slots.getD _ _ = _
        rw [Array.getD_eq_getD_getElem?, f0, arrV_read _ _ (by omega)]
        rfl
      refine ⟨?_, ?_⟩
      · show fits .int ((vp_cell (G.2.1 9) (n0, .inl (I a0))).slots.getD _ _) = true
        rw [ev]
        rfl
      · show (T.setVm vm₁).takes cm1 ((vp_cell (G.2.1 9) (n0, .inl (I a0))).slots.getD _ _)
        rw [ev]
        exact trivial)
    (g := F0 m pc ls (.int (nI k) :: .int (nI dp) :: .ref a :: .int (nI sp) :: .ref a0 :: st)) rfl (V.1.trans C.2.2.1.symm) (rest := st) rfl (by rw [C.2.1]; exact hd) hf (by
      have := ac_words
      show 2 * 0 + _ + _ ≤ _
      omega)
  rw [f0, f2, f3] at X'
  have hcp : copied (vp_cell (G.2.1 9) (n0, .inl (I a0))) (vp_cell (G.2.1 9) (n1, .inl (I a))) (nI sp) (nI dp) (nI k) = vp_cell (G.2.1 9) (n1, .inl (va_cpy (I a0) (I a) sp dp k)) := by
    have := va_copied (fun z => Value.int z) (G.2.1 9) (G.2.1 9) (n0 := n0) (n1 := n1) (sp := sp) (dp := dp) (n := k) (I a0) (I a) h4
    unfold copied
    rw [f0, f2, f3]
    exact this
  rw [hcp] at X' step
  have hlt : a < H.size := (Array.getElem?_eq_some_iff.mp hc1).1
  have ho : ∀ q : Nat, q ≠ a → (H.setIfInBounds a (vp_cell (G.2.1 9) (n1, .inl (va_cpy (I a0) (I a) sp dp k))))[q]? = H[q]? := fun q hq => by simp [Array.getElem?_setIfInBounds, Ne.symm hq]
  have hz : (H.setIfInBounds a (vp_cell (G.2.1 9) (n1, .inl (va_cpy (I a0) (I a) sp dp k)))).size = H.size := by simp
  obtain ⟨I', eI⟩ : ∃ z : HI, z = (fun q j => if q = a ∧ dp ≤ j ∧ j < dp + k then I a0 (sp + (j - dp)) else I q j) := ⟨_, rfl⟩
  have hI : I' a = va_cpy (I a0) (I a) sp dp k := funext fun j => by
    rw [eI]
    unfold va_cpy
    simp
  have hR' : RelH G (Sh, I', R) (H.setIfInBounds a (vp_cell (G.2.1 9) (n1, .inl (va_cpy (I a0) (I a) sp dp k)))) := by
    refine rel_chg Rl (g := (Sh, I', R)) (a := a) (kd := 9) (n := n1) ⟨rfl, rfl, fun q hq => ⟨funext fun j => ?_, rfl⟩⟩ hs1 (by omega) hz ho ?_
    · show I' q j = I q j
      rw [eI]
      simp [hq]
    · rw [en_ints (h := (Sh, I', R)) hs1]
      show (H.setIfInBounds a _)[a]? = some (vp_cell _ _)
      show (H.setIfInBounds a _)[a]? = some (vp_cell _ (n1, .inl (I' a)))
      rw [hI]
      simp [Array.getElem?_setIfInBounds, hlt]
  obtain ⟨t, t1, t2⟩ := kk I' eI p l e s m args below meth c _ _ ls C hR' ⟨Nat.le_trans S.1 (Nat.le_of_eq hz.symm), fun q q1 q2 => (ho q (fun z => q2 (z ▸ hal.1))).trans (S.2.1 q q1 q2), fun q hq => by
      rcases List.mem_append.mp hq with h | h
      · exact S.2.2 q h
      · obtain ⟨z, -, rfl⟩ := List.mem_map.mp h
        exact hal.1⟩ V _ (by rw [← hT]; rfl) X'
  exact ⟨t, step t t1, t2⟩
end
abbrev spP (sz : Nat) (fr n : Int32) : Prop := 0 ≤ fr ∧ 0 ≤ n ∧ fr ≤ nI sz - n
theorem sp_nat {sz : Nat} {fr n : Int32} (h : spP sz fr n) (hs : sz ≤ 40) : ∃ a c : Nat, fr = nI a ∧ n = nI c ∧ a + c ≤ sz := by
  obtain ⟨a, ha, rfl⟩ := nI_of (Int32.not_lt.mpr h.1)
  obtain ⟨c, hc, rfl⟩ := nI_of (Int32.not_lt.mpr h.2.1)
  have h3 := Int32.le_iff_toInt_le.mp h.2.2
  rw [Int32.toInt_sub, nI_toInt ha, nI_toInt hc, nI_toInt (by omega), Int.bmod_eq_of_le (by omega) (by omega)] at h3
  exact ⟨a, c, rfl, rfl, by omega⟩
noncomputable def copyV (σ : SG) (s i o j n : Int32) : Int32 := match idF 4 s, idF 4 o with
  | some t, some u => if gSo σ t = -1 ∨ gSo σ u = -1 then -11 else if ¬ gSo σ t = gSo σ u then -13 else if spP (gSz σ t) i n ∧ spP (gSz σ u) j n then n else -12
  | _, _ => -2
noncomputable def copyS (σ : SG) (s i o j n : Int32) : SG := match idF 4 s, idF 4 o with
  | some t, some u => if gSo σ t = -1 ∨ gSo σ u = -1 then σ else if ¬ gSo σ t = gSo σ u then σ else if spP (gSz σ t) i n ∧ spP (gSz σ u) j n then withSh σ u (gSo σ u, gSz σ u, fun q => if j.toNatClampNeg ≤ q ∧ q < j.toNatClampNeg + n.toNatClampNeg then gRo σ t (i.toNatClampNeg + (q - j.toNatClampNeg)) else gRo σ u q) else σ
  | _, _ => σ

set_option maxHeartbeats 4000000 in
set_option maxRecDepth 100000 in
theorem k_copy {G : GG} {Sh : HS} {I : HI} {R : HR} {b : Nat} {σ : SG} (hc : CI b Sh I R σ) {s i o j n : Int32} : AM G 2 0 0 yX7_copy cX7_copy 8 (some .int) [.ref b, .int s, .int i, .int o, .int j, .int n] (Sh, I, R) (qi (updI b Sh I R (copyV σ s i o j n) (copyS σ s i o j n))) := by
  obtain ⟨⟨s0, s1, s2, s3, s4, s5, s6, s7, sT, sS, sA, sB, sC, sG⟩, ⟨r0, r1, r2, r4, r5, r6, r8, r9, rt0, rt2, rt3, rr0, rT, rS, rTT, rSS, rA, rB, rC, rG⟩, hCT, hCK, hCTp, hCIm, hCSe⟩ := id hc
  have hn8 : gN σ ≤ 8 := hCK.2.1
  have hru := hc.ru
  refine am_intro (by decide) (Nat.le_of_ble_eq_true rfl) ?_
  refine x_aload_n dX7_copy_0 0 rfl rfl ?_
  refine x_iload_n dX7_copy_1 1 rfl rfl ?_
  refine x_callV (k_sheetAt (G := G) hc (i := s)) dX7_copy_2 crc_X7_sheetAt vc_7_185 s0 rfl rfl rfl rfl (Nat.le_of_ble_eq_true rfl) (roomy_k (by omega) (by decide)) (Nat.le_refl _) (Nat.le_refl _) ?_
  rintro _ _ ⟨_, rfl, rfl, (⟨t, ht9, htt, rfl⟩ | ⟨hnot, rfl⟩)⟩
  · refine x_astore (lv' := [(6, .ref (b + 26 + 2 * t)), (0, .ref b), (1, .int s), (2, .int i), (3, .int o), (4, .int j), (5, .int n)]) dX7_copy_5 (by decide) rfl ?_
    refine x_aload_n dX7_copy_7 1 rfl rfl ?_
    refine x_iload_n dX7_copy_8 4 rfl rfl ?_
    refine x_callV (k_sheetAt (G := G) hc (i := o)) dX7_copy_9 crc_X7_sheetAt vc_7_185 s0 rfl rfl rfl rfl (Nat.le_of_ble_eq_true rfl) (roomy_k (by omega) (by decide)) (Nat.le_refl _) (Nat.le_refl _) ?_
    rintro _ _ ⟨_, rfl, rfl, (⟨u, hu9, hut, rfl⟩ | ⟨hnou, rfl⟩)⟩
    · refine x_astore (lv' := [(7, .ref (b + 26 + 2 * u)), (6, .ref (b + 26 + 2 * t)), (0, .ref b), (1, .int s), (2, .int i), (3, .int o), (4, .int j), (5, .int n)]) dX7_copy_12 (by decide) rfl ?_
      refine x_aload dX7_copy_14 1 rfl ?_
      refine x_ifnull dX7_copy_16 ?_
      refine x_aload dX7_copy_19 0 rfl ?_
      refine x_ifnonnull (tgt := 27) dX7_copy_21 (by decide) ?_
      refine x_aload dX7_copy_27 1 rfl ?_
      refine x_callV (k_isMissing (G := G) (I := I) (R := R) (A := b + 26 + 2 * t) (sS t ht9) (rSS t ht9)) dX7_copy_29 crc_X3_isMissing vc_7_189 (sS t (by omega)).1 rfl rfl rfl rfl (Nat.le_of_ble_eq_true rfl) (roomy_k (by omega) (by decide)) (Nat.le_refl _) (Nat.le_refl _) ?_
      rintro _ _ ⟨_, rfl, rfl, rfl⟩
      refine x_if_neB (tgt := 43) dX7_copy_32 (by decide) (fun c_32 => ?_) (fun c_32 => ?_)
      · refine x_bipush (v := (-11)) dX7_copy_43 (by decide) ?_
        refine x_iret dX7_copy_45 rfl (Nat.le_refl _) (Nat.le_refl _) ?_
        unfold copyV copyS
        rw [htt, idF_in (n := 4) ht9 (by omega)]
        rw [hut, idF_in (n := 4) hu9 (by omega)]
        dsimp only
        have h9 : gSo σ t = -1 ∨ gSo σ u = -1 := Or.inl ((hCSe t ht9).1.symm.trans c_32)
        rw [if_pos h9, if_pos h9]
        exact ⟨rfl, I, R, rfl, hc, FrC.rf, FrC.rf⟩
      · refine x_aload dX7_copy_35 0 rfl ?_
        refine x_callV (k_isMissing (G := G) (I := I) (R := R) (A := b + 26 + 2 * u) (sS u hu9) (rSS u hu9)) dX7_copy_37 crc_X3_isMissing vc_7_189 (sS u (by omega)).1 rfl rfl rfl rfl (Nat.le_of_ble_eq_true rfl) (roomy_k (by omega) (by decide)) (Nat.le_refl _) (Nat.le_refl _) ?_
        rintro _ _ ⟨_, rfl, rfl, rfl⟩
        refine x_if_eqB (tgt := 46) dX7_copy_40 (by decide) (fun c_40 => ?_) (fun c_40 => ?_)
        · refine x_aload dX7_copy_46 1 rfl ?_
          refine x_gI (v := gSo σ t) dX7_copy_48 fl_7_259 rfl (sS t (by omega)).1 (hCSe t ht9).1 ?_
          refine x_aload dX7_copy_51 0 rfl ?_
          refine x_gI (v := gSo σ u) dX7_copy_53 fl_7_259 rfl (sS u (by omega)).1 (hCSe u hu9).1 ?_
          refine x_icmp_eq (tgt := 62) dX7_copy_56 (by decide) (fun c_56 => ?_) (fun c_56 => ?_)
          · refine x_aload dX7_copy_62 1 rfl ?_
            refine x_iload_n dX7_copy_64 4 rfl rfl ?_
            refine x_iload dX7_copy_65 7 rfl ?_
            refine x_callV (k_spans (G := G) (I := I) (R := R) (A := b + 26 + 2 * t) (sS t ht9) (rSS t ht9) (hCSe t ht9).2.1 (hCSe t ht9).2.2.1 (fr := i) (nn := n)) dX7_copy_67 crc_X3_spans vc_7_262 (sS t (by omega)).1 rfl rfl rfl rfl (Nat.le_of_ble_eq_true rfl) (roomy_k (by omega) (by decide)) (Nat.le_refl _) (Nat.le_refl _) ?_
            rintro _ _ ⟨_, rfl, rfl, rfl⟩
            refine x_if_eqB (tgt := 85) dX7_copy_70 (by decide) (fun c_70 => ?_) (fun c_70 => ?_)
            · refine x_bipush (v := (-12)) dX7_copy_85 (by decide) ?_
              refine x_iret dX7_copy_87 rfl (Nat.le_refl _) (Nat.le_refl _) ?_
              unfold copyV copyS
              rw [htt, idF_in (n := 4) ht9 (by omega)]
              rw [hut, idF_in (n := 4) hu9 (by omega)]
              dsimp only
              have h9 : ¬ (gSo σ t = -1 ∨ gSo σ u = -1) := fun z => z.elim (fun z => c_32 ((hCSe t ht9).1.trans z)) (fun z => c_40 ((hCSe u hu9).1.trans z))
              rw [if_neg h9, if_neg h9]
              have h8 : ¬ ¬ gSo σ t = gSo σ u := fun z => z c_56
              rw [if_neg h8, if_neg h8]
              have h7 : ¬ (spP (gSz σ t) i n ∧ spP (gSz σ u) j n) := fun z => c_70 z.1
              rw [if_neg h7, if_neg h7]
              exact ⟨rfl, I, R, rfl, hc, FrC.rf, FrC.rf⟩
            · refine x_aload dX7_copy_73 0 rfl ?_
              refine x_iload dX7_copy_75 6 rfl ?_
              refine x_iload dX7_copy_77 7 rfl ?_
              refine x_callV (k_spans (G := G) (I := I) (R := R) (A := b + 26 + 2 * u) (sS u hu9) (rSS u hu9) (hCSe u hu9).2.1 (hCSe u hu9).2.2.1 (fr := j) (nn := n)) dX7_copy_79 crc_X3_spans vc_7_262 (sS u (by omega)).1 rfl rfl rfl rfl (Nat.le_of_ble_eq_true rfl) (roomy_k (by omega) (by decide)) (Nat.le_refl _) (Nat.le_refl _) ?_
              rintro _ _ ⟨_, rfl, rfl, rfl⟩
              refine x_if_neB (tgt := 88) dX7_copy_82 (by decide) (fun c_82 => ?_) (fun c_82 => ?_)
              · have h70 := c_70
                have h82 := c_82
                obtain ⟨a1, c1, rfl, rfl, hac⟩ := sp_nat c_70 (hCSe t ht9).2.2.1
                obtain ⟨a2, c2, rfl, hc2, hac2⟩ := sp_nat c_82 (hCSe u hu9).2.2.1
                have hs40t := (hCSe t ht9).2.2.1
                have hs40u0 := (hCSe u hu9).2.2.1
                have hcc2 : c1 < 2147483648 ∧ c1 = c2 := by
                  have b1 : c1 < 2147483648 := by omega
                  exact ⟨b1, (nI_eq b1 (by omega)).mp hc2⟩
                obtain ⟨-, rfl⟩ := hcc2
                refine x_aload dX7_copy_88 1 rfl ?_
                refine x_gR (b := b + 26 + 2 * t + 1) dX7_copy_90 fl_7_265 rfl (sS t (by omega)).1 (rSS t ht9) ?_
                refine x_iload_n dX7_copy_93 4 rfl rfl ?_
                refine x_aload dX7_copy_94 0 rfl ?_
                refine x_gR (b := b + 26 + 2 * u + 1) dX7_copy_96 fl_7_265 rfl (sS u (by omega)).1 (rSS u hu9) ?_
                refine x_iload dX7_copy_99 6 rfl ?_
                refine x_iload dX7_copy_101 7 rfl ?_
                refine x_acopy (sp := a1) (dp := a2) (k := c1) dX7_copy_103 (tw_at 805 (by decide +kernel) rfl) (sS t (by omega)).2 (sS u (by omega)).2 (by omega) (by omega) (by omega) (by omega) (Nat.le_of_ble_eq_true rfl) (Nat.le_of_ble_eq_true rfl) (Nat.le_of_ble_eq_true rfl) (fun Iq1 e_Iq1 => ?_)
                refine x_iload dX7_copy_106 7 rfl ?_
                refine x_iret dX7_copy_108 rfl (Nat.le_refl _) (Nat.le_refl _) ?_
                unfold copyV copyS
                rw [htt, idF_in (n := 4) ht9 (by omega)]
                rw [hut, idF_in (n := 4) hu9 (by omega)]
                dsimp only
                have h9 : ¬ (gSo σ t = -1 ∨ gSo σ u = -1) := fun z => z.elim (fun z => c_32 ((hCSe t ht9).1.trans z)) (fun z => c_40 ((hCSe u hu9).1.trans z))
                rw [if_neg h9, if_neg h9]
                have h8 : ¬ ¬ gSo σ t = gSo σ u := fun z => z c_56
                rw [if_neg h8, if_neg h8]
                have h7 : spP (gSz σ t) (nI a1) (nI c1) ∧ spP (gSz σ u) (nI a2) (nI c1) := ⟨h70, h82⟩
                rw [if_pos h7, if_pos h7, nI_clamp (by omega), nI_clamp (by omega), nI_clamp (by omega)]
                have hs40u := (hCSe u hu9).2.2.1
                refine ⟨rfl, Iq1, R, rfl, hc.sheetU hu9 (fun q k q1 q2 => ?_) ?_ ?_ hs40u (fun q hq => ?_), fun q k z => ?_, FrC.rf⟩
                · rw [e_Iq1]
                  dsimp only
                  rw [if_neg (fun z => q2 z.1)]
                · rw [e_Iq1]
                  dsimp only
                  rw [if_neg (by omega)]
                  exact (hCSe u hu9).1
                · rw [e_Iq1]
                  dsimp only
                  rw [if_neg (by omega)]
                  exact (hCSe u hu9).2.1
                · rw [e_Iq1]
                  dsimp only
                  by_cases e : a2 ≤ q ∧ q < a2 + c1
                  · rw [if_pos ⟨rfl, e⟩, if_pos e]
                    exact (hCSe t ht9).2.2.2 _ (by omega)
                  · rw [if_neg (fun z => e z.2), if_neg e]
                    exact (hCSe u hu9).2.2.2 q hq
                · rw [e_Iq1]
                  dsimp only
                  rw [if_neg (by omega)]
              · refine x_bipush (v := (-12)) dX7_copy_85 (by decide) ?_
                refine x_iret dX7_copy_87 rfl (Nat.le_refl _) (Nat.le_refl _) ?_
                unfold copyV copyS
                rw [htt, idF_in (n := 4) ht9 (by omega)]
                rw [hut, idF_in (n := 4) hu9 (by omega)]
                dsimp only
                have h9 : ¬ (gSo σ t = -1 ∨ gSo σ u = -1) := fun z => z.elim (fun z => c_32 ((hCSe t ht9).1.trans z)) (fun z => c_40 ((hCSe u hu9).1.trans z))
                rw [if_neg h9, if_neg h9]
                have h8 : ¬ ¬ gSo σ t = gSo σ u := fun z => z c_56
                rw [if_neg h8, if_neg h8]
                have h7 : ¬ (spP (gSz σ t) i n ∧ spP (gSz σ u) j n) := fun z => c_82 z.2
                rw [if_neg h7, if_neg h7]
                exact ⟨rfl, I, R, rfl, hc, FrC.rf, FrC.rf⟩
          · refine x_bipush (v := (-13)) dX7_copy_59 (by decide) ?_
            refine x_iret dX7_copy_61 rfl (Nat.le_refl _) (Nat.le_refl _) ?_
            unfold copyV copyS
            rw [htt, idF_in (n := 4) ht9 (by omega)]
            rw [hut, idF_in (n := 4) hu9 (by omega)]
            dsimp only
            have h9 : ¬ (gSo σ t = -1 ∨ gSo σ u = -1) := fun z => z.elim (fun z => c_32 ((hCSe t ht9).1.trans z)) (fun z => c_40 ((hCSe u hu9).1.trans z))
            rw [if_neg h9, if_neg h9]
            rw [if_pos c_56, if_pos c_56]
            exact ⟨rfl, I, R, rfl, hc, FrC.rf, FrC.rf⟩
        · refine x_bipush (v := (-11)) dX7_copy_43 (by decide) ?_
          refine x_iret dX7_copy_45 rfl (Nat.le_refl _) (Nat.le_refl _) ?_
          unfold copyV copyS
          rw [htt, idF_in (n := 4) ht9 (by omega)]
          rw [hut, idF_in (n := 4) hu9 (by omega)]
          dsimp only
          have h9 : gSo σ t = -1 ∨ gSo σ u = -1 := Or.inr ((hCSe u hu9).1.symm.trans c_40)
          rw [if_pos h9, if_pos h9]
          exact ⟨rfl, I, R, rfl, hc, FrC.rf, FrC.rf⟩
    · refine x_astoreN (lv' := [(7, .null), (6, .ref (b + 26 + 2 * t)), (0, .ref b), (1, .int s), (2, .int i), (3, .int o), (4, .int j), (5, .int n)]) dX7_copy_12 (by decide) rfl ?_
      refine x_aload dX7_copy_14 1 rfl ?_
      refine x_ifnull dX7_copy_16 ?_
      refine x_aloadN dX7_copy_19 0 rfl ?_
      refine x_ifnonnullN dX7_copy_21 ?_
      refine x_bipush (v := (-2)) dX7_copy_24 (by decide) ?_
      refine x_iret dX7_copy_26 rfl (Nat.le_refl _) (Nat.le_refl _) ?_
      unfold copyV copyS
      rw [htt, idF_in (n := 4) ht9 (by omega)]
      rw [idF_out (n := 4) (by omega) hnou]
      exact ⟨rfl, I, R, rfl, hc, FrC.rf, FrC.rf⟩
  · refine x_astoreN (lv' := [(6, .null), (0, .ref b), (1, .int s), (2, .int i), (3, .int o), (4, .int j), (5, .int n)]) dX7_copy_5 (by decide) rfl ?_
    refine x_aload_n dX7_copy_7 1 rfl rfl ?_
    refine x_iload_n dX7_copy_8 4 rfl rfl ?_
    refine x_callV (k_sheetAt (G := G) hc (i := o)) dX7_copy_9 crc_X7_sheetAt vc_7_185 s0 rfl rfl rfl rfl (Nat.le_of_ble_eq_true rfl) (roomy_k (by omega) (by decide)) (Nat.le_refl _) (Nat.le_refl _) ?_
    rintro _ _ ⟨_, rfl, rfl, (⟨u, hu9, hut, rfl⟩ | ⟨hnou, rfl⟩)⟩
    · refine x_astore (lv' := [(7, .ref (b + 26 + 2 * u)), (6, .null), (0, .ref b), (1, .int s), (2, .int i), (3, .int o), (4, .int j), (5, .int n)]) dX7_copy_12 (by decide) rfl ?_
      refine x_aloadN dX7_copy_14 1 rfl ?_
      refine x_ifnullN (tgt := 24) dX7_copy_16 (by decide) ?_
      refine x_bipush (v := (-2)) dX7_copy_24 (by decide) ?_
      refine x_iret dX7_copy_26 rfl (Nat.le_refl _) (Nat.le_refl _) ?_
      unfold copyV copyS
      rw [idF_out (n := 4) (by omega) hnot]
      exact ⟨rfl, I, R, rfl, hc, FrC.rf, FrC.rf⟩
    · refine x_astoreN (lv' := [(7, .null), (6, .null), (0, .ref b), (1, .int s), (2, .int i), (3, .int o), (4, .int j), (5, .int n)]) dX7_copy_12 (by decide) rfl ?_
      refine x_aloadN dX7_copy_14 1 rfl ?_
      refine x_ifnullN (tgt := 24) dX7_copy_16 (by decide) ?_
      refine x_bipush (v := (-2)) dX7_copy_24 (by decide) ?_
      refine x_iret dX7_copy_26 rfl (Nat.le_refl _) (Nat.le_refl _) ?_
      unfold copyV copyS
      rw [idF_out (n := 4) (by omega) hnot]
      exact ⟨rfl, I, R, rfl, hc, FrC.rf, FrC.rf⟩


