set_option maxHeartbeats 4000000 in
set_option maxRecDepth 100000 in
theorem k_says_l {G : GG} {Sh : HS} {I : HI} {R : HR} {m n t : Nat} {P : Nat → List Int32} (w : MW Sh I R m n t P) {f q : Nat} (hf : f < 8) (hq3 : q < 3) {mo : Int32} {B : Nat} (hB2 : I (m + 8) (3 * t + q) = nI (P q).length) (hB3 : B + (P q).length ≤ 960) (hB4 : ∀ j (x : Int32), (P q)[j]? = some x → I (m + 9) (B + j) = mcF x ∧ cdP x) (hB5 : okF (P q) 0) : ∀ (m9 : Nat) (i : Nat) (st : List Int32) (J : HI), (i ≤ (P q).length) → ((P q).length < i + m9) → (offK m I J) → (stkF (J (m + 10)) st) → (st.length ≤ 40) → (okF ((P q).drop i) st.length) → (evF (cxM I m f n) ((P q).drop i) st = evF (cxM I m f n) (P q) []) → X G (kM G 2 0 0 (qi fun r g => r = mxI 0 (mnI mo (topF (cxM I m f n) (P q))) ∧ ∃ I2 : HI, offK m I I2 ∧ g = (Sh, I2, R))) yX8_says cX8_says 8 (some .int) 0 0 22 [(6, .int (nI (B + i))), (4, .int (nI st.length)), (0, .ref m), (1, .int (nI q)), (2, .int (nI f)), (3, .int mo), (5, .int (nI B))] [] (Sh, J, R) := by
  intro m9
  induction m9 with
  | zero =>
    intro i st J hi hm hoff hst hl40 hok hev
    exact absurd hm (by omega)
  | succ m9 ih =>
    intro i st J hi hm hoff hst hl40 hok hev
    obtain ⟨hsh, hrf, hn, hn8, hru, hr6, cd9, hcd9, htx⟩ := id w
    obtain ⟨z0, z1, z6, z7, z8, z9, z10, z11, z12, z13, z14, z15, z16, z17⟩ := id hsh
    obtain ⟨y1, y6, y7, y8, y9, y10, y11, y12, y13, y14, y15, y16, y17⟩ := id hrf
    refine x_iload dX8_says_22 0 rfl ?_
    refine x_iload dX8_says_24 6 rfl ?_
    refine x_aload_n dX8_says_26 2 rfl rfl ?_
    refine x_gR (b := m + 8) dX8_says_27 fl_8_31 rfl z0 y8 ?_
    refine x_iconst (v := nI 3) dX8_says_30 (by decide) ?_
    refine x_aload_n dX8_says_31 2 rfl rfl ?_
    refine x_gI (v := nI t) dX8_says_32 fl_8_218 rfl z0 ((hoff _ _ (by omega)).trans hru) ?_
    refine x_imul dX8_says_35 ?_
    refine x_vali (pk_mul 3 t) ?_
    refine x_iload_n dX8_says_36 3 rfl rfl ?_
    refine x_iadd dX8_says_37 ?_
    refine x_vali (nI_add (3 * t) q) ?_
    refine x_ia (j := 3 * t + q) (v := nI (P q).length) dX8_says_38 z8 rfl (by omega) (by omega) ((hoff _ _ (by omega)).trans hB2) ?_
    refine x_iadd dX8_says_39 ?_
    refine x_vali (nI_add B ((P q).length)) ?_
    refine x_icmp_ge (tgt := 270) dX8_says_40 (by decide) (fun c_40 => ?_) (fun c_40 => ?_)
    · have c_40 : (B + (P q).length) ≤ (B + i) := (nI_leI (a := (B + (P q).length)) (b := (B + i)) (by omega) (by omega)).mp c_40
      have hi2 : i = (P q).length := by omega
      rw [hi2, List.drop_length] at hok hev
      have hlen : st.length = 1 := hok
      obtain ⟨v9, rfl⟩ := List.length_eq_one_iff.mp hlen
      have hev : [v9] = evF (cxM I m f n) (P q) [] := hev
      refine x_iconst (v := 0) dX8_says_270 (by decide) ?_
      refine x_iload_n dX8_says_271 5 rfl rfl ?_
      refine x_aload_n dX8_says_272 2 rfl rfl ?_
      refine x_gR (b := m + 10) dX8_says_273 fl_8_37 rfl z0 y10 ?_
      refine x_iconst (v := nI 0) dX8_says_276 (by decide) ?_
      refine x_ia (j := 0) (v := J (m + 10) 0) dX8_says_277 z10 rfl (by omega) (by omega) rfl ?_
      refine x_mmin dX8_says_278 sc_8_225 (Nat.le_of_ble_eq_true rfl) (roomy_k (by omega) (by decide)) (Nat.le_refl _) (Nat.le_refl _) ?_
      refine x_mmax dX8_says_281 sc_8_230 (Nat.le_of_ble_eq_true rfl) (roomy_k (by omega) (by decide)) (Nat.le_refl _) (Nat.le_refl _) ?_
      refine x_iret dX8_says_284 rfl (Nat.le_refl _) (Nat.le_refl _) ?_
      refine ⟨?_, J, hoff, rfl⟩
      have htop : topF (cxM I m f n) (P q) = v9 := by
        unfold topF
        rw [← hev]
        rfl
      rw [htop, hst.1.symm]
      rfl
    · have c_40 : ¬ (B + (P q).length) ≤ (B + i) := fun zz9 => c_40 ((nI_leI (a := (B + (P q).length)) (b := (B + i)) (by omega) (by omega)).mpr zz9)
      obtain ⟨x, hx⟩ : ∃ x, (P q)[i]? = some x := ⟨(P q)[i]'(by omega), List.getElem?_eq_getElem (by omega)⟩
      have hx9 := hB4 i x hx
      have hx9c := hx9.2
      refine x_aload_n dX8_says_43 2 rfl rfl ?_
      refine x_gR (b := m + 9) dX8_says_44 fl_8_34 rfl z0 y9 ?_
      refine x_iload dX8_says_47 0 rfl ?_
      refine x_ia (j := B + i) (v := mcF x) dX8_says_49 z9 rfl (by omega) (by omega) ((hoff _ _ (by omega)).trans hx9.1) ?_
      refine x_topi (fun c e_c => ?_)
      refine x_istore (lv' := [(7, .int c), (6, .int (nI (B + i))), (4, .int (nI st.length)), (0, .ref m), (1, .int (nI q)), (2, .int (nI f)), (3, .int mo), (5, .int (nI B))]) dX8_says_50 (by decide) rfl ?_
      obtain ⟨hx9c, hx9d⟩ := id hx9
      rw [drop_at hx] at hok hev
      have hev : evF (cxM I m f n) ((P q).drop (i + 1)) (stepF (cxM I m f n) x st) = evF (cxM I m f n) (P q) [] := hev
      refine x_iload dX8_says_52 0 rfl ?_
      refine x_bipush (v := 15) dX8_says_54 (by decide) ?_
      refine x_icmp_ge (tgt := 65) dX8_says_56 (by decide) (fun c_56 => ?_) (fun c_56 => ?_)
      · have hu := mc_num hx9d (by rw [← e_c]; exact c_56)
        have hk := ok_num hok (fun z => hu.1 (Int32.lt_trans z (by decide)))
        refine x_aload_n dX8_says_65 3 rfl rfl ?_
        refine x_gR (b := m + 10) dX8_says_66 fl_8_37 rfl z0 y10 ?_
        refine x_iload dX8_says_69 2 rfl ?_
        refine x_iinc (v := nI (st.length + 1)) (lv' := [(4, .int (nI (st.length + 1))), (7, .int c), (6, .int (nI (B + i))), (0, .ref m), (1, .int (nI q)), (2, .int (nI f)), (3, .int mo), (5, .int (nI B))]) dX8_says_71 2 rfl (nI_1 st.length) (by decide) rfl ?_
        refine x_iload dX8_says_74 1 rfl ?_
        refine x_bipush (v := 15) dX8_says_76 (by decide) ?_
        refine x_icmp_lt (tgt := 89) dX8_says_78 (by decide) (fun c_78 => False.elim (absurd c_56 (Int32.not_le.mpr c_78))) (fun c_78 => ?_)
        refine x_iload dX8_says_81 1 rfl ?_
        refine x_bipush (v := 15) dX8_says_83 (by decide) ?_
        refine x_isub dX8_says_85 ?_
        refine x_goto (tgt := 164) dX8_says_86 (by decide) ?_
        refine x_is (j := st.length) dX8_says_164 z10 rfl (by omega) (by omega) (fun Iq1 e_Iq1 => ?_)
        refine x_goto (tgt := 264) dX8_says_165 (by decide) ?_
        refine x_iinc (v := nI (B + i + 1)) (lv' := [(6, .int (nI (B + i + 1))), (4, .int (nI (st.length + 1))), (7, .int c), (0, .ref m), (1, .int (nI q)), (2, .int (nI f)), (3, .int mo), (5, .int (nI B))]) dX8_says_264 2 rfl (nI_1 (B + i)) (by decide) rfl ?_
        refine x_goto (tgt := 22) dX8_says_267 (by decide) ?_
        refine x_sub [0, 1, 3, 4, 5, 6, 7] rfl ?_
        rw [step_num hu.1] at hev
        exact ih (i + 1) (x :: st) Iq1 (by omega) (by omega) (by
          intro a9 k9 z9
          rw [e_Iq1, u2_ne (by omega)]
          exact hoff a9 k9 z9) ⟨by rw [e_Iq1, u2_same]; exact (by rw [e_c]; exact hu.2), (hst).up (fun j hj => by rw [e_Iq1, u2_ne (by omega)])⟩ (by have := hk.1; simp; omega) hk.2 hev
      · refine x_iload dX8_says_59 0 rfl ?_
        refine x_iconst (v := 5) dX8_says_61 (by decide) ?_
        refine x_icmp_gt (tgt := 168) dX8_says_62 (by decide) (fun c_62 => ?_) (fun c_62 => ?_)
        · refine x_iload dX8_says_168 0 rfl ?_
          refine x_bipush (v := 13) dX8_says_170 (by decide) ?_
          refine x_icmp_eq (tgt := 182) dX8_says_172 (by decide) (fun c_172 => ?_) (fun c_172 => ?_)
          · have hu := mc_un hx9d (by first | exact Or.inl (by rw [← e_c]; assumption) | exact Or.inr (by rw [← e_c]; assumption))
            have hk := ok_un hok hu.2.1 hu.2.2.1
            obtain ⟨a, t9, rfl⟩ : ∃ a t9, st = a :: t9 := by
              cases st with
              | nil => exact absurd hk.1 (by decide)
              | cons a t9 => exact ⟨a, t9, rfl⟩
            simp only [List.length_cons] at hl40 ⊢
            refine x_aload_n dX8_says_182 3 rfl rfl ?_
            refine x_gR (b := m + 10) dX8_says_183 fl_8_37 rfl z0 y10 ?_
            refine x_iload dX8_says_186 2 rfl ?_
            refine x_iconst (v := nI 1) dX8_says_188 (by decide) ?_
            refine x_isub dX8_says_189 ?_
            refine x_vali (nI_pred t9.length) ?_
            refine x_iload dX8_says_190 0 rfl ?_
            refine x_bipush (v := 14) dX8_says_192 (by decide) ?_
            refine x_icmp_ne (tgt := 210) dX8_says_194 (by decide) (fun c_194 => ?_) (fun c_194 => ?_)
            · refine x_aload_n dX8_says_210 3 rfl rfl ?_
              refine x_gR (b := m + 10) dX8_says_211 fl_8_37 rfl z0 y10 ?_
              refine x_iload dX8_says_214 2 rfl ?_
              refine x_iconst (v := nI 1) dX8_says_216 (by decide) ?_
              refine x_isub dX8_says_217 ?_
              refine x_vali (nI_pred t9.length) ?_
              refine x_ia (j := t9.length) (v := J (m + 10) t9.length) dX8_says_218 z10 rfl (by omega) (by omega) rfl ?_
              refine x_if_ne (tgt := 226) dX8_says_219 (by decide) (fun c_219 => ?_) (fun c_219 => ?_)
              · refine x_iconst (v := 0) dX8_says_226 (by decide) ?_
                refine x_is (j := t9.length) dX8_says_227 z10 rfl (by omega) (by omega) (fun Iq2 e_Iq2 => ?_)
                refine x_goto (tgt := 264) dX8_says_228 (by decide) ?_
                refine x_iinc (v := nI (B + i + 1)) (lv' := [(6, .int (nI (B + i + 1))), (7, .int c), (4, .int (nI (t9.length + 1))), (0, .ref m), (1, .int (nI q)), (2, .int (nI f)), (3, .int mo), (5, .int (nI B))]) dX8_says_264 1 rfl (nI_1 (B + i)) (by decide) rfl ?_
                refine x_goto (tgt := 22) dX8_says_267 (by decide) ?_
                refine x_sub [0, 2, 3, 4, 5, 6, 7] rfl ?_
                rw [step_un hu.1 hu.2.1 hu.2.2.1, if_neg (hu.2.2.2.2 (fun z => c_194 (by rw [e_c]; exact z))), bI_f (fun z => c_219 (hst.1.trans z))] at hev
                exact ih (i + 1) (0 :: t9) Iq2 (by omega) (by omega) (by
                  intro a9 k9 z9
                  rw [e_Iq2, u2_ne (by omega)]
                  exact hoff a9 k9 z9) ⟨by rw [e_Iq2, u2_same], (hst.2).up (fun j hj => by rw [e_Iq2, u2_ne (by omega)])⟩ (by simp at hl40 ⊢; omega) hk.2 hev
              · refine x_iconst (v := 1) dX8_says_222 (by decide) ?_
                refine x_goto (tgt := 227) dX8_says_223 (by decide) ?_
                refine x_is (j := t9.length) dX8_says_227 z10 rfl (by omega) (by omega) (fun Iq3 e_Iq3 => ?_)
                refine x_goto (tgt := 264) dX8_says_228 (by decide) ?_
                refine x_iinc (v := nI (B + i + 1)) (lv' := [(6, .int (nI (B + i + 1))), (7, .int c), (4, .int (nI (t9.length + 1))), (0, .ref m), (1, .int (nI q)), (2, .int (nI f)), (3, .int mo), (5, .int (nI B))]) dX8_says_264 1 rfl (nI_1 (B + i)) (by decide) rfl ?_
                refine x_goto (tgt := 22) dX8_says_267 (by decide) ?_
                refine x_sub [0, 2, 3, 4, 5, 6, 7] rfl ?_
                rw [step_un hu.1 hu.2.1 hu.2.2.1, if_neg (hu.2.2.2.2 (fun z => c_194 (by rw [e_c]; exact z))), bI_t (hst.1.symm.trans c_219)] at hev
                exact ih (i + 1) (1 :: t9) Iq3 (by omega) (by omega) (by
                  intro a9 k9 z9
                  rw [e_Iq3, u2_ne (by omega)]
                  exact hoff a9 k9 z9) ⟨by rw [e_Iq3, u2_same], (hst.2).up (fun j hj => by rw [e_Iq3, u2_ne (by omega)])⟩ (by simp at hl40 ⊢; omega) hk.2 hev
            · refine x_aload_n dX8_says_197 3 rfl rfl ?_
              refine x_gR (b := m + 10) dX8_says_198 fl_8_37 rfl z0 y10 ?_
              refine x_iload dX8_says_201 2 rfl ?_
              refine x_iconst (v := nI 1) dX8_says_203 (by decide) ?_
              refine x_isub dX8_says_204 ?_
              refine x_vali (nI_pred t9.length) ?_
              refine x_ia (j := t9.length) (v := J (m + 10) t9.length) dX8_says_205 z10 rfl (by omega) (by omega) rfl ?_
              refine x_ineg dX8_says_206 ?_
              refine x_goto (tgt := 227) dX8_says_207 (by decide) ?_
              refine x_is (j := t9.length) dX8_says_227 z10 rfl (by omega) (by omega) (fun Iq4 e_Iq4 => ?_)
              refine x_goto (tgt := 264) dX8_says_228 (by decide) ?_
              refine x_iinc (v := nI (B + i + 1)) (lv' := [(6, .int (nI (B + i + 1))), (7, .int c), (4, .int (nI (t9.length + 1))), (0, .ref m), (1, .int (nI q)), (2, .int (nI f)), (3, .int mo), (5, .int (nI B))]) dX8_says_264 1 rfl (nI_1 (B + i)) (by decide) rfl ?_
              refine x_goto (tgt := 22) dX8_says_267 (by decide) ?_
              refine x_sub [0, 2, 3, 4, 5, 6, 7] rfl ?_
              rw [step_un hu.1 hu.2.1 hu.2.2.1, if_pos (hu.2.2.2.1 (by rw [← e_c]; exact c_194))] at hev
              exact ih (i + 1) ((-a) :: t9) Iq4 (by omega) (by omega) (by
                intro a9 k9 z9
                rw [e_Iq4, u2_ne (by omega)]
                exact hoff a9 k9 z9) ⟨by rw [e_Iq4, u2_same]; exact (by rw [hst.1]), (hst.2).up (fun j hj => by rw [e_Iq4, u2_ne (by omega)])⟩ (by simp at hl40 ⊢; omega) hk.2 hev
          · refine x_iload dX8_says_175 0 rfl ?_
            refine x_bipush (v := 14) dX8_says_177 (by decide) ?_
            refine x_icmp_ne (tgt := 231) dX8_says_179 (by decide) (fun c_179 => ?_) (fun c_179 => ?_)
            · have hu := mc_bin hx9d (by rw [← e_c]; exact c_56) (by rw [← e_c]; exact c_62) (by rw [← e_c]; exact c_172) (by rw [← e_c]; exact c_179)
              have hk := ok_bin hok hu.2.1 hu.2.2
              obtain ⟨b, a, t9, rfl⟩ : ∃ b a t9, st = b :: a :: t9 := by
                cases st with
                | nil => exact absurd hk.1 (by decide)
                | cons b t0 =>
                  cases t0 with
                  | nil => exact absurd hk.1 (by simp)
                  | cons a t9 => exact ⟨b, a, t9, rfl⟩
              simp only [List.length_cons] at hl40 ⊢
              refine x_iinc (v := nI (t9.length + 1)) (lv' := [(4, .int (nI (t9.length + 1))), (7, .int c), (6, .int (nI (B + i))), (0, .ref m), (1, .int (nI q)), (2, .int (nI f)), (3, .int mo), (5, .int (nI B))]) dX8_says_231 2 rfl (pk_m1 (t9.length + 1)) (by decide) rfl ?_
              refine x_aload_n dX8_says_234 3 rfl rfl ?_
              refine x_gR (b := m + 10) dX8_says_235 fl_8_37 rfl z0 y10 ?_
              refine x_iload dX8_says_238 0 rfl ?_
              refine x_iconst (v := nI 1) dX8_says_240 (by decide) ?_
              refine x_isub dX8_says_241 ?_
              refine x_vali (nI_pred t9.length) ?_
              refine x_iload dX8_says_242 1 rfl ?_
              refine x_aload_n dX8_says_244 3 rfl rfl ?_
              refine x_gR (b := m + 10) dX8_says_245 fl_8_37 rfl z0 y10 ?_
              refine x_iload dX8_says_248 0 rfl ?_
              refine x_iconst (v := nI 1) dX8_says_250 (by decide) ?_
              refine x_isub dX8_says_251 ?_
              refine x_vali (nI_pred t9.length) ?_
              refine x_ia (j := t9.length) (v := J (m + 10) t9.length) dX8_says_252 z10 rfl (by omega) (by omega) rfl ?_
              refine x_aload_n dX8_says_253 3 rfl rfl ?_
              refine x_gR (b := m + 10) dX8_says_254 fl_8_37 rfl z0 y10 ?_
              refine x_iload dX8_says_257 0 rfl ?_
              refine x_ia (j := (t9.length + 1)) (v := J (m + 10) (t9.length + 1)) dX8_says_259 z10 rfl (by omega) (by omega) rfl ?_
              refine x_callS (rest := [.int (nI t9.length), .ref (m + 10)]) (k_mboth (G := G) (Sh := Sh) (I := J) (R := R) (c := c) (a := J (m + 10) t9.length) (b := J (m + 10) (t9.length + 1))) dX8_says_260 crc_X8_both sc_8_221 rfl rfl (Nat.le_of_ble_eq_true rfl) (roomy_k (by omega) (by decide)) (Nat.le_refl _) (Nat.le_refl _) ?_
              rintro _ _ ⟨r3, rfl, hr3, rfl⟩
              have hb9 : J (m + 10) (t9.length + 1) = b := hst.1
              have ha9 : J (m + 10) t9.length = a := hst.2.1
              rw [hb9, ha9] at hr3
              refine x_is (j := t9.length) dX8_says_263 z10 rfl (by omega) (by omega) (fun Iq5 e_Iq5 => ?_)
              refine x_iinc (v := nI (B + i + 1)) (lv' := [(6, .int (nI (B + i + 1))), (4, .int (nI (t9.length + 1))), (7, .int c), (0, .ref m), (1, .int (nI q)), (2, .int (nI f)), (3, .int mo), (5, .int (nI B))]) dX8_says_264 2 rfl (nI_1 (B + i)) (by decide) rfl ?_
              refine x_goto (tgt := 22) dX8_says_267 (by decide) ?_
              refine x_sub [0, 1, 3, 4, 5, 6, 7] rfl ?_
              rw [step_bin hu.1 hu.2.1 hu.2.2, ← bth_jn hx9d hu.2.2, ← e_c, ← hr3] at hev
              exact ih (i + 1) (r3 :: t9) Iq5 (by omega) (by omega) (by
                intro a9 k9 z9
                rw [e_Iq5, u2_ne (by omega)]
                exact hoff a9 k9 z9) ⟨by rw [e_Iq5, u2_same], (hst.2.2).up (fun j hj => by rw [e_Iq5, u2_ne (by omega)])⟩ (by simp at hl40 ⊢; omega) hk.2 hev
            · have hu := mc_un hx9d (by first | exact Or.inl (by rw [← e_c]; assumption) | exact Or.inr (by rw [← e_c]; assumption))
              have hk := ok_un hok hu.2.1 hu.2.2.1
              obtain ⟨a, t9, rfl⟩ : ∃ a t9, st = a :: t9 := by
                cases st with
                | nil => exact absurd hk.1 (by decide)
                | cons a t9 => exact ⟨a, t9, rfl⟩
              simp only [List.length_cons] at hl40 ⊢
              refine x_aload_n dX8_says_182 3 rfl rfl ?_
              refine x_gR (b := m + 10) dX8_says_183 fl_8_37 rfl z0 y10 ?_
              refine x_iload dX8_says_186 2 rfl ?_
              refine x_iconst (v := nI 1) dX8_says_188 (by decide) ?_
              refine x_isub dX8_says_189 ?_
              refine x_vali (nI_pred t9.length) ?_
              refine x_iload dX8_says_190 0 rfl ?_
              refine x_bipush (v := 14) dX8_says_192 (by decide) ?_
              refine x_icmp_ne (tgt := 210) dX8_says_194 (by decide) (fun c_194 => ?_) (fun c_194 => ?_)
              · refine x_aload_n dX8_says_210 3 rfl rfl ?_
                refine x_gR (b := m + 10) dX8_says_211 fl_8_37 rfl z0 y10 ?_
                refine x_iload dX8_says_214 2 rfl ?_
                refine x_iconst (v := nI 1) dX8_says_216 (by decide) ?_
                refine x_isub dX8_says_217 ?_
                refine x_vali (nI_pred t9.length) ?_
                refine x_ia (j := t9.length) (v := J (m + 10) t9.length) dX8_says_218 z10 rfl (by omega) (by omega) rfl ?_
                refine x_if_ne (tgt := 226) dX8_says_219 (by decide) (fun c_219 => ?_) (fun c_219 => ?_)
                · refine x_iconst (v := 0) dX8_says_226 (by decide) ?_
                  refine x_is (j := t9.length) dX8_says_227 z10 rfl (by omega) (by omega) (fun Iq6 e_Iq6 => ?_)
                  refine x_goto (tgt := 264) dX8_says_228 (by decide) ?_
                  refine x_iinc (v := nI (B + i + 1)) (lv' := [(6, .int (nI (B + i + 1))), (7, .int c), (4, .int (nI (t9.length + 1))), (0, .ref m), (1, .int (nI q)), (2, .int (nI f)), (3, .int mo), (5, .int (nI B))]) dX8_says_264 1 rfl (nI_1 (B + i)) (by decide) rfl ?_
                  refine x_goto (tgt := 22) dX8_says_267 (by decide) ?_
                  refine x_sub [0, 2, 3, 4, 5, 6, 7] rfl ?_
                  rw [step_un hu.1 hu.2.1 hu.2.2.1, if_neg (hu.2.2.2.2 (fun z => c_194 (by rw [e_c]; exact z))), bI_f (fun z => c_219 (hst.1.trans z))] at hev
                  exact ih (i + 1) (0 :: t9) Iq6 (by omega) (by omega) (by
                    intro a9 k9 z9
                    rw [e_Iq6, u2_ne (by omega)]
                    exact hoff a9 k9 z9) ⟨by rw [e_Iq6, u2_same], (hst.2).up (fun j hj => by rw [e_Iq6, u2_ne (by omega)])⟩ (by simp at hl40 ⊢; omega) hk.2 hev
                · refine x_iconst (v := 1) dX8_says_222 (by decide) ?_
                  refine x_goto (tgt := 227) dX8_says_223 (by decide) ?_
                  refine x_is (j := t9.length) dX8_says_227 z10 rfl (by omega) (by omega) (fun Iq7 e_Iq7 => ?_)
                  refine x_goto (tgt := 264) dX8_says_228 (by decide) ?_
                  refine x_iinc (v := nI (B + i + 1)) (lv' := [(6, .int (nI (B + i + 1))), (7, .int c), (4, .int (nI (t9.length + 1))), (0, .ref m), (1, .int (nI q)), (2, .int (nI f)), (3, .int mo), (5, .int (nI B))]) dX8_says_264 1 rfl (nI_1 (B + i)) (by decide) rfl ?_
                  refine x_goto (tgt := 22) dX8_says_267 (by decide) ?_
                  refine x_sub [0, 2, 3, 4, 5, 6, 7] rfl ?_
                  rw [step_un hu.1 hu.2.1 hu.2.2.1, if_neg (hu.2.2.2.2 (fun z => c_194 (by rw [e_c]; exact z))), bI_t (hst.1.symm.trans c_219)] at hev
                  exact ih (i + 1) (1 :: t9) Iq7 (by omega) (by omega) (by
                    intro a9 k9 z9
                    rw [e_Iq7, u2_ne (by omega)]
                    exact hoff a9 k9 z9) ⟨by rw [e_Iq7, u2_same], (hst.2).up (fun j hj => by rw [e_Iq7, u2_ne (by omega)])⟩ (by simp at hl40 ⊢; omega) hk.2 hev
              · refine x_aload_n dX8_says_197 3 rfl rfl ?_
                refine x_gR (b := m + 10) dX8_says_198 fl_8_37 rfl z0 y10 ?_
                refine x_iload dX8_says_201 2 rfl ?_
                refine x_iconst (v := nI 1) dX8_says_203 (by decide) ?_
                refine x_isub dX8_says_204 ?_
                refine x_vali (nI_pred t9.length) ?_
                refine x_ia (j := t9.length) (v := J (m + 10) t9.length) dX8_says_205 z10 rfl (by omega) (by omega) rfl ?_
                refine x_ineg dX8_says_206 ?_
                refine x_goto (tgt := 227) dX8_says_207 (by decide) ?_
                refine x_is (j := t9.length) dX8_says_227 z10 rfl (by omega) (by omega) (fun Iq8 e_Iq8 => ?_)
                refine x_goto (tgt := 264) dX8_says_228 (by decide) ?_
                refine x_iinc (v := nI (B + i + 1)) (lv' := [(6, .int (nI (B + i + 1))), (7, .int c), (4, .int (nI (t9.length + 1))), (0, .ref m), (1, .int (nI q)), (2, .int (nI f)), (3, .int mo), (5, .int (nI B))]) dX8_says_264 1 rfl (nI_1 (B + i)) (by decide) rfl ?_
                refine x_goto (tgt := 22) dX8_says_267 (by decide) ?_
                refine x_sub [0, 2, 3, 4, 5, 6, 7] rfl ?_
                rw [step_un hu.1 hu.2.1 hu.2.2.1, if_pos (hu.2.2.2.1 (by rw [← e_c]; exact c_194))] at hev
                exact ih (i + 1) ((-a) :: t9) Iq8 (by omega) (by omega) (by
                  intro a9 k9 z9
                  rw [e_Iq8, u2_ne (by omega)]
                  exact hoff a9 k9 z9) ⟨by rw [e_Iq8, u2_same]; exact (by rw [hst.1]), (hst.2).up (fun j hj => by rw [e_Iq8, u2_ne (by omega)])⟩ (by simp at hl40 ⊢; omega) hk.2 hev
        · have hu := mc_name hx9d (by rw [← e_c]; exact c_56) (by rw [← e_c]; exact c_62)
          have hk := ok_num hok hu.2.1
          refine x_aload_n dX8_says_65 3 rfl rfl ?_
          refine x_gR (b := m + 10) dX8_says_66 fl_8_37 rfl z0 y10 ?_
          refine x_iload dX8_says_69 2 rfl ?_
          refine x_iinc (v := nI (st.length + 1)) (lv' := [(4, .int (nI (st.length + 1))), (7, .int c), (6, .int (nI (B + i))), (0, .ref m), (1, .int (nI q)), (2, .int (nI f)), (3, .int mo), (5, .int (nI B))]) dX8_says_71 2 rfl (nI_1 st.length) (by decide) rfl ?_
          refine x_iload dX8_says_74 1 rfl ?_
          refine x_bipush (v := 15) dX8_says_76 (by decide) ?_
          refine x_icmp_lt (tgt := 89) dX8_says_78 (by decide) (fun c_78 => ?_) (fun c_78 => False.elim (c_56 (Int32.not_lt.mp c_78)))
          refine x_iload dX8_says_89 1 rfl ?_
          refine x_if_ne (tgt := 101) dX8_says_91 (by decide) (fun c_91 => ?_) (fun c_91 => ?_)
          · refine x_iload dX8_says_101 1 rfl ?_
            refine x_iconst (v := 1) dX8_says_103 (by decide) ?_
            refine x_icmp_ne (tgt := 114) dX8_says_104 (by decide) (fun c_104 => ?_) (fun c_104 => ?_)
            · refine x_iload dX8_says_114 1 rfl ?_
              refine x_iconst (v := 2) dX8_says_116 (by decide) ?_
              refine x_icmp_ne (tgt := 129) dX8_says_117 (by decide) (fun c_117 => ?_) (fun c_117 => ?_)
              · refine x_iload dX8_says_129 1 rfl ?_
                refine x_iconst (v := 3) dX8_says_131 (by decide) ?_
                refine x_icmp_ne (tgt := 144) dX8_says_132 (by decide) (fun c_132 => ?_) (fun c_132 => ?_)
                · refine x_iload dX8_says_144 1 rfl ?_
                  refine x_iconst (v := 4) dX8_says_146 (by decide) ?_
                  refine x_icmp_ne (tgt := 159) dX8_says_147 (by decide) (fun c_147 => ?_) (fun c_147 => ?_)
                  · refine x_aload_n dX8_says_159 3 rfl rfl ?_
                    refine x_iload_n dX8_says_160 5 rfl rfl ?_
                    refine x_callV (k_mshelter (G := G) (I := J) (w.fr hoff.fr) (f := f) hf) dX8_says_161 crc_X8_shelter vc_8_99 z0 rfl rfl rfl rfl (Nat.le_of_ble_eq_true rfl) (roomy_k (by omega) (by decide)) (Nat.le_refl _) (Nat.le_refl _) ?_
                    rintro _ _ ⟨r, rfl, hr, rfl⟩
                    rw [shelF_ext (F := fun o k => J (m + 1 + k) o) (F' := fun o k => I (m + 1 + k) o) (fun o ho k hk => hoff _ _ (by omega)) (hoff _ _ (by omega))] at hr
                    refine x_is (j := st.length) dX8_says_164 z10 rfl (by omega) (by omega) (fun Iq9 e_Iq9 => ?_)
                    refine x_goto (tgt := 264) dX8_says_165 (by decide) ?_
                    refine x_iinc (v := nI (B + i + 1)) (lv' := [(6, .int (nI (B + i + 1))), (4, .int (nI (st.length + 1))), (7, .int c), (0, .ref m), (1, .int (nI q)), (2, .int (nI f)), (3, .int mo), (5, .int (nI B))]) dX8_says_264 2 rfl (nI_1 (B + i)) (by decide) rfl ?_
                    refine x_goto (tgt := 22) dX8_says_267 (by decide) ?_
                    refine x_sub [0, 1, 3, 4, 5, 6, 7] rfl ?_
                    have hxx := hu.2.2.2.2.2.2.2 (by rw [← e_c]; exact c_91) (by rw [← e_c]; exact c_104) (by rw [← e_c]; exact c_117) (by rw [← e_c]; exact c_132) (by rw [← e_c]; exact c_147)
                    rw [step_name hu.1 hu.2.1] at hev
                    rw [show cxM I m f n x = r from by rw [hxx, hr]; rfl] at hev
                    exact ih (i + 1) (r :: st) Iq9 (by omega) (by omega) (by
                      intro a9 k9 z9
                      rw [e_Iq9, u2_ne (by omega)]
                      exact hoff a9 k9 z9) ⟨by rw [e_Iq9, u2_same], (hst).up (fun j hj => by rw [e_Iq9, u2_ne (by omega)])⟩ (by have := hk.1; simp; omega) hk.2 hev
                  · refine x_aload_n dX8_says_150 3 rfl rfl ?_
                    refine x_gR (b := m + 1 + 4) dX8_says_151 fl_8_22 rfl z0 (y1 4 (by omega)) ?_
                    refine x_iload_n dX8_says_154 5 rfl rfl ?_
                    refine x_ia (j := f) (v := I (m + 1 + 4) f) dX8_says_155 (z1 4 (by omega)) rfl (by omega) (by omega) (hoff _ _ (by omega)) ?_
                    refine x_goto (tgt := 164) dX8_says_156 (by decide) ?_
                    refine x_is (j := st.length) dX8_says_164 z10 rfl (by omega) (by omega) (fun Iq10 e_Iq10 => ?_)
                    refine x_goto (tgt := 264) dX8_says_165 (by decide) ?_
                    refine x_iinc (v := nI (B + i + 1)) (lv' := [(6, .int (nI (B + i + 1))), (4, .int (nI (st.length + 1))), (7, .int c), (0, .ref m), (1, .int (nI q)), (2, .int (nI f)), (3, .int mo), (5, .int (nI B))]) dX8_says_264 2 rfl (nI_1 (B + i)) (by decide) rfl ?_
                    refine x_goto (tgt := 22) dX8_says_267 (by decide) ?_
                    refine x_sub [0, 1, 3, 4, 5, 6, 7] rfl ?_
                    have hxx := hu.2.2.2.2.2.2.1 (by rw [← e_c]; exact c_147)
                    rw [step_name hu.1 hu.2.1] at hev
                    rw [show cxM I m f n x = I (m + 1 + 4) f from by rw [hxx]; rfl] at hev
                    exact ih (i + 1) (I (m + 1 + 4) f :: st) Iq10 (by omega) (by omega) (by
                      intro a9 k9 z9
                      rw [e_Iq10, u2_ne (by omega)]
                      exact hoff a9 k9 z9) ⟨by rw [e_Iq10, u2_same], (hst).up (fun j hj => by rw [e_Iq10, u2_ne (by omega)])⟩ (by have := hk.1; simp; omega) hk.2 hev
                · refine x_aload_n dX8_says_135 3 rfl rfl ?_
                  refine x_gR (b := m + 1 + 1) dX8_says_136 fl_8_13 rfl z0 (y1 1 (by omega)) ?_
                  refine x_iload_n dX8_says_139 5 rfl rfl ?_
                  refine x_ia (j := f) (v := I (m + 1 + 1) f) dX8_says_140 (z1 1 (by omega)) rfl (by omega) (by omega) (hoff _ _ (by omega)) ?_
                  refine x_goto (tgt := 164) dX8_says_141 (by decide) ?_
                  refine x_is (j := st.length) dX8_says_164 z10 rfl (by omega) (by omega) (fun Iq11 e_Iq11 => ?_)
                  refine x_goto (tgt := 264) dX8_says_165 (by decide) ?_
                  refine x_iinc (v := nI (B + i + 1)) (lv' := [(6, .int (nI (B + i + 1))), (4, .int (nI (st.length + 1))), (7, .int c), (0, .ref m), (1, .int (nI q)), (2, .int (nI f)), (3, .int mo), (5, .int (nI B))]) dX8_says_264 2 rfl (nI_1 (B + i)) (by decide) rfl ?_
                  refine x_goto (tgt := 22) dX8_says_267 (by decide) ?_
                  refine x_sub [0, 1, 3, 4, 5, 6, 7] rfl ?_
                  have hxx := hu.2.2.2.2.2.1 (by rw [← e_c]; exact c_132)
                  rw [step_name hu.1 hu.2.1] at hev
                  rw [show cxM I m f n x = I (m + 1 + 1) f from by rw [hxx]; rfl] at hev
                  exact ih (i + 1) (I (m + 1 + 1) f :: st) Iq11 (by omega) (by omega) (by
                    intro a9 k9 z9
                    rw [e_Iq11, u2_ne (by omega)]
                    exact hoff a9 k9 z9) ⟨by rw [e_Iq11, u2_same], (hst).up (fun j hj => by rw [e_Iq11, u2_ne (by omega)])⟩ (by have := hk.1; simp; omega) hk.2 hev
              · refine x_aload_n dX8_says_120 3 rfl rfl ?_
                refine x_gR (b := m + 1 + 2) dX8_says_121 fl_8_16 rfl z0 (y1 2 (by omega)) ?_
                refine x_iload_n dX8_says_124 5 rfl rfl ?_
                refine x_ia (j := f) (v := I (m + 1 + 2) f) dX8_says_125 (z1 2 (by omega)) rfl (by omega) (by omega) (hoff _ _ (by omega)) ?_
                refine x_goto (tgt := 164) dX8_says_126 (by decide) ?_
                refine x_is (j := st.length) dX8_says_164 z10 rfl (by omega) (by omega) (fun Iq12 e_Iq12 => ?_)
                refine x_goto (tgt := 264) dX8_says_165 (by decide) ?_
                refine x_iinc (v := nI (B + i + 1)) (lv' := [(6, .int (nI (B + i + 1))), (4, .int (nI (st.length + 1))), (7, .int c), (0, .ref m), (1, .int (nI q)), (2, .int (nI f)), (3, .int mo), (5, .int (nI B))]) dX8_says_264 2 rfl (nI_1 (B + i)) (by decide) rfl ?_
                refine x_goto (tgt := 22) dX8_says_267 (by decide) ?_
                refine x_sub [0, 1, 3, 4, 5, 6, 7] rfl ?_
                have hxx := hu.2.2.2.2.1 (by rw [← e_c]; exact c_117)
                rw [step_name hu.1 hu.2.1] at hev
                rw [show cxM I m f n x = I (m + 1 + 2) f from by rw [hxx]; rfl] at hev
                exact ih (i + 1) (I (m + 1 + 2) f :: st) Iq12 (by omega) (by omega) (by
                  intro a9 k9 z9
                  rw [e_Iq12, u2_ne (by omega)]
                  exact hoff a9 k9 z9) ⟨by rw [e_Iq12, u2_same], (hst).up (fun j hj => by rw [e_Iq12, u2_ne (by omega)])⟩ (by have := hk.1; simp; omega) hk.2 hev
            · refine x_aload_n dX8_says_107 3 rfl rfl ?_
              refine x_gI (v := I m 0) dX8_says_108 fl_8_86 rfl z0 (hoff _ _ (by omega)) ?_
              refine x_goto (tgt := 164) dX8_says_111 (by decide) ?_
              refine x_is (j := st.length) dX8_says_164 z10 rfl (by omega) (by omega) (fun Iq13 e_Iq13 => ?_)
              refine x_goto (tgt := 264) dX8_says_165 (by decide) ?_
              refine x_iinc (v := nI (B + i + 1)) (lv' := [(6, .int (nI (B + i + 1))), (4, .int (nI (st.length + 1))), (7, .int c), (0, .ref m), (1, .int (nI q)), (2, .int (nI f)), (3, .int mo), (5, .int (nI B))]) dX8_says_264 2 rfl (nI_1 (B + i)) (by decide) rfl ?_
              refine x_goto (tgt := 22) dX8_says_267 (by decide) ?_
              refine x_sub [0, 1, 3, 4, 5, 6, 7] rfl ?_
              have hxx := hu.2.2.2.1 (by rw [← e_c]; exact c_104)
              rw [step_name hu.1 hu.2.1] at hev
              rw [show cxM I m f n x = I m 0 from by rw [hxx]; rfl] at hev
              exact ih (i + 1) (I m 0 :: st) Iq13 (by omega) (by omega) (by
                intro a9 k9 z9
                rw [e_Iq13, u2_ne (by omega)]
                exact hoff a9 k9 z9) ⟨by rw [e_Iq13, u2_same], (hst).up (fun j hj => by rw [e_Iq13, u2_ne (by omega)])⟩ (by have := hk.1; simp; omega) hk.2 hev
          · refine x_aload_n dX8_says_94 3 rfl rfl ?_
            refine x_gI (v := I m 1) dX8_says_95 fl_8_89 rfl z0 (hoff _ _ (by omega)) ?_
            refine x_goto (tgt := 164) dX8_says_98 (by decide) ?_
            refine x_is (j := st.length) dX8_says_164 z10 rfl (by omega) (by omega) (fun Iq14 e_Iq14 => ?_)
            refine x_goto (tgt := 264) dX8_says_165 (by decide) ?_
            refine x_iinc (v := nI (B + i + 1)) (lv' := [(6, .int (nI (B + i + 1))), (4, .int (nI (st.length + 1))), (7, .int c), (0, .ref m), (1, .int (nI q)), (2, .int (nI f)), (3, .int mo), (5, .int (nI B))]) dX8_says_264 2 rfl (nI_1 (B + i)) (by decide) rfl ?_
            refine x_goto (tgt := 22) dX8_says_267 (by decide) ?_
            refine x_sub [0, 1, 3, 4, 5, 6, 7] rfl ?_
            have hxx := hu.2.2.1 (by rw [← e_c]; exact c_91)
            rw [step_name hu.1 hu.2.1] at hev
            rw [show cxM I m f n x = I m 1 from by rw [hxx]; rfl] at hev
            exact ih (i + 1) (I m 1 :: st) Iq14 (by omega) (by omega) (by
              intro a9 k9 z9
              rw [e_Iq14, u2_ne (by omega)]
              exact hoff a9 k9 z9) ⟨by rw [e_Iq14, u2_same], (hst).up (fun j hj => by rw [e_Iq14, u2_ne (by omega)])⟩ (by have := hk.1; simp; omega) hk.2 hev

set_option maxHeartbeats 4000000 in
set_option maxRecDepth 100000 in
theorem k_says {G : GG} {Sh : HS} {I : HI} {R : HR} {m n t : Nat} {P : Nat → List Int32} (w : MW Sh I R m n t P) {f q : Nat} (hf : f < 8) (hq3 : q < 3) {mo : Int32} : AM G 2 0 0 yX8_says cX8_says 8 (some .int) [.ref m, .int (nI q), .int (nI f), .int mo] (Sh, I, R) (qi fun r g => r = mxI 0 (mnI mo (topF (cxM I m f n) (P q))) ∧ ∃ I2 : HI, offK m I I2 ∧ g = (Sh, I2, R)) := by
  obtain ⟨hsh, hrf, hn, hn8, hru, hr6, cd9, hcd9, htx⟩ := id w
  obtain ⟨z0, z1, z6, z7, z8, z9, z10, z11, z12, z13, z14, z15, z16, z17⟩ := id hsh
  obtain ⟨y1, y6, y7, y8, y9, y10, y11, y12, y13, y14, y15, y16, y17⟩ := id hrf
  obtain ⟨B, hB1, hB2, hB3, hB4, hB5⟩ := htx q hq3
  refine am_intro (by decide) (Nat.le_of_ble_eq_true rfl) ?_
  refine x_iconst (v := nI 0) dX8_says_0 (by decide) ?_
  refine x_istore (lv' := [(4, .int (nI 0)), (0, .ref m), (1, .int (nI q)), (2, .int (nI f)), (3, .int mo)]) dX8_says_1 (by decide) rfl ?_
  refine x_aload_n dX8_says_3 1 rfl rfl ?_
  refine x_gR (b := m + 7) dX8_says_4 fl_8_28 rfl z0 y7 ?_
  refine x_iconst (v := nI 3) dX8_says_7 (by decide) ?_
  refine x_aload_n dX8_says_8 1 rfl rfl ?_
  refine x_gI (v := nI t) dX8_says_9 fl_8_218 rfl z0 hru ?_
  refine x_imul dX8_says_12 ?_
  refine x_vali (pk_mul 3 t) ?_
  refine x_iload_n dX8_says_13 2 rfl rfl ?_
  refine x_iadd dX8_says_14 ?_
  refine x_vali (nI_add (3 * t) q) ?_
  refine x_ia (j := 3 * t + q) (v := nI B) dX8_says_15 z7 rfl (by omega) (by omega) hB1 ?_
  refine x_istore (lv' := [(5, .int (nI B)), (4, .int (nI 0)), (0, .ref m), (1, .int (nI q)), (2, .int (nI f)), (3, .int mo)]) dX8_says_16 (by decide) rfl ?_
  refine x_iload dX8_says_18 0 rfl ?_
  refine x_istore (lv' := [(6, .int (nI B)), (5, .int (nI B)), (4, .int (nI 0)), (0, .ref m), (1, .int (nI q)), (2, .int (nI f)), (3, .int mo)]) dX8_says_20 (by decide) rfl ?_
  refine x_sub [0, 2, 3, 4, 5, 6, 1] rfl ?_
  exact k_says_l w hf hq3 hB2 (by omega) hB4 hB5 ((P q).length + 1) 0 [] I (by omega) (by omega) offK.rf trivial (by simp) hB5 rfl

