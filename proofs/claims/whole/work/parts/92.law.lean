/-! THE LAW: every call, then its loop -/
set_option maxHeartbeats 4000000 in
set_option maxRecDepth 100000 in
theorem lc_set {G : GG} {b0 Ls : Nat} {xs : Nat → Int32} {nm : String} {b i : Nat} {σ : SG} {Sh : HS} {I : HI} {R : HR} (hc : CI b Sh I R σ) (hm : MI (b + 69) Sh I R σ) (hw : WI σ) (hi6 : i + 6 ≤ Ls) (hL3 : Ls ≤ 3072) (hk : ∀ (σ' : SG) (J : HI) (R' : HR), CI b Sh J R' σ' → MI (b + 69) Sh J R' σ' → WI σ' → X G (KL G b0 Ls xs) (yL nm) code 4 ret 87 5884 1088 [(3, .int (nI i)), (2, .ref (b + 69)), (1, .ref b), (0, .ref b0)] [] (Sh, J, R')) : X G (KL G b0 Ls xs) (yL nm) code 4 ret 87 5884 156 [(3, .int (nI i)), (2, .ref (b + 69)), (1, .ref b), (0, .ref b0)] [] (Sh, I, R) := by
  refine x_aload_n dL_law_156 2 rfl rfl ?_
  refine x_aload_n dL_law_157 3 rfl rfl ?_
  refine x_iload_n dL_law_158 0 rfl rfl ?_
  refine x_iconst (v := nI 1) dL_law_159 (by decide) ?_
  refine x_iadd dL_law_160 ?_
  refine x_vali (nI_add i 1) ?_
  refine x_sld (j := i + 1) dL_law_161 rfl (by omega) hL3 ?_
  refine x_aload_n dL_law_162 3 rfl rfl ?_
  refine x_iload_n dL_law_163 0 rfl rfl ?_
  refine x_iconst (v := nI 2) dL_law_164 (by decide) ?_
  refine x_iadd dL_law_165 ?_
  refine x_vali (nI_add i 2) ?_
  refine x_sld (j := i + 2) dL_law_166 rfl (by omega) hL3 ?_
  refine x_aload_n dL_law_167 3 rfl rfl ?_
  refine x_iload_n dL_law_168 0 rfl rfl ?_
  refine x_iconst (v := nI 3) dL_law_169 (by decide) ?_
  refine x_iadd dL_law_170 ?_
  refine x_vali (nI_add i 3) ?_
  refine x_sld (j := i + 3) dL_law_171 rfl (by omega) hL3 ?_
  refine x_callV (k_set (G := G) hc (w := xs (i + 1)) (of := xs (i + 2)) (v := xs (i + 3))) dL_law_172 crc_X7_set vc_L_13 hc.1.1 rfl rfl rfl rfl (Nat.le_of_ble_eq_true rfl) ⟨Nat.le_of_ble_eq_true rfl, Nat.le_of_ble_eq_true rfl⟩ (Nat.le_of_ble_eq_true rfl) (Nat.le_of_ble_eq_true rfl) ?_
  rintro _ _ ⟨x9, rfl, hq9⟩
  obtain ⟨rfl, J, R2, rfl, hc2, fr1, fr2⟩ := hq9
  have hm2 : MI (b + 69) Sh J R2 σ := hm.cong (fun _ _ _ => rfl) (fun a k h1 h2 => fr1 a k (by omega)) (fun a k h1 h2 => fr2 a k (by omega))
  refine x_aload_n dL_law_175 1 rfl rfl ?_
  refine x_aload_n dL_law_176 3 rfl rfl ?_
  refine x_iload_n dL_law_177 0 rfl rfl ?_
  refine x_iconst (v := nI 1) dL_law_178 (by decide) ?_
  refine x_iadd dL_law_179 ?_
  refine x_vali (nI_add i 1) ?_
  refine x_sld (j := i + 1) dL_law_180 rfl (by omega) hL3 ?_
  refine x_aload_n dL_law_181 3 rfl rfl ?_
  refine x_iload_n dL_law_182 0 rfl rfl ?_
  refine x_iconst (v := nI 2) dL_law_183 (by decide) ?_
  refine x_iadd dL_law_184 ?_
  refine x_vali (nI_add i 2) ?_
  refine x_sld (j := i + 2) dL_law_185 rfl (by omega) hL3 ?_
  refine x_aload_n dL_law_186 3 rfl rfl ?_
  refine x_iload_n dL_law_187 0 rfl rfl ?_
  refine x_iconst (v := nI 3) dL_law_188 (by decide) ?_
  refine x_iadd dL_law_189 ?_
  refine x_vali (nI_add i 3) ?_
  refine x_sld (j := i + 3) dL_law_190 rfl (by omega) hL3 ?_
  refine x_callV (k_mset (G := G) hm2 hw (w := xs (i + 1)) (of := xs (i + 2)) (v := xs (i + 3))) dL_law_191 crc_X8_set vc_L_17 hm.1.1 rfl rfl rfl rfl (Nat.le_of_ble_eq_true rfl) ⟨Nat.le_of_ble_eq_true rfl, Nat.le_of_ble_eq_true rfl⟩ (Nat.le_of_ble_eq_true rfl) (Nat.le_of_ble_eq_true rfl) ?_
  rintro _ _ ⟨x8, rfl, hq8⟩
  obtain ⟨rfl, J2, rfl, hm3, fr3⟩ := hq8
  have hc3 := hc2.cong (Sh' := Sh) (J := J2) (R' := R2) (fun _ _ _ => rfl) (fun a k h1 h2 => fr3 a k (by omega)) (fun _ _ _ _ => rfl)
  refine x_icmp_eq (tgt := 1088) dL_law_194 (by decide) (fun c_194 => ?_) (fun c_194 => False.elim (c_194 rfl))
  exact hk _ J2 R2 hc3 hm3 (WI.set hw)

set_option maxHeartbeats 4000000 in
set_option maxRecDepth 100000 in
theorem lc_fort {G : GG} {b0 Ls : Nat} {xs : Nat → Int32} {nm : String} {b i : Nat} {σ : SG} {Sh : HS} {I : HI} {R : HR} (hc : CI b Sh I R σ) (hm : MI (b + 69) Sh I R σ) (hw : WI σ) (hi6 : i + 6 ≤ Ls) (hL3 : Ls ≤ 3072) (hk : ∀ (σ' : SG) (J : HI) (R' : HR), CI b Sh J R' σ' → MI (b + 69) Sh J R' σ' → WI σ' → X G (KL G b0 Ls xs) (yL nm) code 4 ret 87 5884 1088 [(3, .int (nI i)), (2, .ref (b + 69)), (1, .ref b), (0, .ref b0)] [] (Sh, J, R')) : X G (KL G b0 Ls xs) (yL nm) code 4 ret 87 5884 199 [(3, .int (nI i)), (2, .ref (b + 69)), (1, .ref b), (0, .ref b0)] [] (Sh, I, R) := by
  refine x_aload_n dL_law_199 2 rfl rfl ?_
  refine x_aload_n dL_law_200 3 rfl rfl ?_
  refine x_iload_n dL_law_201 0 rfl rfl ?_
  refine x_iconst (v := nI 1) dL_law_202 (by decide) ?_
  refine x_iadd dL_law_203 ?_
  refine x_vali (nI_add i 1) ?_
  refine x_sld (j := i + 1) dL_law_204 rfl (by omega) hL3 ?_
  refine x_aload_n dL_law_205 3 rfl rfl ?_
  refine x_iload_n dL_law_206 0 rfl rfl ?_
  refine x_iconst (v := nI 2) dL_law_207 (by decide) ?_
  refine x_iadd dL_law_208 ?_
  refine x_vali (nI_add i 2) ?_
  refine x_sld (j := i + 2) dL_law_209 rfl (by omega) hL3 ?_
  refine x_aload_n dL_law_210 3 rfl rfl ?_
  refine x_iload_n dL_law_211 0 rfl rfl ?_
  refine x_iconst (v := nI 3) dL_law_212 (by decide) ?_
  refine x_iadd dL_law_213 ?_
  refine x_vali (nI_add i 3) ?_
  refine x_sld (j := i + 3) dL_law_214 rfl (by omega) hL3 ?_
  refine x_callV (k_fort (G := G) hc (k := xs (i + 1)) (nu := xs (i + 2)) (p := xs (i + 3))) dL_law_215 crc_X7_fort vc_L_18 hc.1.1 rfl rfl rfl rfl (Nat.le_of_ble_eq_true rfl) ⟨Nat.le_of_ble_eq_true rfl, Nat.le_of_ble_eq_true rfl⟩ (Nat.le_of_ble_eq_true rfl) (Nat.le_of_ble_eq_true rfl) ?_
  rintro _ _ ⟨x9, rfl, hq9⟩
  obtain ⟨rfl, J, R2, rfl, hc2, fr1, fr2⟩ := hq9
  have hm2 : MI (b + 69) Sh J R2 σ := hm.cong (fun _ _ _ => rfl) (fun a k h1 h2 => fr1 a k (by omega)) (fun a k h1 h2 => fr2 a k (by omega))
  refine x_aload_n dL_law_218 1 rfl rfl ?_
  refine x_aload_n dL_law_219 3 rfl rfl ?_
  refine x_iload_n dL_law_220 0 rfl rfl ?_
  refine x_iconst (v := nI 1) dL_law_221 (by decide) ?_
  refine x_iadd dL_law_222 ?_
  refine x_vali (nI_add i 1) ?_
  refine x_sld (j := i + 1) dL_law_223 rfl (by omega) hL3 ?_
  refine x_aload_n dL_law_224 3 rfl rfl ?_
  refine x_iload_n dL_law_225 0 rfl rfl ?_
  refine x_iconst (v := nI 2) dL_law_226 (by decide) ?_
  refine x_iadd dL_law_227 ?_
  refine x_vali (nI_add i 2) ?_
  refine x_sld (j := i + 2) dL_law_228 rfl (by omega) hL3 ?_
  refine x_aload_n dL_law_229 3 rfl rfl ?_
  refine x_iload_n dL_law_230 0 rfl rfl ?_
  refine x_iconst (v := nI 3) dL_law_231 (by decide) ?_
  refine x_iadd dL_law_232 ?_
  refine x_vali (nI_add i 3) ?_
  refine x_sld (j := i + 3) dL_law_233 rfl (by omega) hL3 ?_
  refine x_callV (k_mfort (G := G) hm2 hw (k := xs (i + 1)) (nu := xs (i + 2)) (p := xs (i + 3))) dL_law_234 crc_X8_fort vc_L_21 hm.1.1 rfl rfl rfl rfl (Nat.le_of_ble_eq_true rfl) ⟨Nat.le_of_ble_eq_true rfl, Nat.le_of_ble_eq_true rfl⟩ (Nat.le_of_ble_eq_true rfl) (Nat.le_of_ble_eq_true rfl) ?_
  rintro _ _ ⟨x8, rfl, hq8⟩
  obtain ⟨rfl, J2, rfl, hm3, fr3⟩ := hq8
  have hc3 := hc2.cong (Sh' := Sh) (J := J2) (R' := R2) (fun _ _ _ => rfl) (fun a k h1 h2 => fr3 a k (by omega)) (fun _ _ _ _ => rfl)
  refine x_icmp_eq (tgt := 1088) dL_law_237 (by decide) (fun c_237 => ?_) (fun c_237 => False.elim (c_237 rfl))
  exact hk _ J2 R2 hc3 hm3 (WI.fort hw)

set_option maxHeartbeats 4000000 in
set_option maxRecDepth 100000 in
theorem lc_told {G : GG} {b0 Ls : Nat} {xs : Nat → Int32} {nm : String} {b i : Nat} {σ : SG} {Sh : HS} {I : HI} {R : HR} (hc : CI b Sh I R σ) (hm : MI (b + 69) Sh I R σ) (hw : WI σ) (hi6 : i + 6 ≤ Ls) (hL3 : Ls ≤ 3072) (hk : ∀ (σ' : SG) (J : HI) (R' : HR), CI b Sh J R' σ' → MI (b + 69) Sh J R' σ' → WI σ' → X G (KL G b0 Ls xs) (yL nm) code 4 ret 87 5884 1088 [(3, .int (nI i)), (2, .ref (b + 69)), (1, .ref b), (0, .ref b0)] [] (Sh, J, R')) : X G (KL G b0 Ls xs) (yL nm) code 4 ret 87 5884 242 [(3, .int (nI i)), (2, .ref (b + 69)), (1, .ref b), (0, .ref b0)] [] (Sh, I, R) := by
  refine x_aload_n dL_law_242 2 rfl rfl ?_
  refine x_aload_n dL_law_243 3 rfl rfl ?_
  refine x_iload_n dL_law_244 0 rfl rfl ?_
  refine x_iconst (v := nI 1) dL_law_245 (by decide) ?_
  refine x_iadd dL_law_246 ?_
  refine x_vali (nI_add i 1) ?_
  refine x_sld (j := i + 1) dL_law_247 rfl (by omega) hL3 ?_
  refine x_aload_n dL_law_248 3 rfl rfl ?_
  refine x_iload_n dL_law_249 0 rfl rfl ?_
  refine x_iconst (v := nI 2) dL_law_250 (by decide) ?_
  refine x_iadd dL_law_251 ?_
  refine x_vali (nI_add i 2) ?_
  refine x_sld (j := i + 2) dL_law_252 rfl (by omega) hL3 ?_
  refine x_callV (k_told (G := G) hc (of := xs (i + 1)) (w := xs (i + 2))) dL_law_253 crc_X7_told vc_L_22 hc.1.1 rfl rfl rfl rfl (Nat.le_of_ble_eq_true rfl) ⟨Nat.le_of_ble_eq_true rfl, Nat.le_of_ble_eq_true rfl⟩ (Nat.le_of_ble_eq_true rfl) (Nat.le_of_ble_eq_true rfl) ?_
  rintro _ _ ⟨x9, rfl, hq9⟩
  obtain ⟨rfl, J, R2, rfl, hc2, fr1, fr2⟩ := qry_upd hc hq9
  have hm2 : MI (b + 69) Sh J R2 σ := hm.cong (fun _ _ _ => rfl) (fun a k h1 h2 => fr1 a k (by omega)) (fun a k h1 h2 => fr2 a k (by omega))
  refine x_aload_n dL_law_256 1 rfl rfl ?_
  refine x_aload_n dL_law_257 3 rfl rfl ?_
  refine x_iload_n dL_law_258 0 rfl rfl ?_
  refine x_iconst (v := nI 1) dL_law_259 (by decide) ?_
  refine x_iadd dL_law_260 ?_
  refine x_vali (nI_add i 1) ?_
  refine x_sld (j := i + 1) dL_law_261 rfl (by omega) hL3 ?_
  refine x_aload_n dL_law_262 3 rfl rfl ?_
  refine x_iload_n dL_law_263 0 rfl rfl ?_
  refine x_iconst (v := nI 2) dL_law_264 (by decide) ?_
  refine x_iadd dL_law_265 ?_
  refine x_vali (nI_add i 2) ?_
  refine x_sld (j := i + 2) dL_law_266 rfl (by omega) hL3 ?_
  refine x_callV (k_mtold (G := G) hm2 hw (of := xs (i + 1)) (w := xs (i + 2))) dL_law_267 crc_X8_told vc_L_26 hm.1.1 rfl rfl rfl rfl (Nat.le_of_ble_eq_true rfl) ⟨Nat.le_of_ble_eq_true rfl, Nat.le_of_ble_eq_true rfl⟩ (Nat.le_of_ble_eq_true rfl) (Nat.le_of_ble_eq_true rfl) ?_
  rintro _ _ ⟨x8, rfl, hq8⟩
  obtain ⟨rfl, J2, rfl, hm3, fr3⟩ := qry_updM hm2 hq8
  have hc3 := hc2.cong (Sh' := Sh) (J := J2) (R' := R2) (fun _ _ _ => rfl) (fun a k h1 h2 => fr3 a k (by omega)) (fun _ _ _ _ => rfl)
  refine x_icmp_eq (tgt := 1088) dL_law_270 (by decide) (fun c_270 => ?_) (fun c_270 => False.elim (c_270 rfl))
  exact hk _ J2 R2 hc3 hm3 (hw)

set_option maxHeartbeats 4000000 in
set_option maxRecDepth 100000 in
theorem lc_feed {G : GG} {b0 Ls : Nat} {xs : Nat → Int32} {nm : String} {b i : Nat} {σ : SG} {Sh : HS} {I : HI} {R : HR} (hc : CI b Sh I R σ) (hm : MI (b + 69) Sh I R σ) (hw : WI σ) (hi6 : i + 6 ≤ Ls) (hL3 : Ls ≤ 3072) (hk : ∀ (σ' : SG) (J : HI) (R' : HR), CI b Sh J R' σ' → MI (b + 69) Sh J R' σ' → WI σ' → X G (KL G b0 Ls xs) (yL nm) code 4 ret 87 5884 1088 [(3, .int (nI i)), (2, .ref (b + 69)), (1, .ref b), (0, .ref b0)] [] (Sh, J, R')) : X G (KL G b0 Ls xs) (yL nm) code 4 ret 87 5884 275 [(3, .int (nI i)), (2, .ref (b + 69)), (1, .ref b), (0, .ref b0)] [] (Sh, I, R) := by
  refine x_aload_n dL_law_275 2 rfl rfl ?_
  refine x_aload_n dL_law_276 3 rfl rfl ?_
  refine x_iload_n dL_law_277 0 rfl rfl ?_
  refine x_iconst (v := nI 1) dL_law_278 (by decide) ?_
  refine x_iadd dL_law_279 ?_
  refine x_vali (nI_add i 1) ?_
  refine x_sld (j := i + 1) dL_law_280 rfl (by omega) hL3 ?_
  refine x_callV (k_feed (G := G) hc (v := xs (i + 1))) dL_law_281 crc_X7_feed vc_L_27 hc.1.1 rfl rfl rfl rfl (Nat.le_of_ble_eq_true rfl) ⟨Nat.le_of_ble_eq_true rfl, Nat.le_of_ble_eq_true rfl⟩ (Nat.le_of_ble_eq_true rfl) (Nat.le_of_ble_eq_true rfl) ?_
  rintro _ _ ⟨x9, rfl, hq9⟩
  obtain ⟨rfl, J, R2, rfl, hc2, fr1, fr2⟩ := hq9
  have hm2 : MI (b + 69) Sh J R2 σ := hm.cong (fun _ _ _ => rfl) (fun a k h1 h2 => fr1 a k (by omega)) (fun a k h1 h2 => fr2 a k (by omega))
  refine x_aload_n dL_law_284 1 rfl rfl ?_
  refine x_aload_n dL_law_285 3 rfl rfl ?_
  refine x_iload_n dL_law_286 0 rfl rfl ?_
  refine x_iconst (v := nI 1) dL_law_287 (by decide) ?_
  refine x_iadd dL_law_288 ?_
  refine x_vali (nI_add i 1) ?_
  refine x_sld (j := i + 1) dL_law_289 rfl (by omega) hL3 ?_
  refine x_callV (k_mfeed (G := G) hm2 hw (v := xs (i + 1))) dL_law_290 crc_X8_feed vc_L_31 hm.1.1 rfl rfl rfl rfl (Nat.le_of_ble_eq_true rfl) ⟨Nat.le_of_ble_eq_true rfl, Nat.le_of_ble_eq_true rfl⟩ (Nat.le_of_ble_eq_true rfl) (Nat.le_of_ble_eq_true rfl) ?_
  rintro _ _ ⟨x8, rfl, hq8⟩
  obtain ⟨rfl, J2, rfl, hm3, fr3⟩ := hq8
  have hc3 := hc2.cong (Sh' := Sh) (J := J2) (R' := R2) (fun _ _ _ => rfl) (fun a k h1 h2 => fr3 a k (by omega)) (fun _ _ _ _ => rfl)
  refine x_icmp_eq (tgt := 1088) dL_law_293 (by decide) (fun c_293 => ?_) (fun c_293 => False.elim (c_293 rfl))
  exact hk _ J2 R2 hc3 hm3 (WI.feed hw)

set_option maxHeartbeats 4000000 in
set_option maxRecDepth 100000 in
theorem lc_text {G : GG} {b0 Ls : Nat} {xs : Nat → Int32} {nm : String} {b i : Nat} {σ : SG} {Sh : HS} {I : HI} {R : HR} (hc : CI b Sh I R σ) (hm : MI (b + 69) Sh I R σ) (hw : WI σ) (hi6 : i + 6 ≤ Ls) (hL3 : Ls ≤ 3072) (hk : ∀ (σ' : SG) (J : HI) (R' : HR), CI b Sh J R' σ' → MI (b + 69) Sh J R' σ' → WI σ' → X G (KL G b0 Ls xs) (yL nm) code 4 ret 87 5884 1088 [(3, .int (nI i)), (2, .ref (b + 69)), (1, .ref b), (0, .ref b0)] [] (Sh, J, R')) : X G (KL G b0 Ls xs) (yL nm) code 4 ret 87 5884 298 [(3, .int (nI i)), (2, .ref (b + 69)), (1, .ref b), (0, .ref b0)] [] (Sh, I, R) := by
  obtain ⟨res, htx⟩ := tx_ex (gTb σ) (gTs σ)
  refine x_aload_n dL_law_298 2 rfl rfl ?_
  refine x_callV (k_text (G := G) hc htx ) dL_law_299 crc_X7_text vc_L_32 hc.1.1 rfl rfl rfl rfl (Nat.le_of_ble_eq_true rfl) ⟨Nat.le_of_ble_eq_true rfl, Nat.le_of_ble_eq_true rfl⟩ (Nat.le_of_ble_eq_true rfl) (Nat.le_of_ble_eq_true rfl) ?_
  rintro _ _ ⟨x9, rfl, hq9⟩
  obtain ⟨rfl, J, R2, rfl, hc2, fr1, fr2⟩ := hq9
  have hm2 : MI (b + 69) Sh J R2 σ := hm.cong (fun _ _ _ => rfl) (fun a k h1 h2 => fr1 a k (by omega)) (fun a k h1 h2 => fr2 a k (by omega))
  refine x_aload_n dL_law_302 1 rfl rfl ?_
  refine x_callV (k_mtext (G := G) hm2 hw htx ) dL_law_303 crc_X8_text vc_L_36 hm.1.1 rfl rfl rfl rfl (Nat.le_of_ble_eq_true rfl) ⟨Nat.le_of_ble_eq_true rfl, Nat.le_of_ble_eq_true rfl⟩ (Nat.le_of_ble_eq_true rfl) (Nat.le_of_ble_eq_true rfl) ?_
  rintro _ _ ⟨x8, rfl, hq8⟩
  obtain ⟨rfl, J2, rfl, hm3, fr3⟩ := hq8
  have hc3 := hc2.cong (Sh' := Sh) (J := J2) (R' := R2) (fun _ _ _ => rfl) (fun a k h1 h2 => fr3 a k (by omega)) (fun _ _ _ _ => rfl)
  refine x_icmp_eq (tgt := 1088) dL_law_306 (by decide) (fun c_306 => ?_) (fun c_306 => False.elim (c_306 rfl))
  exact hk _ J2 R2 hc3 hm3 (WI.text hw)

set_option maxHeartbeats 4000000 in
set_option maxRecDepth 100000 in
theorem lc_force {G : GG} {b0 Ls : Nat} {xs : Nat → Int32} {nm : String} {b i : Nat} {σ : SG} {Sh : HS} {I : HI} {R : HR} (hc : CI b Sh I R σ) (hm : MI (b + 69) Sh I R σ) (hw : WI σ) (hi6 : i + 6 ≤ Ls) (hL3 : Ls ≤ 3072) (hk : ∀ (σ' : SG) (J : HI) (R' : HR), CI b Sh J R' σ' → MI (b + 69) Sh J R' σ' → WI σ' → X G (KL G b0 Ls xs) (yL nm) code 4 ret 87 5884 1088 [(3, .int (nI i)), (2, .ref (b + 69)), (1, .ref b), (0, .ref b0)] [] (Sh, J, R')) : X G (KL G b0 Ls xs) (yL nm) code 4 ret 87 5884 311 [(3, .int (nI i)), (2, .ref (b + 69)), (1, .ref b), (0, .ref b0)] [] (Sh, I, R) := by
  refine x_aload_n dL_law_311 2 rfl rfl ?_
  refine x_aload_n dL_law_312 3 rfl rfl ?_
  refine x_iload_n dL_law_313 0 rfl rfl ?_
  refine x_iconst (v := nI 1) dL_law_314 (by decide) ?_
  refine x_iadd dL_law_315 ?_
  refine x_vali (nI_add i 1) ?_
  refine x_sld (j := i + 1) dL_law_316 rfl (by omega) hL3 ?_
  refine x_callV (k_force (G := G) hc (t := xs (i + 1))) dL_law_317 crc_X7_force vc_L_37 hc.1.1 rfl rfl rfl rfl (Nat.le_of_ble_eq_true rfl) ⟨Nat.le_of_ble_eq_true rfl, Nat.le_of_ble_eq_true rfl⟩ (Nat.le_of_ble_eq_true rfl) (Nat.le_of_ble_eq_true rfl) ?_
  rintro _ _ ⟨x9, rfl, hq9⟩
  obtain ⟨rfl, J, R2, rfl, hc2, fr1, fr2⟩ := hq9
  have hm2 : MI (b + 69) Sh J R2 σ := hm.cong (fun _ _ _ => rfl) (fun a k h1 h2 => fr1 a k (by omega)) (fun a k h1 h2 => fr2 a k (by omega))
  refine x_aload_n dL_law_320 1 rfl rfl ?_
  refine x_aload_n dL_law_321 3 rfl rfl ?_
  refine x_iload_n dL_law_322 0 rfl rfl ?_
  refine x_iconst (v := nI 1) dL_law_323 (by decide) ?_
  refine x_iadd dL_law_324 ?_
  refine x_vali (nI_add i 1) ?_
  refine x_sld (j := i + 1) dL_law_325 rfl (by omega) hL3 ?_
  refine x_callV (k_mforce (G := G) hm2 hw (t := xs (i + 1))) dL_law_326 crc_X8_force vc_L_40 hm.1.1 rfl rfl rfl rfl (Nat.le_of_ble_eq_true rfl) ⟨Nat.le_of_ble_eq_true rfl, Nat.le_of_ble_eq_true rfl⟩ (Nat.le_of_ble_eq_true rfl) (Nat.le_of_ble_eq_true rfl) ?_
  rintro _ _ ⟨x8, rfl, hq8⟩
  obtain ⟨rfl, J2, rfl, hm3, fr3⟩ := hq8
  have hc3 := hc2.cong (Sh' := Sh) (J := J2) (R' := R2) (fun _ _ _ => rfl) (fun a k h1 h2 => fr3 a k (by omega)) (fun _ _ _ _ => rfl)
  refine x_icmp_eq (tgt := 1088) dL_law_329 (by decide) (fun c_329 => ?_) (fun c_329 => False.elim (c_329 rfl))
  exact hk _ J2 R2 hc3 hm3 (WI.force hw)

set_option maxHeartbeats 4000000 in
set_option maxRecDepth 100000 in
theorem lc_wave {G : GG} {b0 Ls : Nat} {xs : Nat → Int32} {nm : String} {b i : Nat} {σ : SG} {Sh : HS} {I : HI} {R : HR} (hc : CI b Sh I R σ) (hm : MI (b + 69) Sh I R σ) (hw : WI σ) (hi6 : i + 6 ≤ Ls) (hL3 : Ls ≤ 3072) (hk : ∀ (σ' : SG) (J : HI) (R' : HR), CI b Sh J R' σ' → MI (b + 69) Sh J R' σ' → WI σ' → X G (KL G b0 Ls xs) (yL nm) code 4 ret 87 5884 1088 [(3, .int (nI i)), (2, .ref (b + 69)), (1, .ref b), (0, .ref b0)] [] (Sh, J, R')) : X G (KL G b0 Ls xs) (yL nm) code 4 ret 87 5884 334 [(3, .int (nI i)), (2, .ref (b + 69)), (1, .ref b), (0, .ref b0)] [] (Sh, I, R) := by
  refine x_aload_n dL_law_334 2 rfl rfl ?_
  refine x_callV (k_wave (G := G) hc ) dL_law_335 crc_X7_wave vc_L_41 hc.1.1 rfl rfl rfl rfl (Nat.le_of_ble_eq_true rfl) ⟨Nat.le_of_ble_eq_true rfl, Nat.le_of_ble_eq_true rfl⟩ (Nat.le_of_ble_eq_true rfl) (Nat.le_of_ble_eq_true rfl) ?_
  rintro _ _ ⟨x9, rfl, hq9⟩
  obtain ⟨rfl, J, R2, rfl, hc2, fr1, fr2⟩ := hq9
  have hm2 : MI (b + 69) Sh J R2 σ := hm.cong (fun _ _ _ => rfl) (fun a k h1 h2 => fr1 a k (by omega)) (fun a k h1 h2 => fr2 a k (by omega))
  refine x_aload_n dL_law_338 1 rfl rfl ?_
  refine x_callV (k_mwave (G := G) hm2 hw ) dL_law_339 crc_X8_wave vc_L_44 hm.1.1 rfl rfl rfl rfl (Nat.le_of_ble_eq_true rfl) ⟨Nat.le_of_ble_eq_true rfl, Nat.le_of_ble_eq_true rfl⟩ (Nat.le_of_ble_eq_true rfl) (Nat.le_of_ble_eq_true rfl) ?_
  rintro _ _ ⟨x8, rfl, hq8⟩
  obtain ⟨rfl, J2, rfl, hm3, fr3⟩ := hq8
  have hc3 := hc2.cong (Sh' := Sh) (J := J2) (R' := R2) (fun _ _ _ => rfl) (fun a k h1 h2 => fr3 a k (by omega)) (fun _ _ _ _ => rfl)
  refine x_icmp_eq (tgt := 1088) dL_law_342 (by decide) (fun c_342 => ?_) (fun c_342 => False.elim (c_342 rfl))
  exact hk _ J2 R2 hc3 hm3 (WI.wave hw)

set_option maxHeartbeats 4000000 in
set_option maxRecDepth 100000 in
theorem lc_spade {G : GG} {b0 Ls : Nat} {xs : Nat → Int32} {nm : String} {b i : Nat} {σ : SG} {Sh : HS} {I : HI} {R : HR} (hc : CI b Sh I R σ) (hm : MI (b + 69) Sh I R σ) (hw : WI σ) (hi6 : i + 6 ≤ Ls) (hL3 : Ls ≤ 3072) (hk : ∀ (σ' : SG) (J : HI) (R' : HR), CI b Sh J R' σ' → MI (b + 69) Sh J R' σ' → WI σ' → X G (KL G b0 Ls xs) (yL nm) code 4 ret 87 5884 1088 [(3, .int (nI i)), (2, .ref (b + 69)), (1, .ref b), (0, .ref b0)] [] (Sh, J, R')) : X G (KL G b0 Ls xs) (yL nm) code 4 ret 87 5884 347 [(3, .int (nI i)), (2, .ref (b + 69)), (1, .ref b), (0, .ref b0)] [] (Sh, I, R) := by
  refine x_aload_n dL_law_347 2 rfl rfl ?_
  refine x_aload_n dL_law_348 3 rfl rfl ?_
  refine x_iload_n dL_law_349 0 rfl rfl ?_
  refine x_iconst (v := nI 1) dL_law_350 (by decide) ?_
  refine x_iadd dL_law_351 ?_
  refine x_vali (nI_add i 1) ?_
  refine x_sld (j := i + 1) dL_law_352 rfl (by omega) hL3 ?_
  refine x_callV (k_spade (G := G) hc (f := xs (i + 1))) dL_law_353 crc_X7_spade vc_L_45 hc.1.1 rfl rfl rfl rfl (Nat.le_of_ble_eq_true rfl) ⟨Nat.le_of_ble_eq_true rfl, Nat.le_of_ble_eq_true rfl⟩ (Nat.le_of_ble_eq_true rfl) (Nat.le_of_ble_eq_true rfl) ?_
  rintro _ _ ⟨x9, rfl, hq9⟩
  obtain ⟨rfl, J, R2, rfl, hc2, fr1, fr2⟩ := hq9
  have hm2 : MI (b + 69) Sh J R2 σ := hm.cong (fun _ _ _ => rfl) (fun a k h1 h2 => fr1 a k (by omega)) (fun a k h1 h2 => fr2 a k (by omega))
  refine x_aload_n dL_law_356 1 rfl rfl ?_
  refine x_aload_n dL_law_357 3 rfl rfl ?_
  refine x_iload_n dL_law_358 0 rfl rfl ?_
  refine x_iconst (v := nI 1) dL_law_359 (by decide) ?_
  refine x_iadd dL_law_360 ?_
  refine x_vali (nI_add i 1) ?_
  refine x_sld (j := i + 1) dL_law_361 rfl (by omega) hL3 ?_
  refine x_callV (k_mspade (G := G) hm2 hw (f := xs (i + 1))) dL_law_362 crc_X8_spade vc_L_48 hm.1.1 rfl rfl rfl rfl (Nat.le_of_ble_eq_true rfl) ⟨Nat.le_of_ble_eq_true rfl, Nat.le_of_ble_eq_true rfl⟩ (Nat.le_of_ble_eq_true rfl) (Nat.le_of_ble_eq_true rfl) ?_
  rintro _ _ ⟨x8, rfl, hq8⟩
  obtain ⟨rfl, J2, rfl, hm3, fr3⟩ := hq8
  have hc3 := hc2.cong (Sh' := Sh) (J := J2) (R' := R2) (fun _ _ _ => rfl) (fun a k h1 h2 => fr3 a k (by omega)) (fun _ _ _ _ => rfl)
  refine x_icmp_eq (tgt := 1088) dL_law_365 (by decide) (fun c_365 => ?_) (fun c_365 => False.elim (c_365 rfl))
  exact hk _ J2 R2 hc3 hm3 (WI.spade hw)

set_option maxHeartbeats 4000000 in
set_option maxRecDepth 100000 in
theorem lc_run {G : GG} {b0 Ls : Nat} {xs : Nat → Int32} {nm : String} {b i : Nat} {σ : SG} {Sh : HS} {I : HI} {R : HR} (hc : CI b Sh I R σ) (hm : MI (b + 69) Sh I R σ) (hw : WI σ) (hi6 : i + 6 ≤ Ls) (hL3 : Ls ≤ 3072) (hk : ∀ (σ' : SG) (J : HI) (R' : HR), CI b Sh J R' σ' → MI (b + 69) Sh J R' σ' → WI σ' → X G (KL G b0 Ls xs) (yL nm) code 4 ret 87 5884 1088 [(3, .int (nI i)), (2, .ref (b + 69)), (1, .ref b), (0, .ref b0)] [] (Sh, J, R')) : X G (KL G b0 Ls xs) (yL nm) code 4 ret 87 5884 370 [(3, .int (nI i)), (2, .ref (b + 69)), (1, .ref b), (0, .ref b0)] [] (Sh, I, R) := by
  refine x_aload_n dL_law_370 2 rfl rfl ?_
  refine x_aload_n dL_law_371 3 rfl rfl ?_
  refine x_iload_n dL_law_372 0 rfl rfl ?_
  refine x_iconst (v := nI 1) dL_law_373 (by decide) ?_
  refine x_iadd dL_law_374 ?_
  refine x_vali (nI_add i 1) ?_
  refine x_sld (j := i + 1) dL_law_375 rfl (by omega) hL3 ?_
  refine x_aload_n dL_law_376 3 rfl rfl ?_
  refine x_iload_n dL_law_377 0 rfl rfl ?_
  refine x_iconst (v := nI 2) dL_law_378 (by decide) ?_
  refine x_iadd dL_law_379 ?_
  refine x_vali (nI_add i 2) ?_
  refine x_sld (j := i + 2) dL_law_380 rfl (by omega) hL3 ?_
  refine x_callV (k_run (G := G) hc (n := xs (i + 1)) (w := xs (i + 2))) dL_law_381 crc_X7_run vc_L_49 hc.1.1 rfl rfl rfl rfl (Nat.le_of_ble_eq_true rfl) ⟨Nat.le_of_ble_eq_true rfl, Nat.le_of_ble_eq_true rfl⟩ (Nat.le_of_ble_eq_true rfl) (Nat.le_of_ble_eq_true rfl) ?_
  rintro _ _ ⟨x9, rfl, hq9⟩
  obtain ⟨rfl, J, R2, rfl, hc2, fr1, fr2⟩ := qry_upd hc hq9
  have hm2 : MI (b + 69) Sh J R2 σ := hm.cong (fun _ _ _ => rfl) (fun a k h1 h2 => fr1 a k (by omega)) (fun a k h1 h2 => fr2 a k (by omega))
  refine x_aload_n dL_law_384 1 rfl rfl ?_
  refine x_aload_n dL_law_385 3 rfl rfl ?_
  refine x_iload_n dL_law_386 0 rfl rfl ?_
  refine x_iconst (v := nI 1) dL_law_387 (by decide) ?_
  refine x_iadd dL_law_388 ?_
  refine x_vali (nI_add i 1) ?_
  refine x_sld (j := i + 1) dL_law_389 rfl (by omega) hL3 ?_
  refine x_aload_n dL_law_390 3 rfl rfl ?_
  refine x_iload_n dL_law_391 0 rfl rfl ?_
  refine x_iconst (v := nI 2) dL_law_392 (by decide) ?_
  refine x_iadd dL_law_393 ?_
  refine x_vali (nI_add i 2) ?_
  refine x_sld (j := i + 2) dL_law_394 rfl (by omega) hL3 ?_
  refine x_callV (k_mrun (G := G) hm2 hw (n := xs (i + 1)) (w := xs (i + 2))) dL_law_395 crc_X8_run vc_L_52 hm.1.1 rfl rfl rfl rfl (Nat.le_of_ble_eq_true rfl) ⟨Nat.le_of_ble_eq_true rfl, Nat.le_of_ble_eq_true rfl⟩ (Nat.le_of_ble_eq_true rfl) (Nat.le_of_ble_eq_true rfl) ?_
  rintro _ _ ⟨x8, rfl, hq8⟩
  obtain ⟨rfl, J2, rfl, hm3, fr3⟩ := qry_updM hm2 hq8
  have hc3 := hc2.cong (Sh' := Sh) (J := J2) (R' := R2) (fun _ _ _ => rfl) (fun a k h1 h2 => fr3 a k (by omega)) (fun _ _ _ _ => rfl)
  refine x_icmp_eq (tgt := 1088) dL_law_398 (by decide) (fun c_398 => ?_) (fun c_398 => False.elim (c_398 rfl))
  exact hk _ J2 R2 hc3 hm3 (hw)

set_option maxHeartbeats 4000000 in
set_option maxRecDepth 100000 in
theorem lc_plan {G : GG} {b0 Ls : Nat} {xs : Nat → Int32} {nm : String} {b i : Nat} {σ : SG} {Sh : HS} {I : HI} {R : HR} (hc : CI b Sh I R σ) (hm : MI (b + 69) Sh I R σ) (hw : WI σ) (hi6 : i + 6 ≤ Ls) (hL3 : Ls ≤ 3072) (hk : ∀ (σ' : SG) (J : HI) (R' : HR), CI b Sh J R' σ' → MI (b + 69) Sh J R' σ' → WI σ' → X G (KL G b0 Ls xs) (yL nm) code 4 ret 87 5884 1088 [(3, .int (nI i)), (2, .ref (b + 69)), (1, .ref b), (0, .ref b0)] [] (Sh, J, R')) : X G (KL G b0 Ls xs) (yL nm) code 4 ret 87 5884 403 [(3, .int (nI i)), (2, .ref (b + 69)), (1, .ref b), (0, .ref b0)] [] (Sh, I, R) := by
  refine x_aload_n dL_law_403 2 rfl rfl ?_
  refine x_aload_n dL_law_404 3 rfl rfl ?_
  refine x_iload_n dL_law_405 0 rfl rfl ?_
  refine x_iconst (v := nI 1) dL_law_406 (by decide) ?_
  refine x_iadd dL_law_407 ?_
  refine x_vali (nI_add i 1) ?_
  refine x_sld (j := i + 1) dL_law_408 rfl (by omega) hL3 ?_
  refine x_aload_n dL_law_409 3 rfl rfl ?_
  refine x_iload_n dL_law_410 0 rfl rfl ?_
  refine x_iconst (v := nI 2) dL_law_411 (by decide) ?_
  refine x_iadd dL_law_412 ?_
  refine x_vali (nI_add i 2) ?_
  refine x_sld (j := i + 2) dL_law_413 rfl (by omega) hL3 ?_
  refine x_callV (k_plan (G := G) hc (s := xs (i + 1)) (w := xs (i + 2))) dL_law_414 crc_X7_plan vc_L_53 hc.1.1 rfl rfl rfl rfl (Nat.le_of_ble_eq_true rfl) ⟨Nat.le_of_ble_eq_true rfl, Nat.le_of_ble_eq_true rfl⟩ (Nat.le_of_ble_eq_true rfl) (Nat.le_of_ble_eq_true rfl) ?_
  rintro _ _ ⟨x9, rfl, hq9⟩
  obtain ⟨rfl, J, R2, rfl, hc2, fr1, fr2⟩ := qry_upd hc hq9
  have hm2 : MI (b + 69) Sh J R2 σ := hm.cong (fun _ _ _ => rfl) (fun a k h1 h2 => fr1 a k (by omega)) (fun a k h1 h2 => fr2 a k (by omega))
  refine x_aload_n dL_law_417 1 rfl rfl ?_
  refine x_aload_n dL_law_418 3 rfl rfl ?_
  refine x_iload_n dL_law_419 0 rfl rfl ?_
  refine x_iconst (v := nI 1) dL_law_420 (by decide) ?_
  refine x_iadd dL_law_421 ?_
  refine x_vali (nI_add i 1) ?_
  refine x_sld (j := i + 1) dL_law_422 rfl (by omega) hL3 ?_
  refine x_aload_n dL_law_423 3 rfl rfl ?_
  refine x_iload_n dL_law_424 0 rfl rfl ?_
  refine x_iconst (v := nI 2) dL_law_425 (by decide) ?_
  refine x_iadd dL_law_426 ?_
  refine x_vali (nI_add i 2) ?_
  refine x_sld (j := i + 2) dL_law_427 rfl (by omega) hL3 ?_
  refine x_callV (k_mplan (G := G) hm2 hw (s := xs (i + 1)) (w := xs (i + 2))) dL_law_428 crc_X8_plan vc_L_56 hm.1.1 rfl rfl rfl rfl (Nat.le_of_ble_eq_true rfl) ⟨Nat.le_of_ble_eq_true rfl, Nat.le_of_ble_eq_true rfl⟩ (Nat.le_of_ble_eq_true rfl) (Nat.le_of_ble_eq_true rfl) ?_
  rintro _ _ ⟨x8, rfl, hq8⟩
  obtain ⟨rfl, J2, rfl, hm3, fr3⟩ := qry_updM hm2 hq8
  have hc3 := hc2.cong (Sh' := Sh) (J := J2) (R' := R2) (fun _ _ _ => rfl) (fun a k h1 h2 => fr3 a k (by omega)) (fun _ _ _ _ => rfl)
  refine x_icmp_eq (tgt := 1088) dL_law_431 (by decide) (fun c_431 => ?_) (fun c_431 => False.elim (c_431 rfl))
  exact hk _ J2 R2 hc3 hm3 (hw)

set_option maxHeartbeats 4000000 in
set_option maxRecDepth 100000 in
theorem lc_keeps {G : GG} {b0 Ls : Nat} {xs : Nat → Int32} {nm : String} {b i : Nat} {σ : SG} {Sh : HS} {I : HI} {R : HR} (hc : CI b Sh I R σ) (hm : MI (b + 69) Sh I R σ) (hw : WI σ) (hi6 : i + 6 ≤ Ls) (hL3 : Ls ≤ 3072) (hk : ∀ (σ' : SG) (J : HI) (R' : HR), CI b Sh J R' σ' → MI (b + 69) Sh J R' σ' → WI σ' → X G (KL G b0 Ls xs) (yL nm) code 4 ret 87 5884 1088 [(3, .int (nI i)), (2, .ref (b + 69)), (1, .ref b), (0, .ref b0)] [] (Sh, J, R')) : X G (KL G b0 Ls xs) (yL nm) code 4 ret 87 5884 436 [(3, .int (nI i)), (2, .ref (b + 69)), (1, .ref b), (0, .ref b0)] [] (Sh, I, R) := by
  refine x_aload_n dL_law_436 2 rfl rfl ?_
  refine x_aload_n dL_law_437 3 rfl rfl ?_
  refine x_iload_n dL_law_438 0 rfl rfl ?_
  refine x_iconst (v := nI 1) dL_law_439 (by decide) ?_
  refine x_iadd dL_law_440 ?_
  refine x_vali (nI_add i 1) ?_
  refine x_sld (j := i + 1) dL_law_441 rfl (by omega) hL3 ?_
  refine x_aload_n dL_law_442 3 rfl rfl ?_
  refine x_iload_n dL_law_443 0 rfl rfl ?_
  refine x_iconst (v := nI 2) dL_law_444 (by decide) ?_
  refine x_iadd dL_law_445 ?_
  refine x_vali (nI_add i 2) ?_
  refine x_sld (j := i + 2) dL_law_446 rfl (by omega) hL3 ?_
  refine x_callV (k_keeps (G := G) hc hw.1.1 (f := xs (i + 1)) (n := xs (i + 2))) dL_law_447 crc_X7_keeps vc_L_57 hc.1.1 rfl rfl rfl rfl (Nat.le_of_ble_eq_true rfl) ⟨Nat.le_of_ble_eq_true rfl, Nat.le_of_ble_eq_true rfl⟩ (Nat.le_of_ble_eq_true rfl) (Nat.le_of_ble_eq_true rfl) ?_
  rintro _ _ ⟨x9, rfl, hq9⟩
  obtain ⟨rfl, J, R2, rfl, hc2, fr1, fr2⟩ := qry_upd hc hq9
  have hm2 : MI (b + 69) Sh J R2 σ := hm.cong (fun _ _ _ => rfl) (fun a k h1 h2 => fr1 a k (by omega)) (fun a k h1 h2 => fr2 a k (by omega))
  refine x_aload_n dL_law_450 1 rfl rfl ?_
  refine x_aload_n dL_law_451 3 rfl rfl ?_
  refine x_iload_n dL_law_452 0 rfl rfl ?_
  refine x_iconst (v := nI 1) dL_law_453 (by decide) ?_
  refine x_iadd dL_law_454 ?_
  refine x_vali (nI_add i 1) ?_
  refine x_sld (j := i + 1) dL_law_455 rfl (by omega) hL3 ?_
  refine x_aload_n dL_law_456 3 rfl rfl ?_
  refine x_iload_n dL_law_457 0 rfl rfl ?_
  refine x_iconst (v := nI 2) dL_law_458 (by decide) ?_
  refine x_iadd dL_law_459 ?_
  refine x_vali (nI_add i 2) ?_
  refine x_sld (j := i + 2) dL_law_460 rfl (by omega) hL3 ?_
  refine x_callV (k_mkeeps (G := G) hm2 hw (f := xs (i + 1)) (n := xs (i + 2))) dL_law_461 crc_X8_keeps vc_L_60 hm.1.1 rfl rfl rfl rfl (Nat.le_of_ble_eq_true rfl) ⟨Nat.le_of_ble_eq_true rfl, Nat.le_of_ble_eq_true rfl⟩ (Nat.le_of_ble_eq_true rfl) (Nat.le_of_ble_eq_true rfl) ?_
  rintro _ _ ⟨x8, rfl, hq8⟩
  obtain ⟨rfl, J2, rfl, hm3, fr3⟩ := qry_updM hm2 hq8
  have hc3 := hc2.cong (Sh' := Sh) (J := J2) (R' := R2) (fun _ _ _ => rfl) (fun a k h1 h2 => fr3 a k (by omega)) (fun _ _ _ _ => rfl)
  refine x_icmp_eq (tgt := 1088) dL_law_464 (by decide) (fun c_464 => ?_) (fun c_464 => False.elim (c_464 rfl))
  exact hk _ J2 R2 hc3 hm3 (hw)

set_option maxHeartbeats 4000000 in
set_option maxRecDepth 100000 in
theorem lc_best {G : GG} {b0 Ls : Nat} {xs : Nat → Int32} {nm : String} {b i : Nat} {σ : SG} {Sh : HS} {I : HI} {R : HR} (hc : CI b Sh I R σ) (hm : MI (b + 69) Sh I R σ) (hw : WI σ) (hi6 : i + 6 ≤ Ls) (hL3 : Ls ≤ 3072) (hk : ∀ (σ' : SG) (J : HI) (R' : HR), CI b Sh J R' σ' → MI (b + 69) Sh J R' σ' → WI σ' → X G (KL G b0 Ls xs) (yL nm) code 4 ret 87 5884 1088 [(3, .int (nI i)), (2, .ref (b + 69)), (1, .ref b), (0, .ref b0)] [] (Sh, J, R')) : X G (KL G b0 Ls xs) (yL nm) code 4 ret 87 5884 469 [(3, .int (nI i)), (2, .ref (b + 69)), (1, .ref b), (0, .ref b0)] [] (Sh, I, R) := by
  refine x_aload_n dL_law_469 2 rfl rfl ?_
  refine x_aload_n dL_law_470 3 rfl rfl ?_
  refine x_iload_n dL_law_471 0 rfl rfl ?_
  refine x_iconst (v := nI 1) dL_law_472 (by decide) ?_
  refine x_iadd dL_law_473 ?_
  refine x_vali (nI_add i 1) ?_
  refine x_sld (j := i + 1) dL_law_474 rfl (by omega) hL3 ?_
  refine x_aload_n dL_law_475 3 rfl rfl ?_
  refine x_iload_n dL_law_476 0 rfl rfl ?_
  refine x_iconst (v := nI 2) dL_law_477 (by decide) ?_
  refine x_iadd dL_law_478 ?_
  refine x_vali (nI_add i 2) ?_
  refine x_sld (j := i + 2) dL_law_479 rfl (by omega) hL3 ?_
  refine x_aload_n dL_law_480 3 rfl rfl ?_
  refine x_iload_n dL_law_481 0 rfl rfl ?_
  refine x_iconst (v := nI 3) dL_law_482 (by decide) ?_
  refine x_iadd dL_law_483 ?_
  refine x_vali (nI_add i 3) ?_
  refine x_sld (j := i + 3) dL_law_484 rfl (by omega) hL3 ?_
  refine x_callV (k_best (G := G) hc (f := xs (i + 1)) (n := xs (i + 2)) (w := xs (i + 3))) dL_law_485 crc_X7_best vc_L_61 hc.1.1 rfl rfl rfl rfl (Nat.le_of_ble_eq_true rfl) ⟨Nat.le_of_ble_eq_true rfl, Nat.le_of_ble_eq_true rfl⟩ (Nat.le_of_ble_eq_true rfl) (Nat.le_of_ble_eq_true rfl) ?_
  rintro _ _ ⟨x9, rfl, hq9⟩
  obtain ⟨rfl, J, R2, rfl, hc2, fr1, fr2⟩ := qry_upd hc hq9
  have hm2 : MI (b + 69) Sh J R2 σ := hm.cong (fun _ _ _ => rfl) (fun a k h1 h2 => fr1 a k (by omega)) (fun a k h1 h2 => fr2 a k (by omega))
  refine x_aload_n dL_law_488 1 rfl rfl ?_
  refine x_aload_n dL_law_489 3 rfl rfl ?_
  refine x_iload_n dL_law_490 0 rfl rfl ?_
  refine x_iconst (v := nI 1) dL_law_491 (by decide) ?_
  refine x_iadd dL_law_492 ?_
  refine x_vali (nI_add i 1) ?_
  refine x_sld (j := i + 1) dL_law_493 rfl (by omega) hL3 ?_
  refine x_aload_n dL_law_494 3 rfl rfl ?_
  refine x_iload_n dL_law_495 0 rfl rfl ?_
  refine x_iconst (v := nI 2) dL_law_496 (by decide) ?_
  refine x_iadd dL_law_497 ?_
  refine x_vali (nI_add i 2) ?_
  refine x_sld (j := i + 2) dL_law_498 rfl (by omega) hL3 ?_
  refine x_aload_n dL_law_499 3 rfl rfl ?_
  refine x_iload_n dL_law_500 0 rfl rfl ?_
  refine x_iconst (v := nI 3) dL_law_501 (by decide) ?_
  refine x_iadd dL_law_502 ?_
  refine x_vali (nI_add i 3) ?_
  refine x_sld (j := i + 3) dL_law_503 rfl (by omega) hL3 ?_
  refine x_callV (k_mbest (G := G) hm2 hw (f := xs (i + 1)) (n := xs (i + 2)) (w := xs (i + 3))) dL_law_504 crc_X8_best vc_L_64 hm.1.1 rfl rfl rfl rfl (Nat.le_of_ble_eq_true rfl) ⟨Nat.le_of_ble_eq_true rfl, Nat.le_of_ble_eq_true rfl⟩ (Nat.le_of_ble_eq_true rfl) (Nat.le_of_ble_eq_true rfl) ?_
  rintro _ _ ⟨x8, rfl, hq8⟩
  obtain ⟨rfl, J2, rfl, hm3, fr3⟩ := qry_updM hm2 hq8
  have hc3 := hc2.cong (Sh' := Sh) (J := J2) (R' := R2) (fun _ _ _ => rfl) (fun a k h1 h2 => fr3 a k (by omega)) (fun _ _ _ _ => rfl)
  refine x_icmp_eq (tgt := 1088) dL_law_507 (by decide) (fun c_507 => ?_) (fun c_507 => False.elim (c_507 rfl))
  exact hk _ J2 R2 hc3 hm3 (hw)

set_option maxHeartbeats 4000000 in
set_option maxRecDepth 100000 in
theorem lc_matters {G : GG} {b0 Ls : Nat} {xs : Nat → Int32} {nm : String} {b i : Nat} {σ : SG} {Sh : HS} {I : HI} {R : HR} (hc : CI b Sh I R σ) (hm : MI (b + 69) Sh I R σ) (hw : WI σ) (hi6 : i + 6 ≤ Ls) (hL3 : Ls ≤ 3072) (hk : ∀ (σ' : SG) (J : HI) (R' : HR), CI b Sh J R' σ' → MI (b + 69) Sh J R' σ' → WI σ' → X G (KL G b0 Ls xs) (yL nm) code 4 ret 87 5884 1088 [(3, .int (nI i)), (2, .ref (b + 69)), (1, .ref b), (0, .ref b0)] [] (Sh, J, R')) : X G (KL G b0 Ls xs) (yL nm) code 4 ret 87 5884 512 [(3, .int (nI i)), (2, .ref (b + 69)), (1, .ref b), (0, .ref b0)] [] (Sh, I, R) := by
  refine x_aload_n dL_law_512 2 rfl rfl ?_
  refine x_aload_n dL_law_513 3 rfl rfl ?_
  refine x_iload_n dL_law_514 0 rfl rfl ?_
  refine x_iconst (v := nI 1) dL_law_515 (by decide) ?_
  refine x_iadd dL_law_516 ?_
  refine x_vali (nI_add i 1) ?_
  refine x_sld (j := i + 1) dL_law_517 rfl (by omega) hL3 ?_
  refine x_aload_n dL_law_518 3 rfl rfl ?_
  refine x_iload_n dL_law_519 0 rfl rfl ?_
  refine x_iconst (v := nI 2) dL_law_520 (by decide) ?_
  refine x_iadd dL_law_521 ?_
  refine x_vali (nI_add i 2) ?_
  refine x_sld (j := i + 2) dL_law_522 rfl (by omega) hL3 ?_
  refine x_aload_n dL_law_523 3 rfl rfl ?_
  refine x_iload_n dL_law_524 0 rfl rfl ?_
  refine x_iconst (v := nI 3) dL_law_525 (by decide) ?_
  refine x_iadd dL_law_526 ?_
  refine x_vali (nI_add i 3) ?_
  refine x_sld (j := i + 3) dL_law_527 rfl (by omega) hL3 ?_
  refine x_callV (k_matters (G := G) hc (f := xs (i + 1)) (n := xs (i + 2)) (w := xs (i + 3))) dL_law_528 crc_X7_matters vc_L_65 hc.1.1 rfl rfl rfl rfl (Nat.le_of_ble_eq_true rfl) ⟨Nat.le_of_ble_eq_true rfl, Nat.le_of_ble_eq_true rfl⟩ (Nat.le_of_ble_eq_true rfl) (Nat.le_of_ble_eq_true rfl) ?_
  rintro _ _ ⟨x9, rfl, hq9⟩
  obtain ⟨rfl, J, R2, rfl, hc2, fr1, fr2⟩ := qry_upd hc hq9
  have hm2 : MI (b + 69) Sh J R2 σ := hm.cong (fun _ _ _ => rfl) (fun a k h1 h2 => fr1 a k (by omega)) (fun a k h1 h2 => fr2 a k (by omega))
  refine x_aload_n dL_law_531 1 rfl rfl ?_
  refine x_aload_n dL_law_532 3 rfl rfl ?_
  refine x_iload_n dL_law_533 0 rfl rfl ?_
  refine x_iconst (v := nI 1) dL_law_534 (by decide) ?_
  refine x_iadd dL_law_535 ?_
  refine x_vali (nI_add i 1) ?_
  refine x_sld (j := i + 1) dL_law_536 rfl (by omega) hL3 ?_
  refine x_aload_n dL_law_537 3 rfl rfl ?_
  refine x_iload_n dL_law_538 0 rfl rfl ?_
  refine x_iconst (v := nI 2) dL_law_539 (by decide) ?_
  refine x_iadd dL_law_540 ?_
  refine x_vali (nI_add i 2) ?_
  refine x_sld (j := i + 2) dL_law_541 rfl (by omega) hL3 ?_
  refine x_aload_n dL_law_542 3 rfl rfl ?_
  refine x_iload_n dL_law_543 0 rfl rfl ?_
  refine x_iconst (v := nI 3) dL_law_544 (by decide) ?_
  refine x_iadd dL_law_545 ?_
  refine x_vali (nI_add i 3) ?_
  refine x_sld (j := i + 3) dL_law_546 rfl (by omega) hL3 ?_
  refine x_callV (k_mmatters (G := G) hm2 hw (f := xs (i + 1)) (n := xs (i + 2)) (w := xs (i + 3))) dL_law_547 crc_X8_matters vc_L_68 hm.1.1 rfl rfl rfl rfl (Nat.le_of_ble_eq_true rfl) ⟨Nat.le_of_ble_eq_true rfl, Nat.le_of_ble_eq_true rfl⟩ (Nat.le_of_ble_eq_true rfl) (Nat.le_of_ble_eq_true rfl) ?_
  rintro _ _ ⟨x8, rfl, hq8⟩
  obtain ⟨rfl, J2, rfl, hm3, fr3⟩ := qry_updM hm2 hq8
  have hc3 := hc2.cong (Sh' := Sh) (J := J2) (R' := R2) (fun _ _ _ => rfl) (fun a k h1 h2 => fr3 a k (by omega)) (fun _ _ _ _ => rfl)
  refine x_icmp_eq (tgt := 1088) dL_law_550 (by decide) (fun c_550 => ?_) (fun c_550 => False.elim (c_550 rfl))
  exact hk _ J2 R2 hc3 hm3 (hw)

set_option maxHeartbeats 4000000 in
set_option maxRecDepth 100000 in
theorem lc_wish {G : GG} {b0 Ls : Nat} {xs : Nat → Int32} {nm : String} {b i : Nat} {σ : SG} {Sh : HS} {I : HI} {R : HR} (hc : CI b Sh I R σ) (hm : MI (b + 69) Sh I R σ) (hw : WI σ) (hi6 : i + 6 ≤ Ls) (hL3 : Ls ≤ 3072) (hk : ∀ (σ' : SG) (J : HI) (R' : HR), CI b Sh J R' σ' → MI (b + 69) Sh J R' σ' → WI σ' → X G (KL G b0 Ls xs) (yL nm) code 4 ret 87 5884 1088 [(3, .int (nI i)), (2, .ref (b + 69)), (1, .ref b), (0, .ref b0)] [] (Sh, J, R')) : X G (KL G b0 Ls xs) (yL nm) code 4 ret 87 5884 555 [(3, .int (nI i)), (2, .ref (b + 69)), (1, .ref b), (0, .ref b0)] [] (Sh, I, R) := by
  refine x_aload_n dL_law_555 2 rfl rfl ?_
  refine x_aload_n dL_law_556 3 rfl rfl ?_
  refine x_iload_n dL_law_557 0 rfl rfl ?_
  refine x_iconst (v := nI 1) dL_law_558 (by decide) ?_
  refine x_iadd dL_law_559 ?_
  refine x_vali (nI_add i 1) ?_
  refine x_sld (j := i + 1) dL_law_560 rfl (by omega) hL3 ?_
  refine x_aload_n dL_law_561 3 rfl rfl ?_
  refine x_iload_n dL_law_562 0 rfl rfl ?_
  refine x_iconst (v := nI 2) dL_law_563 (by decide) ?_
  refine x_iadd dL_law_564 ?_
  refine x_vali (nI_add i 2) ?_
  refine x_sld (j := i + 2) dL_law_565 rfl (by omega) hL3 ?_
  refine x_aload_n dL_law_566 3 rfl rfl ?_
  refine x_iload_n dL_law_567 0 rfl rfl ?_
  refine x_iconst (v := nI 3) dL_law_568 (by decide) ?_
  refine x_iadd dL_law_569 ?_
  refine x_vali (nI_add i 3) ?_
  refine x_sld (j := i + 3) dL_law_570 rfl (by omega) hL3 ?_
  refine x_callV (k_wish (G := G) hc (r := xs (i + 1)) (n := xs (i + 2)) (w := xs (i + 3))) dL_law_571 crc_X7_wish vc_L_69 hc.1.1 rfl rfl rfl rfl (Nat.le_of_ble_eq_true rfl) ⟨Nat.le_of_ble_eq_true rfl, Nat.le_of_ble_eq_true rfl⟩ (Nat.le_of_ble_eq_true rfl) (Nat.le_of_ble_eq_true rfl) ?_
  rintro _ _ ⟨x9, rfl, hq9⟩
  obtain ⟨rfl, J, R2, rfl, hc2, fr1, fr2⟩ := qry_upd hc hq9
  have hm2 : MI (b + 69) Sh J R2 σ := hm.cong (fun _ _ _ => rfl) (fun a k h1 h2 => fr1 a k (by omega)) (fun a k h1 h2 => fr2 a k (by omega))
  refine x_aload_n dL_law_574 1 rfl rfl ?_
  refine x_aload_n dL_law_575 3 rfl rfl ?_
  refine x_iload_n dL_law_576 0 rfl rfl ?_
  refine x_iconst (v := nI 1) dL_law_577 (by decide) ?_
  refine x_iadd dL_law_578 ?_
  refine x_vali (nI_add i 1) ?_
  refine x_sld (j := i + 1) dL_law_579 rfl (by omega) hL3 ?_
  refine x_aload_n dL_law_580 3 rfl rfl ?_
  refine x_iload_n dL_law_581 0 rfl rfl ?_
  refine x_iconst (v := nI 2) dL_law_582 (by decide) ?_
  refine x_iadd dL_law_583 ?_
  refine x_vali (nI_add i 2) ?_
  refine x_sld (j := i + 2) dL_law_584 rfl (by omega) hL3 ?_
  refine x_aload_n dL_law_585 3 rfl rfl ?_
  refine x_iload_n dL_law_586 0 rfl rfl ?_
  refine x_iconst (v := nI 3) dL_law_587 (by decide) ?_
  refine x_iadd dL_law_588 ?_
  refine x_vali (nI_add i 3) ?_
  refine x_sld (j := i + 3) dL_law_589 rfl (by omega) hL3 ?_
  refine x_callV (k_mwish (G := G) hm2 hw (r := xs (i + 1)) (n := xs (i + 2)) (w := xs (i + 3))) dL_law_590 crc_X8_wish vc_L_72 hm.1.1 rfl rfl rfl rfl (Nat.le_of_ble_eq_true rfl) ⟨Nat.le_of_ble_eq_true rfl, Nat.le_of_ble_eq_true rfl⟩ (Nat.le_of_ble_eq_true rfl) (Nat.le_of_ble_eq_true rfl) ?_
  rintro _ _ ⟨x8, rfl, hq8⟩
  obtain ⟨rfl, J2, rfl, hm3, fr3⟩ := qry_updM hm2 hq8
  have hc3 := hc2.cong (Sh' := Sh) (J := J2) (R' := R2) (fun _ _ _ => rfl) (fun a k h1 h2 => fr3 a k (by omega)) (fun _ _ _ _ => rfl)
  refine x_icmp_eq (tgt := 1088) dL_law_593 (by decide) (fun c_593 => ?_) (fun c_593 => False.elim (c_593 rfl))
  exact hk _ J2 R2 hc3 hm3 (hw)

set_option maxHeartbeats 4000000 in
set_option maxRecDepth 100000 in
theorem lc_game {G : GG} {b0 Ls : Nat} {xs : Nat → Int32} {nm : String} {b i : Nat} {σ : SG} {Sh : HS} {I : HI} {R : HR} (hc : CI b Sh I R σ) (hm : MI (b + 69) Sh I R σ) (hw : WI σ) (hi6 : i + 6 ≤ Ls) (hL3 : Ls ≤ 3072) (hk : ∀ (σ' : SG) (J : HI) (R' : HR), CI b Sh J R' σ' → MI (b + 69) Sh J R' σ' → WI σ' → X G (KL G b0 Ls xs) (yL nm) code 4 ret 87 5884 1088 [(3, .int (nI i)), (2, .ref (b + 69)), (1, .ref b), (0, .ref b0)] [] (Sh, J, R')) : X G (KL G b0 Ls xs) (yL nm) code 4 ret 87 5884 598 [(3, .int (nI i)), (2, .ref (b + 69)), (1, .ref b), (0, .ref b0)] [] (Sh, I, R) := by
  refine x_aload_n dL_law_598 2 rfl rfl ?_
  refine x_aload_n dL_law_599 3 rfl rfl ?_
  refine x_iload_n dL_law_600 0 rfl rfl ?_
  refine x_iconst (v := nI 1) dL_law_601 (by decide) ?_
  refine x_iadd dL_law_602 ?_
  refine x_vali (nI_add i 1) ?_
  refine x_sld (j := i + 1) dL_law_603 rfl (by omega) hL3 ?_
  refine x_aload_n dL_law_604 3 rfl rfl ?_
  refine x_iload_n dL_law_605 0 rfl rfl ?_
  refine x_iconst (v := nI 2) dL_law_606 (by decide) ?_
  refine x_iadd dL_law_607 ?_
  refine x_vali (nI_add i 2) ?_
  refine x_sld (j := i + 2) dL_law_608 rfl (by omega) hL3 ?_
  refine x_callV (k_game (G := G) hc (n := xs (i + 1)) (w := xs (i + 2))) dL_law_609 crc_X7_game vc_L_73 hc.1.1 rfl rfl rfl rfl (Nat.le_of_ble_eq_true rfl) ⟨Nat.le_of_ble_eq_true rfl, Nat.le_of_ble_eq_true rfl⟩ (Nat.le_of_ble_eq_true rfl) (Nat.le_of_ble_eq_true rfl) ?_
  rintro _ _ ⟨x9, rfl, hq9⟩
  obtain ⟨rfl, J, R2, rfl, hc2, fr1, fr2⟩ := qry_upd hc hq9
  have hm2 : MI (b + 69) Sh J R2 σ := hm.cong (fun _ _ _ => rfl) (fun a k h1 h2 => fr1 a k (by omega)) (fun a k h1 h2 => fr2 a k (by omega))
  refine x_aload_n dL_law_612 1 rfl rfl ?_
  refine x_aload_n dL_law_613 3 rfl rfl ?_
  refine x_iload_n dL_law_614 0 rfl rfl ?_
  refine x_iconst (v := nI 1) dL_law_615 (by decide) ?_
  refine x_iadd dL_law_616 ?_
  refine x_vali (nI_add i 1) ?_
  refine x_sld (j := i + 1) dL_law_617 rfl (by omega) hL3 ?_
  refine x_aload_n dL_law_618 3 rfl rfl ?_
  refine x_iload_n dL_law_619 0 rfl rfl ?_
  refine x_iconst (v := nI 2) dL_law_620 (by decide) ?_
  refine x_iadd dL_law_621 ?_
  refine x_vali (nI_add i 2) ?_
  refine x_sld (j := i + 2) dL_law_622 rfl (by omega) hL3 ?_
  refine x_callV (k_mgame (G := G) hm2 hw (n := xs (i + 1)) (w := xs (i + 2))) dL_law_623 crc_X8_game vc_L_76 hm.1.1 rfl rfl rfl rfl (Nat.le_of_ble_eq_true rfl) ⟨Nat.le_of_ble_eq_true rfl, Nat.le_of_ble_eq_true rfl⟩ (Nat.le_of_ble_eq_true rfl) (Nat.le_of_ble_eq_true rfl) ?_
  rintro _ _ ⟨x8, rfl, hq8⟩
  obtain ⟨rfl, J2, rfl, hm3, fr3⟩ := qry_updM hm2 hq8
  have hc3 := hc2.cong (Sh' := Sh) (J := J2) (R' := R2) (fun _ _ _ => rfl) (fun a k h1 h2 => fr3 a k (by omega)) (fun _ _ _ _ => rfl)
  refine x_icmp_eq (tgt := 1088) dL_law_626 (by decide) (fun c_626 => ?_) (fun c_626 => False.elim (c_626 rfl))
  exact hk _ J2 R2 hc3 hm3 (hw)

set_option maxHeartbeats 4000000 in
set_option maxRecDepth 100000 in
theorem lc_tells {G : GG} {b0 Ls : Nat} {xs : Nat → Int32} {nm : String} {b i : Nat} {σ : SG} {Sh : HS} {I : HI} {R : HR} (hc : CI b Sh I R σ) (hm : MI (b + 69) Sh I R σ) (hw : WI σ) (hi6 : i + 6 ≤ Ls) (hL3 : Ls ≤ 3072) (hk : ∀ (σ' : SG) (J : HI) (R' : HR), CI b Sh J R' σ' → MI (b + 69) Sh J R' σ' → WI σ' → X G (KL G b0 Ls xs) (yL nm) code 4 ret 87 5884 1088 [(3, .int (nI i)), (2, .ref (b + 69)), (1, .ref b), (0, .ref b0)] [] (Sh, J, R')) : X G (KL G b0 Ls xs) (yL nm) code 4 ret 87 5884 631 [(3, .int (nI i)), (2, .ref (b + 69)), (1, .ref b), (0, .ref b0)] [] (Sh, I, R) := by
  refine x_aload_n dL_law_631 2 rfl rfl ?_
  refine x_aload_n dL_law_632 3 rfl rfl ?_
  refine x_iload_n dL_law_633 0 rfl rfl ?_
  refine x_iconst (v := nI 1) dL_law_634 (by decide) ?_
  refine x_iadd dL_law_635 ?_
  refine x_vali (nI_add i 1) ?_
  refine x_sld (j := i + 1) dL_law_636 rfl (by omega) hL3 ?_
  refine x_aload_n dL_law_637 3 rfl rfl ?_
  refine x_iload_n dL_law_638 0 rfl rfl ?_
  refine x_iconst (v := nI 2) dL_law_639 (by decide) ?_
  refine x_iadd dL_law_640 ?_
  refine x_vali (nI_add i 2) ?_
  refine x_sld (j := i + 2) dL_law_641 rfl (by omega) hL3 ?_
  refine x_aload_n dL_law_642 3 rfl rfl ?_
  refine x_iload_n dL_law_643 0 rfl rfl ?_
  refine x_iconst (v := nI 3) dL_law_644 (by decide) ?_
  refine x_iadd dL_law_645 ?_
  refine x_vali (nI_add i 3) ?_
  refine x_sld (j := i + 3) dL_law_646 rfl (by omega) hL3 ?_
  refine x_callV (k_tells (G := G) hc (s := xs (i + 1)) (f := xs (i + 2)) (w := xs (i + 3))) dL_law_647 crc_X7_tells vc_L_77 hc.1.1 rfl rfl rfl rfl (Nat.le_of_ble_eq_true rfl) ⟨Nat.le_of_ble_eq_true rfl, Nat.le_of_ble_eq_true rfl⟩ (Nat.le_of_ble_eq_true rfl) (Nat.le_of_ble_eq_true rfl) ?_
  rintro _ _ ⟨x9, rfl, hq9⟩
  obtain ⟨rfl, J, R2, rfl, hc2, fr1, fr2⟩ := qry_upd hc hq9
  have hm2 : MI (b + 69) Sh J R2 σ := hm.cong (fun _ _ _ => rfl) (fun a k h1 h2 => fr1 a k (by omega)) (fun a k h1 h2 => fr2 a k (by omega))
  refine x_aload_n dL_law_650 1 rfl rfl ?_
  refine x_aload_n dL_law_651 3 rfl rfl ?_
  refine x_iload_n dL_law_652 0 rfl rfl ?_
  refine x_iconst (v := nI 1) dL_law_653 (by decide) ?_
  refine x_iadd dL_law_654 ?_
  refine x_vali (nI_add i 1) ?_
  refine x_sld (j := i + 1) dL_law_655 rfl (by omega) hL3 ?_
  refine x_aload_n dL_law_656 3 rfl rfl ?_
  refine x_iload_n dL_law_657 0 rfl rfl ?_
  refine x_iconst (v := nI 2) dL_law_658 (by decide) ?_
  refine x_iadd dL_law_659 ?_
  refine x_vali (nI_add i 2) ?_
  refine x_sld (j := i + 2) dL_law_660 rfl (by omega) hL3 ?_
  refine x_aload_n dL_law_661 3 rfl rfl ?_
  refine x_iload_n dL_law_662 0 rfl rfl ?_
  refine x_iconst (v := nI 3) dL_law_663 (by decide) ?_
  refine x_iadd dL_law_664 ?_
  refine x_vali (nI_add i 3) ?_
  refine x_sld (j := i + 3) dL_law_665 rfl (by omega) hL3 ?_
  refine x_callV (k_mtells (G := G) hm2 hw (s := xs (i + 1)) (f := xs (i + 2)) (w := xs (i + 3))) dL_law_666 crc_X8_tells vc_L_80 hm.1.1 rfl rfl rfl rfl (Nat.le_of_ble_eq_true rfl) ⟨Nat.le_of_ble_eq_true rfl, Nat.le_of_ble_eq_true rfl⟩ (Nat.le_of_ble_eq_true rfl) (Nat.le_of_ble_eq_true rfl) ?_
  rintro _ _ ⟨x8, rfl, hq8⟩
  obtain ⟨rfl, J2, rfl, hm3, fr3⟩ := qry_updM hm2 hq8
  have hc3 := hc2.cong (Sh' := Sh) (J := J2) (R' := R2) (fun _ _ _ => rfl) (fun a k h1 h2 => fr3 a k (by omega)) (fun _ _ _ _ => rfl)
  refine x_icmp_eq (tgt := 1088) dL_law_669 (by decide) (fun c_669 => ?_) (fun c_669 => False.elim (c_669 rfl))
  exact hk _ J2 R2 hc3 hm3 (hw)

set_option maxHeartbeats 4000000 in
set_option maxRecDepth 100000 in
theorem lc_film {G : GG} {b0 Ls : Nat} {xs : Nat → Int32} {nm : String} {b i : Nat} {σ : SG} {Sh : HS} {I : HI} {R : HR} (hc : CI b Sh I R σ) (hm : MI (b + 69) Sh I R σ) (hw : WI σ) (hi6 : i + 6 ≤ Ls) (hL3 : Ls ≤ 3072) (hk : ∀ (σ' : SG) (J : HI) (R' : HR), CI b Sh J R' σ' → MI (b + 69) Sh J R' σ' → WI σ' → X G (KL G b0 Ls xs) (yL nm) code 4 ret 87 5884 1088 [(3, .int (nI i)), (2, .ref (b + 69)), (1, .ref b), (0, .ref b0)] [] (Sh, J, R')) : X G (KL G b0 Ls xs) (yL nm) code 4 ret 87 5884 674 [(3, .int (nI i)), (2, .ref (b + 69)), (1, .ref b), (0, .ref b0)] [] (Sh, I, R) := by
  refine x_aload_n dL_law_674 2 rfl rfl ?_
  refine x_aload_n dL_law_675 3 rfl rfl ?_
  refine x_iload_n dL_law_676 0 rfl rfl ?_
  refine x_iconst (v := nI 1) dL_law_677 (by decide) ?_
  refine x_iadd dL_law_678 ?_
  refine x_vali (nI_add i 1) ?_
  refine x_sld (j := i + 1) dL_law_679 rfl (by omega) hL3 ?_
  refine x_aload_n dL_law_680 3 rfl rfl ?_
  refine x_iload_n dL_law_681 0 rfl rfl ?_
  refine x_iconst (v := nI 2) dL_law_682 (by decide) ?_
  refine x_iadd dL_law_683 ?_
  refine x_vali (nI_add i 2) ?_
  refine x_sld (j := i + 2) dL_law_684 rfl (by omega) hL3 ?_
  refine x_aload_n dL_law_685 3 rfl rfl ?_
  refine x_iload_n dL_law_686 0 rfl rfl ?_
  refine x_iconst (v := nI 3) dL_law_687 (by decide) ?_
  refine x_iadd dL_law_688 ?_
  refine x_vali (nI_add i 3) ?_
  refine x_sld (j := i + 3) dL_law_689 rfl (by omega) hL3 ?_
  refine x_callV (k_film (G := G) hc (s := xs (i + 1)) (f := xs (i + 2)) (n := xs (i + 3))) dL_law_690 crc_X7_film vc_L_81 hc.1.1 rfl rfl rfl rfl (Nat.le_of_ble_eq_true rfl) ⟨Nat.le_of_ble_eq_true rfl, Nat.le_of_ble_eq_true rfl⟩ (Nat.le_of_ble_eq_true rfl) (Nat.le_of_ble_eq_true rfl) ?_
  rintro _ _ ⟨x9, rfl, hq9⟩
  obtain ⟨rfl, J, R2, rfl, hc2, fr1, fr2⟩ := hq9
  have hm2 : MI (b + 69) Sh J R2 σ := hm.cong (fun _ _ _ => rfl) (fun a k h1 h2 => fr1 a k (by omega)) (fun a k h1 h2 => fr2 a k (by omega))
  refine x_aload_n dL_law_693 1 rfl rfl ?_
  refine x_aload_n dL_law_694 3 rfl rfl ?_
  refine x_iload_n dL_law_695 0 rfl rfl ?_
  refine x_iconst (v := nI 1) dL_law_696 (by decide) ?_
  refine x_iadd dL_law_697 ?_
  refine x_vali (nI_add i 1) ?_
  refine x_sld (j := i + 1) dL_law_698 rfl (by omega) hL3 ?_
  refine x_aload_n dL_law_699 3 rfl rfl ?_
  refine x_iload_n dL_law_700 0 rfl rfl ?_
  refine x_iconst (v := nI 2) dL_law_701 (by decide) ?_
  refine x_iadd dL_law_702 ?_
  refine x_vali (nI_add i 2) ?_
  refine x_sld (j := i + 2) dL_law_703 rfl (by omega) hL3 ?_
  refine x_aload_n dL_law_704 3 rfl rfl ?_
  refine x_iload_n dL_law_705 0 rfl rfl ?_
  refine x_iconst (v := nI 3) dL_law_706 (by decide) ?_
  refine x_iadd dL_law_707 ?_
  refine x_vali (nI_add i 3) ?_
  refine x_sld (j := i + 3) dL_law_708 rfl (by omega) hL3 ?_
  refine x_callV (k_mfilm (G := G) hm2 hw (s := xs (i + 1)) (f := xs (i + 2)) (n := xs (i + 3))) dL_law_709 crc_X8_film vc_L_84 hm.1.1 rfl rfl rfl rfl (Nat.le_of_ble_eq_true rfl) ⟨Nat.le_of_ble_eq_true rfl, Nat.le_of_ble_eq_true rfl⟩ (Nat.le_of_ble_eq_true rfl) (Nat.le_of_ble_eq_true rfl) ?_
  rintro _ _ ⟨x8, rfl, hq8⟩
  obtain ⟨rfl, J2, rfl, hm3, fr3⟩ := hq8
  have hc3 := hc2.cong (Sh' := Sh) (J := J2) (R' := R2) (fun _ _ _ => rfl) (fun a k h1 h2 => fr3 a k (by omega)) (fun _ _ _ _ => rfl)
  refine x_icmp_eq (tgt := 1088) dL_law_712 (by decide) (fun c_712 => ?_) (fun c_712 => False.elim (c_712 rfl))
  exact hk _ J2 R2 hc3 hm3 (WI.film hw)

set_option maxHeartbeats 4000000 in
set_option maxRecDepth 100000 in
theorem lc_drawn {G : GG} {b0 Ls : Nat} {xs : Nat → Int32} {nm : String} {b i : Nat} {σ : SG} {Sh : HS} {I : HI} {R : HR} (hc : CI b Sh I R σ) (hm : MI (b + 69) Sh I R σ) (hw : WI σ) (hi6 : i + 6 ≤ Ls) (hL3 : Ls ≤ 3072) (hk : ∀ (σ' : SG) (J : HI) (R' : HR), CI b Sh J R' σ' → MI (b + 69) Sh J R' σ' → WI σ' → X G (KL G b0 Ls xs) (yL nm) code 4 ret 87 5884 1088 [(3, .int (nI i)), (2, .ref (b + 69)), (1, .ref b), (0, .ref b0)] [] (Sh, J, R')) : X G (KL G b0 Ls xs) (yL nm) code 4 ret 87 5884 717 [(3, .int (nI i)), (2, .ref (b + 69)), (1, .ref b), (0, .ref b0)] [] (Sh, I, R) := by
  refine x_aload_n dL_law_717 2 rfl rfl ?_
  refine x_aload_n dL_law_718 3 rfl rfl ?_
  refine x_iload_n dL_law_719 0 rfl rfl ?_
  refine x_iconst (v := nI 1) dL_law_720 (by decide) ?_
  refine x_iadd dL_law_721 ?_
  refine x_vali (nI_add i 1) ?_
  refine x_sld (j := i + 1) dL_law_722 rfl (by omega) hL3 ?_
  refine x_aload_n dL_law_723 3 rfl rfl ?_
  refine x_iload_n dL_law_724 0 rfl rfl ?_
  refine x_iconst (v := nI 2) dL_law_725 (by decide) ?_
  refine x_iadd dL_law_726 ?_
  refine x_vali (nI_add i 2) ?_
  refine x_sld (j := i + 2) dL_law_727 rfl (by omega) hL3 ?_
  refine x_callV (k_drawn (G := G) hc (s := xs (i + 1)) (n := xs (i + 2))) dL_law_728 crc_X7_drawn vc_L_85 hc.1.1 rfl rfl rfl rfl (Nat.le_of_ble_eq_true rfl) ⟨Nat.le_of_ble_eq_true rfl, Nat.le_of_ble_eq_true rfl⟩ (Nat.le_of_ble_eq_true rfl) (Nat.le_of_ble_eq_true rfl) ?_
  rintro _ _ ⟨x9, rfl, hq9⟩
  obtain ⟨rfl, J, R2, rfl, hc2, fr1, fr2⟩ := qry_upd hc hq9
  have hm2 : MI (b + 69) Sh J R2 σ := hm.cong (fun _ _ _ => rfl) (fun a k h1 h2 => fr1 a k (by omega)) (fun a k h1 h2 => fr2 a k (by omega))
  refine x_aload_n dL_law_731 1 rfl rfl ?_
  refine x_aload_n dL_law_732 3 rfl rfl ?_
  refine x_iload_n dL_law_733 0 rfl rfl ?_
  refine x_iconst (v := nI 1) dL_law_734 (by decide) ?_
  refine x_iadd dL_law_735 ?_
  refine x_vali (nI_add i 1) ?_
  refine x_sld (j := i + 1) dL_law_736 rfl (by omega) hL3 ?_
  refine x_aload_n dL_law_737 3 rfl rfl ?_
  refine x_iload_n dL_law_738 0 rfl rfl ?_
  refine x_iconst (v := nI 2) dL_law_739 (by decide) ?_
  refine x_iadd dL_law_740 ?_
  refine x_vali (nI_add i 2) ?_
  refine x_sld (j := i + 2) dL_law_741 rfl (by omega) hL3 ?_
  refine x_callV (k_mdrawn (G := G) hm2 hw (s := xs (i + 1)) (n := xs (i + 2))) dL_law_742 crc_X8_drawn vc_L_88 hm.1.1 rfl rfl rfl rfl (Nat.le_of_ble_eq_true rfl) ⟨Nat.le_of_ble_eq_true rfl, Nat.le_of_ble_eq_true rfl⟩ (Nat.le_of_ble_eq_true rfl) (Nat.le_of_ble_eq_true rfl) ?_
  rintro _ _ ⟨x8, rfl, hq8⟩
  obtain ⟨rfl, J2, rfl, hm3, fr3⟩ := qry_updM hm2 hq8
  have hc3 := hc2.cong (Sh' := Sh) (J := J2) (R' := R2) (fun _ _ _ => rfl) (fun a k h1 h2 => fr3 a k (by omega)) (fun _ _ _ _ => rfl)
  refine x_icmp_eq (tgt := 1088) dL_law_745 (by decide) (fun c_745 => ?_) (fun c_745 => False.elim (c_745 rfl))
  exact hk _ J2 R2 hc3 hm3 (hw)

set_option maxHeartbeats 4000000 in
set_option maxRecDepth 100000 in
theorem lc_chance {G : GG} {b0 Ls : Nat} {xs : Nat → Int32} {nm : String} {b i : Nat} {σ : SG} {Sh : HS} {I : HI} {R : HR} (hc : CI b Sh I R σ) (hm : MI (b + 69) Sh I R σ) (hw : WI σ) (hi6 : i + 6 ≤ Ls) (hL3 : Ls ≤ 3072) (hk : ∀ (σ' : SG) (J : HI) (R' : HR), CI b Sh J R' σ' → MI (b + 69) Sh J R' σ' → WI σ' → X G (KL G b0 Ls xs) (yL nm) code 4 ret 87 5884 1088 [(3, .int (nI i)), (2, .ref (b + 69)), (1, .ref b), (0, .ref b0)] [] (Sh, J, R')) : X G (KL G b0 Ls xs) (yL nm) code 4 ret 87 5884 750 [(3, .int (nI i)), (2, .ref (b + 69)), (1, .ref b), (0, .ref b0)] [] (Sh, I, R) := by
  refine x_aload_n dL_law_750 2 rfl rfl ?_
  refine x_aload_n dL_law_751 3 rfl rfl ?_
  refine x_iload_n dL_law_752 0 rfl rfl ?_
  refine x_iconst (v := nI 1) dL_law_753 (by decide) ?_
  refine x_iadd dL_law_754 ?_
  refine x_vali (nI_add i 1) ?_
  refine x_sld (j := i + 1) dL_law_755 rfl (by omega) hL3 ?_
  refine x_aload_n dL_law_756 3 rfl rfl ?_
  refine x_iload_n dL_law_757 0 rfl rfl ?_
  refine x_iconst (v := nI 2) dL_law_758 (by decide) ?_
  refine x_iadd dL_law_759 ?_
  refine x_vali (nI_add i 2) ?_
  refine x_sld (j := i + 2) dL_law_760 rfl (by omega) hL3 ?_
  refine x_aload_n dL_law_761 3 rfl rfl ?_
  refine x_iload_n dL_law_762 0 rfl rfl ?_
  refine x_iconst (v := nI 3) dL_law_763 (by decide) ?_
  refine x_iadd dL_law_764 ?_
  refine x_vali (nI_add i 3) ?_
  refine x_sld (j := i + 3) dL_law_765 rfl (by omega) hL3 ?_
  refine x_aload_n dL_law_766 3 rfl rfl ?_
  refine x_iload_n dL_law_767 0 rfl rfl ?_
  refine x_iconst (v := nI 4) dL_law_768 (by decide) ?_
  refine x_iadd dL_law_769 ?_
  refine x_vali (nI_add i 4) ?_
  refine x_sld (j := i + 4) dL_law_770 rfl (by omega) hL3 ?_
  refine x_callV (k_chance (G := G) hc (s := xs (i + 1)) (n := xs (i + 2)) (waves := xs (i + 3)) (part := xs (i + 4))) dL_law_771 crc_X7_chance vc_L_89 hc.1.1 rfl rfl rfl rfl (Nat.le_of_ble_eq_true rfl) ⟨Nat.le_of_ble_eq_true rfl, Nat.le_of_ble_eq_true rfl⟩ (Nat.le_of_ble_eq_true rfl) (Nat.le_of_ble_eq_true rfl) ?_
  rintro _ _ ⟨x9, rfl, hq9⟩
  obtain ⟨rfl, J, R2, rfl, hc2, fr1, fr2⟩ := qL_upd hc hq9
  have hm2 : MI (b + 69) Sh J R2 σ := hm.cong (fun _ _ _ => rfl) (fun a k h1 h2 => fr1 a k (by omega)) (fun a k h1 h2 => fr2 a k (by omega))
  refine x_aload_n dL_law_774 1 rfl rfl ?_
  refine x_aload_n dL_law_775 3 rfl rfl ?_
  refine x_iload_n dL_law_776 0 rfl rfl ?_
  refine x_iconst (v := nI 1) dL_law_777 (by decide) ?_
  refine x_iadd dL_law_778 ?_
  refine x_vali (nI_add i 1) ?_
  refine x_sld (j := i + 1) dL_law_779 rfl (by omega) hL3 ?_
  refine x_aload_n dL_law_780 3 rfl rfl ?_
  refine x_iload_n dL_law_781 0 rfl rfl ?_
  refine x_iconst (v := nI 2) dL_law_782 (by decide) ?_
  refine x_iadd dL_law_783 ?_
  refine x_vali (nI_add i 2) ?_
  refine x_sld (j := i + 2) dL_law_784 rfl (by omega) hL3 ?_
  refine x_aload_n dL_law_785 3 rfl rfl ?_
  refine x_iload_n dL_law_786 0 rfl rfl ?_
  refine x_iconst (v := nI 3) dL_law_787 (by decide) ?_
  refine x_iadd dL_law_788 ?_
  refine x_vali (nI_add i 3) ?_
  refine x_sld (j := i + 3) dL_law_789 rfl (by omega) hL3 ?_
  refine x_aload_n dL_law_790 3 rfl rfl ?_
  refine x_iload_n dL_law_791 0 rfl rfl ?_
  refine x_iconst (v := nI 4) dL_law_792 (by decide) ?_
  refine x_iadd dL_law_793 ?_
  refine x_vali (nI_add i 4) ?_
  refine x_sld (j := i + 4) dL_law_794 rfl (by omega) hL3 ?_
  refine x_callV (k_mchance (G := G) hm2 hw (s := xs (i + 1)) (n := xs (i + 2)) (wv := xs (i + 3)) (pt := xs (i + 4))) dL_law_795 crc_X8_chance vc_L_93 hm.1.1 rfl rfl rfl rfl (Nat.le_of_ble_eq_true rfl) ⟨Nat.le_of_ble_eq_true rfl, Nat.le_of_ble_eq_true rfl⟩ (Nat.le_of_ble_eq_true rfl) (Nat.le_of_ble_eq_true rfl) ?_
  rintro _ _ ⟨x8, rfl, hq8⟩
  obtain ⟨rfl, J2, rfl, hm3, fr3⟩ := qML_upd hm2 hq8
  have hc3 := hc2.cong (Sh' := Sh) (J := J2) (R' := R2) (fun _ _ _ => rfl) (fun a k h1 h2 => fr3 a k (by omega)) (fun _ _ _ _ => rfl)
  refine x_lcmp dL_law_798 ?_
  refine x_if_eq (tgt := 1088) dL_law_799 (by decide) (fun c_799 => ?_) (fun c_799 => False.elim (c_799 cmp_self))
  exact hk _ J2 R2 hc3 hm3 (hw)

set_option maxHeartbeats 4000000 in
set_option maxRecDepth 100000 in
theorem lc_image {G : GG} {b0 Ls : Nat} {xs : Nat → Int32} {nm : String} {b i : Nat} {σ : SG} {Sh : HS} {I : HI} {R : HR} (hc : CI b Sh I R σ) (hm : MI (b + 69) Sh I R σ) (hw : WI σ) (hi6 : i + 6 ≤ Ls) (hL3 : Ls ≤ 3072) (hk : ∀ (σ' : SG) (J : HI) (R' : HR), CI b Sh J R' σ' → MI (b + 69) Sh J R' σ' → WI σ' → X G (KL G b0 Ls xs) (yL nm) code 4 ret 87 5884 1088 [(3, .int (nI i)), (2, .ref (b + 69)), (1, .ref b), (0, .ref b0)] [] (Sh, J, R')) : X G (KL G b0 Ls xs) (yL nm) code 4 ret 87 5884 804 [(3, .int (nI i)), (2, .ref (b + 69)), (1, .ref b), (0, .ref b0)] [] (Sh, I, R) := by
  refine x_aload_n dL_law_804 2 rfl rfl ?_
  refine x_callV (k_image (G := G) hc ) dL_law_805 crc_X7_image vc_L_94 hc.1.1 rfl rfl rfl rfl (Nat.le_of_ble_eq_true rfl) ⟨Nat.le_of_ble_eq_true rfl, Nat.le_of_ble_eq_true rfl⟩ (Nat.le_of_ble_eq_true rfl) (Nat.le_of_ble_eq_true rfl) ?_
  rintro _ _ ⟨x9, rfl, hq9⟩
  obtain ⟨rfl, J, R2, rfl, hc2, fr1, fr2⟩ := hq9
  have hm2 : MI (b + 69) Sh J R2 σ := hm.cong (fun _ _ _ => rfl) (fun a k h1 h2 => fr1 a k (by omega)) (fun a k h1 h2 => fr2 a k (by omega))
  refine x_aload_n dL_law_808 1 rfl rfl ?_
  refine x_callV (k_mimage (G := G) hm2 hw ) dL_law_809 crc_X8_image vc_L_97 hm.1.1 rfl rfl rfl rfl (Nat.le_of_ble_eq_true rfl) ⟨Nat.le_of_ble_eq_true rfl, Nat.le_of_ble_eq_true rfl⟩ (Nat.le_of_ble_eq_true rfl) (Nat.le_of_ble_eq_true rfl) ?_
  rintro _ _ ⟨x8, rfl, hq8⟩
  obtain ⟨rfl, J2, rfl, hm3, fr3⟩ := hq8
  have hc3 := hc2.cong (Sh' := Sh) (J := J2) (R' := R2) (fun _ _ _ => rfl) (fun a k h1 h2 => fr3 a k (by omega)) (fun _ _ _ _ => rfl)
  refine x_icmp_eq (tgt := 1088) dL_law_812 (by decide) (fun c_812 => ?_) (fun c_812 => False.elim (c_812 rfl))
  exact hk _ J2 R2 hc3 hm3 (WI.img hw)

set_option maxHeartbeats 4000000 in
set_option maxRecDepth 100000 in
theorem lc_back {G : GG} {b0 Ls : Nat} {xs : Nat → Int32} {nm : String} {b i : Nat} {σ : SG} {Sh : HS} {I : HI} {R : HR} (hc : CI b Sh I R σ) (hm : MI (b + 69) Sh I R σ) (hw : WI σ) (hi6 : i + 6 ≤ Ls) (hL3 : Ls ≤ 3072) (hk : ∀ (σ' : SG) (J : HI) (R' : HR), CI b Sh J R' σ' → MI (b + 69) Sh J R' σ' → WI σ' → X G (KL G b0 Ls xs) (yL nm) code 4 ret 87 5884 1088 [(3, .int (nI i)), (2, .ref (b + 69)), (1, .ref b), (0, .ref b0)] [] (Sh, J, R')) : X G (KL G b0 Ls xs) (yL nm) code 4 ret 87 5884 817 [(3, .int (nI i)), (2, .ref (b + 69)), (1, .ref b), (0, .ref b0)] [] (Sh, I, R) := by
  refine x_aload_n dL_law_817 2 rfl rfl ?_
  refine x_callV (k_back (G := G) hc ) dL_law_818 crc_X7_back vc_L_98 hc.1.1 rfl rfl rfl rfl (Nat.le_of_ble_eq_true rfl) ⟨Nat.le_of_ble_eq_true rfl, Nat.le_of_ble_eq_true rfl⟩ (Nat.le_of_ble_eq_true rfl) (Nat.le_of_ble_eq_true rfl) ?_
  rintro _ _ ⟨x9, rfl, hq9⟩
  obtain ⟨rfl, J, R2, rfl, hc2, fr1, fr2⟩ := hq9
  have hm2 : MI (b + 69) Sh J R2 σ := hm.cong (fun _ _ _ => rfl) (fun a k h1 h2 => fr1 a k (by omega)) (fun a k h1 h2 => fr2 a k (by omega))
  refine x_aload_n dL_law_821 1 rfl rfl ?_
  refine x_callV (k_mback (G := G) hm2 hw ) dL_law_822 crc_X8_back vc_L_101 hm.1.1 rfl rfl rfl rfl (Nat.le_of_ble_eq_true rfl) ⟨Nat.le_of_ble_eq_true rfl, Nat.le_of_ble_eq_true rfl⟩ (Nat.le_of_ble_eq_true rfl) (Nat.le_of_ble_eq_true rfl) ?_
  rintro _ _ ⟨x8, rfl, hq8⟩
  obtain ⟨rfl, J2, rfl, hm3, fr3⟩ := hq8
  have hc3 := hc2.cong (Sh' := Sh) (J := J2) (R' := R2) (fun _ _ _ => rfl) (fun a k h1 h2 => fr3 a k (by omega)) (fun _ _ _ _ => rfl)
  refine x_icmp_eq (tgt := 1088) dL_law_825 (by decide) (fun c_825 => ?_) (fun c_825 => False.elim (c_825 rfl))
  exact hk _ J2 R2 hc3 hm3 (WI.back hw)

set_option maxHeartbeats 4000000 in
set_option maxRecDepth 100000 in
theorem lc_count {G : GG} {b0 Ls : Nat} {xs : Nat → Int32} {nm : String} {b i : Nat} {σ : SG} {Sh : HS} {I : HI} {R : HR} (hc : CI b Sh I R σ) (hm : MI (b + 69) Sh I R σ) (hw : WI σ) (hi6 : i + 6 ≤ Ls) (hL3 : Ls ≤ 3072) (hk : ∀ (σ' : SG) (J : HI) (R' : HR), CI b Sh J R' σ' → MI (b + 69) Sh J R' σ' → WI σ' → X G (KL G b0 Ls xs) (yL nm) code 4 ret 87 5884 1088 [(3, .int (nI i)), (2, .ref (b + 69)), (1, .ref b), (0, .ref b0)] [] (Sh, J, R')) : X G (KL G b0 Ls xs) (yL nm) code 4 ret 87 5884 830 [(3, .int (nI i)), (2, .ref (b + 69)), (1, .ref b), (0, .ref b0)] [] (Sh, I, R) := by
  refine x_aload_n dL_law_830 2 rfl rfl ?_
  refine x_aload_n dL_law_831 3 rfl rfl ?_
  refine x_iload_n dL_law_832 0 rfl rfl ?_
  refine x_iconst (v := nI 1) dL_law_833 (by decide) ?_
  refine x_iadd dL_law_834 ?_
  refine x_vali (nI_add i 1) ?_
  refine x_sld (j := i + 1) dL_law_835 rfl (by omega) hL3 ?_
  refine x_callV (k_count (G := G) hc (w := xs (i + 1))) dL_law_836 crc_X7_count vc_L_102 hc.1.1 rfl rfl rfl rfl (Nat.le_of_ble_eq_true rfl) ⟨Nat.le_of_ble_eq_true rfl, Nat.le_of_ble_eq_true rfl⟩ (Nat.le_of_ble_eq_true rfl) (Nat.le_of_ble_eq_true rfl) ?_
  rintro _ _ ⟨x9, rfl, hq9⟩
  obtain ⟨rfl, J, R2, rfl, hc2, fr1, fr2⟩ := qry_upd hc hq9
  have hm2 : MI (b + 69) Sh J R2 σ := hm.cong (fun _ _ _ => rfl) (fun a k h1 h2 => fr1 a k (by omega)) (fun a k h1 h2 => fr2 a k (by omega))
  refine x_aload_n dL_law_839 1 rfl rfl ?_
  refine x_aload_n dL_law_840 3 rfl rfl ?_
  refine x_iload_n dL_law_841 0 rfl rfl ?_
  refine x_iconst (v := nI 1) dL_law_842 (by decide) ?_
  refine x_iadd dL_law_843 ?_
  refine x_vali (nI_add i 1) ?_
  refine x_sld (j := i + 1) dL_law_844 rfl (by omega) hL3 ?_
  refine x_callV (k_mcount (G := G) hm2 hw (w := xs (i + 1))) dL_law_845 crc_X8_count vc_L_105 hm.1.1 rfl rfl rfl rfl (Nat.le_of_ble_eq_true rfl) ⟨Nat.le_of_ble_eq_true rfl, Nat.le_of_ble_eq_true rfl⟩ (Nat.le_of_ble_eq_true rfl) (Nat.le_of_ble_eq_true rfl) ?_
  rintro _ _ ⟨x8, rfl, hq8⟩
  obtain ⟨rfl, J2, rfl, hm3, fr3⟩ := qry_updM hm2 hq8
  have hc3 := hc2.cong (Sh' := Sh) (J := J2) (R' := R2) (fun _ _ _ => rfl) (fun a k h1 h2 => fr3 a k (by omega)) (fun _ _ _ _ => rfl)
  refine x_icmp_eq (tgt := 1088) dL_law_848 (by decide) (fun c_848 => ?_) (fun c_848 => False.elim (c_848 rfl))
  exact hk _ J2 R2 hc3 hm3 (hw)

set_option maxHeartbeats 4000000 in
set_option maxRecDepth 100000 in
theorem lc_sheet {G : GG} {b0 Ls : Nat} {xs : Nat → Int32} {nm : String} {b i : Nat} {σ : SG} {Sh : HS} {I : HI} {R : HR} (hc : CI b Sh I R σ) (hm : MI (b + 69) Sh I R σ) (hw : WI σ) (hi6 : i + 6 ≤ Ls) (hL3 : Ls ≤ 3072) (hk : ∀ (σ' : SG) (J : HI) (R' : HR), CI b Sh J R' σ' → MI (b + 69) Sh J R' σ' → WI σ' → X G (KL G b0 Ls xs) (yL nm) code 4 ret 87 5884 1088 [(3, .int (nI i)), (2, .ref (b + 69)), (1, .ref b), (0, .ref b0)] [] (Sh, J, R')) : X G (KL G b0 Ls xs) (yL nm) code 4 ret 87 5884 853 [(3, .int (nI i)), (2, .ref (b + 69)), (1, .ref b), (0, .ref b0)] [] (Sh, I, R) := by
  refine x_aload_n dL_law_853 2 rfl rfl ?_
  refine x_aload_n dL_law_854 3 rfl rfl ?_
  refine x_iload_n dL_law_855 0 rfl rfl ?_
  refine x_iconst (v := nI 1) dL_law_856 (by decide) ?_
  refine x_iadd dL_law_857 ?_
  refine x_vali (nI_add i 1) ?_
  refine x_sld (j := i + 1) dL_law_858 rfl (by omega) hL3 ?_
  refine x_aload_n dL_law_859 3 rfl rfl ?_
  refine x_iload_n dL_law_860 0 rfl rfl ?_
  refine x_iconst (v := nI 2) dL_law_861 (by decide) ?_
  refine x_iadd dL_law_862 ?_
  refine x_vali (nI_add i 2) ?_
  refine x_sld (j := i + 2) dL_law_863 rfl (by omega) hL3 ?_
  refine x_aload_n dL_law_864 3 rfl rfl ?_
  refine x_iload_n dL_law_865 0 rfl rfl ?_
  refine x_iconst (v := nI 3) dL_law_866 (by decide) ?_
  refine x_iadd dL_law_867 ?_
  refine x_vali (nI_add i 3) ?_
  refine x_sld (j := i + 3) dL_law_868 rfl (by omega) hL3 ?_
  refine x_callV (k_sheet (G := G) hc (s := xs (i + 1)) (so := xs (i + 2)) (n := xs (i + 3))) dL_law_869 crc_X7_sheet vc_L_106 hc.1.1 rfl rfl rfl rfl (Nat.le_of_ble_eq_true rfl) ⟨Nat.le_of_ble_eq_true rfl, Nat.le_of_ble_eq_true rfl⟩ (Nat.le_of_ble_eq_true rfl) (Nat.le_of_ble_eq_true rfl) ?_
  rintro _ _ ⟨x9, rfl, hq9⟩
  obtain ⟨rfl, J, R2, rfl, hc2, fr1, fr2⟩ := hq9
  have hm2 : MI (b + 69) Sh J R2 σ := hm.cong (fun _ _ _ => rfl) (fun a k h1 h2 => fr1 a k (by omega)) (fun a k h1 h2 => fr2 a k (by omega))
  refine x_aload_n dL_law_872 1 rfl rfl ?_
  refine x_aload_n dL_law_873 3 rfl rfl ?_
  refine x_iload_n dL_law_874 0 rfl rfl ?_
  refine x_iconst (v := nI 1) dL_law_875 (by decide) ?_
  refine x_iadd dL_law_876 ?_
  refine x_vali (nI_add i 1) ?_
  refine x_sld (j := i + 1) dL_law_877 rfl (by omega) hL3 ?_
  refine x_aload_n dL_law_878 3 rfl rfl ?_
  refine x_iload_n dL_law_879 0 rfl rfl ?_
  refine x_iconst (v := nI 2) dL_law_880 (by decide) ?_
  refine x_iadd dL_law_881 ?_
  refine x_vali (nI_add i 2) ?_
  refine x_sld (j := i + 2) dL_law_882 rfl (by omega) hL3 ?_
  refine x_aload_n dL_law_883 3 rfl rfl ?_
  refine x_iload_n dL_law_884 0 rfl rfl ?_
  refine x_iconst (v := nI 3) dL_law_885 (by decide) ?_
  refine x_iadd dL_law_886 ?_
  refine x_vali (nI_add i 3) ?_
  refine x_sld (j := i + 3) dL_law_887 rfl (by omega) hL3 ?_
  refine x_callV (k_msheet (G := G) hm2 hw (s := xs (i + 1)) (so := xs (i + 2)) (n := xs (i + 3))) dL_law_888 crc_X8_sheet vc_L_109 hm.1.1 rfl rfl rfl rfl (Nat.le_of_ble_eq_true rfl) ⟨Nat.le_of_ble_eq_true rfl, Nat.le_of_ble_eq_true rfl⟩ (Nat.le_of_ble_eq_true rfl) (Nat.le_of_ble_eq_true rfl) ?_
  rintro _ _ ⟨x8, rfl, hq8⟩
  obtain ⟨rfl, J2, rfl, hm3, fr3⟩ := hq8
  have hc3 := hc2.cong (Sh' := Sh) (J := J2) (R' := R2) (fun _ _ _ => rfl) (fun a k h1 h2 => fr3 a k (by omega)) (fun _ _ _ _ => rfl)
  refine x_icmp_eq (tgt := 1088) dL_law_891 (by decide) (fun c_891 => ?_) (fun c_891 => False.elim (c_891 rfl))
  exact hk _ J2 R2 hc3 hm3 (WI.sheet hw)

set_option maxHeartbeats 4000000 in
set_option maxRecDepth 100000 in
theorem lc_cell {G : GG} {b0 Ls : Nat} {xs : Nat → Int32} {nm : String} {b i : Nat} {σ : SG} {Sh : HS} {I : HI} {R : HR} (hc : CI b Sh I R σ) (hm : MI (b + 69) Sh I R σ) (hw : WI σ) (hi6 : i + 6 ≤ Ls) (hL3 : Ls ≤ 3072) (hk : ∀ (σ' : SG) (J : HI) (R' : HR), CI b Sh J R' σ' → MI (b + 69) Sh J R' σ' → WI σ' → X G (KL G b0 Ls xs) (yL nm) code 4 ret 87 5884 1088 [(3, .int (nI i)), (2, .ref (b + 69)), (1, .ref b), (0, .ref b0)] [] (Sh, J, R')) : X G (KL G b0 Ls xs) (yL nm) code 4 ret 87 5884 896 [(3, .int (nI i)), (2, .ref (b + 69)), (1, .ref b), (0, .ref b0)] [] (Sh, I, R) := by
  refine x_aload_n dL_law_896 2 rfl rfl ?_
  refine x_aload_n dL_law_897 3 rfl rfl ?_
  refine x_iload_n dL_law_898 0 rfl rfl ?_
  refine x_iconst (v := nI 1) dL_law_899 (by decide) ?_
  refine x_iadd dL_law_900 ?_
  refine x_vali (nI_add i 1) ?_
  refine x_sld (j := i + 1) dL_law_901 rfl (by omega) hL3 ?_
  refine x_aload_n dL_law_902 3 rfl rfl ?_
  refine x_iload_n dL_law_903 0 rfl rfl ?_
  refine x_iconst (v := nI 2) dL_law_904 (by decide) ?_
  refine x_iadd dL_law_905 ?_
  refine x_vali (nI_add i 2) ?_
  refine x_sld (j := i + 2) dL_law_906 rfl (by omega) hL3 ?_
  refine x_aload_n dL_law_907 3 rfl rfl ?_
  refine x_iload_n dL_law_908 0 rfl rfl ?_
  refine x_iconst (v := nI 3) dL_law_909 (by decide) ?_
  refine x_iadd dL_law_910 ?_
  refine x_vali (nI_add i 3) ?_
  refine x_sld (j := i + 3) dL_law_911 rfl (by omega) hL3 ?_
  refine x_callV (k_cell (G := G) hc (s := xs (i + 1)) (i := xs (i + 2)) (v := xs (i + 3))) dL_law_912 crc_X7_cell vc_L_110 hc.1.1 rfl rfl rfl rfl (Nat.le_of_ble_eq_true rfl) ⟨Nat.le_of_ble_eq_true rfl, Nat.le_of_ble_eq_true rfl⟩ (Nat.le_of_ble_eq_true rfl) (Nat.le_of_ble_eq_true rfl) ?_
  rintro _ _ ⟨x9, rfl, hq9⟩
  obtain ⟨rfl, J, R2, rfl, hc2, fr1, fr2⟩ := hq9
  have hm2 : MI (b + 69) Sh J R2 σ := hm.cong (fun _ _ _ => rfl) (fun a k h1 h2 => fr1 a k (by omega)) (fun a k h1 h2 => fr2 a k (by omega))
  refine x_aload_n dL_law_915 1 rfl rfl ?_
  refine x_aload_n dL_law_916 3 rfl rfl ?_
  refine x_iload_n dL_law_917 0 rfl rfl ?_
  refine x_iconst (v := nI 1) dL_law_918 (by decide) ?_
  refine x_iadd dL_law_919 ?_
  refine x_vali (nI_add i 1) ?_
  refine x_sld (j := i + 1) dL_law_920 rfl (by omega) hL3 ?_
  refine x_aload_n dL_law_921 3 rfl rfl ?_
  refine x_iload_n dL_law_922 0 rfl rfl ?_
  refine x_iconst (v := nI 2) dL_law_923 (by decide) ?_
  refine x_iadd dL_law_924 ?_
  refine x_vali (nI_add i 2) ?_
  refine x_sld (j := i + 2) dL_law_925 rfl (by omega) hL3 ?_
  refine x_aload_n dL_law_926 3 rfl rfl ?_
  refine x_iload_n dL_law_927 0 rfl rfl ?_
  refine x_iconst (v := nI 3) dL_law_928 (by decide) ?_
  refine x_iadd dL_law_929 ?_
  refine x_vali (nI_add i 3) ?_
  refine x_sld (j := i + 3) dL_law_930 rfl (by omega) hL3 ?_
  refine x_callV (k_mcell (G := G) hm2 hw (s := xs (i + 1)) (i := xs (i + 2)) (v := xs (i + 3))) dL_law_931 crc_X8_cell vc_L_113 hm.1.1 rfl rfl rfl rfl (Nat.le_of_ble_eq_true rfl) ⟨Nat.le_of_ble_eq_true rfl, Nat.le_of_ble_eq_true rfl⟩ (Nat.le_of_ble_eq_true rfl) (Nat.le_of_ble_eq_true rfl) ?_
  rintro _ _ ⟨x8, rfl, hq8⟩
  obtain ⟨rfl, J2, rfl, hm3, fr3⟩ := hq8
  have hc3 := hc2.cong (Sh' := Sh) (J := J2) (R' := R2) (fun _ _ _ => rfl) (fun a k h1 h2 => fr3 a k (by omega)) (fun _ _ _ _ => rfl)
  refine x_icmp_eq (tgt := 1088) dL_law_934 (by decide) (fun c_934 => ?_) (fun c_934 => False.elim (c_934 rfl))
  exact hk _ J2 R2 hc3 hm3 (WI.cell hw)

set_option maxHeartbeats 4000000 in
set_option maxRecDepth 100000 in
theorem lc_copy {G : GG} {b0 Ls : Nat} {xs : Nat → Int32} {nm : String} {b i : Nat} {σ : SG} {Sh : HS} {I : HI} {R : HR} (hc : CI b Sh I R σ) (hm : MI (b + 69) Sh I R σ) (hw : WI σ) (hi6 : i + 6 ≤ Ls) (hL3 : Ls ≤ 3072) (hk : ∀ (σ' : SG) (J : HI) (R' : HR), CI b Sh J R' σ' → MI (b + 69) Sh J R' σ' → WI σ' → X G (KL G b0 Ls xs) (yL nm) code 4 ret 87 5884 1088 [(3, .int (nI i)), (2, .ref (b + 69)), (1, .ref b), (0, .ref b0)] [] (Sh, J, R')) : X G (KL G b0 Ls xs) (yL nm) code 4 ret 87 5884 939 [(3, .int (nI i)), (2, .ref (b + 69)), (1, .ref b), (0, .ref b0)] [] (Sh, I, R) := by
  refine x_aload_n dL_law_939 2 rfl rfl ?_
  refine x_aload_n dL_law_940 3 rfl rfl ?_
  refine x_iload_n dL_law_941 0 rfl rfl ?_
  refine x_iconst (v := nI 1) dL_law_942 (by decide) ?_
  refine x_iadd dL_law_943 ?_
  refine x_vali (nI_add i 1) ?_
  refine x_sld (j := i + 1) dL_law_944 rfl (by omega) hL3 ?_
  refine x_aload_n dL_law_945 3 rfl rfl ?_
  refine x_iload_n dL_law_946 0 rfl rfl ?_
  refine x_iconst (v := nI 2) dL_law_947 (by decide) ?_
  refine x_iadd dL_law_948 ?_
  refine x_vali (nI_add i 2) ?_
  refine x_sld (j := i + 2) dL_law_949 rfl (by omega) hL3 ?_
  refine x_aload_n dL_law_950 3 rfl rfl ?_
  refine x_iload_n dL_law_951 0 rfl rfl ?_
  refine x_iconst (v := nI 3) dL_law_952 (by decide) ?_
  refine x_iadd dL_law_953 ?_
  refine x_vali (nI_add i 3) ?_
  refine x_sld (j := i + 3) dL_law_954 rfl (by omega) hL3 ?_
  refine x_aload_n dL_law_955 3 rfl rfl ?_
  refine x_iload_n dL_law_956 0 rfl rfl ?_
  refine x_iconst (v := nI 4) dL_law_957 (by decide) ?_
  refine x_iadd dL_law_958 ?_
  refine x_vali (nI_add i 4) ?_
  refine x_sld (j := i + 4) dL_law_959 rfl (by omega) hL3 ?_
  refine x_aload_n dL_law_960 3 rfl rfl ?_
  refine x_iload_n dL_law_961 0 rfl rfl ?_
  refine x_iconst (v := nI 5) dL_law_962 (by decide) ?_
  refine x_iadd dL_law_963 ?_
  refine x_vali (nI_add i 5) ?_
  refine x_sld (j := i + 5) dL_law_964 rfl (by omega) hL3 ?_
  refine x_callV (k_copy (G := G) hc (s := xs (i + 1)) (i := xs (i + 2)) (o := xs (i + 3)) (j := xs (i + 4)) (n := xs (i + 5))) dL_law_965 crc_X7_copy vc_L_114 hc.1.1 rfl rfl rfl rfl (Nat.le_of_ble_eq_true rfl) ⟨Nat.le_of_ble_eq_true rfl, Nat.le_of_ble_eq_true rfl⟩ (Nat.le_of_ble_eq_true rfl) (Nat.le_of_ble_eq_true rfl) ?_
  rintro _ _ ⟨x9, rfl, hq9⟩
  obtain ⟨rfl, J, R2, rfl, hc2, fr1, fr2⟩ := hq9
  have hm2 : MI (b + 69) Sh J R2 σ := hm.cong (fun _ _ _ => rfl) (fun a k h1 h2 => fr1 a k (by omega)) (fun a k h1 h2 => fr2 a k (by omega))
  refine x_aload_n dL_law_968 1 rfl rfl ?_
  refine x_aload_n dL_law_969 3 rfl rfl ?_
  refine x_iload_n dL_law_970 0 rfl rfl ?_
  refine x_iconst (v := nI 1) dL_law_971 (by decide) ?_
  refine x_iadd dL_law_972 ?_
  refine x_vali (nI_add i 1) ?_
  refine x_sld (j := i + 1) dL_law_973 rfl (by omega) hL3 ?_
  refine x_aload_n dL_law_974 3 rfl rfl ?_
  refine x_iload_n dL_law_975 0 rfl rfl ?_
  refine x_iconst (v := nI 2) dL_law_976 (by decide) ?_
  refine x_iadd dL_law_977 ?_
  refine x_vali (nI_add i 2) ?_
  refine x_sld (j := i + 2) dL_law_978 rfl (by omega) hL3 ?_
  refine x_aload_n dL_law_979 3 rfl rfl ?_
  refine x_iload_n dL_law_980 0 rfl rfl ?_
  refine x_iconst (v := nI 3) dL_law_981 (by decide) ?_
  refine x_iadd dL_law_982 ?_
  refine x_vali (nI_add i 3) ?_
  refine x_sld (j := i + 3) dL_law_983 rfl (by omega) hL3 ?_
  refine x_aload_n dL_law_984 3 rfl rfl ?_
  refine x_iload_n dL_law_985 0 rfl rfl ?_
  refine x_iconst (v := nI 4) dL_law_986 (by decide) ?_
  refine x_iadd dL_law_987 ?_
  refine x_vali (nI_add i 4) ?_
  refine x_sld (j := i + 4) dL_law_988 rfl (by omega) hL3 ?_
  refine x_aload_n dL_law_989 3 rfl rfl ?_
  refine x_iload_n dL_law_990 0 rfl rfl ?_
  refine x_iconst (v := nI 5) dL_law_991 (by decide) ?_
  refine x_iadd dL_law_992 ?_
  refine x_vali (nI_add i 5) ?_
  refine x_sld (j := i + 5) dL_law_993 rfl (by omega) hL3 ?_
  refine x_callV (k_mcopy (G := G) hm2 hw (s := xs (i + 1)) (i := xs (i + 2)) (o := xs (i + 3)) (j := xs (i + 4)) (n := xs (i + 5))) dL_law_994 crc_X8_copy vc_L_118 hm.1.1 rfl rfl rfl rfl (Nat.le_of_ble_eq_true rfl) ⟨Nat.le_of_ble_eq_true rfl, Nat.le_of_ble_eq_true rfl⟩ (Nat.le_of_ble_eq_true rfl) (Nat.le_of_ble_eq_true rfl) ?_
  rintro _ _ ⟨x8, rfl, hq8⟩
  obtain ⟨rfl, J2, rfl, hm3, fr3⟩ := hq8
  have hc3 := hc2.cong (Sh' := Sh) (J := J2) (R' := R2) (fun _ _ _ => rfl) (fun a k h1 h2 => fr3 a k (by omega)) (fun _ _ _ _ => rfl)
  refine x_icmp_eq (tgt := 1088) dL_law_997 (by decide) (fun c_997 => ?_) (fun c_997 => False.elim (c_997 rfl))
  exact hk _ J2 R2 hc3 hm3 (WI.copy hw)

set_option maxHeartbeats 4000000 in
set_option maxRecDepth 100000 in
theorem lc_forts {G : GG} {b0 Ls : Nat} {xs : Nat → Int32} {nm : String} {b i : Nat} {σ : SG} {Sh : HS} {I : HI} {R : HR} (hc : CI b Sh I R σ) (hm : MI (b + 69) Sh I R σ) (hw : WI σ) (hi6 : i + 6 ≤ Ls) (hL3 : Ls ≤ 3072) (hk : ∀ (σ' : SG) (J : HI) (R' : HR), CI b Sh J R' σ' → MI (b + 69) Sh J R' σ' → WI σ' → X G (KL G b0 Ls xs) (yL nm) code 4 ret 87 5884 1088 [(3, .int (nI i)), (2, .ref (b + 69)), (1, .ref b), (0, .ref b0)] [] (Sh, J, R')) : X G (KL G b0 Ls xs) (yL nm) code 4 ret 87 5884 1002 [(3, .int (nI i)), (2, .ref (b + 69)), (1, .ref b), (0, .ref b0)] [] (Sh, I, R) := by
  refine x_aload_n dL_law_1002 2 rfl rfl ?_
  refine x_aload_n dL_law_1003 3 rfl rfl ?_
  refine x_iload_n dL_law_1004 0 rfl rfl ?_
  refine x_iconst (v := nI 1) dL_law_1005 (by decide) ?_
  refine x_iadd dL_law_1006 ?_
  refine x_vali (nI_add i 1) ?_
  refine x_sld (j := i + 1) dL_law_1007 rfl (by omega) hL3 ?_
  refine x_aload_n dL_law_1008 3 rfl rfl ?_
  refine x_iload_n dL_law_1009 0 rfl rfl ?_
  refine x_iconst (v := nI 2) dL_law_1010 (by decide) ?_
  refine x_iadd dL_law_1011 ?_
  refine x_vali (nI_add i 2) ?_
  refine x_sld (j := i + 2) dL_law_1012 rfl (by omega) hL3 ?_
  refine x_aload_n dL_law_1013 3 rfl rfl ?_
  refine x_iload_n dL_law_1014 0 rfl rfl ?_
  refine x_iconst (v := nI 3) dL_law_1015 (by decide) ?_
  refine x_iadd dL_law_1016 ?_
  refine x_vali (nI_add i 3) ?_
  refine x_sld (j := i + 3) dL_law_1017 rfl (by omega) hL3 ?_
  refine x_aload_n dL_law_1018 3 rfl rfl ?_
  refine x_iload_n dL_law_1019 0 rfl rfl ?_
  refine x_iconst (v := nI 4) dL_law_1020 (by decide) ?_
  refine x_iadd dL_law_1021 ?_
  refine x_vali (nI_add i 4) ?_
  refine x_sld (j := i + 4) dL_law_1022 rfl (by omega) hL3 ?_
  refine x_callV (k_forts (G := G) hc (s := xs (i + 1)) (so := xs (i + 2)) (fr := xs (i + 3)) (n := xs (i + 4))) dL_law_1023 crc_X7_forts vc_L_119 hc.1.1 rfl rfl rfl rfl (Nat.le_of_ble_eq_true rfl) ⟨Nat.le_of_ble_eq_true rfl, Nat.le_of_ble_eq_true rfl⟩ (Nat.le_of_ble_eq_true rfl) (Nat.le_of_ble_eq_true rfl) ?_
  rintro _ _ ⟨x9, rfl, hq9⟩
  obtain ⟨rfl, J, R2, rfl, hc2, fr1, fr2⟩ := hq9
  have hm2 : MI (b + 69) Sh J R2 σ := hm.cong (fun _ _ _ => rfl) (fun a k h1 h2 => fr1 a k (by omega)) (fun a k h1 h2 => fr2 a k (by omega))
  refine x_aload_n dL_law_1026 1 rfl rfl ?_
  refine x_aload_n dL_law_1027 3 rfl rfl ?_
  refine x_iload_n dL_law_1028 0 rfl rfl ?_
  refine x_iconst (v := nI 1) dL_law_1029 (by decide) ?_
  refine x_iadd dL_law_1030 ?_
  refine x_vali (nI_add i 1) ?_
  refine x_sld (j := i + 1) dL_law_1031 rfl (by omega) hL3 ?_
  refine x_aload_n dL_law_1032 3 rfl rfl ?_
  refine x_iload_n dL_law_1033 0 rfl rfl ?_
  refine x_iconst (v := nI 2) dL_law_1034 (by decide) ?_
  refine x_iadd dL_law_1035 ?_
  refine x_vali (nI_add i 2) ?_
  refine x_sld (j := i + 2) dL_law_1036 rfl (by omega) hL3 ?_
  refine x_aload_n dL_law_1037 3 rfl rfl ?_
  refine x_iload_n dL_law_1038 0 rfl rfl ?_
  refine x_iconst (v := nI 3) dL_law_1039 (by decide) ?_
  refine x_iadd dL_law_1040 ?_
  refine x_vali (nI_add i 3) ?_
  refine x_sld (j := i + 3) dL_law_1041 rfl (by omega) hL3 ?_
  refine x_aload_n dL_law_1042 3 rfl rfl ?_
  refine x_iload_n dL_law_1043 0 rfl rfl ?_
  refine x_iconst (v := nI 4) dL_law_1044 (by decide) ?_
  refine x_iadd dL_law_1045 ?_
  refine x_vali (nI_add i 4) ?_
  refine x_sld (j := i + 4) dL_law_1046 rfl (by omega) hL3 ?_
  refine x_callV (k_mforts (G := G) hm2 hw (s := xs (i + 1)) (so := xs (i + 2)) (fr := xs (i + 3)) (n := xs (i + 4))) dL_law_1047 crc_X8_forts vc_L_123 hm.1.1 rfl rfl rfl rfl (Nat.le_of_ble_eq_true rfl) ⟨Nat.le_of_ble_eq_true rfl, Nat.le_of_ble_eq_true rfl⟩ (Nat.le_of_ble_eq_true rfl) (Nat.le_of_ble_eq_true rfl) ?_
  rintro _ _ ⟨x8, rfl, hq8⟩
  obtain ⟨rfl, J2, rfl, hm3, fr3⟩ := hq8
  have hc3 := hc2.cong (Sh' := Sh) (J := J2) (R' := R2) (fun _ _ _ => rfl) (fun a k h1 h2 => fr3 a k (by omega)) (fun _ _ _ _ => rfl)
  refine x_icmp_eq (tgt := 1088) dL_law_1050 (by decide) (fun c_1050 => ?_) (fun c_1050 => False.elim (c_1050 rfl))
  exact hk _ J2 R2 hc3 hm3 (WI.forts hw)

set_option maxHeartbeats 4000000 in
set_option maxRecDepth 100000 in
theorem lc_taken {G : GG} {b0 Ls : Nat} {xs : Nat → Int32} {nm : String} {b i : Nat} {σ : SG} {Sh : HS} {I : HI} {R : HR} (hc : CI b Sh I R σ) (hm : MI (b + 69) Sh I R σ) (hw : WI σ) (hi6 : i + 6 ≤ Ls) (hL3 : Ls ≤ 3072) (hk : ∀ (σ' : SG) (J : HI) (R' : HR), CI b Sh J R' σ' → MI (b + 69) Sh J R' σ' → WI σ' → X G (KL G b0 Ls xs) (yL nm) code 4 ret 87 5884 1088 [(3, .int (nI i)), (2, .ref (b + 69)), (1, .ref b), (0, .ref b0)] [] (Sh, J, R')) : X G (KL G b0 Ls xs) (yL nm) code 4 ret 87 5884 1055 [(3, .int (nI i)), (2, .ref (b + 69)), (1, .ref b), (0, .ref b0)] [] (Sh, I, R) := by
  refine x_aload_n dL_law_1055 2 rfl rfl ?_
  refine x_aload_n dL_law_1056 3 rfl rfl ?_
  refine x_iload_n dL_law_1057 0 rfl rfl ?_
  refine x_iconst (v := nI 1) dL_law_1058 (by decide) ?_
  refine x_iadd dL_law_1059 ?_
  refine x_vali (nI_add i 1) ?_
  refine x_sld (j := i + 1) dL_law_1060 rfl (by omega) hL3 ?_
  refine x_aload_n dL_law_1061 3 rfl rfl ?_
  refine x_iload_n dL_law_1062 0 rfl rfl ?_
  refine x_iconst (v := nI 2) dL_law_1063 (by decide) ?_
  refine x_iadd dL_law_1064 ?_
  refine x_vali (nI_add i 2) ?_
  refine x_sld (j := i + 2) dL_law_1065 rfl (by omega) hL3 ?_
  refine x_callV (k_taken (G := G) hc (of := xs (i + 1)) (k := xs (i + 2))) dL_law_1066 crc_X7_taken vc_L_124 hc.1.1 rfl rfl rfl rfl (Nat.le_of_ble_eq_true rfl) ⟨Nat.le_of_ble_eq_true rfl, Nat.le_of_ble_eq_true rfl⟩ (Nat.le_of_ble_eq_true rfl) (Nat.le_of_ble_eq_true rfl) ?_
  rintro _ _ ⟨x9, rfl, hq9⟩
  obtain ⟨rfl, J, R2, rfl, hc2, fr1, fr2⟩ := qry_upd hc hq9
  have hm2 : MI (b + 69) Sh J R2 σ := hm.cong (fun _ _ _ => rfl) (fun a k h1 h2 => fr1 a k (by omega)) (fun a k h1 h2 => fr2 a k (by omega))
  refine x_aload_n dL_law_1069 1 rfl rfl ?_
  refine x_aload_n dL_law_1070 3 rfl rfl ?_
  refine x_iload_n dL_law_1071 0 rfl rfl ?_
  refine x_iconst (v := nI 1) dL_law_1072 (by decide) ?_
  refine x_iadd dL_law_1073 ?_
  refine x_vali (nI_add i 1) ?_
  refine x_sld (j := i + 1) dL_law_1074 rfl (by omega) hL3 ?_
  refine x_aload_n dL_law_1075 3 rfl rfl ?_
  refine x_iload_n dL_law_1076 0 rfl rfl ?_
  refine x_iconst (v := nI 2) dL_law_1077 (by decide) ?_
  refine x_iadd dL_law_1078 ?_
  refine x_vali (nI_add i 2) ?_
  refine x_sld (j := i + 2) dL_law_1079 rfl (by omega) hL3 ?_
  refine x_callV (k_mtaken (G := G) hm2 hw (of := xs (i + 1)) (k := xs (i + 2))) dL_law_1080 crc_X8_taken vc_L_127 hm.1.1 rfl rfl rfl rfl (Nat.le_of_ble_eq_true rfl) ⟨Nat.le_of_ble_eq_true rfl, Nat.le_of_ble_eq_true rfl⟩ (Nat.le_of_ble_eq_true rfl) (Nat.le_of_ble_eq_true rfl) ?_
  rintro _ _ ⟨x8, rfl, hq8⟩
  obtain ⟨rfl, J2, rfl, hm3, fr3⟩ := qry_updM hm2 hq8
  have hc3 := hc2.cong (Sh' := Sh) (J := J2) (R' := R2) (fun _ _ _ => rfl) (fun a k h1 h2 => fr3 a k (by omega)) (fun _ _ _ _ => rfl)
  refine x_icmp_eq (tgt := 1088) dL_law_1083 (by decide) (fun c_1083 => ?_) (fun c_1083 => False.elim (c_1083 rfl))
  exact hk _ J2 R2 hc3 hm3 (hw)

set_option maxHeartbeats 4000000 in
set_option maxRecDepth 100000 in
theorem law_loop {G : GG} {b0 Ls : Nat} {xs : Nat → Int32} {nm : String} {b : Nat} {Sh : HS} (hL3 : Ls ≤ 3072) : ∀ (m9 : Nat) (i : Nat) (σ : SG) (I : HI) (R : HR), (i ≤ Ls) → (Ls < i + m9) → (CI b Sh I R σ) → (MI (b + 69) Sh I R σ) → (WI σ) → X G (KL G b0 Ls xs) (yL nm) code 4 ret 87 5884 18 [(3, .int (nI i)), (2, .ref (b + 69)), (1, .ref b), (0, .ref b0)] [] (Sh, I, R) := by
  intro m9
  induction m9 with
  | zero =>
    intro i σ I R hi hfu hc hm hw
    exact absurd hfu (by omega)
  | succ m9 ih =>
    intro i σ I R hi hfu hc hm hw
    refine x_iload_n dL_law_18 0 rfl rfl ?_
    refine x_aload_n dL_law_19 3 rfl rfl ?_
    refine x_slen dL_law_20 ?_
    refine x_bipush (v := nI 6) dL_law_21 (by decide) ?_
    refine x_isub dL_law_23 ?_
    refine x_icmp_gt (tgt := 1094) dL_law_24 (by decide) (fun c_24 => ?_) (fun c_24 => ?_)
    · refine x_iconst (v := 1) dL_law_1094 (by decide) ?_
      exact x_lend dL_law_1095 (by decide) (by decide)
    · have hi6 : i + 6 ≤ Ls := (six hL3 (by omega)).mp (Int32.not_lt.mp c_24)
      have hk : ∀ (σ' : SG) (J : HI) (R' : HR), CI b Sh J R' σ' → MI (b + 69) Sh J R' σ' → WI σ' → X G (KL G b0 Ls xs) (yL nm) code 4 ret 87 5884 1088 [(3, .int (nI i)), (2, .ref (b + 69)), (1, .ref b), (0, .ref b0)] [] (Sh, J, R') := by
        intro σ2 J R2 hc2 hm2 hw2
        refine x_iinc (v := nI (i + 6)) (lv' := [(3, .int (nI (i + 6))), (2, .ref (b + 69)), (1, .ref b), (0, .ref b0)]) dL_law_1088 0 rfl (nI_add i 6) (by decide) rfl ?_
        refine x_goto (tgt := 18) dL_law_1091 (by decide) ?_
        exact ih (i + 6) σ2 J R2 (by omega) (by omega) hc2 hm2 hw2
      refine x_aload_n dL_law_27 3 rfl rfl ?_
      refine x_iload_n dL_law_28 0 rfl rfl ?_
      refine x_sld (j := i) dL_law_29 rfl (by omega) hL3 ?_
      refine x_bipush (v := 31) dL_law_30 (by decide) ?_
      refine x_iand dL_law_32 ?_
      refine x_tsw [(0, 156), (1, 199), (2, 242), (3, 275), (4, 298), (5, 311), (6, 334), (7, 347), (8, 370), (9, 403), (10, 436), (11, 469), (12, 512), (13, 555), (14, 598), (15, 631), (16, 674), (17, 717), (18, 750), (19, 804), (20, 817), (21, 830), (22, 853), (23, 896), (24, 939), (25, 1002), (26, 1055)] 1088 dL_law_33 (by decide) (by decide +kernel) (fun c_33 => ?_) ?_
      · exact hk σ I R hc hm hw
      · refine List.forall_mem_cons.mpr ⟨fun c_33 => ?_, List.forall_mem_cons.mpr ⟨fun c_33 => ?_, List.forall_mem_cons.mpr ⟨fun c_33 => ?_, List.forall_mem_cons.mpr ⟨fun c_33 => ?_, List.forall_mem_cons.mpr ⟨fun c_33 => ?_, List.forall_mem_cons.mpr ⟨fun c_33 => ?_, List.forall_mem_cons.mpr ⟨fun c_33 => ?_, List.forall_mem_cons.mpr ⟨fun c_33 => ?_, List.forall_mem_cons.mpr ⟨fun c_33 => ?_, List.forall_mem_cons.mpr ⟨fun c_33 => ?_, List.forall_mem_cons.mpr ⟨fun c_33 => ?_, List.forall_mem_cons.mpr ⟨fun c_33 => ?_, List.forall_mem_cons.mpr ⟨fun c_33 => ?_, List.forall_mem_cons.mpr ⟨fun c_33 => ?_, List.forall_mem_cons.mpr ⟨fun c_33 => ?_, List.forall_mem_cons.mpr ⟨fun c_33 => ?_, List.forall_mem_cons.mpr ⟨fun c_33 => ?_, List.forall_mem_cons.mpr ⟨fun c_33 => ?_, List.forall_mem_cons.mpr ⟨fun c_33 => ?_, List.forall_mem_cons.mpr ⟨fun c_33 => ?_, List.forall_mem_cons.mpr ⟨fun c_33 => ?_, List.forall_mem_cons.mpr ⟨fun c_33 => ?_, List.forall_mem_cons.mpr ⟨fun c_33 => ?_, List.forall_mem_cons.mpr ⟨fun c_33 => ?_, List.forall_mem_cons.mpr ⟨fun c_33 => ?_, List.forall_mem_cons.mpr ⟨fun c_33 => ?_, List.forall_mem_cons.mpr ⟨fun c_33 => ?_, fun _ h9 => absurd h9 List.not_mem_nil⟩⟩⟩⟩⟩⟩⟩⟩⟩⟩⟩⟩⟩⟩⟩⟩⟩⟩⟩⟩⟩⟩⟩⟩⟩⟩⟩
        · have c_33 : (xs i) &&& 31 = 0 := c_33.trans (by decide)
          exact lc_set hc hm hw hi6 hL3 hk
        · have c_33 : (xs i) &&& 31 = 1 := c_33.trans (by decide)
          exact lc_fort hc hm hw hi6 hL3 hk
        · have c_33 : (xs i) &&& 31 = 2 := c_33.trans (by decide)
          exact lc_told hc hm hw hi6 hL3 hk
        · have c_33 : (xs i) &&& 31 = 3 := c_33.trans (by decide)
          exact lc_feed hc hm hw hi6 hL3 hk
        · have c_33 : (xs i) &&& 31 = 4 := c_33.trans (by decide)
          exact lc_text hc hm hw hi6 hL3 hk
        · have c_33 : (xs i) &&& 31 = 5 := c_33.trans (by decide)
          exact lc_force hc hm hw hi6 hL3 hk
        · have c_33 : (xs i) &&& 31 = 6 := c_33.trans (by decide)
          exact lc_wave hc hm hw hi6 hL3 hk
        · have c_33 : (xs i) &&& 31 = 7 := c_33.trans (by decide)
          exact lc_spade hc hm hw hi6 hL3 hk
        · have c_33 : (xs i) &&& 31 = 8 := c_33.trans (by decide)
          exact lc_run hc hm hw hi6 hL3 hk
        · have c_33 : (xs i) &&& 31 = 9 := c_33.trans (by decide)
          exact lc_plan hc hm hw hi6 hL3 hk
        · have c_33 : (xs i) &&& 31 = 10 := c_33.trans (by decide)
          exact lc_keeps hc hm hw hi6 hL3 hk
        · have c_33 : (xs i) &&& 31 = 11 := c_33.trans (by decide)
          exact lc_best hc hm hw hi6 hL3 hk
        · have c_33 : (xs i) &&& 31 = 12 := c_33.trans (by decide)
          exact lc_matters hc hm hw hi6 hL3 hk
        · have c_33 : (xs i) &&& 31 = 13 := c_33.trans (by decide)
          exact lc_wish hc hm hw hi6 hL3 hk
        · have c_33 : (xs i) &&& 31 = 14 := c_33.trans (by decide)
          exact lc_game hc hm hw hi6 hL3 hk
        · have c_33 : (xs i) &&& 31 = 15 := c_33.trans (by decide)
          exact lc_tells hc hm hw hi6 hL3 hk
        · have c_33 : (xs i) &&& 31 = 16 := c_33.trans (by decide)
          exact lc_film hc hm hw hi6 hL3 hk
        · have c_33 : (xs i) &&& 31 = 17 := c_33.trans (by decide)
          exact lc_drawn hc hm hw hi6 hL3 hk
        · have c_33 : (xs i) &&& 31 = 18 := c_33.trans (by decide)
          exact lc_chance hc hm hw hi6 hL3 hk
        · have c_33 : (xs i) &&& 31 = 19 := c_33.trans (by decide)
          exact lc_image hc hm hw hi6 hL3 hk
        · have c_33 : (xs i) &&& 31 = 20 := c_33.trans (by decide)
          exact lc_back hc hm hw hi6 hL3 hk
        · have c_33 : (xs i) &&& 31 = 21 := c_33.trans (by decide)
          exact lc_count hc hm hw hi6 hL3 hk
        · have c_33 : (xs i) &&& 31 = 22 := c_33.trans (by decide)
          exact lc_sheet hc hm hw hi6 hL3 hk
        · have c_33 : (xs i) &&& 31 = 23 := c_33.trans (by decide)
          exact lc_cell hc hm hw hi6 hL3 hk
        · have c_33 : (xs i) &&& 31 = 24 := c_33.trans (by decide)
          exact lc_copy hc hm hw hi6 hL3 hk
        · have c_33 : (xs i) &&& 31 = 25 := c_33.trans (by decide)
          exact lc_forts hc hm hw hi6 hL3 hk
        · have c_33 : (xs i) &&& 31 = 26 := c_33.trans (by decide)
          exact lc_taken hc hm hw hi6 hL3 hk

