section
variable {G : GG} {K : XK} {y : MethodName} {cc : ByteArray} {L : Nat} {ret : Option FieldType} {cs sl pc : Nat} {lv : List (Nat × Value)} {st : List Value} {h : AH}
theorem x_ldcS {i idx : Nat} {tx : String} (hd : decode cc pc = .ok (.ldc idx, 2)) (hr : (y.cls, idx, tx, i) ∈ kRef) (kk : X G K y cc L ret cs sl (pc + 2) lv (.ref (gK G i) :: st) h) : X G K y cc L ret cs sl pc lv st h := fun p l e s m args below meth c locs H ls C R S V => va_ldcS C.1 C.2.1 C.2.2.2.1 (C.2.2.2.2.2.2.2.2.1.2.2.1 _ hr) hd (kk p l e s m args below meth c locs H ls C R S V)
theorem x_gSc {i idx : Nat} (hi : i < 14) (hd : decode cc pc = .ok (.getfield idx, 3)) (hl : tw (Cond.fieldLink y.cls idx "java/lang/String" "coder" "B")) (kk : X G K y cc L ret cs sl (pc + 3) lv (.int 0 :: st) h) : X G K y cc L ret cs sl pc lv (.ref (gK G i) :: st) h := fun p l e s m args below meth c locs H ls C R S V => vk_getf C.1 C.2.1 ((C.2.2.2.2.2.2.2.2.1.2.2.2.1.1 i hi).1 0 (by decide)).2.1 S C.2.2.2.1 (C.2.2.2.2.1 _ hl.mem) (fun _ q => q) hd (kk p l e s m args below meth c locs H ls C R S V)
theorem x_gSv {i idx : Nat} (hi : i < 14) (hd : decode cc pc = .ok (.getfield idx, 3)) (hl : tw (Cond.fieldLink y.cls idx "java/lang/String" "value" "[B")) (kk : X G K y cc L ret cs sl (pc + 3) lv (.ref (gV G i) :: st) h) : X G K y cc L ret cs sl pc lv (.ref (gK G i) :: st) h := fun p l e s m args below meth c locs H ls C R S V => vk_getf C.1 C.2.1 ((C.2.2.2.2.2.2.2.2.1.2.2.2.1.1 i hi).1 0 (by decide)).2.2.1 S C.2.2.2.1 (C.2.2.2.2.1 _ hl.mem) (fun _ q => q) hd (kk p l e s m args below meth c locs H ls C R S V)
theorem x_gCS {idx : Nat} (hd : decode cc pc = .ok (.getstatic idx, 3)) (hl : tw (Cond.fieldLink y.cls idx "java/lang/String" "COMPACT_STRINGS" "Z")) (kk : X G K y cc L ret cs sl (pc + 3) lv (.int 1 :: st) h) : X G K y cc L ret cs sl pc lv st h := fun p l e s m args below meth c locs H ls C R S V => va_gets C.1 C.2.1 C.2.2.2.2.2.2.2.2.1.2.2.2.1.2.1 S C.2.2.2.1 (C.2.2.2.2.1 _ hl.mem) (fun _ q => q) hd (kk p l e s m args below meth c locs H ls C R S V)
theorem x_gSI {idx : Nat} (hd : decode cc pc = .ok (.getstatic idx, 3)) (hl : tw (Cond.fieldLink y.cls idx "jdk/internal/util/Preconditions" "SIOOBE_FORMATTER" "Ljava/util/function/BiFunction;")) (k0 : X G K y cc L ret cs sl (pc + 3) lv (.null :: st) h) (k1 : ∀ t : Nat, X G K y cc L ret cs sl (pc + 3) lv (.ref t :: st) h) : X G K y cc L ret cs sl pc lv st h := by
  intro p l e s m args below meth c locs H ls C R S V
  rcases C.2.2.2.2.2.2.2.2.1.2.2.2.1.2.2 with hz | ⟨t, hz⟩
  · exact va_gets C.1 C.2.1 hz S C.2.2.2.1 (C.2.2.2.2.1 _ hl.mem) (fun _ q => q) hd (k0 p l e s m args below meth c locs H ls C R S V)
  · exact va_gets C.1 C.2.1 hz S C.2.2.2.1 (C.2.2.2.2.1 _ hl.mem) (fun _ q => q) hd (k1 t p l e s m args below meth c locs H ls C R S V)
theorem x_tb {i j : Nat} {v : Int32} (hi : i < 14) (hj : j < kTn i) (hn : kTn i < 2147483648) (hv : (kTb i).getD j 0 = v) (hd : decode cc pc = .ok (.baload, 1)) (kk : X G K y cc L ret cs sl (pc + 1) lv (.int v :: st) h) : X G K y cc L ret cs sl pc lv (.int (nI j) :: .ref (gV G i) :: st) h := fun p l e s m args below meth c locs H ls C R S V => va_tb C.1 C.2.1 ((C.2.2.2.2.2.2.2.2.1.2.2.2.1.1 i hi).1 0 (by decide)).2.2.2 S (vp_in_nI hj hn) (v := .int v) (by rw [nI_clamp (Nat.lt_trans hj hn)]; show Value.int ((kTb i).getD j 0) = _; rw [hv]) hd (kk p l e s m args below meth c locs H ls C R S V)
theorem x_tlen {i : Nat} (hi : i < 14) (hd : decode cc pc = .ok (.arraylength, 1)) (kk : X G K y cc L ret cs sl (pc + 1) lv (.int (nI (kTn i)) :: st) h) : X G K y cc L ret cs sl pc lv (.ref (gV G i) :: st) h := fun p l e s m args below meth c locs H ls C R S V => va_tlen C.1 C.2.1 ((C.2.2.2.2.2.2.2.2.1.2.2.2.1.1 i hi).1 0 (by decide)).2.2.2 S (v := nI (kTn i)) rfl hd (kk p l e s m args below meth c locs H ls C R S V)
theorem x_i2c {x v : Int32} (hd : decode cc pc = .ok (.i2c, 1)) (hv : (x.toUInt32 % 65536).toInt32 = v) (k : X G K y cc L ret cs sl (pc + 1) lv (.int v :: st) h) : X G K y cc L ret cs sl pc lv (.int x :: st) h := fun p l e s m args below meth c locs H ls C R S V => lv_i2c C.1 C.2.1 hd hv (k p l e s m args below meth c locs H ls C R S V)
theorem x_callT {y' : MethodName} {cc' : ByteArray} {L' n d' mc' ms' idx i : Nat} {ret' : Option FieldType} {As rest : List Value} {Q' : Option Value → AH → Prop} (hi : i < 14) (hA : AM G d' mc' ms' y' cc' L' ret' (.ref (gK G i) :: As) h Q') (hd : decode cc pc = .ok (.invokevirtual idx, 3)) (hc : CRc y' cc' L' ret' n) (hv : VC y.cls idx y') (hcy : y'.cls = "java/lang/String") (hn : As.length = n) (hst : st = As.reverse ++ .ref (gK G i) :: rest) (hW : (rest.map fun v => v.category).sum ≤ 8) (hroom : roomy K d' L') (hcs : cs + mc' ≤ K.1.cells) (hsl : sl + ms' ≤ K.1.slots)
    (k : ∀ v h', Q' v h' → X G K y cc L ret (cs + mc') (sl + ms') (pc + 3) lv (v.toList ++ rest) h') : X G K y cc L ret cs sl pc lv st h := by
  subst hst
  intro p l e s m args below meth c locs H ls C R S V
  have hts := C.2.2.2.2.1
  have hrecv := vk_recv (C.2.2.2.2.2.2.2.2.1.2.2.2.1.1 i hi) (i := 0) (by decide) S
  rw [← hcy] at hrecv
  rcases hv.1 with hl | hl
  · refine x_behind (va_runV (As := As) (rest := rest) (b := gK G i) (C := y'.cls) (index := idx) (n := n) ⟨C.1, C.2.1, rfl, C.2.2.2.1, hts⟩ (hA l) ⟨callB_of n hts (good_code hc) rfl rfl rfl (hts _ hc.2.1.mem) (hts _ hl.mem) ⟨hc.2.2.1, hc.2.2.2.1, hc.2.2.2.2⟩ hroom, hts _ hv.2.1.mem, hts _ hv.2.2.mem⟩ ⟨blind, hrecv, pre_of C R S⟩ rfl hn (V.1.trans C.2.2.1.symm) rfl (by show 2 * 0 + _ ≤ 8; omega) hd ⟨hcs, hsl⟩) C S V k
  · refine x_behind (va_runVN (host := "Sandcastles") (As := As) (rest := rest) (b := gK G i) (C := y'.cls) (index := idx) (n := n) ⟨C.1, C.2.1, rfl, C.2.2.2.1, hts⟩ (hA l) ⟨va_cnB n hts (good_code hc) rfl rfl rfl (C.2.2.2.2.2.2.2.2.1.2.1 _ hl rfl) (hts _ hc.2.1.mem) ⟨hc.2.2.1, hc.2.2.2.1, hc.2.2.2.2⟩ hroom, hts _ hv.2.1.mem, hts _ hv.2.2.mem⟩ ⟨blind, hrecv, pre_of C R S⟩ rfl hn (V.1.trans C.2.2.1.symm) rfl (by show 2 * 0 + _ ≤ 8; omega) hd ⟨hcs, hsl⟩) C S V k
theorem osw_off {x : Int32} {d : Int} : ∀ {l : List (Int × Int)}, (∀ q ∈ l, ¬ x.toInt = q.1) → Op.lookupswitch.offset l d x.toInt = d
  | [], _ => rfl
  | (a, o) :: r, h => by
    rw [Op.lookupswitch.offset_cons, if_neg (fun e => h (a, o) (List.mem_cons_self ..) e.symm)]
    exact osw_off (fun q hq => h q (List.mem_cons_of_mem _ hq))
theorem osw_on {x : Int32} {d : Int} : ∀ {l : List (Int × Int)}, ¬ (∀ q ∈ l, ¬ x.toInt = q.1) → ∃ q ∈ l, x.toInt = q.1 ∧ Op.lookupswitch.offset l d x.toInt = q.2
  | [], h => absurd (fun q hq => absurd hq List.not_mem_nil) h
  | (a, o) :: r, h => by
    by_cases e : x.toInt = a
    · exact ⟨(a, o), List.mem_cons_self .., e, by rw [Op.lookupswitch.offset_cons, if_pos e.symm]⟩
    · obtain ⟨q, hq, q1, q2⟩ := osw_on (d := d) (l := r) (fun z => h (fun q hq => by
        rcases List.mem_cons.mp hq with w | w
        · rw [w]; exact e
        · exact z q w))
      exact ⟨q, List.mem_cons_of_mem _ hq, q1, by rw [Op.lookupswitch.offset_cons, if_neg (fun z => e z.symm)]; exact q2⟩
/-- a lookupswitch, case by case -/
theorem x_lsc {dflt : Int} {ps : Array (Int × Int)} {len : Nat} {x : Int32} (tgt : Nat) (hd : decode cc pc = .ok (.lookupswitch dflt ps, len)) (hp : (ps.toList.zip (ps.toList.drop 1)).all (fun (a, next) => a.1 < next.1) = true) (ht : (pc : Int) + dflt = (tgt : Int)) (hb : ps.toList.all (fun q => decide (-2147483648 ≤ q.1) && decide (q.1 < 2147483648) && decide (0 ≤ (pc : Int) + q.2)) = true) (ho : (∀ q ∈ ps.toList, ¬ x = Int32.ofInt q.1) → X G K y cc L ret cs sl tgt lv st h) (hin : ∀ q ∈ ps.toList, x = Int32.ofInt q.1 → X G K y cc L ret cs sl ((pc : Int) + q.2).toNat lv st h) : X G K y cc L ret cs sl pc lv (.int x :: st) h := by
  have hb' : ∀ q ∈ ps.toList, (-2147483648 ≤ q.1 ∧ q.1 < 2147483648) ∧ 0 ≤ (pc : Int) + q.2 := by
    intro q hq
    have := List.all_eq_true.mp hb q hq
    simpa only [Bool.and_eq_true, decide_eq_true_eq] using this
  by_cases hx : ∀ q ∈ ps.toList, ¬ x.toInt = q.1
  · exact x_lsw hd hp (osw_off hx) ht (ho (fun q hq e1 => hx q hq (by rw [e1]; exact toInt_ofInt (hb' q hq).1.1 (hb' q hq).1.2)))
  · obtain ⟨q, hq, q1, q2⟩ := osw_on (d := dflt) hx
    refine x_lsw hd hp q2 (by have := (hb' q hq).2; omega) (hin q hq ?_)
    apply Int32.toInt_inj.mp
    rw [toInt_ofInt (hb' q hq).1.1 (hb' q hq).1.2]
    exact q1
end
theorem dJ0_length_8abf5_0 : decode cJ0_length_8abf5 0 = .ok (.aload_n 0, 1) := by decide +kernel
theorem dJ0_length_8abf5_1 : decode cJ0_length_8abf5 1 = .ok (.getfield 9, 3) := by decide +kernel
theorem dJ0_length_8abf5_4 : decode cJ0_length_8abf5 4 = .ok (.arraylength, 1) := by decide +kernel
theorem dJ0_length_8abf5_5 : decode cJ0_length_8abf5 5 = .ok (.aload_n 0, 1) := by decide +kernel
theorem dJ0_length_8abf5_6 : decode cJ0_length_8abf5 6 = .ok (.invokevirtual 335, 3) := by decide +kernel
theorem dJ0_length_8abf5_9 : decode cJ0_length_8abf5 9 = .ok (.ishr, 1) := by decide +kernel
theorem dJ0_length_8abf5_10 : decode cJ0_length_8abf5 10 = .ok (.ireturn, 1) := by decide +kernel
theorem dJ0_coder_7d493_0 : decode cJ0_coder_7d493 0 = .ok (.getstatic 38, 3) := by decide +kernel
theorem dJ0_coder_7d493_3 : decode cJ0_coder_7d493 3 = .ok (.ifCond .eq 10, 3) := by decide +kernel
theorem dJ0_coder_7d493_6 : decode cJ0_coder_7d493 6 = .ok (.aload_n 0, 1) := by decide +kernel
theorem dJ0_coder_7d493_7 : decode cJ0_coder_7d493 7 = .ok (.getfield 15, 3) := by decide +kernel
theorem dJ0_coder_7d493_10 : decode cJ0_coder_7d493 10 = .ok (.goto 4, 3) := by decide +kernel
theorem dJ0_coder_7d493_13 : decode cJ0_coder_7d493 13 = .ok (.iconst 1, 1) := by decide +kernel
theorem dJ0_coder_7d493_14 : decode cJ0_coder_7d493 14 = .ok (.ireturn, 1) := by decide +kernel
theorem dJ0_charAt_5068e_0 : decode cJ0_charAt_5068e 0 = .ok (.aload_n 0, 1) := by decide +kernel
theorem dJ0_charAt_5068e_1 : decode cJ0_charAt_5068e 1 = .ok (.invokevirtual 492, 3) := by decide +kernel
theorem dJ0_charAt_5068e_4 : decode cJ0_charAt_5068e 4 = .ok (.ifCond .eq 12, 3) := by decide +kernel
theorem dJ0_charAt_5068e_7 : decode cJ0_charAt_5068e 7 = .ok (.aload_n 0, 1) := by decide +kernel
theorem dJ0_charAt_5068e_8 : decode cJ0_charAt_5068e 8 = .ok (.getfield 9, 3) := by decide +kernel
theorem dJ0_charAt_5068e_11 : decode cJ0_charAt_5068e 11 = .ok (.iload_n 1, 1) := by decide +kernel
theorem dJ0_charAt_5068e_12 : decode cJ0_charAt_5068e 12 = .ok (.invokestatic 495, 3) := by decide +kernel
theorem dJ0_charAt_5068e_15 : decode cJ0_charAt_5068e 15 = .ok (.ireturn, 1) := by decide +kernel
theorem dJ0_charAt_5068e_16 : decode cJ0_charAt_5068e 16 = .ok (.aload_n 0, 1) := by decide +kernel
theorem dJ0_charAt_5068e_17 : decode cJ0_charAt_5068e 17 = .ok (.getfield 9, 3) := by decide +kernel
theorem dJ0_charAt_5068e_20 : decode cJ0_charAt_5068e 20 = .ok (.iload_n 1, 1) := by decide +kernel
theorem dJ0_charAt_5068e_21 : decode cJ0_charAt_5068e 21 = .ok (.invokestatic 498, 3) := by decide +kernel
theorem dJ0_charAt_5068e_24 : decode cJ0_charAt_5068e 24 = .ok (.ireturn, 1) := by decide +kernel
theorem dJ0_isLatin1_aae02_0 : decode cJ0_isLatin1_aae02 0 = .ok (.getstatic 38, 3) := by decide +kernel
theorem dJ0_isLatin1_aae02_3 : decode cJ0_isLatin1_aae02 3 = .ok (.ifCond .eq 14, 3) := by decide +kernel
theorem dJ0_isLatin1_aae02_6 : decode cJ0_isLatin1_aae02 6 = .ok (.aload_n 0, 1) := by decide +kernel
theorem dJ0_isLatin1_aae02_7 : decode cJ0_isLatin1_aae02 7 = .ok (.getfield 15, 3) := by decide +kernel
theorem dJ0_isLatin1_aae02_10 : decode cJ0_isLatin1_aae02 10 = .ok (.ifCond .ne 7, 3) := by decide +kernel
theorem dJ0_isLatin1_aae02_13 : decode cJ0_isLatin1_aae02 13 = .ok (.iconst 1, 1) := by decide +kernel
theorem dJ0_isLatin1_aae02_14 : decode cJ0_isLatin1_aae02 14 = .ok (.goto 4, 3) := by decide +kernel
theorem dJ0_isLatin1_aae02_17 : decode cJ0_isLatin1_aae02 17 = .ok (.iconst 0, 1) := by decide +kernel
theorem dJ0_isLatin1_aae02_18 : decode cJ0_isLatin1_aae02 18 = .ok (.ireturn, 1) := by decide +kernel
theorem dJ1_charAt_3b067_0 : decode cJ1_charAt_3b067 0 = .ok (.iload_n 1, 1) := by decide +kernel
theorem dJ1_charAt_3b067_1 : decode cJ1_charAt_3b067 1 = .ok (.aload_n 0, 1) := by decide +kernel
theorem dJ1_charAt_3b067_2 : decode cJ1_charAt_3b067 2 = .ok (.arraylength, 1) := by decide +kernel
theorem dJ1_charAt_3b067_3 : decode cJ1_charAt_3b067 3 = .ok (.invokestatic 9, 3) := by decide +kernel
theorem dJ1_charAt_3b067_6 : decode cJ1_charAt_3b067 6 = .ok (.aload_n 0, 1) := by decide +kernel
theorem dJ1_charAt_3b067_7 : decode cJ1_charAt_3b067 7 = .ok (.iload_n 1, 1) := by decide +kernel
theorem dJ1_charAt_3b067_8 : decode cJ1_charAt_3b067 8 = .ok (.baload, 1) := by decide +kernel
theorem dJ1_charAt_3b067_9 : decode cJ1_charAt_3b067 9 = .ok (.sipush 255, 3) := by decide +kernel
theorem dJ1_charAt_3b067_12 : decode cJ1_charAt_3b067 12 = .ok (.iand, 1) := by decide +kernel
theorem dJ1_charAt_3b067_13 : decode cJ1_charAt_3b067 13 = .ok (.i2c, 1) := by decide +kernel
theorem dJ1_charAt_3b067_14 : decode cJ1_charAt_3b067 14 = .ok (.ireturn, 1) := by decide +kernel
theorem dJ0_checkIndex_df160_0 : decode cJ0_checkIndex_df160 0 = .ok (.iload_n 0, 1) := by decide +kernel
theorem dJ0_checkIndex_df160_1 : decode cJ0_checkIndex_df160 1 = .ok (.iload_n 1, 1) := by decide +kernel
theorem dJ0_checkIndex_df160_2 : decode cJ0_checkIndex_df160 2 = .ok (.getstatic 1053, 3) := by decide +kernel
theorem dJ0_checkIndex_df160_5 : decode cJ0_checkIndex_df160 5 = .ok (.invokestatic 1059, 3) := by decide +kernel
theorem dJ0_checkIndex_df160_8 : decode cJ0_checkIndex_df160 8 = .ok (.pop, 1) := by decide +kernel
theorem dJ0_checkIndex_df160_9 : decode cJ0_checkIndex_df160 9 = .ok (.return_, 1) := by decide +kernel
theorem dJ3_checkIndex_8e157_0 : decode cJ3_checkIndex_8e157 0 = .ok (.iload_n 0, 1) := by decide +kernel
theorem dJ3_checkIndex_8e157_1 : decode cJ3_checkIndex_8e157 1 = .ok (.ifCond .lt 8, 3) := by decide +kernel
theorem dJ3_checkIndex_8e157_4 : decode cJ3_checkIndex_8e157 4 = .ok (.iload_n 0, 1) := by decide +kernel
theorem dJ3_checkIndex_8e157_5 : decode cJ3_checkIndex_8e157 5 = .ok (.iload_n 1, 1) := by decide +kernel
theorem dJ3_checkIndex_8e157_6 : decode cJ3_checkIndex_8e157 6 = .ok (.if_icmp .lt 10, 3) := by decide +kernel
theorem dJ3_checkIndex_8e157_9 : decode cJ3_checkIndex_8e157 9 = .ok (.aload_n 2, 1) := by decide +kernel
theorem dJ3_checkIndex_8e157_10 : decode cJ3_checkIndex_8e157 10 = .ok (.iload_n 0, 1) := by decide +kernel
theorem dJ3_checkIndex_8e157_11 : decode cJ3_checkIndex_8e157 11 = .ok (.iload_n 1, 1) := by decide +kernel
theorem dJ3_checkIndex_8e157_12 : decode cJ3_checkIndex_8e157 12 = .ok (.invokestatic 95, 3) := by decide +kernel
theorem dJ3_checkIndex_8e157_15 : decode cJ3_checkIndex_8e157 15 = .ok (.athrow, 1) := by decide +kernel
theorem dJ3_checkIndex_8e157_16 : decode cJ3_checkIndex_8e157 16 = .ok (.iload_n 0, 1) := by decide +kernel
theorem dJ3_checkIndex_8e157_17 : decode cJ3_checkIndex_8e157 17 = .ok (.ireturn, 1) := by decide +kernel
theorem dJ0_indexOf_0f7a4_0 : decode cJ0_indexOf_0f7a4 0 = .ok (.aload_n 0, 1) := by decide +kernel
theorem dJ0_indexOf_0f7a4_1 : decode cJ0_indexOf_0f7a4 1 = .ok (.iload_n 1, 1) := by decide +kernel
theorem dJ0_indexOf_0f7a4_2 : decode cJ0_indexOf_0f7a4 2 = .ok (.iconst 0, 1) := by decide +kernel
theorem dJ0_indexOf_0f7a4_3 : decode cJ0_indexOf_0f7a4 3 = .ok (.invokevirtual 633, 3) := by decide +kernel
theorem dJ0_indexOf_0f7a4_6 : decode cJ0_indexOf_0f7a4 6 = .ok (.ireturn, 1) := by decide +kernel
theorem dJ0_indexOf_7cf53_0 : decode cJ0_indexOf_7cf53 0 = .ok (.aload_n 0, 1) := by decide +kernel
theorem dJ0_indexOf_7cf53_1 : decode cJ0_indexOf_7cf53 1 = .ok (.invokevirtual 492, 3) := by decide +kernel
theorem dJ0_indexOf_7cf53_4 : decode cJ0_indexOf_7cf53 4 = .ok (.ifCond .eq 19, 3) := by decide +kernel
theorem dJ0_indexOf_7cf53_7 : decode cJ0_indexOf_7cf53 7 = .ok (.aload_n 0, 1) := by decide +kernel
theorem dJ0_indexOf_7cf53_8 : decode cJ0_indexOf_7cf53 8 = .ok (.getfield 9, 3) := by decide +kernel
theorem dJ0_indexOf_7cf53_11 : decode cJ0_indexOf_7cf53 11 = .ok (.iload_n 1, 1) := by decide +kernel
theorem dJ0_indexOf_7cf53_12 : decode cJ0_indexOf_7cf53 12 = .ok (.iload_n 2, 1) := by decide +kernel
theorem dJ0_indexOf_7cf53_13 : decode cJ0_indexOf_7cf53 13 = .ok (.aload_n 0, 1) := by decide +kernel
theorem dJ0_indexOf_7cf53_14 : decode cJ0_indexOf_7cf53 14 = .ok (.invokevirtual 505, 3) := by decide +kernel
theorem dJ0_indexOf_7cf53_17 : decode cJ0_indexOf_7cf53 17 = .ok (.invokestatic 637, 3) := by decide +kernel
theorem dJ0_indexOf_7cf53_20 : decode cJ0_indexOf_7cf53 20 = .ok (.goto 16, 3) := by decide +kernel
theorem dJ0_indexOf_7cf53_23 : decode cJ0_indexOf_7cf53 23 = .ok (.aload_n 0, 1) := by decide +kernel
theorem dJ0_indexOf_7cf53_24 : decode cJ0_indexOf_7cf53 24 = .ok (.getfield 9, 3) := by decide +kernel
theorem dJ0_indexOf_7cf53_27 : decode cJ0_indexOf_7cf53 27 = .ok (.iload_n 1, 1) := by decide +kernel
theorem dJ0_indexOf_7cf53_28 : decode cJ0_indexOf_7cf53 28 = .ok (.iload_n 2, 1) := by decide +kernel
theorem dJ0_indexOf_7cf53_29 : decode cJ0_indexOf_7cf53 29 = .ok (.aload_n 0, 1) := by decide +kernel
theorem dJ0_indexOf_7cf53_30 : decode cJ0_indexOf_7cf53 30 = .ok (.invokevirtual 505, 3) := by decide +kernel
theorem dJ0_indexOf_7cf53_33 : decode cJ0_indexOf_7cf53 33 = .ok (.invokestatic 640, 3) := by decide +kernel
theorem dJ0_indexOf_7cf53_36 : decode cJ0_indexOf_7cf53 36 = .ok (.ireturn, 1) := by decide +kernel
theorem dJ1_indexOf_4cfef_0 : decode cJ1_indexOf_4cfef 0 = .ok (.iload_n 1, 1) := by decide +kernel
theorem dJ1_indexOf_4cfef_1 : decode cJ1_indexOf_4cfef 1 = .ok (.invokestatic 88, 3) := by decide +kernel
theorem dJ1_indexOf_4cfef_4 : decode cJ1_indexOf_4cfef 4 = .ok (.ifCond .ne 5, 3) := by decide +kernel
theorem dJ1_indexOf_4cfef_7 : decode cJ1_indexOf_4cfef 7 = .ok (.iconst (-1), 1) := by decide +kernel
theorem dJ1_indexOf_4cfef_8 : decode cJ1_indexOf_4cfef 8 = .ok (.ireturn, 1) := by decide +kernel
theorem dJ1_indexOf_4cfef_9 : decode cJ1_indexOf_4cfef 9 = .ok (.iload_n 2, 1) := by decide +kernel
theorem dJ1_indexOf_4cfef_10 : decode cJ1_indexOf_4cfef 10 = .ok (.iconst 0, 1) := by decide +kernel
theorem dJ1_indexOf_4cfef_11 : decode cJ1_indexOf_4cfef 11 = .ok (.invokestatic 92, 3) := by decide +kernel
theorem dJ1_indexOf_4cfef_14 : decode cJ1_indexOf_4cfef 14 = .ok (.istore_n 2, 1) := by decide +kernel
theorem dJ1_indexOf_4cfef_15 : decode cJ1_indexOf_4cfef 15 = .ok (.iload_n 3, 1) := by decide +kernel
theorem dJ1_indexOf_4cfef_16 : decode cJ1_indexOf_4cfef 16 = .ok (.aload_n 0, 1) := by decide +kernel
theorem dJ1_indexOf_4cfef_17 : decode cJ1_indexOf_4cfef 17 = .ok (.arraylength, 1) := by decide +kernel
theorem dJ1_indexOf_4cfef_18 : decode cJ1_indexOf_4cfef 18 = .ok (.invokestatic 38, 3) := by decide +kernel
theorem dJ1_indexOf_4cfef_21 : decode cJ1_indexOf_4cfef 21 = .ok (.istore_n 3, 1) := by decide +kernel
theorem dJ1_indexOf_4cfef_22 : decode cJ1_indexOf_4cfef 22 = .ok (.iload_n 2, 1) := by decide +kernel
theorem dJ1_indexOf_4cfef_23 : decode cJ1_indexOf_4cfef 23 = .ok (.iload_n 3, 1) := by decide +kernel
theorem dJ1_indexOf_4cfef_24 : decode cJ1_indexOf_4cfef 24 = .ok (.if_icmp .lt 5, 3) := by decide +kernel
theorem dJ1_indexOf_4cfef_27 : decode cJ1_indexOf_4cfef 27 = .ok (.iconst (-1), 1) := by decide +kernel
theorem dJ1_indexOf_4cfef_28 : decode cJ1_indexOf_4cfef 28 = .ok (.ireturn, 1) := by decide +kernel
theorem dJ1_indexOf_4cfef_29 : decode cJ1_indexOf_4cfef 29 = .ok (.aload_n 0, 1) := by decide +kernel
theorem dJ1_indexOf_4cfef_30 : decode cJ1_indexOf_4cfef 30 = .ok (.iload_n 1, 1) := by decide +kernel
theorem dJ1_indexOf_4cfef_31 : decode cJ1_indexOf_4cfef 31 = .ok (.iload_n 2, 1) := by decide +kernel
theorem dJ1_indexOf_4cfef_32 : decode cJ1_indexOf_4cfef 32 = .ok (.iload_n 3, 1) := by decide +kernel
theorem dJ1_indexOf_4cfef_33 : decode cJ1_indexOf_4cfef 33 = .ok (.invokestatic 95, 3) := by decide +kernel
theorem dJ1_indexOf_4cfef_36 : decode cJ1_indexOf_4cfef 36 = .ok (.ireturn, 1) := by decide +kernel
theorem dJ1_indexOfChar_4cfef_0 : decode cJ1_indexOfChar_4cfef 0 = .ok (.iload_n 1, 1) := by decide +kernel
theorem dJ1_indexOfChar_4cfef_1 : decode cJ1_indexOfChar_4cfef 1 = .ok (.i2b, 1) := by decide +kernel
theorem dJ1_indexOfChar_4cfef_2 : decode cJ1_indexOfChar_4cfef 2 = .ok (.istore 4, 2) := by decide +kernel
theorem dJ1_indexOfChar_4cfef_4 : decode cJ1_indexOfChar_4cfef 4 = .ok (.iload_n 2, 1) := by decide +kernel
theorem dJ1_indexOfChar_4cfef_5 : decode cJ1_indexOfChar_4cfef 5 = .ok (.istore 5, 2) := by decide +kernel
theorem dJ1_indexOfChar_4cfef_7 : decode cJ1_indexOfChar_4cfef 7 = .ok (.iload 5, 2) := by decide +kernel
theorem dJ1_indexOfChar_4cfef_9 : decode cJ1_indexOfChar_4cfef 9 = .ok (.iload_n 3, 1) := by decide +kernel
theorem dJ1_indexOfChar_4cfef_10 : decode cJ1_indexOfChar_4cfef 10 = .ok (.if_icmp .ge 21, 3) := by decide +kernel
theorem dJ1_indexOfChar_4cfef_13 : decode cJ1_indexOfChar_4cfef 13 = .ok (.aload_n 0, 1) := by decide +kernel
theorem dJ1_indexOfChar_4cfef_14 : decode cJ1_indexOfChar_4cfef 14 = .ok (.iload 5, 2) := by decide +kernel
theorem dJ1_indexOfChar_4cfef_16 : decode cJ1_indexOfChar_4cfef 16 = .ok (.baload, 1) := by decide +kernel
theorem dJ1_indexOfChar_4cfef_17 : decode cJ1_indexOfChar_4cfef 17 = .ok (.iload 4, 2) := by decide +kernel
theorem dJ1_indexOfChar_4cfef_19 : decode cJ1_indexOfChar_4cfef 19 = .ok (.if_icmp .ne 6, 3) := by decide +kernel
theorem dJ1_indexOfChar_4cfef_22 : decode cJ1_indexOfChar_4cfef 22 = .ok (.iload 5, 2) := by decide +kernel
theorem dJ1_indexOfChar_4cfef_24 : decode cJ1_indexOfChar_4cfef 24 = .ok (.ireturn, 1) := by decide +kernel
theorem dJ1_indexOfChar_4cfef_25 : decode cJ1_indexOfChar_4cfef 25 = .ok (.iinc 5 1, 3) := by decide +kernel
theorem dJ1_indexOfChar_4cfef_28 : decode cJ1_indexOfChar_4cfef 28 = .ok (.goto (-21), 3) := by decide +kernel
theorem dJ1_indexOfChar_4cfef_31 : decode cJ1_indexOfChar_4cfef 31 = .ok (.iconst (-1), 1) := by decide +kernel
theorem dJ1_indexOfChar_4cfef_32 : decode cJ1_indexOfChar_4cfef 32 = .ok (.ireturn, 1) := by decide +kernel
theorem dJ1_canEncode_9a6ad_0 : decode cJ1_canEncode_9a6ad 0 = .ok (.iload_n 0, 1) := by decide +kernel
theorem dJ1_canEncode_9a6ad_1 : decode cJ1_canEncode_9a6ad 1 = .ok (.ifCond .lt 14, 3) := by decide +kernel
theorem dJ1_canEncode_9a6ad_4 : decode cJ1_canEncode_9a6ad 4 = .ok (.iload_n 0, 1) := by decide +kernel
theorem dJ1_canEncode_9a6ad_5 : decode cJ1_canEncode_9a6ad 5 = .ok (.sipush 255, 3) := by decide +kernel
theorem dJ1_canEncode_9a6ad_8 : decode cJ1_canEncode_9a6ad 8 = .ok (.if_icmp .gt 7, 3) := by decide +kernel
theorem dJ1_canEncode_9a6ad_11 : decode cJ1_canEncode_9a6ad 11 = .ok (.iconst 1, 1) := by decide +kernel
theorem dJ1_canEncode_9a6ad_12 : decode cJ1_canEncode_9a6ad 12 = .ok (.goto 4, 3) := by decide +kernel
theorem dJ1_canEncode_9a6ad_15 : decode cJ1_canEncode_9a6ad 15 = .ok (.iconst 0, 1) := by decide +kernel
theorem dJ1_canEncode_9a6ad_16 : decode cJ1_canEncode_9a6ad 16 = .ok (.ireturn, 1) := by decide +kernel
