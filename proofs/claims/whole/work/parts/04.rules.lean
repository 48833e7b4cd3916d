section
variable {G : GG} {K : XK} {y : MethodName} {cc : ByteArray} {L : Nat} {ret : Option FieldType} {cs sl pc : Nat} {lv : List (Nat × Value)} {st : List Value} {h : AH}
theorem x_iconst {n : Int} {v : Int32} (hd : decode cc pc = .ok (.iconst n, 1)) (hv : Int32.ofInt n = v) (k : X G K y cc L ret cs sl (pc + 1) lv (.int v :: st) h) : X G K y cc L ret cs sl pc lv st h := fun p l e s m args below meth c locs H ls C R S V => lv_iconst C.1 C.2.1 hd hv (k p l e s m args below meth c locs H ls C R S V)
theorem x_bipush {n : Int} {v : Int32} (hd : decode cc pc = .ok (.bipush n, 2)) (hv : (Int8.ofInt n).toInt32 = v) (k : X G K y cc L ret cs sl (pc + 2) lv (.int v :: st) h) : X G K y cc L ret cs sl pc lv st h := fun p l e s m args below meth c locs H ls C R S V => lv_bipush C.1 C.2.1 hd hv (k p l e s m args below meth c locs H ls C R S V)
theorem x_sipush {n : Int} {v : Int32} (hd : decode cc pc = .ok (.sipush n, 3)) (hv : (Int16.ofInt n).toInt32 = v) (k : X G K y cc L ret cs sl (pc + 3) lv (.int v :: st) h) : X G K y cc L ret cs sl pc lv st h := fun p l e s m args below meth c locs H ls C R S V => lv_sipush C.1 C.2.1 hd hv (k p l e s m args below meth c locs H ls C R S V)
theorem x_lconst {n : Fin 2} {v : Int64} (hd : decode cc pc = .ok (.lconst n, 1)) (hv : Int64.ofNat (n : Nat) = v) (k : X G K y cc L ret cs sl (pc + 1) lv (.long v :: st) h) : X G K y cc L ret cs sl pc lv st h := fun p l e s m args below meth c locs H ls C R S V => lv_lconst C.1 C.2.1 hd hv (k p l e s m args below meth c locs H ls C R S V)
theorem x_null  (hd : decode cc pc = .ok (.aconst_null, 1))  (k : X G K y cc L ret cs sl (pc + 1) lv (.null :: st) h) : X G K y cc L ret cs sl pc lv st h := fun p l e s m args below meth c locs H ls C R S V => lv_null C.1 C.2.1 hd  (k p l e s m args below meth c locs H ls C R S V)
theorem x_ldc {index : Nat} {v : Int32} (hd : decode cc pc = .ok (.ldc index, 2)) (hw : tw (Cond.constant y.cls index v)) (k : X G K y cc L ret cs sl (pc + 2) lv (.int v :: st) h) : X G K y cc L ret cs sl pc lv st h := fun p l e s m args below meth c locs H ls C R S V => lv_ldc C.1 C.2.1 C.2.2.2.1 (C.2.2.2.2.1 _ hw.mem) hd (k p l e s m args below meth c locs H ls C R S V)
theorem x_ldcw {index : Nat} {v : Int32} (hd : decode cc pc = .ok (.ldc_w index, 3)) (hw : tw (Cond.constant y.cls index v)) (k : X G K y cc L ret cs sl (pc + 3) lv (.int v :: st) h) : X G K y cc L ret cs sl pc lv st h := fun p l e s m args below meth c locs H ls C R S V => lv_ldcw C.1 C.2.1 C.2.2.2.1 (C.2.2.2.2.1 _ hw.mem) hd (k p l e s m args below meth c locs H ls C R S V)
theorem x_ldc2 {index : Nat} {v : Int64} (hd : decode cc pc = .ok (.ldc2_w index, 3)) (hw : tw (Cond.constantLong y.cls index v)) (k : X G K y cc L ret cs sl (pc + 3) lv (.long v :: st) h) : X G K y cc L ret cs sl pc lv st h := fun p l e s m args below meth c locs H ls C R S V => lv_ldc2 C.1 C.2.1 C.2.2.2.1 (C.2.2.2.2.1 _ hw.mem) hd (k p l e s m args below meth c locs H ls C R S V)
theorem x_iload_n {k : Fin 4} {i : Nat} {x : Int32} (hd : decode cc pc = .ok (.iload_n k, 1)) (j : Nat) (hi : (k : Nat) = i) (hl : lv[j]? = some (i, .int x)) (kk : X G K y cc L ret cs sl (pc + 1) lv (.int x :: st) h) : X G K y cc L ret cs sl pc lv st h := fun p l e s m args below meth c locs H ls C R S V => lv_iload_n C.1 C.2.1 hd hi (lv_at V j hl) (kk p l e s m args below meth c locs H ls C R S V)
theorem x_iload {i : Nat} {x : Int32} (hd : decode cc pc = .ok (.iload i, 2)) (j : Nat)  (hl : lv[j]? = some (i, .int x)) (kk : X G K y cc L ret cs sl (pc + 2) lv (.int x :: st) h) : X G K y cc L ret cs sl pc lv st h := fun p l e s m args below meth c locs H ls C R S V => lv_iload C.1 C.2.1 hd  (lv_at V j hl) (kk p l e s m args below meth c locs H ls C R S V)
theorem x_aload_n {k : Fin 4} {i : Nat} {x : Nat} (hd : decode cc pc = .ok (.aload_n k, 1)) (j : Nat) (hi : (k : Nat) = i) (hl : lv[j]? = some (i, .ref x)) (kk : X G K y cc L ret cs sl (pc + 1) lv (.ref x :: st) h) : X G K y cc L ret cs sl pc lv st h := fun p l e s m args below meth c locs H ls C R S V => lv_aload_n C.1 C.2.1 hd hi (lv_at V j hl) (kk p l e s m args below meth c locs H ls C R S V)
theorem x_aload {i : Nat} {x : Nat} (hd : decode cc pc = .ok (.aload i, 2)) (j : Nat)  (hl : lv[j]? = some (i, .ref x)) (kk : X G K y cc L ret cs sl (pc + 2) lv (.ref x :: st) h) : X G K y cc L ret cs sl pc lv st h := fun p l e s m args below meth c locs H ls C R S V => lv_aload C.1 C.2.1 hd  (lv_at V j hl) (kk p l e s m args below meth c locs H ls C R S V)
theorem x_lload_n {k : Fin 4} {i : Nat} {x : Int64} (hd : decode cc pc = .ok (.lload_n k, 1)) (j : Nat) (hi : (k : Nat) = i) (hl : lv[j]? = some (i, .long x)) (kk : X G K y cc L ret cs sl (pc + 1) lv (.long x :: st) h) : X G K y cc L ret cs sl pc lv st h := fun p l e s m args below meth c locs H ls C R S V => lv_lload_n C.1 C.2.1 hd hi (lv_at V j hl) (kk p l e s m args below meth c locs H ls C R S V)
theorem x_lload {i : Nat} {x : Int64} (hd : decode cc pc = .ok (.lload i, 2)) (j : Nat)  (hl : lv[j]? = some (i, .long x)) (kk : X G K y cc L ret cs sl (pc + 2) lv (.long x :: st) h) : X G K y cc L ret cs sl pc lv st h := fun p l e s m args below meth c locs H ls C R S V => lv_lload C.1 C.2.1 hd  (lv_at V j hl) (kk p l e s m args below meth c locs H ls C R S V)
theorem x_aload_nN {k : Fin 4} {i : Nat} (hd : decode cc pc = .ok (.aload_n k, 1)) (j : Nat) (hi : (k : Nat) = i) (hl : lv[j]? = some (i, .null)) (kk : X G K y cc L ret cs sl (pc + 1) lv (.null :: st) h) : X G K y cc L ret cs sl pc lv st h := fun p l e s m args below meth c locs H ls C R S V => lv_aload_nN C.1 C.2.1 hd hi (lv_at V j hl) (kk p l e s m args below meth c locs H ls C R S V)
theorem x_aloadN {i : Nat} (hd : decode cc pc = .ok (.aload i, 2)) (j : Nat) (hl : lv[j]? = some (i, .null)) (kk : X G K y cc L ret cs sl (pc + 2) lv (.null :: st) h) : X G K y cc L ret cs sl pc lv st h := fun p l e s m args below meth c locs H ls C R S V => lv_aloadN C.1 C.2.1 hd (lv_at V j hl) (kk p l e s m args below meth c locs H ls C R S V)
theorem x_istore_n {k : Fin 4} {i : Nat} {x : Int32} {lv' : List (Nat × Value)} (hd : decode cc pc = .ok (.istore_n k, 1)) (hi : (k : Nat) = i) (hn : i < L) (hl : (i, Value.int x) :: lv.filter (fun q => !(q.1 == i) && !(q.1 + 1 == i && q.2.category == 2)) = lv') (kk : X G K y cc L ret cs sl (pc + 1) lv' st h) : X G K y cc L ret cs sl pc lv (Value.int x :: st) h := fun p l e s m args below meth c locs H ls C R S V => lv_istore_n C.1 C.2.1 hd hi V hn hl (fun ls V => kk p l e s m args below meth c locs H ls C R S V)
theorem x_istore {i : Nat} {x : Int32} {lv' : List (Nat × Value)} (hd : decode cc pc = .ok (.istore i, 2))  (hn : i < L) (hl : (i, Value.int x) :: lv.filter (fun q => !(q.1 == i) && !(q.1 + 1 == i && q.2.category == 2)) = lv') (kk : X G K y cc L ret cs sl (pc + 2) lv' st h) : X G K y cc L ret cs sl pc lv (Value.int x :: st) h := fun p l e s m args below meth c locs H ls C R S V => lv_istore C.1 C.2.1 hd  V hn hl (fun ls V => kk p l e s m args below meth c locs H ls C R S V)
theorem x_astore_n {k : Fin 4} {i : Nat} {x : Nat} {lv' : List (Nat × Value)} (hd : decode cc pc = .ok (.astore_n k, 1)) (hi : (k : Nat) = i) (hn : i < L) (hl : (i, Value.ref x) :: lv.filter (fun q => !(q.1 == i) && !(q.1 + 1 == i && q.2.category == 2)) = lv') (kk : X G K y cc L ret cs sl (pc + 1) lv' st h) : X G K y cc L ret cs sl pc lv (Value.ref x :: st) h := fun p l e s m args below meth c locs H ls C R S V => lv_astore_n C.1 C.2.1 hd hi V hn hl (fun ls V => kk p l e s m args below meth c locs H ls C R S V)
theorem x_astore {i : Nat} {x : Nat} {lv' : List (Nat × Value)} (hd : decode cc pc = .ok (.astore i, 2))  (hn : i < L) (hl : (i, Value.ref x) :: lv.filter (fun q => !(q.1 == i) && !(q.1 + 1 == i && q.2.category == 2)) = lv') (kk : X G K y cc L ret cs sl (pc + 2) lv' st h) : X G K y cc L ret cs sl pc lv (Value.ref x :: st) h := fun p l e s m args below meth c locs H ls C R S V => lv_astore C.1 C.2.1 hd  V hn hl (fun ls V => kk p l e s m args below meth c locs H ls C R S V)
theorem x_astore_nN {k : Fin 4} {i : Nat}  {lv' : List (Nat × Value)} (hd : decode cc pc = .ok (.astore_n k, 1)) (hi : (k : Nat) = i) (hn : i < L) (hl : (i, Value.null) :: lv.filter (fun q => !(q.1 == i) && !(q.1 + 1 == i && q.2.category == 2)) = lv') (kk : X G K y cc L ret cs sl (pc + 1) lv' st h) : X G K y cc L ret cs sl pc lv (Value.null :: st) h := fun p l e s m args below meth c locs H ls C R S V => lv_astore_nN C.1 C.2.1 hd hi V hn hl (fun ls V => kk p l e s m args below meth c locs H ls C R S V)
theorem x_astoreN {i : Nat}  {lv' : List (Nat × Value)} (hd : decode cc pc = .ok (.astore i, 2))  (hn : i < L) (hl : (i, Value.null) :: lv.filter (fun q => !(q.1 == i) && !(q.1 + 1 == i && q.2.category == 2)) = lv') (kk : X G K y cc L ret cs sl (pc + 2) lv' st h) : X G K y cc L ret cs sl pc lv (Value.null :: st) h := fun p l e s m args below meth c locs H ls C R S V => lv_astoreN C.1 C.2.1 hd  V hn hl (fun ls V => kk p l e s m args below meth c locs H ls C R S V)
theorem x_lstore_n {k : Fin 4} {i : Nat} {x : Int64} {lv' : List (Nat × Value)} (hd : decode cc pc = .ok (.lstore_n k, 1)) (hi : (k : Nat) = i) (hn : i + 1 < L) (hl : (i, Value.long x) :: lv.filter (fun q => !(q.1 == i) && (!(q.1 == i + 1) && !(q.1 + 1 == i && q.2.category == 2))) = lv') (kk : X G K y cc L ret cs sl (pc + 1) lv' st h) : X G K y cc L ret cs sl pc lv (Value.long x :: st) h := fun p l e s m args below meth c locs H ls C R S V => lv_lstore_n C.1 C.2.1 hd hi V hn hl (fun ls V => kk p l e s m args below meth c locs H ls C R S V)
theorem x_lstore {i : Nat} {x : Int64} {lv' : List (Nat × Value)} (hd : decode cc pc = .ok (.lstore i, 2))  (hn : i + 1 < L) (hl : (i, Value.long x) :: lv.filter (fun q => !(q.1 == i) && (!(q.1 == i + 1) && !(q.1 + 1 == i && q.2.category == 2))) = lv') (kk : X G K y cc L ret cs sl (pc + 2) lv' st h) : X G K y cc L ret cs sl pc lv (Value.long x :: st) h := fun p l e s m args below meth c locs H ls C R S V => lv_lstore C.1 C.2.1 hd  V hn hl (fun ls V => kk p l e s m args below meth c locs H ls C R S V)
theorem x_iinc {i : Nat} {n : Int} {x v : Int32} {lv' : List (Nat × Value)} (hd : decode cc pc = .ok (.iinc i n, 3)) (j : Nat) (hk : lv[j]? = some (i, .int x)) (hv : x + Int32.ofInt n = v) (hn : i < L) (hl : (i, Value.int v) :: lv.filter (fun q => !(q.1 == i) && !(q.1 + 1 == i && q.2.category == 2)) = lv') (kk : X G K y cc L ret cs sl (pc + 3) lv' st h) : X G K y cc L ret cs sl pc lv st h := fun p l e s m args below meth c locs H ls C R S V => lv_iinc C.1 C.2.1 hd V hk hv hn hl (fun ls V => kk p l e s m args below meth c locs H ls C R S V)
theorem x_iadd {x z : Int32} (hd : decode cc pc = .ok (.iadd, 1))  (k : X G K y cc L ret cs sl (pc + 1) lv (.int (x + z) :: st) h) : X G K y cc L ret cs sl pc lv (.int z :: .int x :: st) h := fun p l e s m args below meth c locs H ls C R S V => lv_iadd C.1 C.2.1 hd  (k p l e s m args below meth c locs H ls C R S V)
theorem x_isub {x z : Int32} (hd : decode cc pc = .ok (.isub, 1))  (k : X G K y cc L ret cs sl (pc + 1) lv (.int (x - z) :: st) h) : X G K y cc L ret cs sl pc lv (.int z :: .int x :: st) h := fun p l e s m args below meth c locs H ls C R S V => lv_isub C.1 C.2.1 hd  (k p l e s m args below meth c locs H ls C R S V)
theorem x_imul {x z : Int32} (hd : decode cc pc = .ok (.imul, 1))  (k : X G K y cc L ret cs sl (pc + 1) lv (.int (x * z) :: st) h) : X G K y cc L ret cs sl pc lv (.int z :: .int x :: st) h := fun p l e s m args below meth c locs H ls C R S V => lv_imul C.1 C.2.1 hd  (k p l e s m args below meth c locs H ls C R S V)
theorem x_iand {x z : Int32} (hd : decode cc pc = .ok (.iand, 1))  (k : X G K y cc L ret cs sl (pc + 1) lv (.int (x &&& z) :: st) h) : X G K y cc L ret cs sl pc lv (.int z :: .int x :: st) h := fun p l e s m args below meth c locs H ls C R S V => lv_iand C.1 C.2.1 hd  (k p l e s m args below meth c locs H ls C R S V)
theorem x_ior {x z : Int32} (hd : decode cc pc = .ok (.ior, 1))  (k : X G K y cc L ret cs sl (pc + 1) lv (.int (x ||| z) :: st) h) : X G K y cc L ret cs sl pc lv (.int z :: .int x :: st) h := fun p l e s m args below meth c locs H ls C R S V => lv_ior C.1 C.2.1 hd  (k p l e s m args below meth c locs H ls C R S V)
theorem x_ladd {x z : Int64} (hd : decode cc pc = .ok (.ladd, 1))  (k : X G K y cc L ret cs sl (pc + 1) lv (.long (x + z) :: st) h) : X G K y cc L ret cs sl pc lv (.long z :: .long x :: st) h := fun p l e s m args below meth c locs H ls C R S V => lv_ladd C.1 C.2.1 hd  (k p l e s m args below meth c locs H ls C R S V)
theorem x_lmul {x z : Int64} (hd : decode cc pc = .ok (.lmul, 1))  (k : X G K y cc L ret cs sl (pc + 1) lv (.long (x * z) :: st) h) : X G K y cc L ret cs sl pc lv (.long z :: .long x :: st) h := fun p l e s m args below meth c locs H ls C R S V => lv_lmul C.1 C.2.1 hd  (k p l e s m args below meth c locs H ls C R S V)
theorem x_lsub {x z : Int64} (hd : decode cc pc = .ok (.lsub, 1))  (k : X G K y cc L ret cs sl (pc + 1) lv (.long (x - z) :: st) h) : X G K y cc L ret cs sl pc lv (.long z :: .long x :: st) h := fun p l e s m args below meth c locs H ls C R S V => lv_lsub C.1 C.2.1 hd  (k p l e s m args below meth c locs H ls C R S V)
theorem x_ineg {x : Int32} (hd : decode cc pc = .ok (.ineg, 1))  (k : X G K y cc L ret cs sl (pc + 1) lv (.int (-x) :: st) h) : X G K y cc L ret cs sl pc lv (.int x :: st) h := fun p l e s m args below meth c locs H ls C R S V => lv_ineg C.1 C.2.1 hd  (k p l e s m args below meth c locs H ls C R S V)
--HOLE idiv irem ishl ishr iushr
theorem x_i2l {x : Int32} {v : Int64} (hd : decode cc pc = .ok (.i2l, 1)) (hv : x.toInt64 = v) (k : X G K y cc L ret cs sl (pc + 1) lv (.long v :: st) h) : X G K y cc L ret cs sl pc lv (.int x :: st) h := fun p l e s m args below meth c locs H ls C R S V => lv_i2l C.1 C.2.1 hd hv (k p l e s m args below meth c locs H ls C R S V)
theorem x_l2i {x : Int64} {v : Int32} (hd : decode cc pc = .ok (.l2i, 1)) (hv : x.toInt32 = v) (k : X G K y cc L ret cs sl (pc + 1) lv (.int v :: st) h) : X G K y cc L ret cs sl pc lv (.long x :: st) h := fun p l e s m args below meth c locs H ls C R S V => lv_l2i C.1 C.2.1 hd hv (k p l e s m args below meth c locs H ls C R S V)
theorem x_i2b {x : Int32} {v : Int32} (hd : decode cc pc = .ok (.i2b, 1)) (hv : x.toInt8.toInt32 = v) (k : X G K y cc L ret cs sl (pc + 1) lv (.int v :: st) h) : X G K y cc L ret cs sl pc lv (.int x :: st) h := fun p l e s m args below meth c locs H ls C R S V => lv_i2b C.1 C.2.1 hd hv (k p l e s m args below meth c locs H ls C R S V)
theorem x_i2s {x : Int32} {v : Int32} (hd : decode cc pc = .ok (.i2s, 1)) (hv : x.toInt16.toInt32 = v) (k : X G K y cc L ret cs sl (pc + 1) lv (.int v :: st) h) : X G K y cc L ret cs sl pc lv (.int x :: st) h := fun p l e s m args below meth c locs H ls C R S V => lv_i2s C.1 C.2.1 hd hv (k p l e s m args below meth c locs H ls C R S V)
theorem x_iushr {x z v : Int32} (hd : decode cc pc = .ok (.iushr, 1)) (hv : (x.toUInt32 >>> (z.toUInt32 &&& Int32.toUInt32 31)).toInt32 = v) (k : X G K y cc L ret cs sl (pc + 1) lv (.int v :: st) h) : X G K y cc L ret cs sl pc lv (.int z :: .int x :: st) h := fun p l e s m args below meth c locs H ls C R S V => lv_iushr C.1 C.2.1 hd hv (k p l e s m args below meth c locs H ls C R S V)
theorem x_dup {va : Value} (hd : decode cc pc = .ok (.dup, 1)) (hc : va.category = 1) (k : X G K y cc L ret cs sl (pc + 1) lv (va :: va :: st) h) : X G K y cc L ret cs sl pc lv (va :: st) h := fun p l e s m args below meth c locs H ls C R S V => lv_dup C.1 C.2.1 hd hc (k p l e s m args below meth c locs H ls C R S V)
theorem x_pop {va : Value} (hd : decode cc pc = .ok (.pop, 1)) (hc : va.category = 1) (k : X G K y cc L ret cs sl (pc + 1) lv st h) : X G K y cc L ret cs sl pc lv (va :: st) h := fun p l e s m args below meth c locs H ls C R S V => lv_pop C.1 C.2.1 hd hc (k p l e s m args below meth c locs H ls C R S V)
theorem x_dup_x1 {va vb : Value} (hd : decode cc pc = .ok (.dup_x1, 1)) (hc : va.category = 1) (hc2 : vb.category = 1) (k : X G K y cc L ret cs sl (pc + 1) lv (va :: vb :: va :: st) h) : X G K y cc L ret cs sl pc lv (va :: vb :: st) h := fun p l e s m args below meth c locs H ls C R S V => lv_dup_x1 C.1 C.2.1 hd hc hc2 (k p l e s m args below meth c locs H ls C R S V)
theorem x_if_eq {x : Int32} {off : Int} {tgt : Nat} (hd : decode cc pc = .ok (.ifCond .eq off, 3)) (ht : (pc : Int) + off = (tgt : Int)) (kt : x = 0 → X G K y cc L ret cs sl tgt lv st h) (kf : ¬ x = 0 → X G K y cc L ret cs sl (pc + 3) lv st h) : X G K y cc L ret cs sl pc lv (.int x :: st) h := fun p l e s m args below meth c locs H ls C R S V => lv_if_eq C.1 C.2.1 hd ht (fun q => kt q p l e s m args below meth c locs H ls C R S V) (fun q => kf q p l e s m args below meth c locs H ls C R S V)
theorem x_icmp_eq {x z : Int32} {off : Int} {tgt : Nat} (hd : decode cc pc = .ok (.if_icmp .eq off, 3)) (ht : (pc : Int) + off = (tgt : Int)) (kt : x = z → X G K y cc L ret cs sl tgt lv st h) (kf : ¬ x = z → X G K y cc L ret cs sl (pc + 3) lv st h) : X G K y cc L ret cs sl pc lv (.int z :: .int x :: st) h := fun p l e s m args below meth c locs H ls C R S V => lv_icmp_eq C.1 C.2.1 hd ht (fun q => kt q p l e s m args below meth c locs H ls C R S V) (fun q => kf q p l e s m args below meth c locs H ls C R S V)
theorem x_if_ne {x : Int32} {off : Int} {tgt : Nat} (hd : decode cc pc = .ok (.ifCond .ne off, 3)) (ht : (pc : Int) + off = (tgt : Int)) (kt : ¬ x = 0 → X G K y cc L ret cs sl tgt lv st h) (kf : x = 0 → X G K y cc L ret cs sl (pc + 3) lv st h) : X G K y cc L ret cs sl pc lv (.int x :: st) h := fun p l e s m args below meth c locs H ls C R S V => lv_if_ne C.1 C.2.1 hd ht (fun q => kt q p l e s m args below meth c locs H ls C R S V) (fun q => kf q p l e s m args below meth c locs H ls C R S V)
theorem x_icmp_ne {x z : Int32} {off : Int} {tgt : Nat} (hd : decode cc pc = .ok (.if_icmp .ne off, 3)) (ht : (pc : Int) + off = (tgt : Int)) (kt : ¬ x = z → X G K y cc L ret cs sl tgt lv st h) (kf : x = z → X G K y cc L ret cs sl (pc + 3) lv st h) : X G K y cc L ret cs sl pc lv (.int z :: .int x :: st) h := fun p l e s m args below meth c locs H ls C R S V => lv_icmp_ne C.1 C.2.1 hd ht (fun q => kt q p l e s m args below meth c locs H ls C R S V) (fun q => kf q p l e s m args below meth c locs H ls C R S V)
theorem x_if_lt {x : Int32} {off : Int} {tgt : Nat} (hd : decode cc pc = .ok (.ifCond .lt off, 3)) (ht : (pc : Int) + off = (tgt : Int)) (kt : x < 0 → X G K y cc L ret cs sl tgt lv st h) (kf : ¬ x < 0 → X G K y cc L ret cs sl (pc + 3) lv st h) : X G K y cc L ret cs sl pc lv (.int x :: st) h := fun p l e s m args below meth c locs H ls C R S V => lv_if_lt C.1 C.2.1 hd ht (fun q => kt q p l e s m args below meth c locs H ls C R S V) (fun q => kf q p l e s m args below meth c locs H ls C R S V)
theorem x_icmp_lt {x z : Int32} {off : Int} {tgt : Nat} (hd : decode cc pc = .ok (.if_icmp .lt off, 3)) (ht : (pc : Int) + off = (tgt : Int)) (kt : x < z → X G K y cc L ret cs sl tgt lv st h) (kf : ¬ x < z → X G K y cc L ret cs sl (pc + 3) lv st h) : X G K y cc L ret cs sl pc lv (.int z :: .int x :: st) h := fun p l e s m args below meth c locs H ls C R S V => lv_icmp_lt C.1 C.2.1 hd ht (fun q => kt q p l e s m args below meth c locs H ls C R S V) (fun q => kf q p l e s m args below meth c locs H ls C R S V)
theorem x_if_ge {x : Int32} {off : Int} {tgt : Nat} (hd : decode cc pc = .ok (.ifCond .ge off, 3)) (ht : (pc : Int) + off = (tgt : Int)) (kt : 0 ≤ x → X G K y cc L ret cs sl tgt lv st h) (kf : ¬ 0 ≤ x → X G K y cc L ret cs sl (pc + 3) lv st h) : X G K y cc L ret cs sl pc lv (.int x :: st) h := fun p l e s m args below meth c locs H ls C R S V => lv_if_ge C.1 C.2.1 hd ht (fun q => kt q p l e s m args below meth c locs H ls C R S V) (fun q => kf q p l e s m args below meth c locs H ls C R S V)
theorem x_icmp_ge {x z : Int32} {off : Int} {tgt : Nat} (hd : decode cc pc = .ok (.if_icmp .ge off, 3)) (ht : (pc : Int) + off = (tgt : Int)) (kt : z ≤ x → X G K y cc L ret cs sl tgt lv st h) (kf : ¬ z ≤ x → X G K y cc L ret cs sl (pc + 3) lv st h) : X G K y cc L ret cs sl pc lv (.int z :: .int x :: st) h := fun p l e s m args below meth c locs H ls C R S V => lv_icmp_ge C.1 C.2.1 hd ht (fun q => kt q p l e s m args below meth c locs H ls C R S V) (fun q => kf q p l e s m args below meth c locs H ls C R S V)
theorem x_if_gt {x : Int32} {off : Int} {tgt : Nat} (hd : decode cc pc = .ok (.ifCond .gt off, 3)) (ht : (pc : Int) + off = (tgt : Int)) (kt : 0 < x → X G K y cc L ret cs sl tgt lv st h) (kf : ¬ 0 < x → X G K y cc L ret cs sl (pc + 3) lv st h) : X G K y cc L ret cs sl pc lv (.int x :: st) h := fun p l e s m args below meth c locs H ls C R S V => lv_if_gt C.1 C.2.1 hd ht (fun q => kt q p l e s m args below meth c locs H ls C R S V) (fun q => kf q p l e s m args below meth c locs H ls C R S V)
theorem x_icmp_gt {x z : Int32} {off : Int} {tgt : Nat} (hd : decode cc pc = .ok (.if_icmp .gt off, 3)) (ht : (pc : Int) + off = (tgt : Int)) (kt : z < x → X G K y cc L ret cs sl tgt lv st h) (kf : ¬ z < x → X G K y cc L ret cs sl (pc + 3) lv st h) : X G K y cc L ret cs sl pc lv (.int z :: .int x :: st) h := fun p l e s m args below meth c locs H ls C R S V => lv_icmp_gt C.1 C.2.1 hd ht (fun q => kt q p l e s m args below meth c locs H ls C R S V) (fun q => kf q p l e s m args below meth c locs H ls C R S V)
theorem x_if_le {x : Int32} {off : Int} {tgt : Nat} (hd : decode cc pc = .ok (.ifCond .le off, 3)) (ht : (pc : Int) + off = (tgt : Int)) (kt : x ≤ 0 → X G K y cc L ret cs sl tgt lv st h) (kf : ¬ x ≤ 0 → X G K y cc L ret cs sl (pc + 3) lv st h) : X G K y cc L ret cs sl pc lv (.int x :: st) h := fun p l e s m args below meth c locs H ls C R S V => lv_if_le C.1 C.2.1 hd ht (fun q => kt q p l e s m args below meth c locs H ls C R S V) (fun q => kf q p l e s m args below meth c locs H ls C R S V)
theorem x_icmp_le {x z : Int32} {off : Int} {tgt : Nat} (hd : decode cc pc = .ok (.if_icmp .le off, 3)) (ht : (pc : Int) + off = (tgt : Int)) (kt : x ≤ z → X G K y cc L ret cs sl tgt lv st h) (kf : ¬ x ≤ z → X G K y cc L ret cs sl (pc + 3) lv st h) : X G K y cc L ret cs sl pc lv (.int z :: .int x :: st) h := fun p l e s m args below meth c locs H ls C R S V => lv_icmp_le C.1 C.2.1 hd ht (fun q => kt q p l e s m args below meth c locs H ls C R S V) (fun q => kf q p l e s m args below meth c locs H ls C R S V)
theorem x_goto {off : Int} {tgt : Nat} (hd : decode cc pc = .ok (.goto off, 3)) (ht : (pc : Int) + off = (tgt : Int)) (k : X G K y cc L ret cs sl tgt lv st h) : X G K y cc L ret cs sl pc lv st h := fun p l e s m args below meth c locs H ls C R S V => lv_goto C.1 C.2.1 hd ht (k p l e s m args below meth c locs H ls C R S V)
theorem x_ifnonnull {x : Nat} {off : Int} {tgt : Nat} (hd : decode cc pc = .ok (.ifnonnull off, 3)) (ht : (pc : Int) + off = (tgt : Int)) (k : X G K y cc L ret cs sl tgt lv st h) : X G K y cc L ret cs sl pc lv (.ref x :: st) h := fun p l e s m args below meth c locs H ls C R S V => lv_ifnonnull C.1 C.2.1 hd ht (k p l e s m args below meth c locs H ls C R S V)
theorem x_ifnonnullN {off : Int} (hd : decode cc pc = .ok (.ifnonnull off, 3)) (k : X G K y cc L ret cs sl (pc + 3) lv st h) : X G K y cc L ret cs sl pc lv (.null :: st) h := fun p l e s m args below meth c locs H ls C R S V => lv_ifnonnullN C.1 C.2.1 hd (k p l e s m args below meth c locs H ls C R S V)
theorem x_ifnullN {off : Int} {tgt : Nat} (hd : decode cc pc = .ok (.ifnull off, 3)) (ht : (pc : Int) + off = (tgt : Int)) (k : X G K y cc L ret cs sl tgt lv st h) : X G K y cc L ret cs sl pc lv (.null :: st) h := fun p l e s m args below meth c locs H ls C R S V => lv_ifnullN C.1 C.2.1 hd ht (k p l e s m args below meth c locs H ls C R S V)
theorem x_ifnull {x : Nat} {off : Int} (hd : decode cc pc = .ok (.ifnull off, 3)) (k : X G K y cc L ret cs sl (pc + 3) lv st h) : X G K y cc L ret cs sl pc lv (.ref x :: st) h := fun p l e s m args below meth c locs H ls C R S V => lv_ifnull C.1 C.2.1 hd (k p l e s m args below meth c locs H ls C R S V)
theorem x_lsw {dflt : Int} {ps : Array (Int × Int)} {len : Nat} {x : Int32} {off : Int} {tgt : Nat} (hd : decode cc pc = .ok (.lookupswitch dflt ps, len)) (hp : (ps.toList.zip (ps.toList.drop 1)).all (fun (a, next) => a.1 < next.1) = true) (ho : Op.lookupswitch.offset ps.toList dflt x.toInt = off) (ht : (pc : Int) + off = (tgt : Int)) (k : X G K y cc L ret cs sl tgt lv st h) : X G K y cc L ret cs sl pc lv (.int x :: st) h := fun p l e s m args below meth c locs H ls C R S V => lv_lookup C.1 C.2.1 hd hp ho ht (k p l e s m args below meth c locs H ls C R S V)
theorem x_topi {x : Int32} (k : ∀ z : Int32, z = x → X G K y cc L ret cs sl pc lv (.int z :: st) h) : X G K y cc L ret cs sl pc lv (.int x :: st) h := k x rfl
theorem x_topl {x : Int64} (k : ∀ z : Int64, z = x → X G K y cc L ret cs sl pc lv (.long z :: st) h) : X G K y cc L ret cs sl pc lv (.long x :: st) h := k x rfl
theorem x_heap (k : ∀ g : AH, g = h → X G K y cc L ret cs sl pc lv st g) : X G K y cc L ret cs sl pc lv st h := k h rfl
theorem x_sub {lv' : List (Nat × Value)} (ks : List Nat) (hl : lv_pick lv ks = lv') (k : X G K y cc L ret cs sl pc lv' st h) : X G K y cc L ret cs sl pc lv st h := fun p l e s m args below meth c locs H ls C R S V => k p l e s m args below meth c locs H ls C R S (lv_sub V ks hl)
theorem x_eq {g : AH} (e : h = g) (k : X G K y cc L ret cs sl pc lv st g) : X G K y cc L ret cs sl pc lv st h := e ▸ k
end
section
variable {G : GG} {K : XK} {y : MethodName} {cc : ByteArray} {L : Nat} {ret : Option FieldType} {cs sl pc : Nat} {lv : List (Nat × Value)} {st : List Value} {h : AH}
theorem x_idiv {x z : Int32} (hd : decode cc pc = .ok (.idiv, 1)) (hne : ¬ z = 0) (k : X G K y cc L ret cs sl (pc + 1) lv (.int (x / z) :: st) h) : X G K y cc L ret cs sl pc lv (.int z :: .int x :: st) h := fun p l e s m args below meth c locs H ls C R S V => lv_idiv C.1 C.2.1 hd hne (k p l e s m args below meth c locs H ls C R S V)
theorem x_irem {x z : Int32} (hd : decode cc pc = .ok (.irem, 1)) (hne : ¬ z = 0) (k : X G K y cc L ret cs sl (pc + 1) lv (.int (x - x / z * z) :: st) h) : X G K y cc L ret cs sl pc lv (.int z :: .int x :: st) h := fun p l e s m args below meth c locs H ls C R S V => lv_irem C.1 C.2.1 hd hne (k p l e s m args below meth c locs H ls C R S V)
theorem x_ishl {x z : Int32} (hd : decode cc pc = .ok (.ishl, 1)) (k : X G K y cc L ret cs sl (pc + 1) lv (.int (x <<< (z &&& 31)) :: st) h) : X G K y cc L ret cs sl pc lv (.int z :: .int x :: st) h := fun p l e s m args below meth c locs H ls C R S V => lv_ishl C.1 C.2.1 hd (k p l e s m args below meth c locs H ls C R S V)
theorem x_ishr {x z : Int32} (hd : decode cc pc = .ok (.ishr, 1)) (k : X G K y cc L ret cs sl (pc + 1) lv (.int (x >>> (z &&& 31)) :: st) h) : X G K y cc L ret cs sl pc lv (.int z :: .int x :: st) h := fun p l e s m args below meth c locs H ls C R S V => lv_ishr C.1 C.2.1 hd (k p l e s m args below meth c locs H ls C R S V)
end
theorem ofInt_of_toInt {x : Int32} : Int32.ofInt x.toInt = x := Int32.ofInt_toInt x
theorem toInt_ofInt {z : Int} (h1 : -2147483648 ≤ z) (h2 : z < 2147483648) : (Int32.ofInt z).toInt = z := Int32.toInt_ofInt_of_le (by simpa using h1) (by simpa using h2)
/-- a tableswitch's cases, by value and target -/
def swOK (pc : Nat) (lo hi : Int) (offs : Array Int) (cases : List (Int × Nat)) : Bool := decide (-2147483648 ≤ lo) && decide (hi < 2147483648) && decide (hi + 1 = lo + offs.size) && decide (cases = (List.range offs.size).map (fun (j : Nat) => (lo + (j : Int), ((pc : Int) + offs.getD j 0).toNat))) && (List.range offs.size).all (fun (j : Nat) => decide (0 ≤ (pc : Int) + offs.getD j 0))
section
variable {G : GG} {K : XK} {y : MethodName} {cc : ByteArray} {L : Nat} {ret : Option FieldType} {cs sl pc : Nat} {lv : List (Nat × Value)} {st : List Value} {h : AH}
theorem x_tsw {dflt lo hi : Int} {offs : Array Int} {len : Nat} {x : Int32} (cases : List (Int × Nat)) (tgt : Nat) (hd : decode cc pc = .ok (.tableswitch dflt lo hi offs, len)) (ht : (pc : Int) + dflt = (tgt : Int)) (hc : swOK pc lo hi offs cases = true) (ho : (∀ q ∈ cases, ¬ x = Int32.ofInt q.1) → X G K y cc L ret cs sl tgt lv st h) (hin : ∀ q ∈ cases, x = Int32.ofInt q.1 → X G K y cc L ret cs sl q.2 lv st h) : X G K y cc L ret cs sl pc lv (.int x :: st) h := by
  intro p l e s m args below meth c locs H ls C R S V
  simp only [swOK, Bool.and_eq_true, decide_eq_true_eq, List.all_eq_true, List.mem_range] at hc
  obtain ⟨⟨⟨⟨h1, h2⟩, h3⟩, h4⟩, h5⟩ := hc
  by_cases hx : x.toInt < lo ∨ hi < x.toInt
  · refine lv_tableOut C.1 C.2.1 hd hx ht (ho (fun q hq e1 => ?_) p l e s m args below meth c locs H ls C R S V)
    rw [h4] at hq
    obtain ⟨j, hj, rfl⟩ := List.mem_map.mp hq
    have hj := List.mem_range.mp hj
    have e2 : x.toInt = lo + (j : Int) := by rw [e1]; exact toInt_ofInt (by omega) (by omega)
    omega
  · have hj : (x.toInt - lo).toNat < offs.size := by omega
    have hm : (lo + ((x.toInt - lo).toNat : Int), ((pc : Int) + offs.getD (x.toInt - lo).toNat 0).toNat) ∈ cases := by
      rw [h4]
      exact List.mem_map.mpr ⟨_, List.mem_range.mpr hj, rfl⟩
    have hp := h5 _ hj
    have hg : offs[(x.toInt - lo).toNat]? = some (offs.getD (x.toInt - lo).toNat 0) := by
      rw [Array.getD_eq_getD_getElem?, Array.getElem?_eq_getElem hj]
      rfl
    refine lv_tableIn C.1 C.2.1 hd (fun q => hx (Or.inl q)) (fun q => hx (Or.inr q)) hg (Int.toNat_of_nonneg hp).symm (hin _ hm ?_ p l e s m args below meth c locs H ls C R S V)
    show x = Int32.ofInt _
    rw [show lo + ((x.toInt - lo).toNat : Int) = x.toInt by omega, ofInt_of_toInt]
end
/-! the fields, by class and pool -/
def FR (own : String) (idx ci k : Nat) : Prop := ∃ r : vw_C, vwCl[ci]? = some r ∧ k < r.2.2 ∧ (r.2.1 k).1 = r.1 ∧ (tw (Cond.fieldLink own idx r.1 (r.2.1 k).2.1 (r.2.1 k).2.2.1) ∨ Cond.fieldLinkNest own idx r.1 (r.2.1 k).2.1 (r.2.1 k).2.2.1 "Sandcastles" ∈ lw_tbl)
def twB (w : Cond) : Bool := decide (w ∈ lw_tbl) && goodWord w
theorem tw.of {w : Cond} (h : twB w = true) : tw w := by
  unfold twB at h
  simp only [Bool.and_eq_true, decide_eq_true_eq] at h
  exact h
def frB (own : String) (idx ci k : Nat) : Bool := match vwCl[ci]? with
  | some r => decide (k < r.2.2) && decide ((r.2.1 k).1 = r.1) && (twB (Cond.fieldLink own idx r.1 (r.2.1 k).2.1 (r.2.1 k).2.2.1) || decide (Cond.fieldLinkNest own idx r.1 (r.2.1 k).2.1 (r.2.1 k).2.2.1 "Sandcastles" ∈ lw_tbl))
  | none => false
theorem FR.of {own : String} {idx ci k : Nat} (h : frB own idx ci k = true) : FR own idx ci k := by
  unfold frB at h
  cases hr : vwCl[ci]? with
  | none => rw [hr] at h; cases h
  | some r =>
    rw [hr] at h
    simp only [Bool.and_eq_true, Bool.or_eq_true, decide_eq_true_eq] at h
    exact ⟨r, hr, h.1.1, h.1.2, h.2.elim (fun q => Or.inl (tw.of q)) Or.inr⟩
def tyAt (ci k : Nat) : FieldType := match ci with
  | 0 => tyX0 k
  | 1 => tyX1 k
  | 2 => tyX2 k
  | 3 => tyX3 k
  | 4 => tyX4 k
  | 5 => tyX5 k
  | 6 => tyX6 k
  | 7 => tyX7 k
  | _ => tyX8 k
def clB (ci : Nat) : Bool := match vwCl[ci]? with
  | some r => (u_ws r.1 r.2.1 r.2.2).all twB && (List.range r.2.2).all (fun k => decide (parseFieldDescriptor (r.2.1 k).2.2.1 = some (tyAt ci k))) && (List.range r.2.2).all (fun a => (List.range r.2.2).all (fun b => a == b || !decide ((r.2.1 a).2.1 = (r.2.1 b).2.1))) && decide (slN ci = r.2.2)
  | none => true
theorem clB_all : (List.range 9).all clB = true := by decide +kernel
theorem cl_lt {ci : Nat} {r : vw_C} (hr : vwCl[ci]? = some r) : ci < 9 := (List.getElem?_eq_some_iff.mp hr).1
theorem cl_ok {ci : Nat} {r : vw_C} (hr : vwCl[ci]? = some r) : (∀ w ∈ u_ws r.1 r.2.1 r.2.2, w ∈ tblG) ∧ (∀ k, k < r.2.2 → parseFieldDescriptor (r.2.1 k).2.2.1 = some (tyAt ci k)) ∧ (∀ a, a < r.2.2 → ∀ b, b < r.2.2 → a ≠ b → (r.2.1 a).2.1 ≠ (r.2.1 b).2.1) ∧ slN ci = r.2.2 := by
  have h := List.all_eq_true.mp clB_all ci (List.mem_range.mpr (cl_lt hr))
  unfold clB at h
  rw [hr] at h
  simp only [Bool.and_eq_true, decide_eq_true_eq, List.all_eq_true, List.mem_range, Bool.or_eq_true, beq_iff_eq, Bool.not_eq_true', decide_eq_false_iff_not] at h
  exact ⟨fun w hw => (tw.of (h.1.1.1 w hw)).mem, h.1.1.2, fun a ha b hb hne e => (h.1.2 a ha b hb).elim hne (fun q => q e), h.2⟩
theorem en_obj {cA : Nat → ClassId} {h : AH} {a ci n : Nat} (hs : hpS h a = (ci, n)) (hc : ci < 9) : en cA h a = .inr (ci, enO h ci a) := by
  unfold en
  rw [hs, if_pos hc]
theorem en_ints {cA : Nat → ClassId} {h : AH} {a n : Nat} (hs : hpS h a = (9, n)) : en cA h a = .inl (cA 9, n, .inl (hpI h a)) := by
  unfold en
  rw [hs]
  rfl
theorem en_refs {cA : Nat → ClassId} {h : AH} {a kd n : Nat} (hs : hpS h a = (kd, n)) (hk : 10 ≤ kd) : en cA h a = .inl (cA kd, n, .inr (.inr (.inr (.inr (hpR h a))))) := by
  unfold en
  rw [hs, if_neg (by show ¬ kd < 9; omega), if_neg (by show ¬ kd = 9; omega)]
theorem enO_at {h : AH} {ci a k : Nat} (hk : k < slN ci) : (enO h ci a)[k]? = some (enV h ci a k) := by
  unfold enO
  rw [List.getElem?_map, List.getElem?_range hk]
  rfl
theorem en_other {cA : Nat → ClassId} {h g : AH} {q : Nat} (hs : hpS g q = hpS h q) (hi : hpI g q = hpI h q) (hr : hpR g q = hpR h q) : en cA g q = en cA h q := by
  unfold en enO enV
  rw [hs, hi, hr]
theorem iUp_o {h : AH} {a k q : Nat} {v : Int32} (hq : q ≠ a) : hpI (iUp h a k v) q = hpI h q := funext fun j => by
  show u2 h.2.1 a k v q j = h.2.1 q j
  exact u2_ne (fun e => hq e.1)
theorem rUp_o {h : AH} {a k q : Nat} {v : Option Nat} (hq : q ≠ a) : hpR (rUp h a k v) q = hpR h q := funext fun j => by
  show u2 h.2.2 a k v q j = h.2.2 q j
  exact u2_ne (fun e => hq e.1)
theorem iUp_s {h : AH} {a k : Nat} {v : Int32} : hpI (iUp h a k v) a = upd (hpI h a) k v := funext fun j => by
  show u2 h.2.1 a k v a j = upd (h.2.1 a) k v j
  by_cases e : j = k
  · simp [u2, upd, e]
  · simp [u2, upd, e]
theorem rUp_s {h : AH} {a k : Nat} {v : Option Nat} : hpR (rUp h a k v) a = va_up (hpR h a) k v := funext fun j => by
  show u2 h.2.2 a k v a j = va_up (h.2.2 a) k v j
  by_cases e : j = k
  · simp [u2, va_up, e]
  · simp [u2, va_up, e]
theorem enO_seti {h : AH} {ci a k : Nat} {v : Int32} (hi : slInt ci k = true) : (enO h ci a).set k (.int v) = enO (iUp h a k v) ci a := by
  apply List.ext_getElem?
  intro j
  unfold enO
  by_cases hj : j < slN ci
  · by_cases e : j = k
    · subst e
      rw [List.getElem?_set_self (by simp; exact hj), List.getElem?_map, List.getElem?_range hj]
      simp only [Option.map_some, enV, hi, if_true]
      rw [iUp_s]
      simp [upd]
    · rw [List.getElem?_set_ne (fun q => e q.symm), List.getElem?_map, List.getElem?_map, List.getElem?_range hj]
      simp only [Option.map_some, enV]
      rw [iUp_s]
      simp only [upd, e, if_false]
      rfl
  · rw [List.getElem?_eq_none (by simp; omega), List.getElem?_eq_none (by simp; omega)]
theorem enO_setr {h : AH} {ci a k : Nat} {v : Option Nat} (hi : slInt ci k = false) : (enO h ci a).set k (va_rf v) = enO (rUp h a k v) ci a := by
  apply List.ext_getElem?
  intro j
  unfold enO
  by_cases hj : j < slN ci
  · by_cases e : j = k
    · subst e
      rw [List.getElem?_set_self (by simp; exact hj), List.getElem?_map, List.getElem?_range hj]
      simp only [Option.map_some, enV, hi]
      rw [rUp_s]
      simp [va_up]
    · rw [List.getElem?_set_ne (fun q => e q.symm), List.getElem?_map, List.getElem?_map, List.getElem?_range hj]
      simp only [Option.map_some, enV]
      rw [rUp_s]
      simp only [va_up, e, if_false]
      rfl
  · rw [List.getElem?_eq_none (by simp; omega), List.getElem?_eq_none (by simp; omega)]
section
variable {G : GG} {K : XK} {y : MethodName} {cc : ByteArray} {L : Nat} {ret : Option FieldType} {cs sl pc : Nat} {lv : List (Nat × Value)} {st : List Value} {h : AH}
theorem x_getV {ci k a idx n : Nat} (hd : decode cc pc = .ok (.getfield idx, 3)) (f : FR y.cls idx ci k) (hs : hpS h a = (ci, n)) (kk : X G K y cc L ret cs sl (pc + 3) lv (enV h ci a k :: st) h) : X G K y cc L ret cs sl pc lv (.ref a :: st) h := by
  intro p l e s m args below meth c locs H ls C R S V
  obtain ⟨⟨C', T, N⟩, hr, hk, hnm, hlk⟩ := f
  obtain ⟨hw, hty, hnn, hN⟩ := cl_ok hr
  have hci := cl_lt hr
  have hal := R.1 a (by rw [hs]; show ci ≤ 13; omega)
  have he := wsH_get (cA := G.2.1) hal.1 hal.2
  rw [en_obj hs hci] at he
  have hv : (enO h ci a)[k]? = some (enV h ci a k) := enO_at (by rw [hN]; exact hk)
  have hnm : (T k).1 = C' := hnm
  rcases hlk with hlk | hlk
  · exact va_get C.1 C.2.1 C.2.2.2.2.1 hw C.2.2.2.1 C.2.2.2.2.2.2.2.2.1.1 R.2.2.2 (a - gB G) he hr k hk (C.2.2.2.2.1 _ hlk.mem) (fun _ h9 => by rw [hnm] at h9; exact h9) hv hd (kk p l e s m args below meth c locs H ls C R S V)
  · exact va_getN C.1 C.2.1 C.2.2.2.2.1 hw C.2.2.2.1 C.2.2.2.2.2.2.2.2.1.1 R.2.2.2 (a - gB G) he hr k hk (va_Nw.use rfl (C.2.2.2.2.2.2.2.2.1.2.1 _ hlk rfl)) (fun _ h9 => by rw [hnm] at h9; exact h9) hv hd (kk p l e s m args below meth c locs H ls C R S V)
theorem x_getI {ci k a idx n : Nat} (hd : decode cc pc = .ok (.getfield idx, 3)) (f : FR y.cls idx ci k) (hi : slInt ci k = true) (hs : hpS h a = (ci, n)) (kk : X G K y cc L ret cs sl (pc + 3) lv (.int (hpI h a k) :: st) h) : X G K y cc L ret cs sl pc lv (.ref a :: st) h := by
  refine x_getV hd f hs ?_
  unfold enV
  rw [if_pos hi]
  exact kk
theorem x_getR {ci k a idx n b : Nat} (hd : decode cc pc = .ok (.getfield idx, 3)) (f : FR y.cls idx ci k) (hi : slInt ci k = false) (hs : hpS h a = (ci, n)) (hr : hpR h a k = some b) (kk : X G K y cc L ret cs sl (pc + 3) lv (.ref b :: st) h) : X G K y cc L ret cs sl pc lv (.ref a :: st) h := by
  refine x_getV hd f hs ?_
  unfold enV
  rw [if_neg (by rw [hi]; decide), hr]
  exact kk

end
/-- behind a change of one cell: the worlds h and g are alike but for the cell a -/
def chg (h g : AH) (a : Nat) : Prop := hpZ g = hpZ h ∧ hpS g = hpS h ∧ ∀ q, q ≠ a → hpI g q = hpI h q ∧ hpR g q = hpR h q
theorem chg_i {h : AH} {a k : Nat} {v : Int32} : chg h (iUp h a k v) a := ⟨rfl, rfl, fun _ hq => ⟨iUp_o hq, rfl⟩⟩
theorem chg_r {h : AH} {a k : Nat} {v : Option Nat} : chg h (rUp h a k v) a := ⟨rfl, rfl, fun _ hq => ⟨rfl, rUp_o hq⟩⟩
theorem rel_chg {G : GG} {h g : AH} {H H1 : Heap} {a kd n : Nat} (R : RelH G h H) (hc : chg h g a) (hs : hpS h a = (kd, n)) (hk : kd ≤ 13) (hz : H1.size = H.size) (ho : ∀ q : Nat, q ≠ a → H1[q]? = H[q]?) (he : va_at G.1 vwCl (a, en G.2.1 g a) H1) : RelH G g H1 := by
  have hal := R.1 a (by rw [hs]; exact hk)
  refine ⟨fun q hq => by rw [hc.1]; exact R.1 q (by rw [← hc.2.1]; exact hq), by rw [hc.1]; exact R.2.1, by rw [hz, hc.1]; exact R.2.2.1, ?_⟩
  have hP := R.2.2.2.set (A := fun q => gB G ≤ q) wsH_D (wsH_get hal.1 hal.2) he ho
  rw [wsH_set hal.1 hal.2 hc.1 (fun q hq => en_other (by rw [hc.2.1]) (hc.2.2 q hq).1 (hc.2.2 q hq).2)] at hP
  exact hP
section
variable {G : GG} {K : XK} {y : MethodName} {cc : ByteArray} {L : Nat} {ret : Option FieldType} {cs sl pc : Nat} {lv : List (Nat × Value)} {st : List Value} {h : AH}
theorem x_putV {g : AH} {ci k a idx n : Nat} {v : Value} (hd : decode cc pc = .ok (.putfield idx, 3)) (f : FR y.cls idx ci k) (hs : hpS h a = (ci, n)) (hc : chg h g a) (hset : (enO h ci a).set k v = enO g ci a) (hn : narrow (tyAt ci k) v = v) (hfit : fits (tyAt ci k) v = true)
    (hfin : ∀ r, vwCl[ci]? = some r → (r.2.1 k).2.2.2 = false ∨ ((r.2.1 k).2.2.2 = true ∧ y.name = "<init>" ∧ r.1 = y.cls)) (kk : X G K y cc L ret cs sl (pc + 3) lv st g) : X G K y cc L ret cs sl pc lv (v :: .ref a :: st) h := by
  intro p l e s m args below meth c locs H ls C R S V
  obtain ⟨⟨C', T, N⟩, hr, hk, hnm, hlk⟩ := f
  obtain ⟨hw, hty, hnn, hN⟩ := cl_ok hr
  have hci := cl_lt hr
  have hal := R.1 a (by rw [hs]; show ci ≤ 13; omega)
  have he := wsH_get (cA := G.2.1) hal.1 hal.2
  rw [en_obj hs hci] at he
  have hgs : hpS g a = (ci, n) := by rw [hc.2.1]; exact hs
  have hnm : (T k).1 = C' := hnm
  have hfin := hfin _ hr
  have hts := C.2.2.2.2.1
  have hK := C.2.2.2.2.2.2.2.2.1.1
  have hown := C.2.2.2.1
  have hap := va_apart (own := y.cls) hts hw (tyAt ci) hty hnn hK hr
  obtain ⟨r, h1, cell, q1, q2, q3, q4⟩ := R.2.2.2 _ _ he
  have hrr : r = (C', T, N) := Option.some.inj (h1.symm.trans hr)
  subst hrr
  obtain ⟨hS, hfc, kC, hkC, hkind⟩ := hK.1 ci _ hr
  obtain ⟨cf, kf, fi, fd, hi, hsl⟩ := hS k hk
  have hst := (u_facts hfc hkC (u_lays hts hw hk) hi).1
  have hkl : k < (enO h ci a).length := by unfold enO; simp; rw [hN]; exact hk
  have fin : ∀ (H1 : Heap), H1[a]? = some (cell.setSlot fd.slot v) → H1.size = H.size → (∀ q : Nat, q ≠ a → H1[q]? = H[q]?) → RelH G g H1 := by
    intro H1 e1 e2 e3
    refine rel_chg R hc hs (by omega) e2 e3 ?_
    rw [en_obj hgs hci, ← hset]
    rw [hsl] at e1
    exact ⟨_, hr, t_OB.to (V := updV (vp_V (enO h ci a)) k v) ⟨_, e1, q2, q3, t_set q4 hap hk v⟩ (fun j _ => vp_updV_set hkl v j)⟩
  rcases hfin with hfin | ⟨hfin, hin2, hdecl⟩
  · have hlay := hts _ (hw _ (u_in_lay hk))
    unfold u_lay at hlay
    rw [if_neg (by show ¬ (T k).2.2.2 = true; rw [show (T k).2.2.2 = false from hfin]; decide)] at hlay
    have h6 := u_store hfc hkC hkind hlay hi (hty k hk) hn hfit
    have hsame : s.fieldFound? C' (T k).2.1 (T k).2.2.1 = some (cf, kf, fi, fd) := by rw [← hnm]; exact hi
    rcases hlk with hlk | hlk
    · exact W.putK C.1 C.2.1 (f := fd) ⟨hown, hts _ hlk.mem, ⟨_, _, _, hsame⟩, hst⟩ (by rw [q2]; exact h6) q1 q3 (by rw [hsl]; exact k2_hasslot (q4 k hk)) rfl rfl hd fun H1 e1 e2 e3 => kk p l e s m args below meth c _ H1 ls C (fin H1 e1 e2 e3) (S.put e2 e3 hal.1) V
    · exact va_WputK C.1 C.2.1 (f := fd) hown (va_Nw.use rfl (C.2.2.2.2.2.2.2.2.1.2.1 _ hlk rfl)) hsame hst (by rw [q2]; exact h6) q1 q3 (by rw [hsl]; exact k2_hasslot (q4 k hk)) rfl rfl hd fun H1 e1 e2 e3 => kk p l e s m args below meth c _ H1 ls C (fin H1 e1 e2 e3) (S.put e2 e3 hal.1) V
  · have hlay := hts _ (hw _ (u_in_lay hk))
    unfold u_lay at hlay
    rw [if_pos hfin] at hlay
    have hcf : m.cls = cf := by
      obtain ⟨_, _, c', _, _, _, -, -, hf', -, -, -, hown2, -⟩ := Cond.laysFinal_spec hlay
      have e1 : c' = cf := by have := hi.symm.trans hf'; simp at this; exact this.1.symm
      have hnm2 : (T k).1 = y.cls := hnm.trans hdecl
      rw [hnm2] at hown2
      rw [← e1]; exact Option.some.inj (hown.symm.trans hown2)
    have h6 := u_fits hfc hkC hkind (Or.inr hlay) hi (hty k hk) hn hfit
    have hsame : s.fieldFound? C' (T k).2.1 (T k).2.2.1 = some (cf, kf, fi, fd) := by rw [← hnm]; exact hi
    rcases hlk with hlk | hlk
    · exact W.putFinK C.1 C.2.1 hown (hts _ hlk.mem) hsame hst hcf (C.2.2.2.2.2.2.2.1.trans hin2) (by rw [q2]; exact h6) q1 q3 (by rw [hsl]; exact k2_hasslot (q4 k hk)) rfl rfl hd fun H1 e1 e2 e3 => kk p l e s m args below meth c _ H1 ls C (fin H1 e1 e2 e3) (S.put e2 e3 hal.1) V
    · refine va_Wputf C.1 C.2.1 hown (va_Nw.use rfl (C.2.2.2.2.2.2.2.2.1.2.1 _ hlk rfl)) hsame hst (Or.inr ⟨hcf, C.2.2.2.2.2.2.2.1.trans hin2⟩) q1 (by rw [q3]; exact fun h => by cases h) (by rw [hsl]; exact k2_hasslot (q4 k hk)) h6.1 (by rw [q2, q3]; exact h6.2) rfl rfl hd ?_
      have ha : a < H.size := (Array.getElem?_eq_some_iff.mp q1).1
      have e3 : ∀ q : Nat, q ≠ a → (H.setIfInBounds a (cell.setSlot fd.slot v))[q]? = H[q]? := fun q hq => by simp [Array.getElem?_setIfInBounds, Ne.symm hq]
      exact kk p l e s m args below meth c _ _ ls C (fin _ (by simp [Array.getElem?_setIfInBounds, ha]) (by simp) e3) (S.put (by simp) e3 hal.1) V
/-- a field that isn't final -/
def nfB (ci k : Nat) : Bool := match vwCl[ci]? with
  | some r => !(r.2.1 k).2.2.2
  | none => true
theorem nf_of {ci k : Nat} {y : MethodName} (h : nfB ci k = true) : ∀ r, vwCl[ci]? = some r → (r.2.1 k).2.2.2 = false ∨ ((r.2.1 k).2.2.2 = true ∧ y.name = "<init>" ∧ r.1 = y.cls) := by
  intro r hr
  unfold nfB at h
  rw [hr] at h
  exact Or.inl (by simpa using h)
theorem x_putI {ci k a idx n : Nat} {v : Int32} (hd : decode cc pc = .ok (.putfield idx, 3)) (f : FR y.cls idx ci k) (hi : slInt ci k = true) (ht : tyAt ci k = .int) (hf : nfB ci k = true) (hs : hpS h a = (ci, n)) (kk : X G K y cc L ret cs sl (pc + 3) lv st (iUp h a k v)) : X G K y cc L ret cs sl pc lv (.int v :: .ref a :: st) h :=
  x_putV hd f hs chg_i (enO_seti hi) (by rw [ht]; rfl) (by rw [ht]; rfl) (nf_of hf) kk
theorem x_putZ {ci k a idx n : Nat} (hd : decode cc pc = .ok (.putfield idx, 3)) (f : FR y.cls idx ci k) (hi : slInt ci k = true) (ht : tyAt ci k = .boolean) (hf : nfB ci k = true) (hs : hpS h a = (ci, n)) (kk : X G K y cc L ret cs sl (pc + 3) lv st (iUp h a k 1)) : X G K y cc L ret cs sl pc lv (.int 1 :: .ref a :: st) h :=
  x_putV hd f hs chg_i (enO_seti hi) (by rw [ht]; rfl) (by rw [ht]; rfl) (nf_of hf) kk
theorem x_putR {ci k a idx n v : Nat} (hd : decode cc pc = .ok (.putfield idx, 3)) (f : FR y.cls idx ci k) (hi : slInt ci k = false) (hn : narrow (tyAt ci k) (.ref v) = .ref v) (hfit : fits (tyAt ci k) (.ref v) = true) (hf : nfB ci k = true) (hs : hpS h a = (ci, n)) (kk : X G K y cc L ret cs sl (pc + 3) lv st (rUp h a k (some v))) : X G K y cc L ret cs sl pc lv (.ref v :: .ref a :: st) h :=
  x_putV hd f hs chg_r (enO_setr (v := some v) hi) hn hfit (nf_of hf) kk
theorem x_putRF {ci k a idx n v : Nat} (hd : decode cc pc = .ok (.putfield idx, 3)) (f : FR y.cls idx ci k) (hi : slInt ci k = false) (hn : narrow (tyAt ci k) (.ref v) = .ref v) (hfit : fits (tyAt ci k) (.ref v) = true) (hfin : ∀ r, vwCl[ci]? = some r → (r.2.1 k).2.2.2 = false ∨ ((r.2.1 k).2.2.2 = true ∧ y.name = "<init>" ∧ r.1 = y.cls)) (hs : hpS h a = (ci, n)) (kk : X G K y cc L ret cs sl (pc + 3) lv st (rUp h a k (some v))) : X G K y cc L ret cs sl pc lv (.ref v :: .ref a :: st) h :=
  x_putV hd f hs chg_r (enO_setr (v := some v) hi) hn hfit hfin kk
theorem x_putIF {ci k a idx n : Nat} {v : Int32} (hd : decode cc pc = .ok (.putfield idx, 3)) (f : FR y.cls idx ci k) (hi : slInt ci k = true) (ht : tyAt ci k = .int) (hfin : ∀ r, vwCl[ci]? = some r → (r.2.1 k).2.2.2 = false ∨ ((r.2.1 k).2.2.2 = true ∧ y.name = "<init>" ∧ r.1 = y.cls)) (hs : hpS h a = (ci, n)) (kk : X G K y cc L ret cs sl (pc + 3) lv st (iUp h a k v)) : X G K y cc L ret cs sl pc lv (.int v :: .ref a :: st) h :=
  x_putV hd f hs chg_i (enO_seti hi) (by rw [ht]; rfl) (by rw [ht]; rfl) hfin kk
theorem x_iald {a n : Nat} {i : Int32} (hd : decode cc pc = .ok (.iaload, 1)) (hs : hpS h a = (9, n)) (hin : vp_in i n) (kk : X G K y cc L ret cs sl (pc + 1) lv (.int (hpI h a i.toNatClampNeg) :: st) h) : X G K y cc L ret cs sl pc lv (.int i :: .ref a :: st) h := by
  intro p l e s m args below meth c locs H ls C R S V
  have hal := R.1 a (by rw [hs]; show 9 ≤ 13; omega)
  have he := wsH_get (cA := G.2.1) hal.1 hal.2
  rw [en_ints hs] at he
  exact va_iald C.1 C.2.1 C.2.2.2.2.2.2.2.2.1.1 R.2.2.2 (a - gB G) 0 he rfl hin hd (kk p l e s m args below meth c locs H ls C R S V)
theorem x_aald {a n b kd : Nat} {i : Int32} (hd : decode cc pc = .ok (.aaload, 1)) (hs : hpS h a = (kd, n)) (hk : 10 ≤ kd) (hk2 : kd ≤ 13) (hin : vp_in i n) (hr : hpR h a i.toNatClampNeg = some b) (kk : X G K y cc L ret cs sl (pc + 1) lv (.ref b :: st) h) : X G K y cc L ret cs sl pc lv (.int i :: .ref a :: st) h := by
  intro p l e s m args below meth c locs H ls C R S V
  have hal := R.1 a (by rw [hs]; exact hk2)
  have he := wsH_get (cA := G.2.1) hal.1 hal.2
  rw [en_refs hs hk] at he
  have hlt : i.toNatClampNeg < n := Nat.not_le.mp fun q => hin (Or.inr q)
  have hty : (tyk kd).isReference = true := by
    match kd, hk, hk2 with
    | 10, _, _ => rfl
    | 11, _, _ => rfl
    | 12, _, _ => rfl
    | 13, _, _ => rfl
    | k + 14, _, q => exact absurd q (by omega)
  have hv : va_rf (hpR h a i.toNatClampNeg) = .ref b := by rw [hr]; rfl
  have hKt := C.2.2.2.2.2.2.2.2.1.1.2 (kd - 9) _ (tysL_at G.2.1 (by omega) hk2)
  exact W.aald (v := .ref b) (ty := tyk kd) C.1 C.2.1 (R.2.2.2 _ _ he) (hKt.1 n (fun j => va_rf (hpR h a j))) hty (fun q => by cases q) (by show ¬ (i < 0 ∨ (arrV _ _ _).slots.size ≤ _); rw [arrV_size]; exact hin) (by show (arrV _ _ _).slots[_]? = _; rw [arrV_read _ _ hlt, hv]) rfl rfl hd (kk p l e s m args below meth c locs H ls C R S V)
theorem x_iast {a n : Nat} {i x : Int32} (hd : decode cc pc = .ok (.iastore, 1)) (hs : hpS h a = (9, n)) (hin : vp_in i n) (kk : X G K y cc L ret cs sl (pc + 1) lv st (iUp h a i.toNatClampNeg x)) : X G K y cc L ret cs sl pc lv (.int x :: .int i :: .ref a :: st) h := by
  intro p l e s m args below meth c locs H ls C R S V
  have hal := R.1 a (by rw [hs]; show 9 ≤ 13; omega)
  have he := wsH_get (cA := G.2.1) hal.1 hal.2
  rw [en_ints hs] at he
  have hK0 := C.2.2.2.2.2.2.2.2.1.1.2 0 _ rfl
  refine W.iast C.1 C.2.1 (R.2.2.2 _ _ he) (hK0.1 n (fun j => .int (hpI h a j))) (fun q => by cases q) (by show ¬ (i < 0 ∨ (arrV _ _ _).slots.size ≤ _); rw [arrV_size]; exact hin) rfl rfl hd fun H1 e1 z oq => ?_
  refine kk p l e s m args below meth c _ H1 ls C (rel_chg R chg_i hs (by omega) z oq ?_) (S.put z oq hal.1) V
  rw [en_ints (h := iUp h a i.toNatClampNeg x) hs]
  show H1[a]? = some (vp_cell _ _)
  rw [e1, iUp_s]
  rw [vp_cell_i, vp_cell_i, arrV_store]
  congr 2
  funext q
  by_cases hq : q = i.toNatClampNeg
  · subst hq
    simp [updV, upd]
  · simp [updV, upd, hq]
theorem x_aast {a n b kd ci nb : Nat} {i : Int32} {r : vw_C} (hd : decode cc pc = .ok (.aastore, 1)) (hs : hpS h a = (kd, n)) (hk : 10 ≤ kd) (hk2 : kd ≤ 13) (hr : vwCl[ci]? = some r) (hty : tyk kd = .object r.1) (hb : hpS h b = (ci, nb)) (hin : vp_in i n) (kk : X G K y cc L ret cs sl (pc + 1) lv st (rUp h a i.toNatClampNeg (some b))) : X G K y cc L ret cs sl pc lv (.ref b :: .int i :: .ref a :: st) h := by
  intro p l e s m args below meth c locs H ls C R S V
  have hci := cl_lt hr
  have hal := R.1 a (by rw [hs]; exact hk2)
  have hbl := R.1 b (by rw [hb]; show ci ≤ 13; omega)
  have he := wsH_get (cA := G.2.1) hal.1 hal.2
  rw [en_refs hs hk] at he
  have hv := wsH_get (cA := G.2.1) hbl.1 hbl.2
  rw [en_obj hb hci] at hv
  have hlt : i.toNatClampNeg < n := Nat.not_le.mp fun q => hin (Or.inr q)
  have h0 : ¬ i < 0 := fun q => hin (Or.inl q)
  obtain ⟨r', hr', cellV, g1, g2, g3, -⟩ := R.2.2.2 _ _ hv
  have hKK := C.2.2.2.2.2.2.2.2.1.1
  have hcls := (hKK.1 ci r hr).2
  have ht := tysL_at G.2.1 (k := kd) (by omega) hk2
  rw [hty] at ht
  obtain ⟨kA, comp, k1, k2, k3, -⟩ := (hKK.2 _ _ ht).2
  have hcomp : comp = G.1.1 ci := Option.some.inj (k3.symm.trans hcls.1)
  subst hcomp
  obtain ⟨kC, hkC, -⟩ := hcls.2
  refine W.aast C.1 C.2.1 (R.2.2.2 _ _ he) (fun q h => by cases h) (fun h => by cases h) k1 k2 rfl hkC ⟨h0, by show _ < (arrV _ _ _).slots.size; rw [arrV_size]; exact hlt⟩ g1 (fun q h => by rw [g3] at h; cases h) (by rw [g2]; exact hkC) (by rw [g2]; exact va_assign hcls) rfl rfl hd fun H1 e1 z oq => ?_
  refine kk p l e s m args below meth c _ H1 ls C (rel_chg R chg_r hs hk2 z oq ?_) (S.put z oq hal.1) V
  rw [en_refs (h := rUp h a i.toNatClampNeg (some b)) hs hk]
  show H1[a]? = some (vp_cell _ _)
  rw [e1, rUp_s]
  rw [vp_cell_q, vp_cell_q, arrV_store]
  congr 2
  funext q
  by_cases hq : q = i.toNatClampNeg
  · subst hq
    simp [updV, va_up, va_rf]
  · simp [updV, va_up, hq]
end
