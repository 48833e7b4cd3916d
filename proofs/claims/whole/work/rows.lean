section
/-- the rest of the library is wanted (multianewarray) -/
theorem wd_use : @Jvm.Free.Multi.outerC = @Jvm.Free.Multi.outerC := rfl
-- ===== PART A: goes FIRST, ahead of the names: the tables' words, and 'selects' of the private methods out of them =====
/-- a private method of a class that the tables say can be made, by its rows of tables_1 -/
def lw_okq (q : MethodName × Nat) : Prop := (q.1.cls ≠ "java/lang/invoke/MethodHandle" ∧ q.1.cls ≠ "java/lang/invoke/VarHandle") ∧ Cond.instantiable q.1.cls q.2 ∈ tables_1 ∧ Cond.privateMethod q.1 ∈ tables_1 ∧ Cond.instanceMethod q.1 ∈ tables_1
theorem lw_p0 : lw_okq (⟨"Sandcastles$Tape", "behind", "(II)I"⟩, 4) := ⟨⟨by decide +kernel, by decide +kernel⟩, List.mem_of_getElem? (i := 27) (by decide +kernel), List.mem_of_getElem? (i := 183) (by decide +kernel), List.mem_of_getElem? (i := 184) (by decide +kernel)⟩
theorem lw_p1 : lw_okq (⟨"Sandcastles$Tape", "sortAt", "(I)I"⟩, 4) := ⟨⟨by decide +kernel, by decide +kernel⟩, List.mem_of_getElem? (i := 27) (by decide +kernel), List.mem_of_getElem? (i := 187) (by decide +kernel), List.mem_of_getElem? (i := 188) (by decide +kernel)⟩
theorem lw_p2 : lw_okq (⟨"Sandcastles$Tape", "byteAt", "(I)I"⟩, 4) := ⟨⟨by decide +kernel, by decide +kernel⟩, List.mem_of_getElem? (i := 27) (by decide +kernel), List.mem_of_getElem? (i := 191) (by decide +kernel), List.mem_of_getElem? (i := 192) (by decide +kernel)⟩
theorem lw_p3 : lw_okq (⟨"Sandcastles$Tape", "numberToken", "(II)I"⟩, 4) := ⟨⟨by decide +kernel, by decide +kernel⟩, List.mem_of_getElem? (i := 27) (by decide +kernel), List.mem_of_getElem? (i := 195) (by decide +kernel), List.mem_of_getElem? (i := 196) (by decide +kernel)⟩
theorem lw_p4 : lw_okq (⟨"Sandcastles$Tape", "wordToken", "(II)I"⟩, 4) := ⟨⟨by decide +kernel, by decide +kernel⟩, List.mem_of_getElem? (i := 27) (by decide +kernel), List.mem_of_getElem? (i := 199) (by decide +kernel), List.mem_of_getElem? (i := 200) (by decide +kernel)⟩
theorem lw_p5 : lw_okq (⟨"Sandcastles$Tape", "isWord", "(Ljava/lang/String;II)Z"⟩, 4) := ⟨⟨by decide +kernel, by decide +kernel⟩, List.mem_of_getElem? (i := 27) (by decide +kernel), List.mem_of_getElem? (i := 204) (by decide +kernel), List.mem_of_getElem? (i := 205) (by decide +kernel)⟩
theorem lw_p6 : lw_okq (⟨"Sandcastles$Reader", "goTo", "(I)V"⟩, 5) := ⟨⟨by decide +kernel, by decide +kernel⟩, List.mem_of_getElem? (i := 50) (by decide +kernel), List.mem_of_getElem? (i := 225) (by decide +kernel), List.mem_of_getElem? (i := 226) (by decide +kernel)⟩
theorem lw_p7 : lw_okq (⟨"Sandcastles$Reader", "readPart", "(ILSandcastles$Text;)V"⟩, 5) := ⟨⟨by decide +kernel, by decide +kernel⟩, List.mem_of_getElem? (i := 50) (by decide +kernel), List.mem_of_getElem? (i := 229) (by decide +kernel), List.mem_of_getElem? (i := 230) (by decide +kernel)⟩
theorem lw_p8 : lw_okq (⟨"Sandcastles$Reader", "expect", "(I)V"⟩, 5) := ⟨⟨by decide +kernel, by decide +kernel⟩, List.mem_of_getElem? (i := 50) (by decide +kernel), List.mem_of_getElem? (i := 233) (by decide +kernel), List.mem_of_getElem? (i := 234) (by decide +kernel)⟩
theorem lw_p9 : lw_okq (⟨"Sandcastles$Reader", "fail", "()V"⟩, 5) := ⟨⟨by decide +kernel, by decide +kernel⟩, List.mem_of_getElem? (i := 50) (by decide +kernel), List.mem_of_getElem? (i := 237) (by decide +kernel), List.mem_of_getElem? (i := 238) (by decide +kernel)⟩
theorem lw_p10 : lw_okq (⟨"Sandcastles$Reader", "readE", "(LSandcastles$Text;)V"⟩, 5) := ⟨⟨by decide +kernel, by decide +kernel⟩, List.mem_of_getElem? (i := 50) (by decide +kernel), List.mem_of_getElem? (i := 241) (by decide +kernel), List.mem_of_getElem? (i := 242) (by decide +kernel)⟩
theorem lw_p11 : lw_okq (⟨"Sandcastles$Reader", "readAnd", "(LSandcastles$Text;)V"⟩, 5) := ⟨⟨by decide +kernel, by decide +kernel⟩, List.mem_of_getElem? (i := 50) (by decide +kernel), List.mem_of_getElem? (i := 245) (by decide +kernel), List.mem_of_getElem? (i := 246) (by decide +kernel)⟩
theorem lw_p12 : lw_okq (⟨"Sandcastles$Reader", "readNot", "(LSandcastles$Text;)V"⟩, 5) := ⟨⟨by decide +kernel, by decide +kernel⟩, List.mem_of_getElem? (i := 50) (by decide +kernel), List.mem_of_getElem? (i := 249) (by decide +kernel), List.mem_of_getElem? (i := 250) (by decide +kernel)⟩
theorem lw_p13 : lw_okq (⟨"Sandcastles$Reader", "openAll", "(I)I"⟩, 5) := ⟨⟨by decide +kernel, by decide +kernel⟩, List.mem_of_getElem? (i := 50) (by decide +kernel), List.mem_of_getElem? (i := 253) (by decide +kernel), List.mem_of_getElem? (i := 254) (by decide +kernel)⟩
theorem lw_p14 : lw_okq (⟨"Sandcastles$Reader", "readSum", "(LSandcastles$Text;)V"⟩, 5) := ⟨⟨by decide +kernel, by decide +kernel⟩, List.mem_of_getElem? (i := 50) (by decide +kernel), List.mem_of_getElem? (i := 257) (by decide +kernel), List.mem_of_getElem? (i := 258) (by decide +kernel)⟩
theorem lw_p15 : lw_okq (⟨"Sandcastles$Reader", "readTerm", "(LSandcastles$Text;)V"⟩, 5) := ⟨⟨by decide +kernel, by decide +kernel⟩, List.mem_of_getElem? (i := 50) (by decide +kernel), List.mem_of_getElem? (i := 261) (by decide +kernel), List.mem_of_getElem? (i := 262) (by decide +kernel)⟩
def lw_privs_1 : List (MethodName × Nat) := [(⟨"Sandcastles$Tape", "behind", "(II)I"⟩, 4), (⟨"Sandcastles$Tape", "sortAt", "(I)I"⟩, 4), (⟨"Sandcastles$Tape", "byteAt", "(I)I"⟩, 4), (⟨"Sandcastles$Tape", "numberToken", "(II)I"⟩, 4), (⟨"Sandcastles$Tape", "wordToken", "(II)I"⟩, 4), (⟨"Sandcastles$Tape", "isWord", "(Ljava/lang/String;II)Z"⟩, 4), (⟨"Sandcastles$Reader", "goTo", "(I)V"⟩, 5), (⟨"Sandcastles$Reader", "readPart", "(ILSandcastles$Text;)V"⟩, 5), (⟨"Sandcastles$Reader", "expect", "(I)V"⟩, 5), (⟨"Sandcastles$Reader", "fail", "()V"⟩, 5), (⟨"Sandcastles$Reader", "readE", "(LSandcastles$Text;)V"⟩, 5), (⟨"Sandcastles$Reader", "readAnd", "(LSandcastles$Text;)V"⟩, 5), (⟨"Sandcastles$Reader", "readNot", "(LSandcastles$Text;)V"⟩, 5), (⟨"Sandcastles$Reader", "openAll", "(I)I"⟩, 5), (⟨"Sandcastles$Reader", "readSum", "(LSandcastles$Text;)V"⟩, 5), (⟨"Sandcastles$Reader", "readTerm", "(LSandcastles$Text;)V"⟩, 5)]
theorem lw_r1 : ∀ q ∈ lw_privs_1, lw_okq q := List.forall_mem_cons.mpr ⟨lw_p0, List.forall_mem_cons.mpr ⟨lw_p1, List.forall_mem_cons.mpr ⟨lw_p2, List.forall_mem_cons.mpr ⟨lw_p3, List.forall_mem_cons.mpr ⟨lw_p4, List.forall_mem_cons.mpr ⟨lw_p5, List.forall_mem_cons.mpr ⟨lw_p6, List.forall_mem_cons.mpr ⟨lw_p7, List.forall_mem_cons.mpr ⟨lw_p8, List.forall_mem_cons.mpr ⟨lw_p9, List.forall_mem_cons.mpr ⟨lw_p10, List.forall_mem_cons.mpr ⟨lw_p11, List.forall_mem_cons.mpr ⟨lw_p12, List.forall_mem_cons.mpr ⟨lw_p13, List.forall_mem_cons.mpr ⟨lw_p14, List.forall_mem_cons.mpr ⟨lw_p15, fun _ h => absurd h List.not_mem_nil⟩⟩⟩⟩⟩⟩⟩⟩⟩⟩⟩⟩⟩⟩⟩⟩
theorem lw_p16 : lw_okq (⟨"Sandcastles$Reader", "readOne", "(LSandcastles$Text;)V"⟩, 5) := ⟨⟨by decide +kernel, by decide +kernel⟩, List.mem_of_getElem? (i := 50) (by decide +kernel), List.mem_of_getElem? (i := 265) (by decide +kernel), List.mem_of_getElem? (i := 266) (by decide +kernel)⟩
theorem lw_p17 : lw_okq (⟨"Sandcastles$Reader", "closeAll", "(IILSandcastles$Text;)V"⟩, 5) := ⟨⟨by decide +kernel, by decide +kernel⟩, List.mem_of_getElem? (i := 50) (by decide +kernel), List.mem_of_getElem? (i := 273) (by decide +kernel), List.mem_of_getElem? (i := 274) (by decide +kernel)⟩
theorem lw_p18 : lw_okq (⟨"Sandcastles$Text", "tell", "(IILSandcastles$Strand;LSandcastles$Fort;)I"⟩, 7) := ⟨⟨by decide +kernel, by decide +kernel⟩, List.mem_of_getElem? (i := 75) (by decide +kernel), List.mem_of_getElem? (i := 434) (by decide +kernel), List.mem_of_getElem? (i := 435) (by decide +kernel)⟩
theorem lw_p19 : lw_okq (⟨"Sandcastles$Text", "push", "(I)V"⟩, 7) := ⟨⟨by decide +kernel, by decide +kernel⟩, List.mem_of_getElem? (i := 75) (by decide +kernel), List.mem_of_getElem? (i := 438) (by decide +kernel), List.mem_of_getElem? (i := 439) (by decide +kernel)⟩
theorem lw_p20 : lw_okq (⟨"Sandcastles$Text", "pop", "()I"⟩, 7) := ⟨⟨by decide +kernel, by decide +kernel⟩, List.mem_of_getElem? (i := 75) (by decide +kernel), List.mem_of_getElem? (i := 449) (by decide +kernel), List.mem_of_getElem? (i := 450) (by decide +kernel)⟩
theorem lw_p21 : lw_okq (⟨"Sandcastles$Fort", "isDry", "(I)Z"⟩, 6) := ⟨⟨by decide +kernel, by decide +kernel⟩, List.mem_of_getElem? (i := 296) (by decide +kernel), List.mem_of_getElem? (i := 469) (by decide +kernel), List.mem_of_getElem? (i := 470) (by decide +kernel)⟩
theorem lw_p22 : lw_okq (⟨"Sandcastles", "isView", "(I)Z"⟩, 10) := ⟨⟨by decide +kernel, by decide +kernel⟩, List.mem_of_getElem? (i := 19) (by decide +kernel), List.mem_of_getElem? (i := 552) (by decide +kernel), List.mem_of_getElem? (i := 553) (by decide +kernel)⟩
theorem lw_p23 : lw_okq (⟨"Sandcastles", "think", "()LSandcastles$Strand;"⟩, 10) := ⟨⟨by decide +kernel, by decide +kernel⟩, List.mem_of_getElem? (i := 19) (by decide +kernel), List.mem_of_getElem? (i := 557) (by decide +kernel), List.mem_of_getElem? (i := 558) (by decide +kernel)⟩
theorem lw_p24 : lw_okq (⟨"Sandcastles", "view", "(I)I"⟩, 10) := ⟨⟨by decide +kernel, by decide +kernel⟩, List.mem_of_getElem? (i := 19) (by decide +kernel), List.mem_of_getElem? (i := 574) (by decide +kernel), List.mem_of_getElem? (i := 575) (by decide +kernel)⟩
theorem lw_p25 : lw_okq (⟨"Sandcastles", "sheetAt", "(I)LSandcastles$Sheet;"⟩, 10) := ⟨⟨by decide +kernel, by decide +kernel⟩, List.mem_of_getElem? (i := 19) (by decide +kernel), List.mem_of_getElem? (i := 594) (by decide +kernel), List.mem_of_getElem? (i := 595) (by decide +kernel)⟩
theorem lw_p26 : lw_okq (⟨"Sandcastles", "isPlan", "(LSandcastles$Sheet;)Z"⟩, 10) := ⟨⟨by decide +kernel, by decide +kernel⟩, List.mem_of_getElem? (i := 19) (by decide +kernel), List.mem_of_getElem? (i := 602) (by decide +kernel), List.mem_of_getElem? (i := 603) (by decide +kernel)⟩
theorem lw_p27 : lw_okq (⟨"Sandcastles$Game", "most", "(III)I"⟩, 3) := ⟨⟨by decide +kernel, by decide +kernel⟩, List.mem_of_getElem? (i := 361) (by decide +kernel), List.mem_of_getElem? (i := 636) (by decide +kernel), List.mem_of_getElem? (i := 637) (by decide +kernel)⟩
theorem lw_p28 : lw_okq (⟨"Sandcastles$Game", "least", "(III)I"⟩, 3) := ⟨⟨by decide +kernel, by decide +kernel⟩, List.mem_of_getElem? (i := 361) (by decide +kernel), List.mem_of_getElem? (i := 641) (by decide +kernel), List.mem_of_getElem? (i := 642) (by decide +kernel)⟩
theorem lw_p29 : lw_okq (⟨"Sandcastles$Game", "behindWave", "(III)I"⟩, 3) := ⟨⟨by decide +kernel, by decide +kernel⟩, List.mem_of_getElem? (i := 361) (by decide +kernel), List.mem_of_getElem? (i := 645) (by decide +kernel), List.mem_of_getElem? (i := 646) (by decide +kernel)⟩
theorem lw_p30 : lw_okq (⟨"Sandcastles", "firstOther", "(LSandcastles$Sheet;LSandcastles$Fort;)I"⟩, 10) := ⟨⟨by decide +kernel, by decide +kernel⟩, List.mem_of_getElem? (i := 19) (by decide +kernel), List.mem_of_getElem? (i := 659) (by decide +kernel), List.mem_of_getElem? (i := 660) (by decide +kernel)⟩
theorem lw_p31 : lw_okq (⟨"Sandcastles", "choicesOf", "(I)I"⟩, 10) := ⟨⟨by decide +kernel, by decide +kernel⟩, List.mem_of_getElem? (i := 19) (by decide +kernel), List.mem_of_getElem? (i := 663) (by decide +kernel), List.mem_of_getElem? (i := 664) (by decide +kernel)⟩
def lw_privs_2 : List (MethodName × Nat) := [(⟨"Sandcastles$Reader", "readOne", "(LSandcastles$Text;)V"⟩, 5), (⟨"Sandcastles$Reader", "closeAll", "(IILSandcastles$Text;)V"⟩, 5), (⟨"Sandcastles$Text", "tell", "(IILSandcastles$Strand;LSandcastles$Fort;)I"⟩, 7), (⟨"Sandcastles$Text", "push", "(I)V"⟩, 7), (⟨"Sandcastles$Text", "pop", "()I"⟩, 7), (⟨"Sandcastles$Fort", "isDry", "(I)Z"⟩, 6), (⟨"Sandcastles", "isView", "(I)Z"⟩, 10), (⟨"Sandcastles", "think", "()LSandcastles$Strand;"⟩, 10), (⟨"Sandcastles", "view", "(I)I"⟩, 10), (⟨"Sandcastles", "sheetAt", "(I)LSandcastles$Sheet;"⟩, 10), (⟨"Sandcastles", "isPlan", "(LSandcastles$Sheet;)Z"⟩, 10), (⟨"Sandcastles$Game", "most", "(III)I"⟩, 3), (⟨"Sandcastles$Game", "least", "(III)I"⟩, 3), (⟨"Sandcastles$Game", "behindWave", "(III)I"⟩, 3), (⟨"Sandcastles", "firstOther", "(LSandcastles$Sheet;LSandcastles$Fort;)I"⟩, 10), (⟨"Sandcastles", "choicesOf", "(I)I"⟩, 10)]
theorem lw_r2 : ∀ q ∈ lw_privs_2, lw_okq q := List.forall_mem_cons.mpr ⟨lw_p16, List.forall_mem_cons.mpr ⟨lw_p17, List.forall_mem_cons.mpr ⟨lw_p18, List.forall_mem_cons.mpr ⟨lw_p19, List.forall_mem_cons.mpr ⟨lw_p20, List.forall_mem_cons.mpr ⟨lw_p21, List.forall_mem_cons.mpr ⟨lw_p22, List.forall_mem_cons.mpr ⟨lw_p23, List.forall_mem_cons.mpr ⟨lw_p24, List.forall_mem_cons.mpr ⟨lw_p25, List.forall_mem_cons.mpr ⟨lw_p26, List.forall_mem_cons.mpr ⟨lw_p27, List.forall_mem_cons.mpr ⟨lw_p28, List.forall_mem_cons.mpr ⟨lw_p29, List.forall_mem_cons.mpr ⟨lw_p30, List.forall_mem_cons.mpr ⟨lw_p31, fun _ h => absurd h List.not_mem_nil⟩⟩⟩⟩⟩⟩⟩⟩⟩⟩⟩⟩⟩⟩⟩⟩
theorem lw_p32 : lw_okq (⟨"Sandcastles", "suppose", "(LSandcastles$Fort;II)V"⟩, 10) := ⟨⟨by decide +kernel, by decide +kernel⟩, List.mem_of_getElem? (i := 19) (by decide +kernel), List.mem_of_getElem? (i := 667) (by decide +kernel), List.mem_of_getElem? (i := 668) (by decide +kernel)⟩
theorem lw_p33 : lw_okq (⟨"Sandcastles", "passDrawn", "(II)V"⟩, 10) := ⟨⟨by decide +kernel, by decide +kernel⟩, List.mem_of_getElem? (i := 19) (by decide +kernel), List.mem_of_getElem? (i := 689) (by decide +kernel), List.mem_of_getElem? (i := 690) (by decide +kernel)⟩
theorem lw_p34 : lw_okq (⟨"SandcastlesModel", "next", "()V"⟩, 35) := ⟨⟨by decide +kernel, by decide +kernel⟩, List.mem_of_getElem? (i := 752) (by decide +kernel), List.mem_of_getElem? (i := 765) (by decide +kernel), List.mem_of_getElem? (i := 766) (by decide +kernel)⟩
theorem lw_p35 : lw_okq (⟨"SandcastlesModel", "named", "()I"⟩, 35) := ⟨⟨by decide +kernel, by decide +kernel⟩, List.mem_of_getElem? (i := 752) (by decide +kernel), List.mem_of_getElem? (i := 772) (by decide +kernel), List.mem_of_getElem? (i := 773) (by decide +kernel)⟩
theorem lw_p36 : lw_okq (⟨"SandcastlesModel", "isWord", "(Ljava/lang/String;)Z"⟩, 35) := ⟨⟨by decide +kernel, by decide +kernel⟩, List.mem_of_getElem? (i := 752) (by decide +kernel), List.mem_of_getElem? (i := 785) (by decide +kernel), List.mem_of_getElem? (i := 786) (by decide +kernel)⟩
theorem lw_p37 : lw_okq (⟨"SandcastlesModel", "part", "(ILjava/lang/String;)Z"⟩, 35) := ⟨⟨by decide +kernel, by decide +kernel⟩, List.mem_of_getElem? (i := 752) (by decide +kernel), List.mem_of_getElem? (i := 854) (by decide +kernel), List.mem_of_getElem? (i := 855) (by decide +kernel)⟩
theorem lw_p38 : lw_okq (⟨"SandcastlesModel", "takes", "(Ljava/lang/String;)Z"⟩, 35) := ⟨⟨by decide +kernel, by decide +kernel⟩, List.mem_of_getElem? (i := 752) (by decide +kernel), List.mem_of_getElem? (i := 858) (by decide +kernel), List.mem_of_getElem? (i := 859) (by decide +kernel)⟩
theorem lw_p39 : lw_okq (⟨"SandcastlesModel", "fails", "()Z"⟩, 35) := ⟨⟨by decide +kernel, by decide +kernel⟩, List.mem_of_getElem? (i := 752) (by decide +kernel), List.mem_of_getElem? (i := 862) (by decide +kernel), List.mem_of_getElem? (i := 863) (by decide +kernel)⟩
theorem lw_p40 : lw_okq (⟨"SandcastlesModel", "any", "()Z"⟩, 35) := ⟨⟨by decide +kernel, by decide +kernel⟩, List.mem_of_getElem? (i := 752) (by decide +kernel), List.mem_of_getElem? (i := 866) (by decide +kernel), List.mem_of_getElem? (i := 867) (by decide +kernel)⟩
theorem lw_p41 : lw_okq (⟨"SandcastlesModel", "all", "()Z"⟩, 35) := ⟨⟨by decide +kernel, by decide +kernel⟩, List.mem_of_getElem? (i := 752) (by decide +kernel), List.mem_of_getElem? (i := 870) (by decide +kernel), List.mem_of_getElem? (i := 871) (by decide +kernel)⟩
theorem lw_p42 : lw_okq (⟨"SandcastlesModel", "no", "()Z"⟩, 35) := ⟨⟨by decide +kernel, by decide +kernel⟩, List.mem_of_getElem? (i := 752) (by decide +kernel), List.mem_of_getElem? (i := 874) (by decide +kernel), List.mem_of_getElem? (i := 875) (by decide +kernel)⟩
theorem lw_p43 : lw_okq (⟨"SandcastlesModel", "codes", "(I)Z"⟩, 35) := ⟨⟨by decide +kernel, by decide +kernel⟩, List.mem_of_getElem? (i := 752) (by decide +kernel), List.mem_of_getElem? (i := 878) (by decide +kernel), List.mem_of_getElem? (i := 879) (by decide +kernel)⟩
theorem lw_p44 : lw_okq (⟨"SandcastlesModel", "sum", "()Z"⟩, 35) := ⟨⟨by decide +kernel, by decide +kernel⟩, List.mem_of_getElem? (i := 752) (by decide +kernel), List.mem_of_getElem? (i := 882) (by decide +kernel), List.mem_of_getElem? (i := 883) (by decide +kernel)⟩
theorem lw_p45 : lw_okq (⟨"SandcastlesModel", "term", "()Z"⟩, 35) := ⟨⟨by decide +kernel, by decide +kernel⟩, List.mem_of_getElem? (i := 752) (by decide +kernel), List.mem_of_getElem? (i := 886) (by decide +kernel), List.mem_of_getElem? (i := 887) (by decide +kernel)⟩
theorem lw_p46 : lw_okq (⟨"SandcastlesModel", "one", "()Z"⟩, 35) := ⟨⟨by decide +kernel, by decide +kernel⟩, List.mem_of_getElem? (i := 752) (by decide +kernel), List.mem_of_getElem? (i := 890) (by decide +kernel), List.mem_of_getElem? (i := 891) (by decide +kernel)⟩
theorem lw_p47 : lw_okq (⟨"SandcastlesModel", "takes", "(I)Z"⟩, 35) := ⟨⟨by decide +kernel, by decide +kernel⟩, List.mem_of_getElem? (i := 752) (by decide +kernel), List.mem_of_getElem? (i := 894) (by decide +kernel), List.mem_of_getElem? (i := 895) (by decide +kernel)⟩
def lw_privs_3 : List (MethodName × Nat) := [(⟨"Sandcastles", "suppose", "(LSandcastles$Fort;II)V"⟩, 10), (⟨"Sandcastles", "passDrawn", "(II)V"⟩, 10), (⟨"SandcastlesModel", "next", "()V"⟩, 35), (⟨"SandcastlesModel", "named", "()I"⟩, 35), (⟨"SandcastlesModel", "isWord", "(Ljava/lang/String;)Z"⟩, 35), (⟨"SandcastlesModel", "part", "(ILjava/lang/String;)Z"⟩, 35), (⟨"SandcastlesModel", "takes", "(Ljava/lang/String;)Z"⟩, 35), (⟨"SandcastlesModel", "fails", "()Z"⟩, 35), (⟨"SandcastlesModel", "any", "()Z"⟩, 35), (⟨"SandcastlesModel", "all", "()Z"⟩, 35), (⟨"SandcastlesModel", "no", "()Z"⟩, 35), (⟨"SandcastlesModel", "codes", "(I)Z"⟩, 35), (⟨"SandcastlesModel", "sum", "()Z"⟩, 35), (⟨"SandcastlesModel", "term", "()Z"⟩, 35), (⟨"SandcastlesModel", "one", "()Z"⟩, 35), (⟨"SandcastlesModel", "takes", "(I)Z"⟩, 35)]
theorem lw_r3 : ∀ q ∈ lw_privs_3, lw_okq q := List.forall_mem_cons.mpr ⟨lw_p32, List.forall_mem_cons.mpr ⟨lw_p33, List.forall_mem_cons.mpr ⟨lw_p34, List.forall_mem_cons.mpr ⟨lw_p35, List.forall_mem_cons.mpr ⟨lw_p36, List.forall_mem_cons.mpr ⟨lw_p37, List.forall_mem_cons.mpr ⟨lw_p38, List.forall_mem_cons.mpr ⟨lw_p39, List.forall_mem_cons.mpr ⟨lw_p40, List.forall_mem_cons.mpr ⟨lw_p41, List.forall_mem_cons.mpr ⟨lw_p42, List.forall_mem_cons.mpr ⟨lw_p43, List.forall_mem_cons.mpr ⟨lw_p44, List.forall_mem_cons.mpr ⟨lw_p45, List.forall_mem_cons.mpr ⟨lw_p46, List.forall_mem_cons.mpr ⟨lw_p47, fun _ h => absurd h List.not_mem_nil⟩⟩⟩⟩⟩⟩⟩⟩⟩⟩⟩⟩⟩⟩⟩⟩
theorem lw_p48 : lw_okq (⟨"SandcastlesModel", "isFort", "(I)Z"⟩, 35) := ⟨⟨by decide +kernel, by decide +kernel⟩, List.mem_of_getElem? (i := 752) (by decide +kernel), List.mem_of_getElem? (i := 1011) (by decide +kernel), List.mem_of_getElem? (i := 1012) (by decide +kernel)⟩
theorem lw_p49 : lw_okq (⟨"SandcastlesModel", "get", "(II)I"⟩, 35) := ⟨⟨by decide +kernel, by decide +kernel⟩, List.mem_of_getElem? (i := 752) (by decide +kernel), List.mem_of_getElem? (i := 1018) (by decide +kernel), List.mem_of_getElem? (i := 1019) (by decide +kernel)⟩
theorem lw_p50 : lw_okq (⟨"SandcastlesModel", "loses", "(I)I"⟩, 35) := ⟨⟨by decide +kernel, by decide +kernel⟩, List.mem_of_getElem? (i := 752) (by decide +kernel), List.mem_of_getElem? (i := 1022) (by decide +kernel), List.mem_of_getElem? (i := 1023) (by decide +kernel)⟩
theorem lw_p51 : lw_okq (⟨"SandcastlesModel", "says", "(III)I"⟩, 35) := ⟨⟨by decide +kernel, by decide +kernel⟩, List.mem_of_getElem? (i := 752) (by decide +kernel), List.mem_of_getElem? (i := 1026) (by decide +kernel), List.mem_of_getElem? (i := 1027) (by decide +kernel)⟩
theorem lw_p52 : lw_okq (⟨"SandcastlesModel", "shelter", "(I)I"⟩, 35) := ⟨⟨by decide +kernel, by decide +kernel⟩, List.mem_of_getElem? (i := 752) (by decide +kernel), List.mem_of_getElem? (i := 1030) (by decide +kernel), List.mem_of_getElem? (i := 1031) (by decide +kernel)⟩
theorem lw_p53 : lw_okq (⟨"SandcastlesModel", "rises", "(I)I"⟩, 35) := ⟨⟨by decide +kernel, by decide +kernel⟩, List.mem_of_getElem? (i := 752) (by decide +kernel), List.mem_of_getElem? (i := 1039) (by decide +kernel), List.mem_of_getElem? (i := 1040) (by decide +kernel)⟩
theorem lw_p54 : lw_okq (⟨"SandcastlesModel", "put", "(III)V"⟩, 35) := ⟨⟨by decide +kernel, by decide +kernel⟩, List.mem_of_getElem? (i := 752) (by decide +kernel), List.mem_of_getElem? (i := 1043) (by decide +kernel), List.mem_of_getElem? (i := 1044) (by decide +kernel)⟩
theorem lw_p55 : lw_okq (⟨"SandcastlesModel", "comes", "()V"⟩, 35) := ⟨⟨by decide +kernel, by decide +kernel⟩, List.mem_of_getElem? (i := 752) (by decide +kernel), List.mem_of_getElem? (i := 1068) (by decide +kernel), List.mem_of_getElem? (i := 1069) (by decide +kernel)⟩
theorem lw_p56 : lw_okq (⟨"SandcastlesModel", "standing", "()I"⟩, 35) := ⟨⟨by decide +kernel, by decide +kernel⟩, List.mem_of_getElem? (i := 752) (by decide +kernel), List.mem_of_getElem? (i := 1072) (by decide +kernel), List.mem_of_getElem? (i := 1073) (by decide +kernel)⟩
theorem lw_p57 : lw_okq (⟨"SandcastlesModel", "raised", "(I)V"⟩, 35) := ⟨⟨by decide +kernel, by decide +kernel⟩, List.mem_of_getElem? (i := 752) (by decide +kernel), List.mem_of_getElem? (i := 1080) (by decide +kernel), List.mem_of_getElem? (i := 1081) (by decide +kernel)⟩
theorem lw_p58 : lw_okq (⟨"SandcastlesModel", "isAsked", "(I)Z"⟩, 35) := ⟨⟨by decide +kernel, by decide +kernel⟩, List.mem_of_getElem? (i := 752) (by decide +kernel), List.mem_of_getElem? (i := 1091) (by decide +kernel), List.mem_of_getElem? (i := 1092) (by decide +kernel)⟩
theorem lw_p59 : lw_okq (⟨"SandcastlesModel", "keep", "()V"⟩, 35) := ⟨⟨by decide +kernel, by decide +kernel⟩, List.mem_of_getElem? (i := 752) (by decide +kernel), List.mem_of_getElem? (i := 1096) (by decide +kernel), List.mem_of_getElem? (i := 1097) (by decide +kernel)⟩
theorem lw_p60 : lw_okq (⟨"SandcastlesModel", "waves", "(I)V"⟩, 35) := ⟨⟨by decide +kernel, by decide +kernel⟩, List.mem_of_getElem? (i := 752) (by decide +kernel), List.mem_of_getElem? (i := 1100) (by decide +kernel), List.mem_of_getElem? (i := 1101) (by decide +kernel)⟩
theorem lw_p61 : lw_okq (⟨"SandcastlesModel", "asked", "(I)I"⟩, 35) := ⟨⟨by decide +kernel, by decide +kernel⟩, List.mem_of_getElem? (i := 752) (by decide +kernel), List.mem_of_getElem? (i := 1104) (by decide +kernel), List.mem_of_getElem? (i := 1105) (by decide +kernel)⟩
theorem lw_p62 : lw_okq (⟨"SandcastlesModel", "bay", "()I"⟩, 35) := ⟨⟨by decide +kernel, by decide +kernel⟩, List.mem_of_getElem? (i := 752) (by decide +kernel), List.mem_of_getElem? (i := 1108) (by decide +kernel), List.mem_of_getElem? (i := 1109) (by decide +kernel)⟩
theorem lw_p63 : lw_okq (⟨"SandcastlesModel", "valueOf", "(I)I"⟩, 35) := ⟨⟨by decide +kernel, by decide +kernel⟩, List.mem_of_getElem? (i := 752) (by decide +kernel), List.mem_of_getElem? (i := 1112) (by decide +kernel), List.mem_of_getElem? (i := 1113) (by decide +kernel)⟩
def lw_privs_4 : List (MethodName × Nat) := [(⟨"SandcastlesModel", "isFort", "(I)Z"⟩, 35), (⟨"SandcastlesModel", "get", "(II)I"⟩, 35), (⟨"SandcastlesModel", "loses", "(I)I"⟩, 35), (⟨"SandcastlesModel", "says", "(III)I"⟩, 35), (⟨"SandcastlesModel", "shelter", "(I)I"⟩, 35), (⟨"SandcastlesModel", "rises", "(I)I"⟩, 35), (⟨"SandcastlesModel", "put", "(III)V"⟩, 35), (⟨"SandcastlesModel", "comes", "()V"⟩, 35), (⟨"SandcastlesModel", "standing", "()I"⟩, 35), (⟨"SandcastlesModel", "raised", "(I)V"⟩, 35), (⟨"SandcastlesModel", "isAsked", "(I)Z"⟩, 35), (⟨"SandcastlesModel", "keep", "()V"⟩, 35), (⟨"SandcastlesModel", "waves", "(I)V"⟩, 35), (⟨"SandcastlesModel", "asked", "(I)I"⟩, 35), (⟨"SandcastlesModel", "bay", "()I"⟩, 35), (⟨"SandcastlesModel", "valueOf", "(I)I"⟩, 35)]
theorem lw_r4 : ∀ q ∈ lw_privs_4, lw_okq q := List.forall_mem_cons.mpr ⟨lw_p48, List.forall_mem_cons.mpr ⟨lw_p49, List.forall_mem_cons.mpr ⟨lw_p50, List.forall_mem_cons.mpr ⟨lw_p51, List.forall_mem_cons.mpr ⟨lw_p52, List.forall_mem_cons.mpr ⟨lw_p53, List.forall_mem_cons.mpr ⟨lw_p54, List.forall_mem_cons.mpr ⟨lw_p55, List.forall_mem_cons.mpr ⟨lw_p56, List.forall_mem_cons.mpr ⟨lw_p57, List.forall_mem_cons.mpr ⟨lw_p58, List.forall_mem_cons.mpr ⟨lw_p59, List.forall_mem_cons.mpr ⟨lw_p60, List.forall_mem_cons.mpr ⟨lw_p61, List.forall_mem_cons.mpr ⟨lw_p62, List.forall_mem_cons.mpr ⟨lw_p63, fun _ h => absurd h List.not_mem_nil⟩⟩⟩⟩⟩⟩⟩⟩⟩⟩⟩⟩⟩⟩⟩⟩
theorem lw_p64 : lw_okq (⟨"SandcastlesModel", "again", "()V"⟩, 35) := ⟨⟨by decide +kernel, by decide +kernel⟩, List.mem_of_getElem? (i := 752) (by decide +kernel), List.mem_of_getElem? (i := 1116) (by decide +kernel), List.mem_of_getElem? (i := 1117) (by decide +kernel)⟩
theorem lw_p65 : lw_okq (⟨"SandcastlesModel", "heightBehind", "(II)I"⟩, 35) := ⟨⟨by decide +kernel, by decide +kernel⟩, List.mem_of_getElem? (i := 752) (by decide +kernel), List.mem_of_getElem? (i := 1131) (by decide +kernel), List.mem_of_getElem? (i := 1132) (by decide +kernel)⟩
theorem lw_p66 : lw_okq (⟨"SandcastlesModel", "valueBehind", "(II)I"⟩, 35) := ⟨⟨by decide +kernel, by decide +kernel⟩, List.mem_of_getElem? (i := 752) (by decide +kernel), List.mem_of_getElem? (i := 1147) (by decide +kernel), List.mem_of_getElem? (i := 1148) (by decide +kernel)⟩
theorem lw_p67 : lw_okq (⟨"SandcastlesModel", "search", "(I)I"⟩, 35) := ⟨⟨by decide +kernel, by decide +kernel⟩, List.mem_of_getElem? (i := 752) (by decide +kernel), List.mem_of_getElem? (i := 1155) (by decide +kernel), List.mem_of_getElem? (i := 1156) (by decide +kernel)⟩
theorem lw_p68 : lw_okq (⟨"SandcastlesModel", "otherwise", "(II)I"⟩, 35) := ⟨⟨by decide +kernel, by decide +kernel⟩, List.mem_of_getElem? (i := 752) (by decide +kernel), List.mem_of_getElem? (i := 1163) (by decide +kernel), List.mem_of_getElem? (i := 1164) (by decide +kernel)⟩
theorem lw_p69 : lw_okq (⟨"SandcastlesModel", "becomes", "(III)V"⟩, 35) := ⟨⟨by decide +kernel, by decide +kernel⟩, List.mem_of_getElem? (i := 752) (by decide +kernel), List.mem_of_getElem? (i := 1167) (by decide +kernel), List.mem_of_getElem? (i := 1168) (by decide +kernel)⟩
theorem lw_p70 : lw_okq (⟨"SandcastlesModel", "isSo", "(II)Z"⟩, 35) := ⟨⟨by decide +kernel, by decide +kernel⟩, List.mem_of_getElem? (i := 752) (by decide +kernel), List.mem_of_getElem? (i := 1171) (by decide +kernel), List.mem_of_getElem? (i := 1172) (by decide +kernel)⟩
theorem lw_p71 : lw_okq (⟨"SandcastlesModel", "draws", "(II)V"⟩, 35) := ⟨⟨by decide +kernel, by decide +kernel⟩, List.mem_of_getElem? (i := 752) (by decide +kernel), List.mem_of_getElem? (i := 1187) (by decide +kernel), List.mem_of_getElem? (i := 1188) (by decide +kernel)⟩
def lw_privs_5 : List (MethodName × Nat) := [(⟨"SandcastlesModel", "again", "()V"⟩, 35), (⟨"SandcastlesModel", "heightBehind", "(II)I"⟩, 35), (⟨"SandcastlesModel", "valueBehind", "(II)I"⟩, 35), (⟨"SandcastlesModel", "search", "(I)I"⟩, 35), (⟨"SandcastlesModel", "otherwise", "(II)I"⟩, 35), (⟨"SandcastlesModel", "becomes", "(III)V"⟩, 35), (⟨"SandcastlesModel", "isSo", "(II)Z"⟩, 35), (⟨"SandcastlesModel", "draws", "(II)V"⟩, 35)]
theorem lw_r5 : ∀ q ∈ lw_privs_5, lw_okq q := List.forall_mem_cons.mpr ⟨lw_p64, List.forall_mem_cons.mpr ⟨lw_p65, List.forall_mem_cons.mpr ⟨lw_p66, List.forall_mem_cons.mpr ⟨lw_p67, List.forall_mem_cons.mpr ⟨lw_p68, List.forall_mem_cons.mpr ⟨lw_p69, List.forall_mem_cons.mpr ⟨lw_p70, List.forall_mem_cons.mpr ⟨lw_p71, fun _ h => absurd h List.not_mem_nil⟩⟩⟩⟩⟩⟩⟩⟩
def lw_privs : List (MethodName × Nat) := lw_privs_1 ++ (lw_privs_2 ++ (lw_privs_3 ++ (lw_privs_4 ++ (lw_privs_5))))
def lw_tbl : List Cond := k2_sels lw_privs ++ tables_1
theorem lw_privs_ok : ∀ q ∈ lw_privs, lw_okq q := by
  show ∀ q ∈ lw_privs_1 ++ (lw_privs_2 ++ (lw_privs_3 ++ (lw_privs_4 ++ (lw_privs_5)))), lw_okq q
  exact List.forall_mem_append.mpr ⟨lw_r1, List.forall_mem_append.mpr ⟨lw_r2, List.forall_mem_append.mpr ⟨lw_r3, List.forall_mem_append.mpr ⟨lw_r4, lw_r5⟩⟩⟩⟩
end
section
/-! ===== BEGIN words of one list among another's, by their places ===== -/
theorem goodIn_r {big : List Cond} (ws : List Cond) (ps : List Nat) (hp : ws = ps.filterMap (fun i => big[i]?)) (h : ws.all goodWord = true) : GoodIn big ws := by
  intro w hw
  have h1 := List.all_eq_true.mp h w hw
  rw [hp] at hw
  obtain ⟨i, -, hi⟩ := List.mem_filterMap.mp hw
  have hm : w ∈ big := by first | exact List.mem_of_getElem? hi | exact List.getElem?_mem hi
  exact ⟨hm, good_of_word h1⟩
theorem goodIn_app {big a b : List Cond} (ha : GoodIn big a) (hb : GoodIn big b) : GoodIn big (a ++ b) := fun w h => (List.mem_append.mp h).elim (ha w) (hb w)
theorem goodIn_ca {big a b : List Cond} {c : Cond} (ha : GoodIn big (c :: a)) (hb : GoodIn big b) : GoodIn big (c :: (a ++ b)) := fun w h => (List.mem_cons.mp h).elim (fun e => ha w (List.mem_cons.mpr (Or.inl e))) (fun h => (List.mem_append.mp h).elim (fun h => ha w (List.mem_cons.mpr (Or.inr h))) (hb w))
theorem goodIn_sub {big ws : List Cond} (hm : ∀ w ∈ ws, w ∈ big) (h : ws.all goodWord = true) : GoodIn big ws := fun w hw => ⟨hm w hw, good_of_word (List.all_eq_true.mp h w hw)⟩
def RX0 : String := "Sandcastles$Fort"
def TX0 : u_T := fun k => match k with
  | 0 => ("Sandcastles$Fort", "kind", "I", false)
  | 1 => ("Sandcastles$Fort", "number", "I", false)
  | 2 => ("Sandcastles$Fort", "place", "I", false)
  | 3 => ("Sandcastles$Fort", "realm", "I", false)
  | 4 => ("Sandcastles$Fort", "height", "I", false)
  | _ => ("Sandcastles$Fort", "loss", "I", false)
def tyX0 : Nat → FieldType := fun k => match k with
  | 0 => .int
  | 1 => .int
  | 2 => .int
  | 3 => .int
  | 4 => .int
  | _ => .int
abbrev wsX00 : List Cond := u_ws RX0 TX0 6
theorem nmX0 : ∀ a, a < 6 → ∀ b, b < 6 → a ≠ b → (TX0 a).2.1 ≠ (TX0 b).2.1 := by decide +kernel
theorem tyX0_ok : ∀ k, k < 6 → parseFieldDescriptor (TX0 k).2.2.1 = some (tyX0 k) := by decide +kernel
abbrev cX0_init : ByteArray := prog_2_method_1_code
def yX0_init : MethodName := ⟨RX0, "<init>", "()V"⟩
abbrev cX0_begin : ByteArray := prog_2_method_2_code
def yX0_begin : MethodName := ⟨RX0, "begin", "(III)V"⟩
abbrev cX0_take : ByteArray := prog_2_method_3_code
def yX0_take : MethodName := ⟨RX0, "take", "(LSandcastles$Fort;)V"⟩
abbrev cX0_stands : ByteArray := prog_2_method_4_code
def yX0_stands : MethodName := ⟨RX0, "stands", "()Z"⟩
abbrev cX0_isUnder : ByteArray := prog_2_method_5_code
def yX0_isUnder : MethodName := ⟨RX0, "isUnder", "(I)Z"⟩
abbrev cX0_lossBy : ByteArray := prog_2_method_6_code
def yX0_lossBy : MethodName := ⟨RX0, "lossBy", "(II)I"⟩
abbrev cX0_isDry : ByteArray := prog_2_method_7_code
def yX0_isDry : MethodName := ⟨RX0, "isDry", "(I)Z"⟩
abbrev cX0_riseBy : ByteArray := prog_2_method_8_code
def yX0_riseBy : MethodName := ⟨RX0, "riseBy", "(I)I"⟩
def RX1 : String := "Sandcastles$Game"
def TX1 : u_T := fun k => match k with
  | 0 => ("Sandcastles$Game", "strand", "LSandcastles$Strand;", true)
  | 1 => ("Sandcastles$Game", "heights", "[[I", true)
  | _ => ("Sandcastles$Game", "first", "I", false)
def tyX1 : Nat → FieldType := fun k => match k with
  | 0 => .object "Sandcastles$Strand"
  | 1 => .array (.array .int)
  | _ => .int
abbrev wsX10 : List Cond := u_ws RX1 TX1 3
theorem nmX1 : ∀ a, a < 3 → ∀ b, b < 3 → a ≠ b → (TX1 a).2.1 ≠ (TX1 b).2.1 := by decide +kernel
theorem tyX1_ok : ∀ k, k < 3 → parseFieldDescriptor (TX1 k).2.2.1 = some (tyX1 k) := by decide +kernel
abbrev cX1_init : ByteArray := prog_3_method_1_code
def yX1_init : MethodName := ⟨RX1, "<init>", "(LSandcastles$Strand;)V"⟩
abbrev cX1_most : ByteArray := prog_3_method_2_code
def yX1_most : MethodName := ⟨RX1, "most", "(III)I"⟩
abbrev cX1_least : ByteArray := prog_3_method_3_code
def yX1_least : MethodName := ⟨RX1, "least", "(III)I"⟩
abbrev cX1_behindWave : ByteArray := prog_3_method_4_code
def yX1_behindWave : MethodName := ⟨RX1, "behindWave", "(III)I"⟩
def RX2 : String := "Sandcastles$Reader"
def TX2 : u_T := fun k => match k with
  | 0 => ("Sandcastles$Reader", "tape", "LSandcastles$Tape;", true)
  | 1 => ("Sandcastles$Reader", "at", "I", false)
  | 2 => ("Sandcastles$Reader", "token", "I", false)
  | 3 => ("Sandcastles$Reader", "open", "I", false)
  | _ => ("Sandcastles$Reader", "fault", "I", false)
def tyX2 : Nat → FieldType := fun k => match k with
  | 0 => .object "Sandcastles$Tape"
  | 1 => .int
  | 2 => .int
  | 3 => .int
  | _ => .int
abbrev wsX20 : List Cond := u_ws RX2 TX2 5
theorem nmX2 : ∀ a, a < 5 → ∀ b, b < 5 → a ≠ b → (TX2 a).2.1 ≠ (TX2 b).2.1 := by decide +kernel
theorem tyX2_ok : ∀ k, k < 5 → parseFieldDescriptor (TX2 k).2.2.1 = some (tyX2 k) := by decide +kernel
abbrev cX2_init : ByteArray := prog_4_method_1_code
def yX2_init : MethodName := ⟨RX2, "<init>", "(LSandcastles$Tape;)V"⟩
abbrev cX2_readInto : ByteArray := prog_4_method_2_code
def yX2_readInto : MethodName := ⟨RX2, "readInto", "(LSandcastles$Text;)I"⟩
abbrev cX2_readPart : ByteArray := prog_4_method_3_code
def yX2_readPart : MethodName := ⟨RX2, "readPart", "(ILSandcastles$Text;)V"⟩
abbrev cX2_readE : ByteArray := prog_4_method_4_code
def yX2_readE : MethodName := ⟨RX2, "readE", "(LSandcastles$Text;)V"⟩
abbrev cX2_readAnd : ByteArray := prog_4_method_5_code
def yX2_readAnd : MethodName := ⟨RX2, "readAnd", "(LSandcastles$Text;)V"⟩
abbrev cX2_readNot : ByteArray := prog_4_method_6_code
def yX2_readNot : MethodName := ⟨RX2, "readNot", "(LSandcastles$Text;)V"⟩
abbrev cX2_readSum : ByteArray := prog_4_method_7_code
def yX2_readSum : MethodName := ⟨RX2, "readSum", "(LSandcastles$Text;)V"⟩
abbrev cX2_readTerm : ByteArray := prog_4_method_8_code
def yX2_readTerm : MethodName := ⟨RX2, "readTerm", "(LSandcastles$Text;)V"⟩
abbrev cX2_readOne : ByteArray := prog_4_method_9_code
def yX2_readOne : MethodName := ⟨RX2, "readOne", "(LSandcastles$Text;)V"⟩
abbrev cX2_openAll : ByteArray := prog_4_method_10_code
def yX2_openAll : MethodName := ⟨RX2, "openAll", "(I)I"⟩
abbrev cX2_closeAll : ByteArray := prog_4_method_11_code
def yX2_closeAll : MethodName := ⟨RX2, "closeAll", "(IILSandcastles$Text;)V"⟩
abbrev cX2_expect : ByteArray := prog_4_method_12_code
def yX2_expect : MethodName := ⟨RX2, "expect", "(I)V"⟩
abbrev cX2_goTo : ByteArray := prog_4_method_13_code
def yX2_goTo : MethodName := ⟨RX2, "goTo", "(I)V"⟩
abbrev cX2_fail : ByteArray := prog_4_method_14_code
def yX2_fail : MethodName := ⟨RX2, "fail", "()V"⟩
def RX3 : String := "Sandcastles$Sheet"
def TX3 : u_T := fun k => match k with
  | 0 => ("Sandcastles$Sheet", "row", "[I", true)
  | 1 => ("Sandcastles$Sheet", "sort", "I", false)
  | _ => ("Sandcastles$Sheet", "size", "I", false)
def tyX3 : Nat → FieldType := fun k => match k with
  | 0 => .array .int
  | 1 => .int
  | _ => .int
abbrev wsX30 : List Cond := u_ws RX3 TX3 3
theorem nmX3 : ∀ a, a < 3 → ∀ b, b < 3 → a ≠ b → (TX3 a).2.1 ≠ (TX3 b).2.1 := by decide +kernel
theorem tyX3_ok : ∀ k, k < 3 → parseFieldDescriptor (TX3 k).2.2.1 = some (tyX3 k) := by decide +kernel
abbrev cX3_init : ByteArray := prog_5_method_1_code
def yX3_init : MethodName := ⟨RX3, "<init>", "()V"⟩
abbrev cX3_become : ByteArray := prog_5_method_2_code
def yX3_become : MethodName := ⟨RX3, "become", "(II)V"⟩
abbrev cX3_isMissing : ByteArray := prog_5_method_3_code
def yX3_isMissing : MethodName := ⟨RX3, "isMissing", "()Z"⟩
abbrev cX3_spans : ByteArray := prog_5_method_4_code
def yX3_spans : MethodName := ⟨RX3, "spans", "(II)Z"⟩
abbrev cX3_item : ByteArray := prog_5_method_5_code
def yX3_item : MethodName := ⟨RX3, "item", "(I)I"⟩
abbrev cX3_put : ByteArray := prog_5_method_6_code
def yX3_put : MethodName := ⟨RX3, "put", "(II)Z"⟩
def RX4 : String := "Sandcastles$Strand"
def TX4 : u_T := fun k => match k with
  | 0 => ("Sandcastles$Strand", "forts", "[LSandcastles$Fort;", true)
  | 1 => ("Sandcastles$Strand", "size", "I", false)
  | 2 => ("Sandcastles$Strand", "moon", "I", false)
  | 3 => ("Sandcastles$Strand", "wave", "I", false)
  | _ => ("Sandcastles$Strand", "rule", "LSandcastles$Text;", false)
def tyX4 : Nat → FieldType := fun k => match k with
  | 0 => .array (.object "Sandcastles$Fort")
  | 1 => .int
  | 2 => .int
  | 3 => .int
  | _ => .object "Sandcastles$Text"
abbrev wsX40 : List Cond := u_ws RX4 TX4 5
theorem nmX4 : ∀ a, a < 5 → ∀ b, b < 5 → a ≠ b → (TX4 a).2.1 ≠ (TX4 b).2.1 := by decide +kernel
theorem tyX4_ok : ∀ k, k < 5 → parseFieldDescriptor (TX4 k).2.2.1 = some (tyX4 k) := by decide +kernel
abbrev cX4_init : ByteArray := prog_6_method_1_code
def yX4_init : MethodName := ⟨RX4, "<init>", "(LSandcastles$Text;)V"⟩
abbrev cX4_isFort : ByteArray := prog_6_method_2_code
def yX4_isFort : MethodName := ⟨RX4, "isFort", "(III)Z"⟩
abbrev cX4_add : ByteArray := prog_6_method_3_code
def yX4_add : MethodName := ⟨RX4, "add", "(III)I"⟩
abbrev cX4_at : ByteArray := prog_6_method_4_code
def yX4_at : MethodName := ⟨RX4, "at", "(I)LSandcastles$Fort;"⟩
abbrev cX4_take : ByteArray := prog_6_method_5_code
def yX4_take : MethodName := ⟨RX4, "take", "(LSandcastles$Strand;)V"⟩
abbrev cX4_losesOf : ByteArray := prog_6_method_6_code
def yX4_losesOf : MethodName := ⟨RX4, "losesOf", "(LSandcastles$Fort;)I"⟩
abbrev cX4_risesOf : ByteArray := prog_6_method_7_code
def yX4_risesOf : MethodName := ⟨RX4, "risesOf", "(LSandcastles$Fort;)I"⟩
abbrev cX4_shelterOf : ByteArray := prog_6_method_8_code
def yX4_shelterOf : MethodName := ⟨RX4, "shelterOf", "(LSandcastles$Fort;)I"⟩
abbrev cX4_beat : ByteArray := prog_6_method_9_code
def yX4_beat : MethodName := ⟨RX4, "beat", "()V"⟩
abbrev cX4_pass : ByteArray := prog_6_method_10_code
def yX4_pass : MethodName := ⟨RX4, "pass", "(I)V"⟩
abbrev cX4_raise : ByteArray := prog_6_method_11_code
def yX4_raise : MethodName := ⟨RX4, "raise", "(LSandcastles$Fort;)V"⟩
abbrev cX4_standing : ByteArray := prog_6_method_12_code
def yX4_standing : MethodName := ⟨RX4, "standing", "()I"⟩
abbrev cX4_bay : ByteArray := prog_6_method_13_code
def yX4_bay : MethodName := ⟨RX4, "bay", "()I"⟩
abbrev cX4_valueOf : ByteArray := prog_6_method_14_code
def yX4_valueOf : MethodName := ⟨RX4, "valueOf", "(I)I"⟩
def RX5 : String := "Sandcastles$Tape"
def TX5 : u_T := fun k => match k with
  | 0 => ("Sandcastles$Tape", "bytes", "[I", true)
  | 1 => ("Sandcastles$Tape", "size", "I", false)
  | 2 => ("Sandcastles$Tape", "tokens", "[I", true)
  | _ => ("Sandcastles$Tape", "starts", "[I", true)
def tyX5 : Nat → FieldType := fun k => match k with
  | 0 => .array .int
  | 1 => .int
  | 2 => .array .int
  | _ => .array .int
abbrev wsX50 : List Cond := u_ws RX5 TX5 4
theorem nmX5 : ∀ a, a < 4 → ∀ b, b < 4 → a ≠ b → (TX5 a).2.1 ≠ (TX5 b).2.1 := by decide +kernel
theorem tyX5_ok : ∀ k, k < 4 → parseFieldDescriptor (TX5 k).2.2.1 = some (tyX5 k) := by decide +kernel
abbrev cX5_init : ByteArray := prog_7_method_1_code
def yX5_init : MethodName := ⟨RX5, "<init>", "()V"⟩
abbrev cX5_add : ByteArray := prog_7_method_2_code
def yX5_add : MethodName := ⟨RX5, "add", "(I)Z"⟩
abbrev cX5_clear : ByteArray := prog_7_method_3_code
def yX5_clear : MethodName := ⟨RX5, "clear", "()V"⟩
abbrev cX5_cut : ByteArray := prog_7_method_4_code
def yX5_cut : MethodName := ⟨RX5, "cut", "()V"⟩
abbrev cX5_behind : ByteArray := prog_7_method_5_code
def yX5_behind : MethodName := ⟨RX5, "behind", "(II)I"⟩
abbrev cX5_numberToken : ByteArray := prog_7_method_6_code
def yX5_numberToken : MethodName := ⟨RX5, "numberToken", "(II)I"⟩
abbrev cX5_wordToken : ByteArray := prog_7_method_7_code
def yX5_wordToken : MethodName := ⟨RX5, "wordToken", "(II)I"⟩
abbrev cX5_isWord : ByteArray := prog_7_method_8_code
def yX5_isWord : MethodName := ⟨RX5, "isWord", "(Ljava/lang/String;II)Z"⟩
abbrev cX5_byteAt : ByteArray := prog_7_method_9_code
def yX5_byteAt : MethodName := ⟨RX5, "byteAt", "(I)I"⟩
abbrev cX5_sortAt : ByteArray := prog_7_method_10_code
def yX5_sortAt : MethodName := ⟨RX5, "sortAt", "(I)I"⟩
def RX6 : String := "Sandcastles$Text"
def TX6 : u_T := fun k => match k with
  | 0 => ("Sandcastles$Text", "id", "I", true)
  | 1 => ("Sandcastles$Text", "codes", "[I", true)
  | 2 => ("Sandcastles$Text", "size", "I", false)
  | 3 => ("Sandcastles$Text", "raisesFrom", "I", false)
  | 4 => ("Sandcastles$Text", "worthFrom", "I", false)
  | 5 => ("Sandcastles$Text", "stack", "[I", true)
  | _ => ("Sandcastles$Text", "depth", "I", false)
def tyX6 : Nat → FieldType := fun k => match k with
  | 0 => .int
  | 1 => .array .int
  | 2 => .int
  | 3 => .int
  | 4 => .int
  | 5 => .array .int
  | _ => .int
abbrev wsX60 : List Cond := u_ws RX6 TX6 7
theorem nmX6 : ∀ a, a < 7 → ∀ b, b < 7 → a ≠ b → (TX6 a).2.1 ≠ (TX6 b).2.1 := by decide +kernel
theorem tyX6_ok : ∀ k, k < 7 → parseFieldDescriptor (TX6 k).2.2.1 = some (tyX6 k) := by decide +kernel
abbrev cX6_init : ByteArray := prog_8_method_1_code
def yX6_init : MethodName := ⟨RX6, "<init>", "(I)V"⟩
abbrev cX6_clear : ByteArray := prog_8_method_2_code
def yX6_clear : MethodName := ⟨RX6, "clear", "()V"⟩
abbrev cX6_add : ByteArray := prog_8_method_3_code
def yX6_add : MethodName := ⟨RX6, "add", "(I)V"⟩
abbrev cX6_startRaises : ByteArray := prog_8_method_4_code
def yX6_startRaises : MethodName := ⟨RX6, "startRaises", "()V"⟩
abbrev cX6_startWorth : ByteArray := prog_8_method_5_code
def yX6_startWorth : MethodName := ⟨RX6, "startWorth", "()V"⟩
abbrev cX6_strikeOn : ByteArray := prog_8_method_6_code
def yX6_strikeOn : MethodName := ⟨RX6, "strikeOn", "(LSandcastles$Strand;LSandcastles$Fort;)I"⟩
abbrev cX6_raiseOf : ByteArray := prog_8_method_7_code
def yX6_raiseOf : MethodName := ⟨RX6, "raiseOf", "(LSandcastles$Strand;LSandcastles$Fort;)I"⟩
abbrev cX6_worthOf : ByteArray := prog_8_method_8_code
def yX6_worthOf : MethodName := ⟨RX6, "worthOf", "(LSandcastles$Strand;LSandcastles$Fort;)I"⟩
abbrev cX6_tell : ByteArray := prog_8_method_9_code
def yX6_tell : MethodName := ⟨RX6, "tell", "(IILSandcastles$Strand;LSandcastles$Fort;)I"⟩
abbrev cX6_push : ByteArray := prog_8_method_10_code
def yX6_push : MethodName := ⟨RX6, "push", "(I)V"⟩
abbrev cX6_pop : ByteArray := prog_8_method_11_code
def yX6_pop : MethodName := ⟨RX6, "pop", "()I"⟩
abbrev cX6_named : ByteArray := prog_8_method_12_code
def yX6_named : MethodName := ⟨RX6, "named", "(ILSandcastles$Strand;LSandcastles$Fort;)I"⟩
abbrev cX6_joined : ByteArray := prog_8_method_13_code
def yX6_joined : MethodName := ⟨RX6, "joined", "(III)I"⟩
abbrev cX6_truth : ByteArray := prog_8_method_14_code
def yX6_truth : MethodName := ⟨RX6, "truth", "(Z)I"⟩
def RX7 : String := "Sandcastles"
def TX7 : u_T := fun k => match k with
  | 0 => ("Sandcastles", "tape", "LSandcastles$Tape;", true)
  | 1 => ("Sandcastles", "reader", "LSandcastles$Reader;", true)
  | 2 => ("Sandcastles", "texts", "[LSandcastles$Text;", true)
  | 3 => ("Sandcastles", "textCount", "I", false)
  | 4 => ("Sandcastles", "strand", "LSandcastles$Strand;", true)
  | 5 => ("Sandcastles", "thought", "LSandcastles$Strand;", true)
  | 6 => ("Sandcastles", "image", "LSandcastles$Strand;", true)
  | 7 => ("Sandcastles", "hasImage", "Z", false)
  | 8 => ("Sandcastles", "match", "LSandcastles$Game;", true)
  | _ => ("Sandcastles", "sheets", "[LSandcastles$Sheet;", true)
def tyX7 : Nat → FieldType := fun k => match k with
  | 0 => .object "Sandcastles$Tape"
  | 1 => .object "Sandcastles$Reader"
  | 2 => .array (.object "Sandcastles$Text")
  | 3 => .int
  | 4 => .object "Sandcastles$Strand"
  | 5 => .object "Sandcastles$Strand"
  | 6 => .object "Sandcastles$Strand"
  | 7 => .boolean
  | 8 => .object "Sandcastles$Game"
  | _ => .array (.object "Sandcastles$Sheet")
abbrev wsX70 : List Cond := u_ws RX7 TX7 10
theorem nmX7 : ∀ a, a < 10 → ∀ b, b < 10 → a ≠ b → (TX7 a).2.1 ≠ (TX7 b).2.1 := by decide +kernel
theorem tyX7_ok : ∀ k, k < 10 → parseFieldDescriptor (TX7 k).2.2.1 = some (tyX7 k) := by decide +kernel
abbrev cX7_init : ByteArray := prog_1_method_1_code
def yX7_init : MethodName := ⟨RX7, "<init>", "()V"⟩
abbrev cX7_set : ByteArray := prog_1_method_2_code
def yX7_set : MethodName := ⟨RX7, "set", "(III)I"⟩
abbrev cX7_fort : ByteArray := prog_1_method_3_code
def yX7_fort : MethodName := ⟨RX7, "fort", "(III)I"⟩
abbrev cX7_told : ByteArray := prog_1_method_4_code
def yX7_told : MethodName := ⟨RX7, "told", "(II)I"⟩
abbrev cX7_bound : ByteArray := prog_1_method_5_code
def yX7_bound : MethodName := ⟨RX7, "bound", "(I)I"⟩
abbrev cX7_change : ByteArray := prog_1_method_6_code
def yX7_change : MethodName := ⟨RX7, "change", "(LSandcastles$Fort;II)V"⟩
abbrev cX7_feed : ByteArray := prog_1_method_7_code
def yX7_feed : MethodName := ⟨RX7, "feed", "(I)I"⟩
abbrev cX7_text : ByteArray := prog_1_method_8_code
def yX7_text : MethodName := ⟨RX7, "text", "()I"⟩
abbrev cX7_force : ByteArray := prog_1_method_9_code
def yX7_force : MethodName := ⟨RX7, "force", "(I)I"⟩
abbrev cX7_wave : ByteArray := prog_1_method_10_code
def yX7_wave : MethodName := ⟨RX7, "wave", "()I"⟩
abbrev cX7_spade : ByteArray := prog_1_method_11_code
def yX7_spade : MethodName := ⟨RX7, "spade", "(I)I"⟩
abbrev cX7_run : ByteArray := prog_1_method_12_code
def yX7_run : MethodName := ⟨RX7, "run", "(II)I"⟩
abbrev cX7_plan : ByteArray := prog_1_method_13_code
def yX7_plan : MethodName := ⟨RX7, "plan", "(II)I"⟩
abbrev cX7_isPlan : ByteArray := prog_1_method_14_code
def yX7_isPlan : MethodName := ⟨RX7, "isPlan", "(LSandcastles$Sheet;)Z"⟩
abbrev cX7_isAhead : ByteArray := prog_1_method_15_code
def yX7_isAhead : MethodName := ⟨RX7, "isAhead", "(I)Z"⟩
abbrev cX7_isView : ByteArray := prog_1_method_16_code
def yX7_isView : MethodName := ⟨RX7, "isView", "(I)Z"⟩
abbrev cX7_view : ByteArray := prog_1_method_17_code
def yX7_view : MethodName := ⟨RX7, "view", "(I)I"⟩
abbrev cX7_think : ByteArray := prog_1_method_18_code
def yX7_think : MethodName := ⟨RX7, "think", "()LSandcastles$Strand;"⟩
abbrev cX7_keeps : ByteArray := prog_1_method_19_code
def yX7_keeps : MethodName := ⟨RX7, "keeps", "(II)I"⟩
abbrev cX7_best : ByteArray := prog_1_method_20_code
def yX7_best : MethodName := ⟨RX7, "best", "(III)I"⟩
abbrev cX7_matters : ByteArray := prog_1_method_21_code
def yX7_matters : MethodName := ⟨RX7, "matters", "(III)I"⟩
abbrev cX7_wish : ByteArray := prog_1_method_22_code
def yX7_wish : MethodName := ⟨RX7, "wish", "(III)I"⟩
abbrev cX7_game : ByteArray := prog_1_method_23_code
def yX7_game : MethodName := ⟨RX7, "game", "(II)I"⟩
abbrev cX7_isAnswer : ByteArray := prog_1_method_24_code
def yX7_isAnswer : MethodName := ⟨RX7, "isAnswer", "(I)Z"⟩
abbrev cX7_tells : ByteArray := prog_1_method_25_code
def yX7_tells : MethodName := ⟨RX7, "tells", "(III)I"⟩
abbrev cX7_choicesOf : ByteArray := prog_1_method_26_code
def yX7_choicesOf : MethodName := ⟨RX7, "choicesOf", "(I)I"⟩
abbrev cX7_suppose : ByteArray := prog_1_method_27_code
def yX7_suppose : MethodName := ⟨RX7, "suppose", "(LSandcastles$Fort;II)V"⟩
abbrev cX7_firstOther : ByteArray := prog_1_method_28_code
def yX7_firstOther : MethodName := ⟨RX7, "firstOther", "(LSandcastles$Sheet;LSandcastles$Fort;)I"⟩
abbrev cX7_film : ByteArray := prog_1_method_29_code
def yX7_film : MethodName := ⟨RX7, "film", "(III)I"⟩
abbrev cX7_drawn : ByteArray := prog_1_method_30_code
def yX7_drawn : MethodName := ⟨RX7, "drawn", "(II)I"⟩
abbrev cX7_chance : ByteArray := prog_1_method_31_code
def yX7_chance : MethodName := ⟨RX7, "chance", "(IIII)J"⟩
abbrev cX7_passDrawn : ByteArray := prog_1_method_32_code
def yX7_passDrawn : MethodName := ⟨RX7, "passDrawn", "(II)V"⟩
abbrev cX7_commonDivisor : ByteArray := prog_1_method_33_code
def yX7_commonDivisor : MethodName := ⟨RX7, "commonDivisor", "(II)I"⟩
abbrev cX7_image : ByteArray := prog_1_method_34_code
def yX7_image : MethodName := ⟨RX7, "image", "()I"⟩
abbrev cX7_back : ByteArray := prog_1_method_35_code
def yX7_back : MethodName := ⟨RX7, "back", "()I"⟩
abbrev cX7_count : ByteArray := prog_1_method_36_code
def yX7_count : MethodName := ⟨RX7, "count", "(I)I"⟩
abbrev cX7_sheet : ByteArray := prog_1_method_37_code
def yX7_sheet : MethodName := ⟨RX7, "sheet", "(III)I"⟩
abbrev cX7_cell : ByteArray := prog_1_method_38_code
def yX7_cell : MethodName := ⟨RX7, "cell", "(III)I"⟩
abbrev cX7_copy : ByteArray := prog_1_method_39_code
def yX7_copy : MethodName := ⟨RX7, "copy", "(IIIII)I"⟩
abbrev cX7_forts : ByteArray := prog_1_method_40_code
def yX7_forts : MethodName := ⟨RX7, "forts", "(IIII)I"⟩
abbrev cX7_taken : ByteArray := prog_1_method_41_code
def yX7_taken : MethodName := ⟨RX7, "taken", "(II)I"⟩
abbrev cX7_sheetAt : ByteArray := prog_1_method_42_code
def yX7_sheetAt : MethodName := ⟨RX7, "sheetAt", "(I)LSandcastles$Sheet;"⟩
def RX8 : String := "SandcastlesModel"
def TX8 : u_T := fun k => match k with
  | 0 => ("SandcastlesModel", "moon", "I", false)
  | 1 => ("SandcastlesModel", "wave", "I", false)
  | 2 => ("SandcastlesModel", "forts", "I", false)
  | 3 => ("SandcastlesModel", "kind", "[I", true)
  | 4 => ("SandcastlesModel", "number", "[I", true)
  | 5 => ("SandcastlesModel", "place", "[I", true)
  | 6 => ("SandcastlesModel", "realm", "[I", true)
  | 7 => ("SandcastlesModel", "height", "[I", true)
  | 8 => ("SandcastlesModel", "rule", "I", false)
  | 9 => ("SandcastlesModel", "taped", "I", false)
  | 10 => ("SandcastlesModel", "tape", "[I", true)
  | 11 => ("SandcastlesModel", "texts", "I", false)
  | 12 => ("SandcastlesModel", "begins", "[I", true)
  | 13 => ("SandcastlesModel", "length", "[I", true)
  | 14 => ("SandcastlesModel", "code", "[I", true)
  | 15 => ("SandcastlesModel", "coded", "I", false)
  | 16 => ("SandcastlesModel", "from", "I", false)
  | 17 => ("SandcastlesModel", "to", "I", false)
  | 18 => ("SandcastlesModel", "token", "I", false)
  | 19 => ("SandcastlesModel", "value", "I", false)
  | 20 => ("SandcastlesModel", "fault", "I", false)
  | 21 => ("SandcastlesModel", "open", "I", false)
  | 22 => ("SandcastlesModel", "stack", "[I", true)
  | 23 => ("SandcastlesModel", "ahead", "[I", true)
  | 24 => ("SandcastlesModel", "aheadWave", "I", false)
  | 25 => ("SandcastlesModel", "aheadMoon", "I", false)
  | 26 => ("SandcastlesModel", "games", "[I", true)
  | 27 => ("SandcastlesModel", "firstMove", "I", false)
  | 28 => ("SandcastlesModel", "losses", "[I", true)
  | 29 => ("SandcastlesModel", "imaged", "Z", false)
  | 30 => ("SandcastlesModel", "oldForts", "I", false)
  | 31 => ("SandcastlesModel", "old", "[I", true)
  | 32 => ("SandcastlesModel", "sheetSort", "[I", true)
  | 33 => ("SandcastlesModel", "sheetSize", "[I", true)
  | _ => ("SandcastlesModel", "cells", "[I", true)
def tyX8 : Nat → FieldType := fun k => match k with
  | 0 => .int
  | 1 => .int
  | 2 => .int
  | 3 => .array .int
  | 4 => .array .int
  | 5 => .array .int
  | 6 => .array .int
  | 7 => .array .int
  | 8 => .int
  | 9 => .int
  | 10 => .array .int
  | 11 => .int
  | 12 => .array .int
  | 13 => .array .int
  | 14 => .array .int
  | 15 => .int
  | 16 => .int
  | 17 => .int
  | 18 => .int
  | 19 => .int
  | 20 => .int
  | 21 => .int
  | 22 => .array .int
  | 23 => .array .int
  | 24 => .int
  | 25 => .int
  | 26 => .array .int
  | 27 => .int
  | 28 => .array .int
  | 29 => .boolean
  | 30 => .int
  | 31 => .array .int
  | 32 => .array .int
  | 33 => .array .int
  | _ => .array .int
abbrev wsX80 : List Cond := u_ws RX8 TX8 35
theorem nmX8 : ∀ a, a < 35 → ∀ b, b < 35 → a ≠ b → (TX8 a).2.1 ≠ (TX8 b).2.1 := by decide +kernel
theorem tyX8_ok : ∀ k, k < 35 → parseFieldDescriptor (TX8 k).2.2.1 = some (tyX8 k) := by decide +kernel
abbrev cX8_init : ByteArray := prog_10_method_1_code
def yX8_init : MethodName := ⟨RX8, "<init>", "()V"⟩
abbrev cX8_within : ByteArray := prog_10_method_2_code
def yX8_within : MethodName := ⟨RX8, "within", "(III)Z"⟩
abbrev cX8_isFort : ByteArray := prog_10_method_3_code
def yX8_isFort : MethodName := ⟨RX8, "isFort", "(I)Z"⟩
abbrev cX8_isWaves : ByteArray := prog_10_method_4_code
def yX8_isWaves : MethodName := ⟨RX8, "isWaves", "(I)Z"⟩
abbrev cX8_isSheet : ByteArray := prog_10_method_5_code
def yX8_isSheet : MethodName := ⟨RX8, "isSheet", "(I)Z"⟩
abbrev cX8_most : ByteArray := prog_10_method_6_code
def yX8_most : MethodName := ⟨RX8, "most", "(I)I"⟩
abbrev cX8_get : ByteArray := prog_10_method_7_code
def yX8_get : MethodName := ⟨RX8, "get", "(II)I"⟩
abbrev cX8_put : ByteArray := prog_10_method_8_code
def yX8_put : MethodName := ⟨RX8, "put", "(III)V"⟩
abbrev cX8_set : ByteArray := prog_10_method_9_code
def yX8_set : MethodName := ⟨RX8, "set", "(III)I"⟩
abbrev cX8_fort : ByteArray := prog_10_method_10_code
def yX8_fort : MethodName := ⟨RX8, "fort", "(III)I"⟩
abbrev cX8_told : ByteArray := prog_10_method_11_code
def yX8_told : MethodName := ⟨RX8, "told", "(II)I"⟩
abbrev cX8_feed : ByteArray := prog_10_method_12_code
def yX8_feed : MethodName := ⟨RX8, "feed", "(I)I"⟩
abbrev cX8_isLetter : ByteArray := prog_10_method_13_code
def yX8_isLetter : MethodName := ⟨RX8, "isLetter", "(I)Z"⟩
abbrev cX8_isDigit : ByteArray := prog_10_method_14_code
def yX8_isDigit : MethodName := ⟨RX8, "isDigit", "(I)Z"⟩
abbrev cX8_isWord : ByteArray := prog_10_method_15_code
def yX8_isWord : MethodName := ⟨RX8, "isWord", "(Ljava/lang/String;)Z"⟩
abbrev cX8_name : ByteArray := prog_10_method_16_code
def yX8_name : MethodName := ⟨RX8, "name", "(I)Ljava/lang/String;"⟩
abbrev cX8_named : ByteArray := prog_10_method_17_code
def yX8_named : MethodName := ⟨RX8, "named", "()I"⟩
abbrev cX8_next : ByteArray := prog_10_method_18_code
def yX8_next : MethodName := ⟨RX8, "next", "()V"⟩
abbrev cX8_fails : ByteArray := prog_10_method_19_code
def yX8_fails : MethodName := ⟨RX8, "fails", "()Z"⟩
abbrev cX8_takes : ByteArray := prog_10_method_20_code
def yX8_takes : MethodName := ⟨RX8, "takes", "(I)Z"⟩
abbrev cX8_takes_ : ByteArray := prog_10_method_21_code
def yX8_takes_ : MethodName := ⟨RX8, "takes", "(Ljava/lang/String;)Z"⟩
abbrev cX8_codes : ByteArray := prog_10_method_22_code
def yX8_codes : MethodName := ⟨RX8, "codes", "(I)Z"⟩
abbrev cX8_one : ByteArray := prog_10_method_23_code
def yX8_one : MethodName := ⟨RX8, "one", "()Z"⟩
abbrev cX8_term : ByteArray := prog_10_method_24_code
def yX8_term : MethodName := ⟨RX8, "term", "()Z"⟩
abbrev cX8_sum : ByteArray := prog_10_method_25_code
def yX8_sum : MethodName := ⟨RX8, "sum", "()Z"⟩
abbrev cX8_no : ByteArray := prog_10_method_26_code
def yX8_no : MethodName := ⟨RX8, "no", "()Z"⟩
abbrev cX8_all : ByteArray := prog_10_method_27_code
def yX8_all : MethodName := ⟨RX8, "all", "()Z"⟩
abbrev cX8_any : ByteArray := prog_10_method_28_code
def yX8_any : MethodName := ⟨RX8, "any", "()Z"⟩
abbrev cX8_part : ByteArray := prog_10_method_29_code
def yX8_part : MethodName := ⟨RX8, "part", "(ILjava/lang/String;)Z"⟩
abbrev cX8_text : ByteArray := prog_10_method_30_code
def yX8_text : MethodName := ⟨RX8, "text", "()I"⟩
abbrev cX8_force : ByteArray := prog_10_method_31_code
def yX8_force : MethodName := ⟨RX8, "force", "(I)I"⟩
abbrev cX8_says : ByteArray := prog_10_method_32_code
def yX8_says : MethodName := ⟨RX8, "says", "(III)I"⟩
abbrev cX8_both : ByteArray := prog_10_method_33_code
def yX8_both : MethodName := ⟨RX8, "both", "(III)I"⟩
abbrev cX8_shelter : ByteArray := prog_10_method_34_code
def yX8_shelter : MethodName := ⟨RX8, "shelter", "(I)I"⟩
abbrev cX8_loses : ByteArray := prog_10_method_35_code
def yX8_loses : MethodName := ⟨RX8, "loses", "(I)I"⟩
abbrev cX8_rises : ByteArray := prog_10_method_36_code
def yX8_rises : MethodName := ⟨RX8, "rises", "(I)I"⟩
abbrev cX8_standing : ByteArray := prog_10_method_37_code
def yX8_standing : MethodName := ⟨RX8, "standing", "()I"⟩
abbrev cX8_comes : ByteArray := prog_10_method_38_code
def yX8_comes : MethodName := ⟨RX8, "comes", "()V"⟩
abbrev cX8_raised : ByteArray := prog_10_method_39_code
def yX8_raised : MethodName := ⟨RX8, "raised", "(I)V"⟩
abbrev cX8_wave : ByteArray := prog_10_method_40_code
def yX8_wave : MethodName := ⟨RX8, "wave", "()I"⟩
abbrev cX8_spade : ByteArray := prog_10_method_41_code
def yX8_spade : MethodName := ⟨RX8, "spade", "(I)I"⟩
abbrev cX8_keep : ByteArray := prog_10_method_42_code
def yX8_keep : MethodName := ⟨RX8, "keep", "()V"⟩
abbrev cX8_again : ByteArray := prog_10_method_43_code
def yX8_again : MethodName := ⟨RX8, "again", "()V"⟩
abbrev cX8_waves : ByteArray := prog_10_method_44_code
def yX8_waves : MethodName := ⟨RX8, "waves", "(I)V"⟩
abbrev cX8_bay : ByteArray := prog_10_method_45_code
def yX8_bay : MethodName := ⟨RX8, "bay", "()I"⟩
abbrev cX8_valueOf : ByteArray := prog_10_method_46_code
def yX8_valueOf : MethodName := ⟨RX8, "valueOf", "(I)I"⟩
abbrev cX8_isAsked : ByteArray := prog_10_method_47_code
def yX8_isAsked : MethodName := ⟨RX8, "isAsked", "(I)Z"⟩
abbrev cX8_asked : ByteArray := prog_10_method_48_code
def yX8_asked : MethodName := ⟨RX8, "asked", "(I)I"⟩
abbrev cX8_run : ByteArray := prog_10_method_49_code
def yX8_run : MethodName := ⟨RX8, "run", "(II)I"⟩
abbrev cX8_plan : ByteArray := prog_10_method_50_code
def yX8_plan : MethodName := ⟨RX8, "plan", "(II)I"⟩
abbrev cX8_heightBehind : ByteArray := prog_10_method_51_code
def yX8_heightBehind : MethodName := ⟨RX8, "heightBehind", "(II)I"⟩
abbrev cX8_valueBehind : ByteArray := prog_10_method_52_code
def yX8_valueBehind : MethodName := ⟨RX8, "valueBehind", "(II)I"⟩
abbrev cX8_keeps : ByteArray := prog_10_method_53_code
def yX8_keeps : MethodName := ⟨RX8, "keeps", "(II)I"⟩
abbrev cX8_best : ByteArray := prog_10_method_54_code
def yX8_best : MethodName := ⟨RX8, "best", "(III)I"⟩
abbrev cX8_matters : ByteArray := prog_10_method_55_code
def yX8_matters : MethodName := ⟨RX8, "matters", "(III)I"⟩
abbrev cX8_wish : ByteArray := prog_10_method_56_code
def yX8_wish : MethodName := ⟨RX8, "wish", "(III)I"⟩
abbrev cX8_search : ByteArray := prog_10_method_57_code
def yX8_search : MethodName := ⟨RX8, "search", "(I)I"⟩
abbrev cX8_game : ByteArray := prog_10_method_58_code
def yX8_game : MethodName := ⟨RX8, "game", "(II)I"⟩
abbrev cX8_otherwise : ByteArray := prog_10_method_59_code
def yX8_otherwise : MethodName := ⟨RX8, "otherwise", "(II)I"⟩
abbrev cX8_isSo : ByteArray := prog_10_method_60_code
def yX8_isSo : MethodName := ⟨RX8, "isSo", "(II)Z"⟩
abbrev cX8_tells : ByteArray := prog_10_method_61_code
def yX8_tells : MethodName := ⟨RX8, "tells", "(III)I"⟩
abbrev cX8_becomes : ByteArray := prog_10_method_62_code
def yX8_becomes : MethodName := ⟨RX8, "becomes", "(III)V"⟩
abbrev cX8_film : ByteArray := prog_10_method_63_code
def yX8_film : MethodName := ⟨RX8, "film", "(III)I"⟩
abbrev cX8_draws : ByteArray := prog_10_method_64_code
def yX8_draws : MethodName := ⟨RX8, "draws", "(II)V"⟩
abbrev cX8_drawn : ByteArray := prog_10_method_65_code
def yX8_drawn : MethodName := ⟨RX8, "drawn", "(II)I"⟩
abbrev cX8_chance : ByteArray := prog_10_method_66_code
def yX8_chance : MethodName := ⟨RX8, "chance", "(IIII)J"⟩
abbrev cX8_image : ByteArray := prog_10_method_67_code
def yX8_image : MethodName := ⟨RX8, "image", "()I"⟩
abbrev cX8_back : ByteArray := prog_10_method_68_code
def yX8_back : MethodName := ⟨RX8, "back", "()I"⟩
abbrev cX8_count : ByteArray := prog_10_method_69_code
def yX8_count : MethodName := ⟨RX8, "count", "(I)I"⟩
abbrev cX8_sheet : ByteArray := prog_10_method_70_code
def yX8_sheet : MethodName := ⟨RX8, "sheet", "(III)I"⟩
abbrev cX8_cell : ByteArray := prog_10_method_71_code
def yX8_cell : MethodName := ⟨RX8, "cell", "(III)I"⟩
abbrev cX8_copy : ByteArray := prog_10_method_72_code
def yX8_copy : MethodName := ⟨RX8, "copy", "(IIIII)I"⟩
abbrev cX8_forts : ByteArray := prog_10_method_73_code
def yX8_forts : MethodName := ⟨RX8, "forts", "(IIII)I"⟩
abbrev cX8_taken : ByteArray := prog_10_method_74_code
def yX8_taken : MethodName := ⟨RX8, "taken", "(II)I"⟩
def RJ11 : String := "java/lang/Character"
def TJ11 : u_T := fun k => match k with
  | _ => ("", "", "", false)
def tyJ11 : Nat → FieldType := fun k => match k with
  | _ => .int
abbrev wsJ110 : List Cond := u_ws RJ11 TJ11 0
theorem nmJ11 : ∀ a, a < 0 → ∀ b, b < 0 → a ≠ b → (TJ11 a).2.1 ≠ (TJ11 b).2.1 := by decide +kernel
theorem tyJ11_ok : ∀ k, k < 0 → parseFieldDescriptor (TJ11 k).2.2.1 = some (tyJ11 k) := by decide +kernel
abbrev cJ11_isValidCodePoint_9a6ad : ByteArray := prog_11_method_11_code
def yJ11_isValidCodePoint_9a6ad : MethodName := ⟨RJ11, "isValidCodePoint", "(I)Z"⟩
abbrev cJ11_highSurrogate_5068e : ByteArray := prog_11_method_28_code
def yJ11_highSurrogate_5068e : MethodName := ⟨RJ11, "highSurrogate", "(I)C"⟩
abbrev cJ11_lowSurrogate_5068e : ByteArray := prog_11_method_29_code
def yJ11_lowSurrogate_5068e : MethodName := ⟨RJ11, "lowSurrogate", "(I)C"⟩
def RJ6 : String := "java/lang/Integer"
def TJ6 : u_T := fun k => match k with
  | _ => ("", "", "", false)
def tyJ6 : Nat → FieldType := fun k => match k with
  | _ => .int
abbrev wsJ60 : List Cond := u_ws RJ6 TJ6 0
theorem nmJ6 : ∀ a, a < 0 → ∀ b, b < 0 → a ≠ b → (TJ6 a).2.1 ≠ (TJ6 b).2.1 := by decide +kernel
theorem tyJ6_ok : ∀ k, k < 0 → parseFieldDescriptor (TJ6 k).2.2.1 = some (tyJ6 k) := by decide +kernel
abbrev cJ6_bitCount_0f7a4 : ByteArray := prog_12_method_49_code
def yJ6_bitCount_0f7a4 : MethodName := ⟨RJ6, "bitCount", "(I)I"⟩
def RJ9 : String := "java/lang/Math"
def TJ9 : u_T := fun k => match k with
  | _ => ("", "", "", false)
def tyJ9 : Nat → FieldType := fun k => match k with
  | _ => .int
abbrev wsJ90 : List Cond := u_ws RJ9 TJ9 0
theorem nmJ9 : ∀ a, a < 0 → ∀ b, b < 0 → a ≠ b → (TJ9 a).2.1 ≠ (TJ9 b).2.1 := by decide +kernel
theorem tyJ9_ok : ∀ k, k < 0 → parseFieldDescriptor (TJ9 k).2.2.1 = some (tyJ9 k) := by decide +kernel
abbrev cJ9_max_7cf53 : ByteArray := prog_13_method_65_code
def yJ9_max_7cf53 : MethodName := ⟨RJ9, "max", "(II)I"⟩
abbrev cJ9_min_7cf53 : ByteArray := prog_13_method_69_code
def yJ9_min_7cf53 : MethodName := ⟨RJ9, "min", "(II)I"⟩
def RJ0 : String := "java/lang/String"
def TJ0 : u_T := fun k => match k with
  | _ => ("", "", "", false)
def tyJ0 : Nat → FieldType := fun k => match k with
  | _ => .int
abbrev wsJ00 : List Cond := u_ws RJ0 TJ0 0
theorem nmJ0 : ∀ a, a < 0 → ∀ b, b < 0 → a ≠ b → (TJ0 a).2.1 ≠ (TJ0 b).2.1 := by decide +kernel
theorem tyJ0_ok : ∀ k, k < 0 → parseFieldDescriptor (TJ0 k).2.2.1 = some (tyJ0 k) := by decide +kernel
abbrev cJ0_length_8abf5 : ByteArray := prog_14_method_54_code
def yJ0_length_8abf5 : MethodName := ⟨RJ0, "length", "()I"⟩
abbrev cJ0_charAt_5068e : ByteArray := prog_14_method_56_code
def yJ0_charAt_5068e : MethodName := ⟨RJ0, "charAt", "(I)C"⟩
abbrev cJ0_indexOf_0f7a4 : ByteArray := prog_14_method_79_code
def yJ0_indexOf_0f7a4 : MethodName := ⟨RJ0, "indexOf", "(I)I"⟩
abbrev cJ0_indexOf_7cf53 : ByteArray := prog_14_method_80_code
def yJ0_indexOf_7cf53 : MethodName := ⟨RJ0, "indexOf", "(II)I"⟩
abbrev cJ0_coder_7d493 : ByteArray := prog_14_method_152_code
def yJ0_coder_7d493 : MethodName := ⟨RJ0, "coder", "()B"⟩
abbrev cJ0_isLatin1_aae02 : ByteArray := prog_14_method_154_code
def yJ0_isLatin1_aae02 : MethodName := ⟨RJ0, "isLatin1", "()Z"⟩
abbrev cJ0_checkIndex_df160 : ByteArray := prog_14_method_155_code
def yJ0_checkIndex_df160 : MethodName := ⟨RJ0, "checkIndex", "(II)V"⟩
abbrev cJ0_checkBoundsBeginEnd_23922 : ByteArray := prog_14_method_158_code
def yJ0_checkBoundsBeginEnd_23922 : MethodName := ⟨RJ0, "checkBoundsBeginEnd", "(III)V"⟩
def RJ1 : String := "java/lang/StringLatin1"
def TJ1 : u_T := fun k => match k with
  | _ => ("", "", "", false)
def tyJ1 : Nat → FieldType := fun k => match k with
  | _ => .int
abbrev wsJ10 : List Cond := u_ws RJ1 TJ1 0
theorem nmJ1 : ∀ a, a < 0 → ∀ b, b < 0 → a ≠ b → (TJ1 a).2.1 ≠ (TJ1 b).2.1 := by decide +kernel
theorem tyJ1_ok : ∀ k, k < 0 → parseFieldDescriptor (TJ1 k).2.2.1 = some (tyJ1 k) := by decide +kernel
abbrev cJ1_charAt_3b067 : ByteArray := prog_15_method_2_code
def yJ1_charAt_3b067 : MethodName := ⟨RJ1, "charAt", "([BI)C"⟩
abbrev cJ1_canEncode_9a6ad : ByteArray := prog_15_method_4_code
def yJ1_canEncode_9a6ad : MethodName := ⟨RJ1, "canEncode", "(I)Z"⟩
abbrev cJ1_indexOf_4cfef : ByteArray := prog_15_method_22_code
def yJ1_indexOf_4cfef : MethodName := ⟨RJ1, "indexOf", "([BIII)I"⟩
abbrev cJ1_indexOfChar_4cfef : ByteArray := prog_15_method_23_code
def yJ1_indexOfChar_4cfef : MethodName := ⟨RJ1, "indexOfChar", "([BIII)I"⟩
def RJ2 : String := "java/lang/StringUTF16"
def TJ2 : u_T := fun k => match k with
  | _ => ("", "", "", false)
def tyJ2 : Nat → FieldType := fun k => match k with
  | _ => .int
abbrev wsJ20 : List Cond := u_ws RJ2 TJ2 0
theorem nmJ2 : ∀ a, a < 0 → ∀ b, b < 0 → a ≠ b → (TJ2 a).2.1 ≠ (TJ2 b).2.1 := by decide +kernel
theorem tyJ2_ok : ∀ k, k < 0 → parseFieldDescriptor (TJ2 k).2.2.1 = some (tyJ2 k) := by decide +kernel
abbrev cJ2_getChar_3b067 : ByteArray := prog_16_method_5_code
def yJ2_getChar_3b067 : MethodName := ⟨RJ2, "getChar", "([BI)C"⟩
abbrev cJ2_length_9d52b : ByteArray := prog_16_method_6_code
def yJ2_length_9d52b : MethodName := ⟨RJ2, "length", "([B)I"⟩
abbrev cJ2_indexOf_4cfef : ByteArray := prog_16_method_40_code
def yJ2_indexOf_4cfef : MethodName := ⟨RJ2, "indexOf", "([BIII)I"⟩
abbrev cJ2_indexOfChar_4cfef : ByteArray := prog_16_method_47_code
def yJ2_indexOfChar_4cfef : MethodName := ⟨RJ2, "indexOfChar", "([BIII)I"⟩
abbrev cJ2_indexOfCharUnsafe_4cfef : ByteArray := prog_16_method_48_code
def yJ2_indexOfCharUnsafe_4cfef : MethodName := ⟨RJ2, "indexOfCharUnsafe", "([BIII)I"⟩
abbrev cJ2_indexOfSupplementary_4cfef : ByteArray := prog_16_method_49_code
def yJ2_indexOfSupplementary_4cfef : MethodName := ⟨RJ2, "indexOfSupplementary", "([BIII)I"⟩
abbrev cJ2_charAt_3b067 : ByteArray := prog_16_method_83_code
def yJ2_charAt_3b067 : MethodName := ⟨RJ2, "charAt", "([BI)C"⟩
abbrev cJ2_checkIndex_2214a : ByteArray := prog_16_method_91_code
def yJ2_checkIndex_2214a : MethodName := ⟨RJ2, "checkIndex", "(I[B)V"⟩
abbrev cJ2_checkBoundsBeginEnd_d044e : ByteArray := prog_16_method_93_code
def yJ2_checkBoundsBeginEnd_d044e : MethodName := ⟨RJ2, "checkBoundsBeginEnd", "(II[B)V"⟩
def RJ10 : String := "java/lang/System"
def TJ10 : u_T := fun k => match k with
  | _ => ("", "", "", false)
def tyJ10 : Nat → FieldType := fun k => match k with
  | _ => .int
abbrev wsJ100 : List Cond := u_ws RJ10 TJ10 0
theorem nmJ10 : ∀ a, a < 0 → ∀ b, b < 0 → a ≠ b → (TJ10 a).2.1 ≠ (TJ10 b).2.1 := by decide +kernel
theorem tyJ10_ok : ∀ k, k < 0 → parseFieldDescriptor (TJ10 k).2.2.1 = some (tyJ10 k) := by decide +kernel
def RJ3 : String := "jdk/internal/util/Preconditions"
def TJ3 : u_T := fun k => match k with
  | _ => ("", "", "", false)
def tyJ3 : Nat → FieldType := fun k => match k with
  | _ => .int
abbrev wsJ30 : List Cond := u_ws RJ3 TJ3 0
theorem nmJ3 : ∀ a, a < 0 → ∀ b, b < 0 → a ≠ b → (TJ3 a).2.1 ≠ (TJ3 b).2.1 := by decide +kernel
theorem tyJ3_ok : ∀ k, k < 0 → parseFieldDescriptor (TJ3 k).2.2.1 = some (tyJ3 k) := by decide +kernel
abbrev cJ3_checkIndex_8e157 : ByteArray := prog_18_method_11_code
def yJ3_checkIndex_8e157 : MethodName := ⟨RJ3, "checkIndex", "(IILjava/util/function/BiFunction;)I"⟩
abbrev cJ3_checkFromToIndex_8c36e : ByteArray := prog_18_method_12_code
def yJ3_checkFromToIndex_8c36e : MethodName := ⟨RJ3, "checkFromToIndex", "(IIILjava/util/function/BiFunction;)I"⟩
def RL : String := "SandcastlesLaw"
abbrev cL_law : ByteArray := code
def yL_law : MethodName := ⟨RL, "law", "([I)Z"⟩
abbrev vwCl : List vw_C := [(RX0, TX0, 6), (RX1, TX1, 3), (RX2, TX2, 5), (RX3, TX3, 3), (RX4, TX4, 5), (RX5, TX5, 4), (RX6, TX6, 7), (RX7, TX7, 10), (RX8, TX8, 35)]
end
section
/-! THE ABSTRACT MACHINE'S WORLD: a heap of typed cells, read as two functions, ints and references -/
abbrev AH : Type := (Nat × (Nat → Nat × Nat)) × (Nat → Nat → Int32) × (Nat → Nat → Option Nat)
/-- the next address; a cell's kind and size (kinds 0 .. 8: the class of that number; 9: int[]; 10 .. 13: rows of references); ints; references -/
def hpZ (h : AH) : Nat := h.1.1
def hpS (h : AH) : Nat → Nat × Nat := h.1.2
def hpI (h : AH) : Nat → Nat → Int32 := h.2.1
def hpR (h : AH) : Nat → Nat → Option Nat := h.2.2
def u2 {α : Type} (f : Nat → Nat → α) (a k : Nat) (v : α) : Nat → Nat → α := fun a' k' => if a' = a ∧ k' = k then v else f a' k'
def iUp (h : AH) (a k : Nat) (v : Int32) : AH := (h.1, u2 h.2.1 a k v, h.2.2)
def rUp (h : AH) (a k : Nat) (v : Option Nat) : AH := (h.1, h.2.1, u2 h.2.2 a k v)
/-- a new cell, all 0 or null -/
def nUp (h : AH) (kd n : Nat) : AH := ((h.1.1 + 1, fun a => if a = h.1.1 then (kd, n) else h.1.2 a), (fun a k => if a = h.1.1 then 0 else h.2.1 a k), fun a k => if a = h.1.1 then none else h.2.2 a k)
theorem u2_same {α : Type} {f : Nat → Nat → α} {a k : Nat} {v : α} : u2 f a k v a k = v := by simp [u2]
theorem u2_ne {α : Type} {f : Nat → Nat → α} {a k a' k' : Nat} {v : α} (h : ¬ (a' = a ∧ k' = k)) : u2 f a k v a' k' = f a' k' := by simp [u2, h]
/-- the kit's contexts -/
abbrev GG : Type := va_G × (Nat → ClassId) × Nat × (Nat → Nat) × (Nat → Nat)
def gB (G : GG) : Nat := G.2.2.1
def gA (G : GG) : Nat → Prop := fun q => gB G ≤ q
def gK (G : GG) : Nat → Nat := G.2.2.2.1
def gV (G : GG) : Nat → Nat := G.2.2.2.2
def tyk : Nat → FieldType := fun k => match k with
  | 9 => .int
  | 10 => .object RX0
  | 11 => .object RX6
  | 12 => .object RX3
  | _ => .array .int
def tysL (cA : Nat → ClassId) : List (ClassId × FieldType) := [(cA 9, tyk 9), (cA 10, tyk 10), (cA 11, tyk 11), (cA 12, tyk 12), (cA 13, tyk 13)]
theorem tysL_at (cA : Nat → ClassId) {k : Nat} (h1 : 9 ≤ k) (h2 : k ≤ 13) : (tysL cA)[k - 9]? = some (cA k, tyk k) := by
  match k, h1, h2 with
  | 9, _, _ => rfl
  | 10, _, _ => rfl
  | 11, _, _ => rfl
  | 12, _, _ => rfl
  | 13, _, _ => rfl
  | k + 14, _, h => exact absurd h (by omega)
def slInt (ci k : Nat) : Bool := match vwCl[ci]? with
  | some q => (q.2.1 k).2.2.1 == "I" || (q.2.1 k).2.2.1 == "Z"
  | none => false
def slN (ci : Nat) : Nat := match vwCl[ci]? with
  | some q => q.2.2
  | none => 0
def enV (h : AH) (ci a k : Nat) : Value := if slInt ci k = true then .int (hpI h a k) else va_rf (hpR h a k)
def enO (h : AH) (ci a : Nat) : List Value := (List.range (slN ci)).map (enV h ci a)
def en (cA : Nat → ClassId) (h : AH) (a : Nat) : va_E :=
  if (hpS h a).1 < 9 then .inr ((hpS h a).1, enO h (hpS h a).1 a)
  else if (hpS h a).1 = 9 then .inl (cA 9, (hpS h a).2, .inl (hpI h a))
  else .inl (cA (hpS h a).1, (hpS h a).2, .inr (.inr (.inr (.inr (hpR h a)))))
def wsH (cA : Nat → ClassId) (b : Nat) (h : AH) : va_W := (List.range (hpZ h - b)).map fun q => (b + q, en cA h (b + q))
theorem wsH_get {cA : Nat → ClassId} {b a : Nat} {h : AH} (h1 : b ≤ a) (h2 : a < hpZ h) : (wsH cA b h)[a - b]? = some (a, en cA h a) := by
  unfold wsH
  rw [List.getElem?_map, List.getElem?_range (by omega)]
  simp only [Option.map_some]
  rw [show b + (a - b) = a by omega]
theorem wsH_of {cA : Nat → ClassId} {b k : Nat} {h : AH} {q : Nat × va_E} (hq : (wsH cA b h)[k]? = some q) : k < hpZ h - b ∧ q = (b + k, en cA h (b + k)) := by
  unfold wsH at hq
  have hk : k < hpZ h - b := by
    have := (List.getElem?_eq_some_iff.mp hq).1
    simpa using this
  rw [List.getElem?_map, List.getElem?_range hk] at hq
  simp only [Option.map_some, Option.some.injEq] at hq
  exact ⟨hk, hq.symm⟩
theorem wsH_D {cA : Nat → ClassId} {b : Nat} {h : AH} : va_D (fun q => b ≤ q) (wsH cA b h) := by
  refine ⟨fun i j p q hp hq e => ?_, fun k q hq => ?_⟩
  · obtain ⟨-, rfl⟩ := wsH_of hp
    obtain ⟨-, rfl⟩ := wsH_of hq
    have e : b + i = b + j := e
    omega
  · obtain ⟨-, rfl⟩ := wsH_of hq
    exact Nat.le_add_right _ _
theorem wsH_set {cA : Nat → ClassId} {b a : Nat} {h h' : AH} (h1 : b ≤ a) (h2 : a < hpZ h) (hz : hpZ h' = hpZ h) (ho : ∀ q, q ≠ a → en cA h' q = en cA h q) : (wsH cA b h).set (a - b) (a, en cA h' a) = wsH cA b h' := by
  apply List.ext_getElem?
  intro k
  by_cases hk : k = a - b
  · subst hk
    rw [List.getElem?_set_self (by unfold wsH; simp; omega), wsH_get h1 (by omega)]
  · rw [List.getElem?_set_ne (fun e => hk e.symm)]
    unfold wsH
    rw [List.getElem?_map, List.getElem?_map, hz]
    by_cases hl : k < hpZ h - b
    · rw [List.getElem?_range hl]
      simp only [Option.map_some]
      rw [ho (b + k) (by omega)]
    · rw [List.getElem?_eq_none (by simp; omega)]
      rfl
/-- the machine's heap is that of the abstract world, from the base on -/
def RelH (G : GG) (h : AH) (H : Heap) : Prop := (∀ a, (hpS h a).1 ≤ 13 → gB G ≤ a ∧ a < hpZ h) ∧ gB G ≤ hpZ h ∧ H.size = hpZ h ∧ va_P G.1 vwCl (wsH G.2.1 (gB G) h) H
/-- the Strings that the classes name: texts by number -/
def kTx : List (List Nat) := [[115, 116, 114, 105, 107, 101, 115, 32, 57, 32, 43, 32, 109, 111, 111, 110, 32, 45, 32, 112, 108, 97, 99, 101, 32, 45, 32, 115, 104, 101, 108, 116, 101, 114, 32, 59, 32, 114, 97, 105, 115, 101, 115, 32, 53, 32, 59, 32, 119, 111, 114, 116, 104, 32, 49, 48, 32, 59], [115, 116, 114, 105, 107, 101, 115], [114, 97, 105, 115, 101, 115], [119, 111, 114, 116, 104], [111, 114], [97, 110, 100], [110, 111, 116], [119, 97, 118, 101], [109, 111, 111, 110], [112, 108, 97, 99, 101], [110, 117, 109, 98, 101, 114], [104, 101, 105, 103, 104, 116], [115, 104, 101, 108, 116, 101, 114], [40, 41, 59, 43, 45, 42, 60, 61]]
def kTn (i : Nat) : Nat := (kTx.getD i []).length
def kTb (i : Nat) : List Int32 := (kTx.getD i []).map Int32.ofNat
/-- where they are named: class, place in its pool, text, number -/
def kRef : List (String × Nat × String × Nat) := [("Sandcastles", 41, "strikes 9 + moon - place - shelter ; raises 5 ; worth 10 ;", 0), ("Sandcastles$Tape", 42, "strikes", 1), ("Sandcastles$Tape", 48, "raises", 2), ("Sandcastles$Tape", 50, "worth", 3), ("Sandcastles$Tape", 52, "or", 4), ("Sandcastles$Tape", 56, "and", 5), ("Sandcastles$Tape", 58, "not", 6), ("Sandcastles$Tape", 60, "wave", 7), ("Sandcastles$Tape", 62, "moon", 8), ("Sandcastles$Tape", 64, "place", 9), ("Sandcastles$Tape", 66, "number", 10), ("Sandcastles$Tape", 68, "height", 11), ("Sandcastles$Tape", 70, "shelter", 12), ("SandcastlesModel", 61, "strikes 9 + moon - place - shelter ; raises 5 ; worth 10 ;", 0), ("SandcastlesModel", 126, "wave", 7), ("SandcastlesModel", 127, "moon", 8), ("SandcastlesModel", 128, "place", 9), ("SandcastlesModel", 129, "number", 10), ("SandcastlesModel", 130, "height", 11), ("SandcastlesModel", 131, "shelter", 12), ("SandcastlesModel", 146, "strikes", 1), ("SandcastlesModel", 148, "raises", 2), ("SandcastlesModel", 150, "worth", 3), ("SandcastlesModel", 152, "or", 4), ("SandcastlesModel", 154, "and", 5), ("SandcastlesModel", 156, "not", 6), ("SandcastlesModel", 164, "();+-*<=", 13)]
def isNest : Cond → Bool := fun w => match w with
  | .fieldLinkNest _ _ _ _ _ _ => true
  | .methodLinkNest _ _ _ _ => true
  | _ => false
def KStr (G : GG) (U : State) (H : Heap) : Prop := (∀ i, i < 14 → vk_S 1 [kTn i] [kTb i] (fun _ => gK G i) (fun _ => gV G i) (gA G) U H) ∧ va_Z "java/lang/String" "COMPACT_STRINGS" "Z" (.int 1) (gA G) U H ∧ va_Zq "jdk/internal/util/Preconditions" "SIOOBE_FORMATTER" "Ljava/util/function/BiFunction;" (gA G) U H
/-- the class of int[][] is there -/
def AOI (U : State) : Prop := (Cond.arrayOver (.array .int)).before #[] U = true
theorem AOI.spec {s : State} (h : AOI s) : ∃ comp c k co, s.vm.findClass (FieldType.array .int).toString = some comp ∧ (s.vm.classes.findIdx? fun (x : Class) => match x.kind with | .array component _ => component == comp | _ => false) = some c ∧ s.vm.classes[c]? = some k ∧ k.kind = .array co (.array .int) ∧ s.vm.findClass ("[" ++ (FieldType.array .int).toString) = some c := by
  unfold AOI Cond.before at h
  simp only [Cond.holds, Cond.value, beq_iff_eq] at h
  cases hc : s.vm.findClass (FieldType.array .int).toString with
  | none => simp [hc] at h
  | some comp =>
    simp only [hc, Option.bind_some, Option.bind_eq_some_iff, Option.map_eq_some_iff] at h
    obtain ⟨c, hi, k, hk, hb⟩ := h
    cases hkind : k.kind with
    | array component ty =>
      rw [hkind] at hb
      simp at hb
      exact ⟨comp, c, k, component, rfl, hi, hk, by rw [hkind, hb.1], hb.2⟩
    | _ => rw [hkind] at hb; simp at hb
theorem AOI.moved {u U : State} (hvm : u.vm.Alike U.vm) (h : AOI u) : AOI U := by
  obtain ⟨comp, c, k, co, h1, h2, h3, h4, h5⟩ := h.spec
  obtain ⟨k', hk', he⟩ := hvm.2.2 _ _ h3
  have hi : (U.vm.classes.findIdx? fun (x : Class) => match x.kind with | .array component _ => component == comp | _ => false) = some c := by
    have e3 : u.vm.bare = U.vm.bare := by first | exact hvm.bare_eq | exact hvm.bare_eq.symm
    have e1 := va_idx_bare u.vm comp
    have e2 := va_idx_bare U.vm comp
    rw [e3] at e1
    exact (e2.symm.trans e1).trans h2
  have hkind : k'.kind = .array co (.array .int) := by rw [he]; exact h4
  have f1 : U.vm.findClass (FieldType.array .int).toString = some comp := by rw [hvm.findClass]; exact h1
  have f2 : U.vm.findClass ("[" ++ (FieldType.array .int).toString) = some c := by rw [hvm.findClass]; exact h5
  unfold AOI Cond.before Cond.holds
  simp only [Cond.value]
  rw [f1, Option.bind_some]
  refine (congrArg (fun o : Option Nat => (o.bind (fun c => (U.vm.classes[c]?).map fun (k : Class) => match k.kind with | .array _ ty => decide (ty = FieldType.array .int) && decide (U.vm.findClass ("[" ++ (FieldType.array .int).toString) = some c) | _ => false) == some true)) hi).trans ?_
  simp [hk', hkind, f2]
/-- what holds at the start of every method -/
def KS (G : GG) (U : State) : Prop := va_K G.1 vwCl (tysL G.2.1) U ∧ (∀ w ∈ lw_tbl, isNest w = true → va_Nw w U) ∧ (∀ r ∈ kRef, vk_R r.1 r.2.1 r.2.2.1 (gK G r.2.2.2) U) ∧ KStr G U U.heap ∧ (va_AO RX0 U ∧ va_AO RX6 U ∧ va_AO RX3 U ∧ AOI U)
theorem KStr.kept {G : GG} {U : State} {H H1 : Heap} (h : KStr G U H) (hq : ∀ a : Nat, a < H.size → ¬ gA G a → H1[a]? = H[a]?) : KStr G U H1 := ⟨fun i hi => (h.1 i hi).kept hq, h.2.1.kept hq, h.2.2.kept hq⟩
theorem KStr.moved {G : GG} {u U : State} {H : Heap} (hvm : u.vm.Alike U.vm) (h : KStr G u H) : KStr G U H := ⟨fun i hi => (h.1 i hi).moved hvm, h.2.1.moved hvm, h.2.2.moved hvm⟩
theorem nest_warm {w : Cond} (hn : isNest w = true) {s U : State} (hW : s.WarmedH U.vm) (h : va_Nw w s) : va_Nw w U := by
  cases w <;> first | exact va_Nw.warmF hW h | exact va_Nw.warmM hW h | cases hn
theorem nest_same {w : Cond} (hn : isNest w = true) {u U : State} (hv : u.vm = U.vm) (h : va_Nw w u) : va_Nw w U := by
  cases w <;> first | exact va_Nw.same rfl hv h | cases hn
/-- from a method's start to that of one that it calls -/
theorem KS.warm {G : GG} {s U : State} (hW : s.WarmedH U.vm) (hq : ∀ a : Nat, a < s.heap.size → ¬ gA G a → U.heap[a]? = s.heap[a]?) (h : KS G s) : KS G U :=
  ⟨va_K.moved hW.alike h.1, fun w hw hn => nest_warm hn hW (h.2.1 w hw hn), fun r hr => (h.2.2.1 r hr).warm hW, (h.2.2.2.1.kept hq).moved hW.alike, va_AO.moved hW.alike h.2.2.2.2.1, va_AO.moved hW.alike h.2.2.2.2.2.1, va_AO.moved hW.alike h.2.2.2.2.2.2.1, AOI.moved hW.alike h.2.2.2.2.2.2.2⟩
theorem KS.same {G : GG} {u U : State} (hv : u.vm = U.vm) (hh : u.heap = U.heap) (h : KS G u) : KS G U := by
  have hA : u.vm.Alike U.vm := by rw [hv]; exact Vm.Alike.refl _
  exact ⟨va_K.moved hA h.1, fun w hw hn => nest_same hn hv (h.2.1 w hw hn), fun r hr => (h.2.2.1 r hr).same hv.symm, by rw [← hh]; exact h.2.2.2.1.moved hA, va_AO.moved hA h.2.2.2.2.1, va_AO.moved hA h.2.2.2.2.2.1, va_AO.moved hA h.2.2.2.2.2.2.1, AOI.moved hA h.2.2.2.2.2.2.2⟩
/-- the words that every contract asks for -/
def tblG : List Cond := lw_tbl.filter goodWord
def tw (w : Cond) : Prop := w ∈ lw_tbl ∧ goodWord w = true
theorem tw.mem {w : Cond} (h : tw w) : w ∈ tblG := List.mem_filter.mpr h
theorem tblG_good : GoodIn tblG tblG := fun w h => ⟨h, good_of_word (List.mem_filter.mp h).2⟩
def rmD (d mc ms : Nat) : Room := { frames := d, cells := mc, slots := ms, locals := 40 * d }
abbrev XK : Type := Room × (List Frame → Array Value → State → State → Prop) × (Array Value → State → Prop)
def Qd (G : GG) (Q : Option Value → AH → Prop) : Array Value → State → Outcome → State → Prop := fun _ st o t => (∃ v h', o = .returned v ∧ Q v h' ∧ RelH G h' t.heap) ∧ va_F (gA G) st t
def kM (G : GG) (d mc ms : Nat) (Q : Option Value → AH → Prop) : XK := (rmD d mc ms, fun below args s => MQ below (Qd G Q) args s mc ms (gA G), fun _ _ => True)
def Cx (G : GG) (K : XK) (y : MethodName) (cc : ByteArray) (L : Nat) (ret : Option FieldType) (p : Program) (s : State) (m : MethodId) (args : Array Value) (meth : Method) (c : Code) : Prop :=
  p.tables.exec = Jvm.exec ∧ c.code = cc ∧ c.maxLocals = L ∧ s.vm.findClass y.cls = some m.cls ∧ (∀ w ∈ tblG, w.before args s = true) ∧ meth.sig.returnType = ret ∧ meth.locks = false ∧ meth.name = y.name ∧ KS G s ∧ gB G ≤ s.heap.size ∧ K.2.2 args s
/-- THE JUDGEMENT: from this instruction on, with these locals, this stack and this world, the method comes to its end as K has it -/
def X (G : GG) (K : XK) (y : MethodName) (cc : ByteArray) (L : Nat) (ret : Option FieldType) (cs sl pc : Nat) (lv : List (Nat × Value)) (st : List Value) (h : AH) : Prop :=
  ∀ (p : Program) (l : Launch) (e : Env) (s : State) (m : MethodId) (args : Array Value) (below : List Frame) (meth : Method) (c : Code) (locs : List Loc) (H : Heap) (ls : Array Slot),
    Cx G K y cc L ret p s m args meth c → RelH G h H → va_S (gA G) s.heap H locs → lv_has ls L lv → W p l e K.1 s m args below meth c H locs cs sl (K.2.1 below args s) (F0 m pc ls st)
/-- a method's contract: from this world with these arguments it comes to an end with Q -/
def AM (G : GG) (d mc ms : Nat) (y : MethodName) (cc : ByteArray) (L : Nat) (ret : Option FieldType) (args : List Value) (h : AH) (Q : Option Value → AH → Prop) : Prop :=
  ∀ l : Launch, Met l y (Cond.code y cc L ret :: tblG) (rmD d mc ms) (va_Pc args (fun U => RelH G h U.heap ∧ KS G U)) (Qd G Q) mc ms (gA G)
theorem am_intro {G : GG} {d mc ms : Nat} {y : MethodName} {cc : ByteArray} {L : Nat} {ret : Option FieldType} {av : List Value} {h : AH} {Q : Option Value → AH → Prop} (hy : plainName y.cls = true) (hL : (lg_sl av).length ≤ L)
    (k : X G (kM G d mc ms Q) y cc L ret 0 0 0 (lv_args 0 av) [] h) : AM G d mc ms y cc L ret av h Q := by
  intro l
  refine Met.ofW (cc := cc) (maxL := L) (ret := ret) hy rfl ?_
  intro p e s m args below meth c s₁ B hml hv
  obtain ⟨rfl, hR, hK⟩ := hv
  have hts := atoms_spec (ws := Cond.code y cc L ret :: tblG) B.pre
  have hown := findClass_of_methodNamed B.named
  have hgb : gB G ≤ s.heap.size := by rw [hR.2.2.1]; exact hR.2.1
  have hl := lv_entry av (n := L) hL
  rw [lg_entry_eq]
  exact k p l e s m av.toArray below meth c [] s.heap _ ⟨B.exec, B.bytes, hml, hown, fun w hw => hts w (List.mem_cons_of_mem _ hw), B.returns, B.notSynchronized, (name_of_methodNamed B.named B.method).1, hK, hgb, trivial⟩ hR va_S.rf hl
end
section
section
variable {G : GG} {K : XK} {y : MethodName} {cc : ByteArray} {L : Nat} {ret : Option FieldType} {cs sl pc : Nat} {lv : List (Nat × Value)} {st : List Value} {h : AH}
theorem x_iconst {n : Int} {v : Int32} (hd : decode cc pc = .ok (.iconst n, 1)) (hv : Int32.ofInt n = v) (k : X G K y cc L ret cs sl (pc + 1) lv (.int v :: st) h) : X G K y cc L ret cs sl pc lv st h := fun p l e s m args below meth c locs H ls C R S V => lv_iconst C.1 C.2.1 hd hv (k p l e s m args below meth c locs H ls C R S V)
theorem x_bipush {n : Int} {v : Int32} (hd : decode cc pc = .ok (.bipush n, 2)) (hv : (Int8.ofInt n).toInt32 = v) (k : X G K y cc L ret cs sl (pc + 2) lv (.int v :: st) h) : X G K y cc L ret cs sl pc lv st h := fun p l e s m args below meth c locs H ls C R S V => lv_bipush C.1 C.2.1 hd hv (k p l e s m args below meth c locs H ls C R S V)
theorem x_sipush {n : Int} {v : Int32} (hd : decode cc pc = .ok (.sipush n, 3)) (hv : (Int16.ofInt n).toInt32 = v) (k : X G K y cc L ret cs sl (pc + 3) lv (.int v :: st) h) : X G K y cc L ret cs sl pc lv st h := fun p l e s m args below meth c locs H ls C R S V => lv_sipush C.1 C.2.1 hd hv (k p l e s m args below meth c locs H ls C R S V)
theorem x_lconst {n : Fin 2} {v : Int64} (hd : decode cc pc = .ok (.lconst n, 1)) (hv : Int64.ofNat (n : Nat) = v) (k : X G K y cc L ret cs sl (pc + 1) lv (.long v :: st) h) : X G K y cc L ret cs sl pc lv st h := fun p l e s m args below meth c locs H ls C R S V => lv_lconst C.1 C.2.1 hd hv (k p l e s m args below meth c locs H ls C R S V)
theorem x_null  (hd : decode cc pc = .ok (.aconst_null, 1))  (k : X G K y cc L ret cs sl (pc + 1) lv (.null :: st) h) : X G K y cc L ret cs sl pc lv st h := fun p l e s m args below meth c locs H ls C R S V => lv_null C.1 C.2.1 hd  (k p l e s m args below meth c locs H ls C R S V)
theorem x_ldc {index : Nat} {v : Int32} (hd : decode cc pc = .ok (.ldc index, 2)) (hw : tw (Cond.constant y.cls index v)) (k : X G K y cc L ret cs sl (pc + 2) lv (.int v :: st) h) : X G K y cc L ret cs sl pc lv st h := fun p l e s m args below meth c locs H ls C R S V => lv_ldc C.1 C.2.1 C.2.2.2.1 (C.2.2.2.2.1 _ hw.mem) hd (k p l e s m args below meth c locs H ls C R S V)
theorem x_ldcw {index : Nat} {v : Int32} (hd : decode cc pc = .ok (.ldc_w index, 3)) (hw : tw (Cond.constant y.cls index v)) (k : X G K y cc L ret cs sl (pc + 3) lv (.int v :: st) h) : X G K y cc L ret cs sl pc lv st h := fun p l e s m args below meth c locs H ls C R S V => lv_ldcw C.1 C.2.1 C.2.2.2.1 (C.2.2.2.2.1 _ hw.mem) hd (k p l e s m args below meth c locs H ls C R S V)
theorem x_ldc2 {index : Nat} {v : Int64} (hd : decode cc pc = .ok (.ldc2_w index, 3)) (hw : tw (Cond.constantLong y.cls index v)) (k : X G K y cc L ret cs sl (pc + 3) lv (.long v :: st) h) : X G K y cc L ret cs sl pc lv st h := fun p l e s m args below meth c locs H ls C R S V => lv_ldc2 C.1 C.2.1 C.2.2.2.1 (C.2.2.2.2.1 _ hw.mem) hd (k p l e s m args below meth c locs H ls C R S V)
theorem x_iload_n {k : Fin 4} {i : Nat} {x : Int32} (hd : decode cc pc = .ok (.iload_n k, 1)) (j : Nat) (hi : (k : Nat) = i) (hl : lv[j]? = some (i, .int x)) (kk : X G K y cc L ret cs sl (pc + 1) lv (.int x :: st) h) : X G K y cc L ret cs sl pc lv st h := fun p l e s m args below meth c locs H ls C R S V => lv_iload_n C.1 C.2.1 hd hi (lv_at V j hl) (kk p l e s m args below meth c locs H ls C R S V)
theorem x_iload {i : Nat} {x : Int32} (hd : decode cc pc = .ok (.iload i, 2)) (j : Nat)  (hl : lv[j]? = some (i, .int x)) (kk : X G K y cc L ret cs sl (pc + 2) lv (.int x :: st) h) : X G K y cc L ret cs sl pc lv st h := fun p l e s m args below meth c locs H ls C R S V => lv_iload C.1 C.2.1 hd  (lv_at V j hl) (kk p l e s m args below meth c locs H ls C R S V)
theorem x_aload_n {k : Fin 4} {i : Nat} {x : Nat} (hd : decode cc pc = .ok (.aload_n k, 1)) (j : Nat) (hi : (k : Nat) = i) (hl : lv[j]? = some (i, .ref x)) (kk : X G K y cc L ret cs sl (pc + 1) lv (.ref x :: st) h) : X G K y cc L ret cs sl pc lv st h := fun p l e s m args below meth c locs H ls C R S V => lv_aload_n C.1 C.2.1 hd hi (lv_at V j hl) (kk p l e s m args below meth c locs H ls C R S V)
theorem x_aload {i : Nat} {x : Nat} (hd : decode cc pc = .ok (.aload i, 2)) (j : Nat)  (hl : lv[j]? = some (i, .ref x)) (kk : X G K y cc L ret cs sl (pc + 2) lv (.ref x :: st) h) : X G K y cc L ret cs sl pc lv st h := fun p l e s m args below meth c locs H ls C R S V => lv_aload C.1 C.2.1 hd  (lv_at V j hl) (kk p l e s m args below meth c locs H ls C R S V)
theorem x_lload_n {k : Fin 4} {i : Nat} {x : Int64} (hd : decode cc pc = .ok (.lload_n k, 1)) (j : Nat) (hi : (k : Nat) = i) (hl : lv[j]? = some (i, .long x)) (kk : X G K y cc L ret cs sl (pc + 1) lv (.long x :: st) h) : X G K y cc L ret cs sl pc lv st h := fun p l e s m args below meth c locs H ls C R S V => lv_lload_n C.1 C.2.1 hd hi (lv_at V j hl) (kk p l e s m args below meth c locs H ls C R S V)
theorem x_lload {i : Nat} {x : Int64} (hd : decode cc pc = .ok (.lload i, 2)) (j : Nat)  (hl : lv[j]? = some (i, .long x)) (kk : X G K y cc L ret cs sl (pc + 2) lv (.long x :: st) h) : X G K y cc L ret cs sl pc lv st h := fun p l e s m args below meth c locs H ls C R S V => lv_lload C.1 C.2.1 hd  (lv_at V j hl) (kk p l e s m args below meth c locs H ls C R S V)
theorem x_aload_nN {k : Fin 4} {i : Nat} (hd : decode cc pc = .ok (.aload_n k, 1)) (j : Nat) (hi : (k : Nat) = i) (hl : lv[j]? = some (i, .null)) (kk : X G K y cc L ret cs sl (pc + 1) lv (.null :: st) h) : X G K y cc L ret cs sl pc lv st h := fun p l e s m args below meth c locs H ls C R S V => lv_aload_nN C.1 C.2.1 hd hi (lv_at V j hl) (kk p l e s m args below meth c locs H ls C R S V)
theorem x_aloadN {i : Nat} (hd : decode cc pc = .ok (.aload i, 2)) (j : Nat) (hl : lv[j]? = some (i, .null)) (kk : X G K y cc L ret cs sl (pc + 2) lv (.null :: st) h) : X G K y cc L ret cs sl pc lv st h := fun p l e s m args below meth c locs H ls C R S V => lv_aloadN C.1 C.2.1 hd (lv_at V j hl) (kk p l e s m args below meth c locs H ls C R S V)
theorem x_istore_n {k : Fin 4} {i : Nat} {x : Int32} {lv' : List (Nat × Value)} (hd : decode cc pc = .ok (.istore_n k, 1)) (hi : (k : Nat) = i) (hn : i < L) (hl : (i, Value.int x) :: lv.filter (fun q => !(q.1 == i) && !(q.1 + 1 == i && q.2.category == 2)) = lv') (kk : X G K y cc L ret cs sl (pc + 1) lv' st h) : X G K y cc L ret cs sl pc lv (Value.int x :: st) h := fun p l e s m args below meth c locs H ls C R S V => lv_istore_n C.1 C.2.1 hd hi V hn hl (fun ls V => kk p l e s m args below meth c locs H ls C R S V)
theorem x_istore {i : Nat} {x : Int32} {lv' : List (Nat × Value)} (hd : decode cc pc = .ok (.istore i, 2))  (hn : i < L) (hl : (i, Value.int x) :: lv.filter (fun q => !(q.1 == i) && !(q.1 + 1 == i && q.2.category == 2)) = lv') (kk : X G K y cc L ret cs sl (pc + 2) lv' st h) : X G K y cc L ret cs sl pc lv (Value.int x :: st) h := fun p l e s m args below meth c locs H ls C R S V => lv_istore C.1 C.2.1 hd  V hn hl (fun ls V => kk p l e s m args below meth c locs H ls C R S V)
theorem x_astore_n {k : Fin 4} {i : Nat} {x : Nat} {lv' : List (Nat × Value)} (hd : decode cc pc = .ok (.astore_n k, 1)) (hi : (k : Nat) = i) (hn : i < L) (hl : (i, Value.ref x) :: lv.filter (fun q => !(q.1 == i) && !(q.1 + 1 == i && q.2.category == 2)) = lv') (kk : X G K y cc L ret cs sl (pc + 1) lv' st h) : X G K y cc L ret cs sl pc lv (Value.ref x :: st) h := fun p l e s m args below meth c locs H ls C R S V => lv_astore_n C.1 C.2.1 hd hi V hn hl (fun ls V => kk p l e s m args below meth c locs H ls C R S V)
theorem x_astore {i : Nat} {x : Nat} {lv' : List (Nat × Value)} (hd : decode cc pc = .ok (.astore i, 2))  (hn : i < L) (hl : (i, Value.ref x) :: lv.filter (fun q => !(q.1 == i) && !(q.1 + 1 == i && q.2.category == 2)) = lv') (kk : X G K y cc L ret cs sl (pc + 2) lv' st h) : X G K y cc L ret cs sl pc lv (Value.ref x :: st) h := fun p l e s m args below meth c locs H ls C R S V => lv_astore C.1 C.2.1 hd  V hn hl (fun ls V => kk p l e s m args below meth c locs H ls C R S V)
theorem x_astore_nN {k : Fin 4} {i : Nat}  {lv' : List (Nat × Value)} (hd : decode cc pc = .ok (.astore_n k, 1)) (hi : (k : Nat) = i) (hn : i < L) (hl : (i, Value.null) :: lv.filter (fun q => !(q.1 == i) && !(q.1 + 1 == i && q.2.category == 2)) = lv') (kk : X G K y cc L ret cs sl (pc + 1) lv' st h) : X G K y cc L ret cs sl pc lv (Value.null :: st) h := fun p l e s m args below meth c locs H ls C R S V => lv_astore_nN C.1 C.2.1 hd hi V hn hl (fun ls V => kk p l e s m args below meth c locs H ls C R S V)
theorem x_astoreN {i : Nat}  {lv' : List (Nat × Value)} (hd : decode cc pc = .ok (.astore i, 2))  (hn : i < L) (hl : (i, Value.null) :: lv.filter (fun q => !(q.1 == i) && !(q.1 + 1 == i && q.2.category == 2)) = lv') (kk : X G K y cc L ret cs sl (pc + 2) lv' st h) : X G K y cc L ret cs sl pc lv (Value.null :: st) h := fun p l e s m args below meth c locs H ls C R S V => lv_astoreN C.1 C.2.1 hd  V hn hl (fun ls V => kk p l e s m args below meth c locs H ls C R S V)
theorem x_lstore_n {k : Fin 4} {i : Nat} {x : Int64} {lv' : List (Nat × Value)} (hd : decode cc pc = .ok (.lstore_n k, 1)) (hi : (k : Nat) = i) (hn : i + 1 < L) (hl : (i, Value.long x) :: lv.filter (fun q => !(q.1 == i) && (!(q.1 == i + 1) && !(q.1 + 1 == i && q.2.category == 2))) = lv') (kk : X G K y cc L ret cs sl (pc + 1) lv' st h) : X G K y cc L ret cs sl pc lv (Value.long x :: st) h := fun p l e s m args below meth c locs H ls C R S V => lv_lstore_n C.1 C.2.1 hd hi V hn hl (fun ls V => kk p l e s m args below meth c locs H ls C R S V)
theorem x_lstore {i : Nat} {x : Int64} {lv' : List (Nat × Value)} (hd : decode cc pc = .ok (.lstore i, 2))  (hn : i + 1 < L) (hl : (i, Value.long x) :: lv.filter (fun q => !(q.1 == i) && (!(q.1 == i + 1) && !(q.1 + 1 == i && q.2.category == 2))) = lv') (kk : X G K y cc L ret cs sl (pc + 2) lv' st h) : X G K y cc L ret cs sl pc lv (Value.long x :: st) h := fun p l e s m args below meth c locs H ls C R S V => lv_lstore C.1 C.2.1 hd  V hn hl (fun ls V => kk p l e s m args below meth c locs H ls C R S V)
theorem x_iinc {i : Nat} {n : Int} {x v : Int32} {lv' : List (Nat × Value)} (hd : decode cc pc = .ok (.iinc i n, 3)) (j : Nat) (hk : lv[j]? = some (i, .int x)) (hv : x + Int32.ofInt n = v) (hn : i < L) (hl : (i, Value.int v) :: lv.filter (fun q => !(q.1 == i) && !(q.1 + 1 == i && q.2.category == 2)) = lv') (kk : X G K y cc L ret cs sl (pc + 3) lv' st h) : X G K y cc L ret cs sl pc lv st h := fun p l e s m args below meth c locs H ls C R S V => lv_iinc C.1 C.2.1 hd V hk hv hn hl (fun ls V => kk p l e s m args below meth c locs H ls C R S V)
theorem x_iadd {x z : Int32} (hd : decode cc pc = .ok (.iadd, 1))  (k : X G K y cc L ret cs sl (pc + 1) lv (.int (x + z) :: st) h) : X G K y cc L ret cs sl pc lv (.int z :: .int x :: st) h := fun p l e s m args below meth c locs H ls C R S V => lv_iadd C.1 C.2.1 hd  (k p l e s m args below meth c locs H ls C R S V)
theorem x_isub {x z : Int32} (hd : decode cc pc = .ok (.isub, 1))  (k : X G K y cc L ret cs sl (pc + 1) lv (.int (x - z) :: st) h) : X G K y cc L ret cs sl pc lv (.int z :: .int x :: st) h := fun p l e s m args below meth c locs H ls C R S V => lv_isub C.1 C.2.1 hd  (k p l e s m args below meth c locs H ls C R S V)
theorem x_imul {x z : Int32} (hd : decode cc pc = .ok (.imul, 1))  (k : X G K y cc L ret cs sl (pc + 1) lv (.int (x * z) :: st) h) : X G K y cc L ret cs sl pc lv (.int z :: .int x :: st) h := fun p l e s m args below meth c locs H ls C R S V => lv_imul C.1 C.2.1 hd  (k p l e s m args below meth c locs H ls C R S V)
theorem x_iand {x z : Int32} (hd : decode cc pc = .ok (.iand, 1))  (k : X G K y cc L ret cs sl (pc + 1) lv (.int (x &&& z) :: st) h) : X G K y cc L ret cs sl pc lv (.int z :: .int x :: st) h := fun p l e s m args below meth c locs H ls C R S V => lv_iand C.1 C.2.1 hd  (k p l e s m args below meth c locs H ls C R S V)
theorem x_ior {x z : Int32} (hd : decode cc pc = .ok (.ior, 1))  (k : X G K y cc L ret cs sl (pc + 1) lv (.int (x ||| z) :: st) h) : X G K y cc L ret cs sl pc lv (.int z :: .int x :: st) h := fun p l e s m args below meth c locs H ls C R S V => lv_ior C.1 C.2.1 hd  (k p l e s m args below meth c locs H ls C R S V)
theorem x_ladd {x z : Int64} (hd : decode cc pc = .ok (.ladd, 1))  (k : X G K y cc L ret cs sl (pc + 1) lv (.long (x + z) :: st) h) : X G K y cc L ret cs sl pc lv (.long z :: .long x :: st) h := fun p l e s m args below meth c locs H ls C R S V => lv_ladd C.1 C.2.1 hd  (k p l e s m args below meth c locs H ls C R S V)
theorem x_lmul {x z : Int64} (hd : decode cc pc = .ok (.lmul, 1))  (k : X G K y cc L ret cs sl (pc + 1) lv (.long (x * z) :: st) h) : X G K y cc L ret cs sl pc lv (.long z :: .long x :: st) h := fun p l e s m args below meth c locs H ls C R S V => lv_lmul C.1 C.2.1 hd  (k p l e s m args below meth c locs H ls C R S V)
theorem x_lsub {x z : Int64} (hd : decode cc pc = .ok (.lsub, 1))  (k : X G K y cc L ret cs sl (pc + 1) lv (.long (x - z) :: st) h) : X G K y cc L ret cs sl pc lv (.long z :: .long x :: st) h := fun p l e s m args below meth c locs H ls C R S V => lv_lsub C.1 C.2.1 hd  (k p l e s m args below meth c locs H ls C R S V)
theorem x_ineg {x : Int32} (hd : decode cc pc = .ok (.ineg, 1))  (k : X G K y cc L ret cs sl (pc + 1) lv (.int (-x) :: st) h) : X G K y cc L ret cs sl pc lv (.int x :: st) h := fun p l e s m args below meth c locs H ls C R S V => lv_ineg C.1 C.2.1 hd  (k p l e s m args below meth c locs H ls C R S V)
--HOLE idiv irem ishl ishr iushr
theorem x_i2l {x : Int32} {v : Int64} (hd : decode cc pc = .ok (.i2l, 1)) (hv : x.toInt64 = v) (k : X G K y cc L ret cs sl (pc + 1) lv (.long v :: st) h) : X G K y cc L ret cs sl pc lv (.int x :: st) h := fun p l e s m args below meth c locs H ls C R S V => lv_i2l C.1 C.2.1 hd hv (k p l e s m args below meth c locs H ls C R S V)
theorem x_l2i {x : Int64} {v : Int32} (hd : decode cc pc = .ok (.l2i, 1)) (hv : x.toInt32 = v) (k : X G K y cc L ret cs sl (pc + 1) lv (.int v :: st) h) : X G K y cc L ret cs sl pc lv (.long x :: st) h := fun p l e s m args below meth c locs H ls C R S V => lv_l2i C.1 C.2.1 hd hv (k p l e s m args below meth c locs H ls C R S V)
theorem x_i2b {x : Int32} {v : Int32} (hd : decode cc pc = .ok (.i2b, 1)) (hv : x.toInt8.toInt32 = v) (k : X G K y cc L ret cs sl (pc + 1) lv (.int v :: st) h) : X G K y cc L ret cs sl pc lv (.int x :: st) h := fun p l e s m args below meth c locs H ls C R S V => lv_i2b C.1 C.2.1 hd hv (k p l e s m args below meth c locs H ls C R S V)
theorem x_i2s {x : Int32} {v : Int32} (hd : decode cc pc = .ok (.i2s, 1)) (hv : x.toInt16.toInt32 = v) (k : X G K y cc L ret cs sl (pc + 1) lv (.int v :: st) h) : X G K y cc L ret cs sl pc lv (.int x :: st) h := fun p l e s m args below meth c locs H ls C R S V => lv_i2s C.1 C.2.1 hd hv (k p l e s m args below meth c locs H ls C R S V)
theorem x_iushr {x z v : Int32} (hd : decode cc pc = .ok (.iushr, 1)) (hv : (x.toUInt32 >>> (z.toUInt32 &&& Int32.toUInt32 31)).toInt32 = v) (k : X G K y cc L ret cs sl (pc + 1) lv (.int v :: st) h) : X G K y cc L ret cs sl pc lv (.int z :: .int x :: st) h := fun p l e s m args below meth c locs H ls C R S V => lv_iushr C.1 C.2.1 hd hv (k p l e s m args below meth c locs H ls C R S V)
theorem x_dup {va : Value} (hd : decode cc pc = .ok (.dup, 1)) (hc : va.category = 1) (k : X G K y cc L ret cs sl (pc + 1) lv (va :: va :: st) h) : X G K y cc L ret cs sl pc lv (va :: st) h := fun p l e s m args below meth c locs H ls C R S V => lv_dup C.1 C.2.1 hd hc (k p l e s m args below meth c locs H ls C R S V)
theorem x_pop {va : Value} (hd : decode cc pc = .ok (.pop, 1)) (hc : va.category = 1) (k : X G K y cc L ret cs sl (pc + 1) lv st h) : X G K y cc L ret cs sl pc lv (va :: st) h := fun p l e s m args below meth c locs H ls C R S V => lv_pop C.1 C.2.1 hd hc (k p l e s m args below meth c locs H ls C R S V)
theorem x_dup_x1 {va vb : Value} (hd : decode cc pc = .ok (.dup_x1, 1)) (hc : va.category = 1) (hc2 : vb.category = 1) (k : X G K y cc L ret cs sl (pc + 1) lv (va :: vb :: va :: st) h) : X G K y cc L ret cs sl pc lv (va :: vb :: st) h := fun p l e s m args below meth c locs H ls C R S V => lv_dup_x1 C.1 C.2.1 hd hc hc2 (k p l e s m args below meth c locs H ls C R S V)
theorem x_if_eq {x : Int32} {off : Int} {tgt : Nat} (hd : decode cc pc = .ok (.ifCond .eq off, 3)) (ht : (pc : Int) + off = (tgt : Int)) (kt : x = 0 → X G K y cc L ret cs sl tgt lv st h) (kf : ¬ x = 0 → X G K y cc L ret cs sl (pc + 3) lv st h) : X G K y cc L ret cs sl pc lv (.int x :: st) h := fun p l e s m args below meth c locs H ls C R S V => lv_if_eq C.1 C.2.1 hd ht (fun q => kt q p l e s m args below meth c locs H ls C R S V) (fun q => kf q p l e s m args below meth c locs H ls C R S V)
theorem x_icmp_eq {x z : Int32} {off : Int} {tgt : Nat} (hd : decode cc pc = .ok (.if_icmp .eq off, 3)) (ht : (pc : Int) + off = (tgt : Int)) (kt : x = z → X G K y cc L ret cs sl tgt lv st h) (kf : ¬ x = z → X G K y cc L ret cs sl (pc + 3) lv st h) : X G K y cc L ret cs sl pc lv (.int z :: .int x :: st) h := fun p l e s m args below meth c locs H ls C R S V => lv_icmp_eq C.1 C.2.1 hd ht (fun q => kt q p l e s m args below meth c locs H ls C R S V) (fun q => kf q p l e s m args below meth c locs H ls C R S V)
theorem x_if_ne {x : Int32} {off : Int} {tgt : Nat} (hd : decode cc pc = .ok (.ifCond .ne off, 3)) (ht : (pc : Int) + off = (tgt : Int)) (kt : ¬ x = 0 → X G K y cc L ret cs sl tgt lv st h) (kf : x = 0 → X G K y cc L ret cs sl (pc + 3) lv st h) : X G K y cc L ret cs sl pc lv (.int x :: st) h := fun p l e s m args below meth c locs H ls C R S V => lv_if_ne C.1 C.2.1 hd ht (fun q => kt q p l e s m args below meth c locs H ls C R S V) (fun q => kf q p l e s m args below meth c locs H ls C R S V)
theorem x_icmp_ne {x z : Int32} {off : Int} {tgt : Nat} (hd : decode cc pc = .ok (.if_icmp .ne off, 3)) (ht : (pc : Int) + off = (tgt : Int)) (kt : ¬ x = z → X G K y cc L ret cs sl tgt lv st h) (kf : x = z → X G K y cc L ret cs sl (pc + 3) lv st h) : X G K y cc L ret cs sl pc lv (.int z :: .int x :: st) h := fun p l e s m args below meth c locs H ls C R S V => lv_icmp_ne C.1 C.2.1 hd ht (fun q => kt q p l e s m args below meth c locs H ls C R S V) (fun q => kf q p l e s m args below meth c locs H ls C R S V)
theorem x_if_lt {x : Int32} {off : Int} {tgt : Nat} (hd : decode cc pc = .ok (.ifCond .lt off, 3)) (ht : (pc : Int) + off = (tgt : Int)) (kt : x < 0 → X G K y cc L ret cs sl tgt lv st h) (kf : ¬ x < 0 → X G K y cc L ret cs sl (pc + 3) lv st h) : X G K y cc L ret cs sl pc lv (.int x :: st) h := fun p l e s m args below meth c locs H ls C R S V => lv_if_lt C.1 C.2.1 hd ht (fun q => kt q p l e s m args below meth c locs H ls C R S V) (fun q => kf q p l e s m args below meth c locs H ls C R S V)
theorem x_icmp_lt {x z : Int32} {off : Int} {tgt : Nat} (hd : decode cc pc = .ok (.if_icmp .lt off, 3)) (ht : (pc : Int) + off = (tgt : Int)) (kt : x < z → X G K y cc L ret cs sl tgt lv st h) (kf : ¬ x < z → X G K y cc L ret cs sl (pc + 3) lv st h) : X G K y cc L ret cs sl pc lv (.int z :: .int x :: st) h := fun p l e s m args below meth c locs H ls C R S V => lv_icmp_lt C.1 C.2.1 hd ht (fun q => kt q p l e s m args below meth c locs H ls C R S V) (fun q => kf q p l e s m args below meth c locs H ls C R S V)
theorem x_if_ge {x : Int32} {off : Int} {tgt : Nat} (hd : decode cc pc = .ok (.ifCond .ge off, 3)) (ht : (pc : Int) + off = (tgt : Int)) (kt : 0 ≤ x → X G K y cc L ret cs sl tgt lv st h) (kf : ¬ 0 ≤ x → X G K y cc L ret cs sl (pc + 3) lv st h) : X G K y cc L ret cs sl pc lv (.int x :: st) h := fun p l e s m args below meth c locs H ls C R S V => lv_if_ge C.1 C.2.1 hd ht (fun q => kt q p l e s m args below meth c locs H ls C R S V) (fun q => kf q p l e s m args below meth c locs H ls C R S V)
theorem x_icmp_ge {x z : Int32} {off : Int} {tgt : Nat} (hd : decode cc pc = .ok (.if_icmp .ge off, 3)) (ht : (pc : Int) + off = (tgt : Int)) (kt : z ≤ x → X G K y cc L ret cs sl tgt lv st h) (kf : ¬ z ≤ x → X G K y cc L ret cs sl (pc + 3) lv st h) : X G K y cc L ret cs sl pc lv (.int z :: .int x :: st) h := fun p l e s m args below meth c locs H ls C R S V => lv_icmp_ge C.1 C.2.1 hd ht (fun q => kt q p l e s m args below meth c locs H ls C R S V) (fun q => kf q p l e s m args below meth c locs H ls C R S V)
theorem x_if_gt {x : Int32} {off : Int} {tgt : Nat} (hd : decode cc pc = .ok (.ifCond .gt off, 3)) (ht : (pc : Int) + off = (tgt : Int)) (kt : 0 < x → X G K y cc L ret cs sl tgt lv st h) (kf : ¬ 0 < x → X G K y cc L ret cs sl (pc + 3) lv st h) : X G K y cc L ret cs sl pc lv (.int x :: st) h := fun p l e s m args below meth c locs H ls C R S V => lv_if_gt C.1 C.2.1 hd ht (fun q => kt q p l e s m args below meth c locs H ls C R S V) (fun q => kf q p l e s m args below meth c locs H ls C R S V)
theorem x_icmp_gt {x z : Int32} {off : Int} {tgt : Nat} (hd : decode cc pc = .ok (.if_icmp .gt off, 3)) (ht : (pc : Int) + off = (tgt : Int)) (kt : z < x → X G K y cc L ret cs sl tgt lv st h) (kf : ¬ z < x → X G K y cc L ret cs sl (pc + 3) lv st h) : X G K y cc L ret cs sl pc lv (.int z :: .int x :: st) h := fun p l e s m args below meth c locs H ls C R S V => lv_icmp_gt C.1 C.2.1 hd ht (fun q => kt q p l e s m args below meth c locs H ls C R S V) (fun q => kf q p l e s m args below meth c locs H ls C R S V)
theorem x_if_le {x : Int32} {off : Int} {tgt : Nat} (hd : decode cc pc = .ok (.ifCond .le off, 3)) (ht : (pc : Int) + off = (tgt : Int)) (kt : x ≤ 0 → X G K y cc L ret cs sl tgt lv st h) (kf : ¬ x ≤ 0 → X G K y cc L ret cs sl (pc + 3) lv st h) : X G K y cc L ret cs sl pc lv (.int x :: st) h := fun p l e s m args below meth c locs H ls C R S V => lv_if_le C.1 C.2.1 hd ht (fun q => kt q p l e s m args below meth c locs H ls C R S V) (fun q => kf q p l e s m args below meth c locs H ls C R S V)
theorem x_icmp_le {x z : Int32} {off : Int} {tgt : Nat} (hd : decode cc pc = .ok (.if_icmp .le off, 3)) (ht : (pc : Int) + off = (tgt : Int)) (kt : x ≤ z → X G K y cc L ret cs sl tgt lv st h) (kf : ¬ x ≤ z → X G K y cc L ret cs sl (pc + 3) lv st h) : X G K y cc L ret cs sl pc lv (.int z :: .int x :: st) h := fun p l e s m args below meth c locs H ls C R S V => lv_icmp_le C.1 C.2.1 hd ht (fun q => kt q p l e s m args below meth c locs H ls C R S V) (fun q => kf q p l e s m args below meth c locs H ls C R S V)
theorem x_goto {off : Int} {tgt : Nat} (hd : decode cc pc = .ok (.goto off, 3)) (ht : (pc : Int) + off = (tgt : Int)) (k : X G K y cc L ret cs sl tgt lv st h) : X G K y cc L ret cs sl pc lv st h := fun p l e s m args below meth c locs H ls C R S V => lv_goto C.1 C.2.1 hd ht (k p l e s m args below meth c locs H ls C R S V)
theorem x_ifnonnull {x : Nat} {off : Int} {tgt : Nat} (hd : decode cc pc = .ok (.ifnonnull off, 3)) (ht : (pc : Int) + off = (tgt : Int)) (k : X G K y cc L ret cs sl tgt lv st h) : X G K y cc L ret cs sl pc lv (.ref x :: st) h := fun p l e s m args below meth c locs H ls C R S V => lv_ifnonnull C.1 C.2.1 hd ht (k p l e s m args below meth c locs H ls C R S V)
theorem x_ifnonnullN {off : Int} (hd : decode cc pc = .ok (.ifnonnull off, 3)) (k : X G K y cc L ret cs sl (pc + 3) lv st h) : X G K y cc L ret cs sl pc lv (.null :: st) h := fun p l e s m args below meth c locs H ls C R S V => lv_ifnonnullN C.1 C.2.1 hd (k p l e s m args below meth c locs H ls C R S V)
theorem x_ifnullN {off : Int} {tgt : Nat} (hd : decode cc pc = .ok (.ifnull off, 3)) (ht : (pc : Int) + off = (tgt : Int)) (k : X G K y cc L ret cs sl tgt lv st h) : X G K y cc L ret cs sl pc lv (.null :: st) h := fun p l e s m args below meth c locs H ls C R S V => lv_ifnullN C.1 C.2.1 hd ht (k p l e s m args below meth c locs H ls C R S V)
theorem x_ifnull {x : Nat} {off : Int} (hd : decode cc pc = .ok (.ifnull off, 3)) (k : X G K y cc L ret cs sl (pc + 3) lv st h) : X G K y cc L ret cs sl pc lv (.ref x :: st) h := fun p l e s m args below meth c locs H ls C R S V => lv_ifnull C.1 C.2.1 hd (k p l e s m args below meth c locs H ls C R S V)
theorem x_lsw {dflt : Int} {ps : Array (Int × Int)} {len : Nat} {x : Int32} {off : Int} {tgt : Nat} (hd : decode cc pc = .ok (.lookupswitch dflt ps, len)) (hp : (ps.toList.zip (ps.toList.drop 1)).all (fun (a, next) => a.1 < next.1) = true) (ho : Op.lookupswitch.offset ps.toList dflt x.toInt = off) (ht : (pc : Int) + off = (tgt : Int)) (k : X G K y cc L ret cs sl tgt lv st h) : X G K y cc L ret cs sl pc lv (.int x :: st) h := fun p l e s m args below meth c locs H ls C R S V => lv_lookup C.1 C.2.1 hd hp ho ht (k p l e s m args below meth c locs H ls C R S V)
theorem x_topi {x : Int32} (k : ∀ z : Int32, z = x → X G K y cc L ret cs sl pc lv (.int z :: st) h) : X G K y cc L ret cs sl pc lv (.int x :: st) h := k x rfl
theorem x_topl {x : Int64} (k : ∀ z : Int64, z = x → X G K y cc L ret cs sl pc lv (.long z :: st) h) : X G K y cc L ret cs sl pc lv (.long x :: st) h := k x rfl
theorem x_heap (k : ∀ g : AH, g = h → X G K y cc L ret cs sl pc lv st g) : X G K y cc L ret cs sl pc lv st h := k h rfl
theorem x_sub {lv' : List (Nat × Value)} (ks : List Nat) (hl : lv_pick lv ks = lv') (k : X G K y cc L ret cs sl pc lv' st h) : X G K y cc L ret cs sl pc lv st h := fun p l e s m args below meth c locs H ls C R S V => k p l e s m args below meth c locs H ls C R S (lv_sub V ks hl)
theorem x_eq {g : AH} (e : h = g) (k : X G K y cc L ret cs sl pc lv st g) : X G K y cc L ret cs sl pc lv st h := e ▸ k
end
section
variable {G : GG} {K : XK} {y : MethodName} {cc : ByteArray} {L : Nat} {ret : Option FieldType} {cs sl pc : Nat} {lv : List (Nat × Value)} {st : List Value} {h : AH}
theorem x_idiv {x z : Int32} (hd : decode cc pc = .ok (.idiv, 1)) (hne : ¬ z = 0) (k : X G K y cc L ret cs sl (pc + 1) lv (.int (x / z) :: st) h) : X G K y cc L ret cs sl pc lv (.int z :: .int x :: st) h := fun p l e s m args below meth c locs H ls C R S V => lv_idiv C.1 C.2.1 hd hne (k p l e s m args below meth c locs H ls C R S V)
theorem x_irem {x z : Int32} (hd : decode cc pc = .ok (.irem, 1)) (hne : ¬ z = 0) (k : X G K y cc L ret cs sl (pc + 1) lv (.int (x - x / z * z) :: st) h) : X G K y cc L ret cs sl pc lv (.int z :: .int x :: st) h := fun p l e s m args below meth c locs H ls C R S V => lv_irem C.1 C.2.1 hd hne (k p l e s m args below meth c locs H ls C R S V)
theorem x_ishl {x z : Int32} (hd : decode cc pc = .ok (.ishl, 1)) (k : X G K y cc L ret cs sl (pc + 1) lv (.int (x <<< (z &&& 31)) :: st) h) : X G K y cc L ret cs sl pc lv (.int z :: .int x :: st) h := fun p l e s m args below meth c locs H ls C R S V => lv_ishl C.1 C.2.1 hd (k p l e s m args below meth c locs H ls C R S V)
theorem x_ishr {x z : Int32} (hd : decode cc pc = .ok (.ishr, 1)) (k : X G K y cc L ret cs sl (pc + 1) lv (.int (x >>> (z &&& 31)) :: st) h) : X G K y cc L ret cs sl pc lv (.int z :: .int x :: st) h := fun p l e s m args below meth c locs H ls C R S V => lv_ishr C.1 C.2.1 hd (k p l e s m args below meth c locs H ls C R S V)
end
theorem ofInt_of_toInt {x : Int32} : Int32.ofInt x.toInt = x := Int32.ofInt_toInt x
theorem toInt_ofInt {z : Int} (h1 : -2147483648 ≤ z) (h2 : z < 2147483648) : (Int32.ofInt z).toInt = z := Int32.toInt_ofInt_of_le (by simpa using h1) (by simpa using h2)
/-- a tableswitch's cases, by value and target -/
def swOK (pc : Nat) (lo hi : Int) (offs : Array Int) (cases : List (Int × Nat)) : Bool := decide (-2147483648 ≤ lo) && decide (hi < 2147483648) && decide (hi + 1 = lo + offs.size) && decide (cases = (List.range offs.size).map (fun (j : Nat) => (lo + (j : Int), ((pc : Int) + offs.getD j 0).toNat))) && (List.range offs.size).all (fun (j : Nat) => decide (0 ≤ (pc : Int) + offs.getD j 0))
section
variable {G : GG} {K : XK} {y : MethodName} {cc : ByteArray} {L : Nat} {ret : Option FieldType} {cs sl pc : Nat} {lv : List (Nat × Value)} {st : List Value} {h : AH}
theorem x_tsw {dflt lo hi : Int} {offs : Array Int} {len : Nat} {x : Int32} (cases : List (Int × Nat)) (tgt : Nat) (hd : decode cc pc = .ok (.tableswitch dflt lo hi offs, len)) (ht : (pc : Int) + dflt = (tgt : Int)) (hc : swOK pc lo hi offs cases = true) (ho : (∀ q ∈ cases, ¬ x = Int32.ofInt q.1) → X G K y cc L ret cs sl tgt lv st h) (hin : ∀ q ∈ cases, x = Int32.ofInt q.1 → X G K y cc L ret cs sl q.2 lv st h) : X G K y cc L ret cs sl pc lv (.int x :: st) h := by
  intro p l e s m args below meth c locs H ls C R S V
  simp only [swOK, Bool.and_eq_true, decide_eq_true_eq, List.all_eq_true, List.mem_range] at hc
  obtain ⟨⟨⟨⟨h1, h2⟩, h3⟩, h4⟩, h5⟩ := hc
  by_cases hx : x.toInt < lo ∨ hi < x.toInt
  · refine lv_tableOut C.1 C.2.1 hd hx ht (ho (fun q hq e1 => ?_) p l e s m args below meth c locs H ls C R S V)
    rw [h4] at hq
    obtain ⟨j, hj, rfl⟩ := List.mem_map.mp hq
    have hj := List.mem_range.mp hj
    have e2 : x.toInt = lo + (j : Int) := by rw [e1]; exact toInt_ofInt (by omega) (by omega)
    omega
  · have hj : (x.toInt - lo).toNat < offs.size := by omega
    have hm : (lo + ((x.toInt - lo).toNat : Int), ((pc : Int) + offs.getD (x.toInt - lo).toNat 0).toNat) ∈ cases := by
      rw [h4]
      exact List.mem_map.mpr ⟨_, List.mem_range.mpr hj, rfl⟩
    have hp := h5 _ hj
    have hg : offs[(x.toInt - lo).toNat]? = some (offs.getD (x.toInt - lo).toNat 0) := by
      rw [Array.getD_eq_getD_getElem?, Array.getElem?_eq_getElem hj]
      rfl
    refine lv_tableIn C.1 C.2.1 hd (fun q => hx (Or.inl q)) (fun q => hx (Or.inr q)) hg (Int.toNat_of_nonneg hp).symm (hin _ hm ?_ p l e s m args below meth c locs H ls C R S V)
    show x = Int32.ofInt _
    rw [show lo + ((x.toInt - lo).toNat : Int) = x.toInt by omega, ofInt_of_toInt]
end
/-! the fields, by class and pool -/
def FR (own : String) (idx ci k : Nat) : Prop := ∃ r : vw_C, vwCl[ci]? = some r ∧ k < r.2.2 ∧ (r.2.1 k).1 = r.1 ∧ (tw (Cond.fieldLink own idx r.1 (r.2.1 k).2.1 (r.2.1 k).2.2.1) ∨ Cond.fieldLinkNest own idx r.1 (r.2.1 k).2.1 (r.2.1 k).2.2.1 "Sandcastles" ∈ lw_tbl)
def twB (w : Cond) : Bool := decide (w ∈ lw_tbl) && goodWord w
theorem tw.of {w : Cond} (h : twB w = true) : tw w := by
  unfold twB at h
  simp only [Bool.and_eq_true, decide_eq_true_eq] at h
  exact h
def frB (own : String) (idx ci k : Nat) : Bool := match vwCl[ci]? with
  | some r => decide (k < r.2.2) && decide ((r.2.1 k).1 = r.1) && (twB (Cond.fieldLink own idx r.1 (r.2.1 k).2.1 (r.2.1 k).2.2.1) || decide (Cond.fieldLinkNest own idx r.1 (r.2.1 k).2.1 (r.2.1 k).2.2.1 "Sandcastles" ∈ lw_tbl))
  | none => false
theorem FR.of {own : String} {idx ci k : Nat} (h : frB own idx ci k = true) : FR own idx ci k := by
  unfold frB at h
  cases hr : vwCl[ci]? with
  | none => rw [hr] at h; cases h
  | some r =>
    rw [hr] at h
    simp only [Bool.and_eq_true, Bool.or_eq_true, decide_eq_true_eq] at h
    exact ⟨r, hr, h.1.1, h.1.2, h.2.elim (fun q => Or.inl (tw.of q)) Or.inr⟩
def tyAt (ci k : Nat) : FieldType := match ci with
  | 0 => tyX0 k
  | 1 => tyX1 k
  | 2 => tyX2 k
  | 3 => tyX3 k
  | 4 => tyX4 k
  | 5 => tyX5 k
  | 6 => tyX6 k
  | 7 => tyX7 k
  | _ => tyX8 k
def clB (ci : Nat) : Bool := match vwCl[ci]? with
  | some r => (u_ws r.1 r.2.1 r.2.2).all twB && (List.range r.2.2).all (fun k => decide (parseFieldDescriptor (r.2.1 k).2.2.1 = some (tyAt ci k))) && (List.range r.2.2).all (fun a => (List.range r.2.2).all (fun b => a == b || !decide ((r.2.1 a).2.1 = (r.2.1 b).2.1))) && decide (slN ci = r.2.2)
  | none => true
theorem clB_all : (List.range 9).all clB = true := by decide +kernel
theorem cl_lt {ci : Nat} {r : vw_C} (hr : vwCl[ci]? = some r) : ci < 9 := (List.getElem?_eq_some_iff.mp hr).1
theorem cl_ok {ci : Nat} {r : vw_C} (hr : vwCl[ci]? = some r) : (∀ w ∈ u_ws r.1 r.2.1 r.2.2, w ∈ tblG) ∧ (∀ k, k < r.2.2 → parseFieldDescriptor (r.2.1 k).2.2.1 = some (tyAt ci k)) ∧ (∀ a, a < r.2.2 → ∀ b, b < r.2.2 → a ≠ b → (r.2.1 a).2.1 ≠ (r.2.1 b).2.1) ∧ slN ci = r.2.2 := by
  have h := List.all_eq_true.mp clB_all ci (List.mem_range.mpr (cl_lt hr))
  unfold clB at h
  rw [hr] at h
  simp only [Bool.and_eq_true, decide_eq_true_eq, List.all_eq_true, List.mem_range, Bool.or_eq_true, beq_iff_eq, Bool.not_eq_true', decide_eq_false_iff_not] at h
  exact ⟨fun w hw => (tw.of (h.1.1.1 w hw)).mem, h.1.1.2, fun a ha b hb hne e => (h.1.2 a ha b hb).elim hne (fun q => q e), h.2⟩
theorem en_obj {cA : Nat → ClassId} {h : AH} {a ci n : Nat} (hs : hpS h a = (ci, n)) (hc : ci < 9) : en cA h a = .inr (ci, enO h ci a) := by
  unfold en
  rw [hs, if_pos hc]
theorem en_ints {cA : Nat → ClassId} {h : AH} {a n : Nat} (hs : hpS h a = (9, n)) : en cA h a = .inl (cA 9, n, .inl (hpI h a)) := by
  unfold en
  rw [hs]
  rfl
theorem en_refs {cA : Nat → ClassId} {h : AH} {a kd n : Nat} (hs : hpS h a = (kd, n)) (hk : 10 ≤ kd) : en cA h a = .inl (cA kd, n, .inr (.inr (.inr (.inr (hpR h a))))) := by
  unfold en
  rw [hs, if_neg (by show ¬ kd < 9; omega), if_neg (by show ¬ kd = 9; omega)]
theorem enO_at {h : AH} {ci a k : Nat} (hk : k < slN ci) : (enO h ci a)[k]? = some (enV h ci a k) := by
  unfold enO
  rw [List.getElem?_map, List.getElem?_range hk]
  rfl
theorem en_other {cA : Nat → ClassId} {h g : AH} {q : Nat} (hs : hpS g q = hpS h q) (hi : hpI g q = hpI h q) (hr : hpR g q = hpR h q) : en cA g q = en cA h q := by
  unfold en enO enV
  rw [hs, hi, hr]
theorem iUp_o {h : AH} {a k q : Nat} {v : Int32} (hq : q ≠ a) : hpI (iUp h a k v) q = hpI h q := funext fun j => by
  show u2 h.2.1 a k v q j = h.2.1 q j
  exact u2_ne (fun e => hq e.1)
theorem rUp_o {h : AH} {a k q : Nat} {v : Option Nat} (hq : q ≠ a) : hpR (rUp h a k v) q = hpR h q := funext fun j => by
  show u2 h.2.2 a k v q j = h.2.2 q j
  exact u2_ne (fun e => hq e.1)
theorem iUp_s {h : AH} {a k : Nat} {v : Int32} : hpI (iUp h a k v) a = upd (hpI h a) k v := funext fun j => by
  show u2 h.2.1 a k v a j = upd (h.2.1 a) k v j
  by_cases e : j = k
  · simp [u2, upd, e]
  · simp [u2, upd, e]
theorem rUp_s {h : AH} {a k : Nat} {v : Option Nat} : hpR (rUp h a k v) a = va_up (hpR h a) k v := funext fun j => by
  show u2 h.2.2 a k v a j = va_up (h.2.2 a) k v j
  by_cases e : j = k
  · simp [u2, va_up, e]
  · simp [u2, va_up, e]
theorem enO_seti {h : AH} {ci a k : Nat} {v : Int32} (hi : slInt ci k = true) : (enO h ci a).set k (.int v) = enO (iUp h a k v) ci a := by
  apply List.ext_getElem?
  intro j
  unfold enO
  by_cases hj : j < slN ci
  · by_cases e : j = k
    · subst e
      rw [List.getElem?_set_self (by simp; exact hj), List.getElem?_map, List.getElem?_range hj]
      simp only [Option.map_some, enV, hi, if_true]
      rw [iUp_s]
      simp [upd]
    · rw [List.getElem?_set_ne (fun q => e q.symm), List.getElem?_map, List.getElem?_map, List.getElem?_range hj]
      simp only [Option.map_some, enV]
      rw [iUp_s]
      simp only [upd, e, if_false]
      rfl
  · rw [List.getElem?_eq_none (by simp; omega), List.getElem?_eq_none (by simp; omega)]
theorem enO_setr {h : AH} {ci a k : Nat} {v : Option Nat} (hi : slInt ci k = false) : (enO h ci a).set k (va_rf v) = enO (rUp h a k v) ci a := by
  apply List.ext_getElem?
  intro j
  unfold enO
  by_cases hj : j < slN ci
  · by_cases e : j = k
    · subst e
      rw [List.getElem?_set_self (by simp; exact hj), List.getElem?_map, List.getElem?_range hj]
      simp only [Option.map_some, enV, hi]
      rw [rUp_s]
      simp [va_up]
    · rw [List.getElem?_set_ne (fun q => e q.symm), List.getElem?_map, List.getElem?_map, List.getElem?_range hj]
      simp only [Option.map_some, enV]
      rw [rUp_s]
      simp only [va_up, e, if_false]
      rfl
  · rw [List.getElem?_eq_none (by simp; omega), List.getElem?_eq_none (by simp; omega)]
section
variable {G : GG} {K : XK} {y : MethodName} {cc : ByteArray} {L : Nat} {ret : Option FieldType} {cs sl pc : Nat} {lv : List (Nat × Value)} {st : List Value} {h : AH}
theorem x_getV {ci k a idx n : Nat} (hd : decode cc pc = .ok (.getfield idx, 3)) (f : FR y.cls idx ci k) (hs : hpS h a = (ci, n)) (kk : X G K y cc L ret cs sl (pc + 3) lv (enV h ci a k :: st) h) : X G K y cc L ret cs sl pc lv (.ref a :: st) h := by
  intro p l e s m args below meth c locs H ls C R S V
  obtain ⟨⟨C', T, N⟩, hr, hk, hnm, hlk⟩ := f
  obtain ⟨hw, hty, hnn, hN⟩ := cl_ok hr
  have hci := cl_lt hr
  have hal := R.1 a (by rw [hs]; show ci ≤ 13; omega)
  have he := wsH_get (cA := G.2.1) hal.1 hal.2
  rw [en_obj hs hci] at he
  have hv : (enO h ci a)[k]? = some (enV h ci a k) := enO_at (by rw [hN]; exact hk)
  have hnm : (T k).1 = C' := hnm
  rcases hlk with hlk | hlk
  · exact va_get C.1 C.2.1 C.2.2.2.2.1 hw C.2.2.2.1 C.2.2.2.2.2.2.2.2.1.1 R.2.2.2 (a - gB G) he hr k hk (C.2.2.2.2.1 _ hlk.mem) (fun _ h9 => by rw [hnm] at h9; exact h9) hv hd (kk p l e s m args below meth c locs H ls C R S V)
  · exact va_getN C.1 C.2.1 C.2.2.2.2.1 hw C.2.2.2.1 C.2.2.2.2.2.2.2.2.1.1 R.2.2.2 (a - gB G) he hr k hk (va_Nw.use rfl (C.2.2.2.2.2.2.2.2.1.2.1 _ hlk rfl)) (fun _ h9 => by rw [hnm] at h9; exact h9) hv hd (kk p l e s m args below meth c locs H ls C R S V)
theorem x_getI {ci k a idx n : Nat} (hd : decode cc pc = .ok (.getfield idx, 3)) (f : FR y.cls idx ci k) (hi : slInt ci k = true) (hs : hpS h a = (ci, n)) (kk : X G K y cc L ret cs sl (pc + 3) lv (.int (hpI h a k) :: st) h) : X G K y cc L ret cs sl pc lv (.ref a :: st) h := by
  refine x_getV hd f hs ?_
  unfold enV
  rw [if_pos hi]
  exact kk
theorem x_getR {ci k a idx n b : Nat} (hd : decode cc pc = .ok (.getfield idx, 3)) (f : FR y.cls idx ci k) (hi : slInt ci k = false) (hs : hpS h a = (ci, n)) (hr : hpR h a k = some b) (kk : X G K y cc L ret cs sl (pc + 3) lv (.ref b :: st) h) : X G K y cc L ret cs sl pc lv (.ref a :: st) h := by
  refine x_getV hd f hs ?_
  unfold enV
  rw [if_neg (by rw [hi]; decide), hr]
  exact kk

end
/-- behind a change of one cell: the worlds h and g are alike but for the cell a -/
def chg (h g : AH) (a : Nat) : Prop := hpZ g = hpZ h ∧ hpS g = hpS h ∧ ∀ q, q ≠ a → hpI g q = hpI h q ∧ hpR g q = hpR h q
theorem chg_i {h : AH} {a k : Nat} {v : Int32} : chg h (iUp h a k v) a := ⟨rfl, rfl, fun _ hq => ⟨iUp_o hq, rfl⟩⟩
theorem chg_r {h : AH} {a k : Nat} {v : Option Nat} : chg h (rUp h a k v) a := ⟨rfl, rfl, fun _ hq => ⟨rfl, rUp_o hq⟩⟩
theorem rel_chg {G : GG} {h g : AH} {H H1 : Heap} {a kd n : Nat} (R : RelH G h H) (hc : chg h g a) (hs : hpS h a = (kd, n)) (hk : kd ≤ 13) (hz : H1.size = H.size) (ho : ∀ q : Nat, q ≠ a → H1[q]? = H[q]?) (he : va_at G.1 vwCl (a, en G.2.1 g a) H1) : RelH G g H1 := by
  have hal := R.1 a (by rw [hs]; exact hk)
  refine ⟨fun q hq => by rw [hc.1]; exact R.1 q (by rw [← hc.2.1]; exact hq), by rw [hc.1]; exact R.2.1, by rw [hz, hc.1]; exact R.2.2.1, ?_⟩
  have hP := R.2.2.2.set (A := fun q => gB G ≤ q) wsH_D (wsH_get hal.1 hal.2) he ho
  rw [wsH_set hal.1 hal.2 hc.1 (fun q hq => en_other (by rw [hc.2.1]) (hc.2.2 q hq).1 (hc.2.2 q hq).2)] at hP
  exact hP
section
variable {G : GG} {K : XK} {y : MethodName} {cc : ByteArray} {L : Nat} {ret : Option FieldType} {cs sl pc : Nat} {lv : List (Nat × Value)} {st : List Value} {h : AH}
theorem x_putV {g : AH} {ci k a idx n : Nat} {v : Value} (hd : decode cc pc = .ok (.putfield idx, 3)) (f : FR y.cls idx ci k) (hs : hpS h a = (ci, n)) (hc : chg h g a) (hset : (enO h ci a).set k v = enO g ci a) (hn : narrow (tyAt ci k) v = v) (hfit : fits (tyAt ci k) v = true)
    (hfin : ∀ r, vwCl[ci]? = some r → (r.2.1 k).2.2.2 = false ∨ ((r.2.1 k).2.2.2 = true ∧ y.name = "<init>" ∧ r.1 = y.cls)) (kk : X G K y cc L ret cs sl (pc + 3) lv st g) : X G K y cc L ret cs sl pc lv (v :: .ref a :: st) h := by
  intro p l e s m args below meth c locs H ls C R S V
  obtain ⟨⟨C', T, N⟩, hr, hk, hnm, hlk⟩ := f
  obtain ⟨hw, hty, hnn, hN⟩ := cl_ok hr
  have hci := cl_lt hr
  have hal := R.1 a (by rw [hs]; show ci ≤ 13; omega)
  have he := wsH_get (cA := G.2.1) hal.1 hal.2
  rw [en_obj hs hci] at he
  have hgs : hpS g a = (ci, n) := by rw [hc.2.1]; exact hs
  have hnm : (T k).1 = C' := hnm
  have hfin := hfin _ hr
  have hts := C.2.2.2.2.1
  have hK := C.2.2.2.2.2.2.2.2.1.1
  have hown := C.2.2.2.1
  have hap := va_apart (own := y.cls) hts hw (tyAt ci) hty hnn hK hr
  obtain ⟨r, h1, cell, q1, q2, q3, q4⟩ := R.2.2.2 _ _ he
  have hrr : r = (C', T, N) := Option.some.inj (h1.symm.trans hr)
  subst hrr
  obtain ⟨hS, hfc, kC, hkC, hkind⟩ := hK.1 ci _ hr
  obtain ⟨cf, kf, fi, fd, hi, hsl⟩ := hS k hk
  have hst := (u_facts hfc hkC (u_lays hts hw hk) hi).1
  have hkl : k < (enO h ci a).length := by unfold enO; simp; rw [hN]; exact hk
  have fin : ∀ (H1 : Heap), H1[a]? = some (cell.setSlot fd.slot v) → H1.size = H.size → (∀ q : Nat, q ≠ a → H1[q]? = H[q]?) → RelH G g H1 := by
    intro H1 e1 e2 e3
    refine rel_chg R hc hs (by omega) e2 e3 ?_
    rw [en_obj hgs hci, ← hset]
    rw [hsl] at e1
    exact ⟨_, hr, t_OB.to (V := updV (vp_V (enO h ci a)) k v) ⟨_, e1, q2, q3, t_set q4 hap hk v⟩ (fun j _ => vp_updV_set hkl v j)⟩
  rcases hfin with hfin | ⟨hfin, hin2, hdecl⟩
  · have hlay := hts _ (hw _ (u_in_lay hk))
    unfold u_lay at hlay
    rw [if_neg (by show ¬ (T k).2.2.2 = true; rw [show (T k).2.2.2 = false from hfin]; decide)] at hlay
    have h6 := u_store hfc hkC hkind hlay hi (hty k hk) hn hfit
    have hsame : s.fieldFound? C' (T k).2.1 (T k).2.2.1 = some (cf, kf, fi, fd) := by rw [← hnm]; exact hi
    rcases hlk with hlk | hlk
    · exact W.putK C.1 C.2.1 (f := fd) ⟨hown, hts _ hlk.mem, ⟨_, _, _, hsame⟩, hst⟩ (by rw [q2]; exact h6) q1 q3 (by rw [hsl]; exact k2_hasslot (q4 k hk)) rfl rfl hd fun H1 e1 e2 e3 => kk p l e s m args below meth c _ H1 ls C (fin H1 e1 e2 e3) (S.put e2 e3 hal.1) V
    · exact va_WputK C.1 C.2.1 (f := fd) hown (va_Nw.use rfl (C.2.2.2.2.2.2.2.2.1.2.1 _ hlk rfl)) hsame hst (by rw [q2]; exact h6) q1 q3 (by rw [hsl]; exact k2_hasslot (q4 k hk)) rfl rfl hd fun H1 e1 e2 e3 => kk p l e s m args below meth c _ H1 ls C (fin H1 e1 e2 e3) (S.put e2 e3 hal.1) V
  · have hlay := hts _ (hw _ (u_in_lay hk))
    unfold u_lay at hlay
    rw [if_pos hfin] at hlay
    have hcf : m.cls = cf := by
      obtain ⟨_, _, c', _, _, _, -, -, hf', -, -, -, hown2, -⟩ := Cond.laysFinal_spec hlay
      have e1 : c' = cf := by have := hi.symm.trans hf'; simp at this; exact this.1.symm
      have hnm2 : (T k).1 = y.cls := hnm.trans hdecl
      rw [hnm2] at hown2
      rw [← e1]; exact Option.some.inj (hown.symm.trans hown2)
    have h6 := u_fits hfc hkC hkind (Or.inr hlay) hi (hty k hk) hn hfit
    have hsame : s.fieldFound? C' (T k).2.1 (T k).2.2.1 = some (cf, kf, fi, fd) := by rw [← hnm]; exact hi
    rcases hlk with hlk | hlk
    · exact W.putFinK C.1 C.2.1 hown (hts _ hlk.mem) hsame hst hcf (C.2.2.2.2.2.2.2.1.trans hin2) (by rw [q2]; exact h6) q1 q3 (by rw [hsl]; exact k2_hasslot (q4 k hk)) rfl rfl hd fun H1 e1 e2 e3 => kk p l e s m args below meth c _ H1 ls C (fin H1 e1 e2 e3) (S.put e2 e3 hal.1) V
    · refine va_Wputf C.1 C.2.1 hown (va_Nw.use rfl (C.2.2.2.2.2.2.2.2.1.2.1 _ hlk rfl)) hsame hst (Or.inr ⟨hcf, C.2.2.2.2.2.2.2.1.trans hin2⟩) q1 (by rw [q3]; exact fun h => by cases h) (by rw [hsl]; exact k2_hasslot (q4 k hk)) h6.1 (by rw [q2, q3]; exact h6.2) rfl rfl hd ?_
      have ha : a < H.size := (Array.getElem?_eq_some_iff.mp q1).1
      have e3 : ∀ q : Nat, q ≠ a → (H.setIfInBounds a (cell.setSlot fd.slot v))[q]? = H[q]? := fun q hq => by simp [Array.getElem?_setIfInBounds, Ne.symm hq]
      exact kk p l e s m args below meth c _ _ ls C (fin _ (by simp [Array.getElem?_setIfInBounds, ha]) (by simp) e3) (S.put (by simp) e3 hal.1) V
/-- a field that isn't final -/
def nfB (ci k : Nat) : Bool := match vwCl[ci]? with
  | some r => !(r.2.1 k).2.2.2
  | none => true
theorem nf_of {ci k : Nat} {y : MethodName} (h : nfB ci k = true) : ∀ r, vwCl[ci]? = some r → (r.2.1 k).2.2.2 = false ∨ ((r.2.1 k).2.2.2 = true ∧ y.name = "<init>" ∧ r.1 = y.cls) := by
  intro r hr
  unfold nfB at h
  rw [hr] at h
  exact Or.inl (by simpa using h)
theorem x_putI {ci k a idx n : Nat} {v : Int32} (hd : decode cc pc = .ok (.putfield idx, 3)) (f : FR y.cls idx ci k) (hi : slInt ci k = true) (ht : tyAt ci k = .int) (hf : nfB ci k = true) (hs : hpS h a = (ci, n)) (kk : X G K y cc L ret cs sl (pc + 3) lv st (iUp h a k v)) : X G K y cc L ret cs sl pc lv (.int v :: .ref a :: st) h :=
  x_putV hd f hs chg_i (enO_seti hi) (by rw [ht]; rfl) (by rw [ht]; rfl) (nf_of hf) kk
theorem x_putZ {ci k a idx n : Nat} (hd : decode cc pc = .ok (.putfield idx, 3)) (f : FR y.cls idx ci k) (hi : slInt ci k = true) (ht : tyAt ci k = .boolean) (hf : nfB ci k = true) (hs : hpS h a = (ci, n)) (kk : X G K y cc L ret cs sl (pc + 3) lv st (iUp h a k 1)) : X G K y cc L ret cs sl pc lv (.int 1 :: .ref a :: st) h :=
  x_putV hd f hs chg_i (enO_seti hi) (by rw [ht]; rfl) (by rw [ht]; rfl) (nf_of hf) kk
theorem x_putR {ci k a idx n v : Nat} (hd : decode cc pc = .ok (.putfield idx, 3)) (f : FR y.cls idx ci k) (hi : slInt ci k = false) (hn : narrow (tyAt ci k) (.ref v) = .ref v) (hfit : fits (tyAt ci k) (.ref v) = true) (hf : nfB ci k = true) (hs : hpS h a = (ci, n)) (kk : X G K y cc L ret cs sl (pc + 3) lv st (rUp h a k (some v))) : X G K y cc L ret cs sl pc lv (.ref v :: .ref a :: st) h :=
  x_putV hd f hs chg_r (enO_setr (v := some v) hi) hn hfit (nf_of hf) kk
theorem x_putRF {ci k a idx n v : Nat} (hd : decode cc pc = .ok (.putfield idx, 3)) (f : FR y.cls idx ci k) (hi : slInt ci k = false) (hn : narrow (tyAt ci k) (.ref v) = .ref v) (hfit : fits (tyAt ci k) (.ref v) = true) (hfin : ∀ r, vwCl[ci]? = some r → (r.2.1 k).2.2.2 = false ∨ ((r.2.1 k).2.2.2 = true ∧ y.name = "<init>" ∧ r.1 = y.cls)) (hs : hpS h a = (ci, n)) (kk : X G K y cc L ret cs sl (pc + 3) lv st (rUp h a k (some v))) : X G K y cc L ret cs sl pc lv (.ref v :: .ref a :: st) h :=
  x_putV hd f hs chg_r (enO_setr (v := some v) hi) hn hfit hfin kk
theorem x_putIF {ci k a idx n : Nat} {v : Int32} (hd : decode cc pc = .ok (.putfield idx, 3)) (f : FR y.cls idx ci k) (hi : slInt ci k = true) (ht : tyAt ci k = .int) (hfin : ∀ r, vwCl[ci]? = some r → (r.2.1 k).2.2.2 = false ∨ ((r.2.1 k).2.2.2 = true ∧ y.name = "<init>" ∧ r.1 = y.cls)) (hs : hpS h a = (ci, n)) (kk : X G K y cc L ret cs sl (pc + 3) lv st (iUp h a k v)) : X G K y cc L ret cs sl pc lv (.int v :: .ref a :: st) h :=
  x_putV hd f hs chg_i (enO_seti hi) (by rw [ht]; rfl) (by rw [ht]; rfl) hfin kk
theorem x_iald {a n : Nat} {i : Int32} (hd : decode cc pc = .ok (.iaload, 1)) (hs : hpS h a = (9, n)) (hin : vp_in i n) (kk : X G K y cc L ret cs sl (pc + 1) lv (.int (hpI h a i.toNatClampNeg) :: st) h) : X G K y cc L ret cs sl pc lv (.int i :: .ref a :: st) h := by
  intro p l e s m args below meth c locs H ls C R S V
  have hal := R.1 a (by rw [hs]; show 9 ≤ 13; omega)
  have he := wsH_get (cA := G.2.1) hal.1 hal.2
  rw [en_ints hs] at he
  exact va_iald C.1 C.2.1 C.2.2.2.2.2.2.2.2.1.1 R.2.2.2 (a - gB G) 0 he rfl hin hd (kk p l e s m args below meth c locs H ls C R S V)
theorem x_aald {a n b kd : Nat} {i : Int32} (hd : decode cc pc = .ok (.aaload, 1)) (hs : hpS h a = (kd, n)) (hk : 10 ≤ kd) (hk2 : kd ≤ 13) (hin : vp_in i n) (hr : hpR h a i.toNatClampNeg = some b) (kk : X G K y cc L ret cs sl (pc + 1) lv (.ref b :: st) h) : X G K y cc L ret cs sl pc lv (.int i :: .ref a :: st) h := by
  intro p l e s m args below meth c locs H ls C R S V
  have hal := R.1 a (by rw [hs]; exact hk2)
  have he := wsH_get (cA := G.2.1) hal.1 hal.2
  rw [en_refs hs hk] at he
  have hlt : i.toNatClampNeg < n := Nat.not_le.mp fun q => hin (Or.inr q)
  have hty : (tyk kd).isReference = true := by
    match kd, hk, hk2 with
    | 10, _, _ => rfl
    | 11, _, _ => rfl
    | 12, _, _ => rfl
    | 13, _, _ => rfl
    | k + 14, _, q => exact absurd q (by omega)
  have hv : va_rf (hpR h a i.toNatClampNeg) = .ref b := by rw [hr]; rfl
  have hKt := C.2.2.2.2.2.2.2.2.1.1.2 (kd - 9) _ (tysL_at G.2.1 (by omega) hk2)
  exact W.aald (v := .ref b) (ty := tyk kd) C.1 C.2.1 (R.2.2.2 _ _ he) (hKt.1 n (fun j => va_rf (hpR h a j))) hty (fun q => by cases q) (by show ¬ (i < 0 ∨ (arrV _ _ _).slots.size ≤ _); rw [arrV_size]; exact hin) (by show (arrV _ _ _).slots[_]? = _; rw [arrV_read _ _ hlt, hv]) rfl rfl hd (kk p l e s m args below meth c locs H ls C R S V)
theorem x_iast {a n : Nat} {i x : Int32} (hd : decode cc pc = .ok (.iastore, 1)) (hs : hpS h a = (9, n)) (hin : vp_in i n) (kk : X G K y cc L ret cs sl (pc + 1) lv st (iUp h a i.toNatClampNeg x)) : X G K y cc L ret cs sl pc lv (.int x :: .int i :: .ref a :: st) h := by
  intro p l e s m args below meth c locs H ls C R S V
  have hal := R.1 a (by rw [hs]; show 9 ≤ 13; omega)
  have he := wsH_get (cA := G.2.1) hal.1 hal.2
  rw [en_ints hs] at he
  have hK0 := C.2.2.2.2.2.2.2.2.1.1.2 0 _ rfl
  refine W.iast C.1 C.2.1 (R.2.2.2 _ _ he) (hK0.1 n (fun j => .int (hpI h a j))) (fun q => by cases q) (by show ¬ (i < 0 ∨ (arrV _ _ _).slots.size ≤ _); rw [arrV_size]; exact hin) rfl rfl hd fun H1 e1 z oq => ?_
  refine kk p l e s m args below meth c _ H1 ls C (rel_chg R chg_i hs (by omega) z oq ?_) (S.put z oq hal.1) V
  rw [en_ints (h := iUp h a i.toNatClampNeg x) hs]
  show H1[a]? = some (vp_cell _ _)
  rw [e1, iUp_s]
  rw [vp_cell_i, vp_cell_i, arrV_store]
  congr 2
  funext q
  by_cases hq : q = i.toNatClampNeg
  · subst hq
    simp [updV, upd]
  · simp [updV, upd, hq]
theorem x_aast {a n b kd ci nb : Nat} {i : Int32} {r : vw_C} (hd : decode cc pc = .ok (.aastore, 1)) (hs : hpS h a = (kd, n)) (hk : 10 ≤ kd) (hk2 : kd ≤ 13) (hr : vwCl[ci]? = some r) (hty : tyk kd = .object r.1) (hb : hpS h b = (ci, nb)) (hin : vp_in i n) (kk : X G K y cc L ret cs sl (pc + 1) lv st (rUp h a i.toNatClampNeg (some b))) : X G K y cc L ret cs sl pc lv (.ref b :: .int i :: .ref a :: st) h := by
  intro p l e s m args below meth c locs H ls C R S V
  have hci := cl_lt hr
  have hal := R.1 a (by rw [hs]; exact hk2)
  have hbl := R.1 b (by rw [hb]; show ci ≤ 13; omega)
  have he := wsH_get (cA := G.2.1) hal.1 hal.2
  rw [en_refs hs hk] at he
  have hv := wsH_get (cA := G.2.1) hbl.1 hbl.2
  rw [en_obj hb hci] at hv
  have hlt : i.toNatClampNeg < n := Nat.not_le.mp fun q => hin (Or.inr q)
  have h0 : ¬ i < 0 := fun q => hin (Or.inl q)
  obtain ⟨r', hr', cellV, g1, g2, g3, -⟩ := R.2.2.2 _ _ hv
  have hKK := C.2.2.2.2.2.2.2.2.1.1
  have hcls := (hKK.1 ci r hr).2
  have ht := tysL_at G.2.1 (k := kd) (by omega) hk2
  rw [hty] at ht
  obtain ⟨kA, comp, k1, k2, k3, -⟩ := (hKK.2 _ _ ht).2
  have hcomp : comp = G.1.1 ci := Option.some.inj (k3.symm.trans hcls.1)
  subst hcomp
  obtain ⟨kC, hkC, -⟩ := hcls.2
  refine W.aast C.1 C.2.1 (R.2.2.2 _ _ he) (fun q h => by cases h) (fun h => by cases h) k1 k2 rfl hkC ⟨h0, by show _ < (arrV _ _ _).slots.size; rw [arrV_size]; exact hlt⟩ g1 (fun q h => by rw [g3] at h; cases h) (by rw [g2]; exact hkC) (by rw [g2]; exact va_assign hcls) rfl rfl hd fun H1 e1 z oq => ?_
  refine kk p l e s m args below meth c _ H1 ls C (rel_chg R chg_r hs hk2 z oq ?_) (S.put z oq hal.1) V
  rw [en_refs (h := rUp h a i.toNatClampNeg (some b)) hs hk]
  show H1[a]? = some (vp_cell _ _)
  rw [e1, rUp_s]
  rw [vp_cell_q, vp_cell_q, arrV_store]
  congr 2
  funext q
  by_cases hq : q = i.toNatClampNeg
  · subst hq
    simp [updV, va_up, va_rf]
  · simp [updV, va_up, hq]
end
end
section
/-! CALLS, ENDS, NEW CELLS -/
noncomputable def bI (P : Prop) : Int32 := by
  classical
  exact if P then 1 else 0
theorem bI_t {P : Prop} (h : P) : bI P = 1 := by
  unfold bI
  simp [h]
theorem bI_f {P : Prop} (h : ¬ P) : bI P = 0 := by
  unfold bI
  simp [h]
theorem bI_0 {P : Prop} : bI P = 0 ↔ ¬ P := by
  by_cases h : P
  · rw [bI_t h]
    exact ⟨fun e => absurd e (by decide), fun e => absurd h e⟩
  · rw [bI_f h]
    exact ⟨fun _ => h, fun _ => rfl⟩
theorem bI_nar (P : Prop) : narrow .boolean (.int (bI P)) = .int (bI P) := by
  by_cases h : P
  · rw [bI_t h]; rfl
  · rw [bI_f h]; rfl
def qi (Q : Int32 → AH → Prop) : Option Value → AH → Prop := fun v h => ∃ r : Int32, v = some (.int r) ∧ Q r h
def ql (Q : Int64 → AH → Prop) : Option Value → AH → Prop := fun v h => ∃ r : Int64, v = some (.long r) ∧ Q r h
def qv (Q : AH → Prop) : Option Value → AH → Prop := fun v h => v = none ∧ Q h
def qa (Q : Option Nat → AH → Prop) : Option Value → AH → Prop := fun v h => ∃ r : Option Nat, v = some (va_rf r) ∧ Q r h
section
variable {G : GG} {y : MethodName} {cc : ByteArray} {L : Nat} {ret : Option FieldType} {cs sl pc d mc ms : Nat} {lv : List (Nat × Value)} {h : AH}
theorem x_iret {Q : Int32 → AH → Prop} {x : Int32} (hd : decode cc pc = .ok (.ireturn, 1)) (hr : ret = some .int) (hc : cs ≤ mc) (hs : sl ≤ ms) (q : Q x h) : X G (kM G d mc ms (qi Q)) y cc L ret cs sl pc lv [.int x] h := by
  intro p l e s m args below meth c locs H ls C R S V
  have hlocks : meth.locks = false := C.2.2.2.2.2.2.1
  refine W.widen hc hs ?_
  exact W.iret C.1 C.2.1 (C.2.2.2.2.2.1.trans hr) (fun t ht hW => ⟨⟨_, h, rfl, ⟨x, rfl, q⟩, by rw [ht]; exact R⟩, S.F ht⟩) S.2.2 hd
theorem x_zret {Q : Int32 → AH → Prop} {x : Int32} {ty : FieldType} (hd : decode cc pc = .ok (.ireturn, 1)) (hr : ret = some ty) (hn : narrow ty (.int x) = .int x) (hc : cs ≤ mc) (hs : sl ≤ ms) (q : Q x h) : X G (kM G d mc ms (qi Q)) y cc L ret cs sl pc lv [.int x] h := by
  intro p l e s m args below meth c locs H ls C R S V
  have hlocks : meth.locks = false := C.2.2.2.2.2.2.1
  refine W.widen hc hs ?_
  exact W.zret C.1 C.2.1 (C.2.2.2.2.2.1.trans hr) hn (fun t ht hW => ⟨⟨_, h, rfl, ⟨x, rfl, q⟩, by rw [ht]; exact R⟩, S.F ht⟩) S.2.2 hd
theorem x_lret {Q : Int64 → AH → Prop} {x : Int64} (hd : decode cc pc = .ok (.lreturn, 1)) (hr : ret = some .long) (hc : cs ≤ mc) (hs : sl ≤ ms) (q : Q x h) : X G (kM G d mc ms (ql Q)) y cc L ret cs sl pc lv [.long x] h := by
  intro p l e s m args below meth c locs H ls C R S V
  have hlocks : meth.locks = false := C.2.2.2.2.2.2.1
  refine W.widen hc hs ?_
  exact W.lret C.1 C.2.1 (C.2.2.2.2.2.1.trans hr) (fun t ht hW => ⟨⟨_, h, rfl, ⟨x, rfl, q⟩, by rw [ht]; exact R⟩, S.F ht⟩) S.2.2 hd
theorem x_vret {Q : AH → Prop} (hd : decode cc pc = .ok (.return_, 1)) (hr : ret = none) (hc : cs ≤ mc) (hs : sl ≤ ms) (q : Q h) : X G (kM G d mc ms (qv Q)) y cc L ret cs sl pc lv [] h := by
  intro p l e s m args below meth c locs H ls C R S V
  have hlocks : meth.locks = false := C.2.2.2.2.2.2.1
  refine W.widen hc hs ?_
  exact W.vret C.1 C.2.1 (C.2.2.2.2.2.1.trans hr) (fun t ht hW => ⟨⟨_, h, rfl, ⟨rfl, q⟩, by rw [ht]; exact R⟩, S.F ht⟩) S.2.2 hd
theorem x_aret {Q : Option Nat → AH → Prop} {x : Nat} {rt : FieldType} (hd : decode cc pc = .ok (.areturn, 1)) (hr : ret = some rt) (hrt : (∃ n, rt = .object n) ∨ ∃ t, rt = .array t) (hc : cs ≤ mc) (hs : sl ≤ ms) (q : Q (some x) h) : X G (kM G d mc ms (qa Q)) y cc L ret cs sl pc lv [.ref x] h := by
  intro p l e s m args below meth c locs H ls C R S V
  have hlocks : meth.locks = false := C.2.2.2.2.2.2.1
  refine W.widen hc hs ?_
  exact W.aret C.1 C.2.1 (C.2.2.2.2.2.1.trans hr) hrt (Or.inr ⟨x, rfl⟩) (fun t ht hW => ⟨⟨_, h, rfl, ⟨some x, rfl, q⟩, by rw [ht]; exact R⟩, S.F ht⟩) S.2.2 hd
theorem x_aretN {Q : Option Nat → AH → Prop} {rt : FieldType} (hd : decode cc pc = .ok (.areturn, 1)) (hr : ret = some rt) (hrt : (∃ n, rt = .object n) ∨ ∃ t, rt = .array t) (hc : cs ≤ mc) (hs : sl ≤ ms) (q : Q none h) : X G (kM G d mc ms (qa Q)) y cc L ret cs sl pc lv [.null] h := by
  intro p l e s m args below meth c locs H ls C R S V
  have hlocks : meth.locks = false := C.2.2.2.2.2.2.1
  refine W.widen hc hs ?_
  exact W.aret C.1 C.2.1 (C.2.2.2.2.2.1.trans hr) hrt (Or.inl rfl) (fun t ht hW => ⟨⟨_, h, rfl, ⟨none, rfl, q⟩, by rw [ht]; exact R⟩, S.F ht⟩) S.2.2 hd
end
/-! what the tables say of a call -/
def CRc (y' : MethodName) (cc' : ByteArray) (L' : Nat) (ret' : Option FieldType) (n : Nat) : Prop := tw (Cond.code y' cc' L' ret') ∧ tw (Cond.initialized y'.cls) ∧ y'.cls ≠ "java/lang/invoke/MethodHandle" ∧ y'.cls ≠ "java/lang/invoke/VarHandle" ∧ (parseMethodDescriptor y'.desc).map (fun d => d.parameters.length) = some n
def crcB (y' : MethodName) (cc' : ByteArray) (L' : Nat) (ret' : Option FieldType) (n : Nat) : Bool := twB (Cond.code y' cc' L' ret') && twB (Cond.initialized y'.cls) && !decide (y'.cls = "java/lang/invoke/MethodHandle") && !decide (y'.cls = "java/lang/invoke/VarHandle") && decide ((parseMethodDescriptor y'.desc).map (fun d => d.parameters.length) = some n)
theorem CRc.of {y' : MethodName} {cc' : ByteArray} {L' : Nat} {ret' : Option FieldType} {n : Nat} (h : crcB y' cc' L' ret' n = true) : CRc y' cc' L' ret' n := by
  unfold crcB at h
  simp only [Bool.and_eq_true, decide_eq_true_eq, Bool.not_eq_true', decide_eq_false_iff_not] at h
  exact ⟨tw.of h.1.1.1.1, tw.of h.1.1.1.2, h.1.1.2, h.1.2, h.2⟩
def VC (own : String) (idx : Nat) (y' : MethodName) : Prop := (tw (Cond.methodLink own idx y') ∨ Cond.methodLinkNest own idx y' "Sandcastles" ∈ lw_tbl) ∧ tw (Cond.instanceMethod y') ∧ tw (Cond.selects y'.cls y' y')
def vcB (own : String) (idx : Nat) (y' : MethodName) : Bool := (twB (Cond.methodLink own idx y') || decide (Cond.methodLinkNest own idx y' "Sandcastles" ∈ lw_tbl)) && twB (Cond.instanceMethod y') && twB (Cond.selects y'.cls y' y')
theorem VC.of {own : String} {idx : Nat} {y' : MethodName} (h : vcB own idx y' = true) : VC own idx y' := by
  unfold vcB at h
  simp only [Bool.and_eq_true, Bool.or_eq_true, decide_eq_true_eq] at h
  exact ⟨h.1.1.elim (fun q => Or.inl (tw.of q)) Or.inr, tw.of h.1.2, tw.of h.2⟩
def SC (own : String) (idx : Nat) (y' : MethodName) : Prop := tw (Cond.methodLink own idx y') ∧ tw (Cond.static y')
theorem SC.of {own : String} {idx : Nat} {y' : MethodName} (h : (twB (Cond.methodLink own idx y') && twB (Cond.static y')) = true) : SC own idx y' := by
  simp only [Bool.and_eq_true] at h
  exact ⟨tw.of h.1, tw.of h.2⟩
def IC (own : String) (idx : Nat) (y' : MethodName) : Prop := (tw (Cond.methodLink own idx y') ∨ Cond.methodLinkNest own idx y' "Sandcastles" ∈ lw_tbl) ∧ tw (Cond.instanceMethod y') ∧ y'.name = "<init>"
def icB (own : String) (idx : Nat) (y' : MethodName) : Bool := (twB (Cond.methodLink own idx y') || decide (Cond.methodLinkNest own idx y' "Sandcastles" ∈ lw_tbl)) && twB (Cond.instanceMethod y') && decide (y'.name = "<init>")
theorem IC.of {own : String} {idx : Nat} {y' : MethodName} (h : icB own idx y' = true) : IC own idx y' := by
  unfold icB at h
  simp only [Bool.and_eq_true, Bool.or_eq_true, decide_eq_true_eq] at h
  exact ⟨h.1.1.elim (fun q => Or.inl (tw.of q)) Or.inr, tw.of h.1.2, h.2⟩
theorem good_code {y' : MethodName} {cc' : ByteArray} {L' : Nat} {ret' : Option FieldType} {n : Nat} (h : CRc y' cc' L' ret' n) : GoodIn tblG (Cond.code y' cc' L' ret' :: tblG) := by
  intro w hw
  rcases List.mem_cons.mp hw with e | e
  · rw [e]
    exact ⟨h.1.mem, good_of_word h.1.2⟩
  · exact tblG_good w e
theorem blind {G : GG} {h : AH} {av : List Value} : FrameBlind (va_Pc av (fun U => RelH G h U.heap ∧ KS G U)) := fun _ U g mk q => ⟨q.1, q.2.1, KS.same (u := U) rfl rfl q.2.2⟩
section
variable {G : GG} {K : XK} {y : MethodName} {cc : ByteArray} {L : Nat} {ret : Option FieldType} {cs sl pc : Nat} {lv : List (Nat × Value)} {st rest : List Value} {h : AH}
variable {p : Program} {l : Launch} {e : Env} {s : State} {m : MethodId} {args : Array Value} {below : List Frame} {meth : Method} {c : Code} {locs : List Loc} {H : Heap} {ls : Array Slot}
theorem x_behind {a : Array Value} {mc' ms' : Nat} {Q' : Option Value → AH → Prop} {st0 : List Value} (hr : va_Run p l e K.1 s m args below meth c H locs cs sl mc' ms' (F0 m pc ls st0) rest (Qd G Q' a) (gA G)) (C : Cx G K y cc L ret p s m args meth c) (S : va_S (gA G) s.heap H locs) (V : lv_has ls L lv)
    (k : ∀ v h', Q' v h' → X G K y cc L ret (cs + mc') (sl + ms') (pc + 3) lv (v.toList ++ rest) h') : W p l e K.1 s m args below meth c H locs cs sl (K.2.1 below args s) (F0 m pc ls st0) := by
  intro T hT X0
  obtain ⟨v, st₀, t, T', L', h0, X', hL, e1, e2, ⟨⟨v', h', hv, hq, hRel⟩, hz, hk⟩, stp⟩ := hr T hT X0
  cases hv
  rw [h0] at hz hk
  obtain ⟨t2, a1, b1⟩ := k v h' hq p l e s m args below meth c (locs ++ L') T'.heap ls C (by rw [e1]; exact hRel)
    ⟨Nat.le_trans S.1 (by rw [e1]; exact hz), fun q h1 h2 => by rw [e1, hk q (Nat.lt_of_lt_of_le h1 S.1) h2]; exact S.2.1 q h1 h2, fun q hq => by
      rcases List.mem_append.mp hq with w | w
      · exact S.2.2 q w
      · exact hL q w⟩ V T' rfl X'
  exact ⟨t2, stp t2 a1, b1⟩
theorem pre_of {av : List Value} (C : Cx G K y cc L ret p s m args meth c) (R : RelH G h H) (S : va_S (gA G) s.heap H locs) : ∀ U : State, U.heap = H → s.WarmedH U.vm → va_Pc av (fun U => RelH G h U.heap ∧ KS G U) av.toArray U :=
  fun U hU hW => ⟨rfl, by rw [hU]; exact R, KS.warm hW (fun a h1 h2 => by rw [hU]; exact S.2.1 a h1 h2) C.2.2.2.2.2.2.2.2.1⟩
end
theorem rm_ok {d d' mc ms mc' ms' L' : Nat} (h1 : d' + 1 ≤ d) (h2 : L' ≤ 21) : (rmD d' mc' ms').frames + 1 ≤ (rmD d mc ms).frames ∧ 8 + (L' + 11) + (rmD d' mc' ms').locals ≤ (rmD d mc ms).locals := by
  unfold rmD
  refine ⟨h1, ?_⟩
  show 8 + (L' + 11) + 40 * d' ≤ 40 * d
  omega
/-- the room that a call finds -/
def roomy (K : XK) (d' L' : Nat) : Prop := d' + 1 ≤ K.1.frames ∧ 8 + (L' + 11) + 40 * d' ≤ K.1.locals
theorem roomy_k {G : GG} {d mc ms d' L' : Nat} {Q : Option Value → AH → Prop} (h1 : d' + 1 ≤ d) (h2 : L' ≤ 21) : roomy (kM G d mc ms Q) d' L' := rm_ok (mc := mc) (ms := ms) (mc' := 0) (ms' := 0) h1 h2
section
variable {G : GG} {K : XK} {y : MethodName} {cc : ByteArray} {L : Nat} {ret : Option FieldType} {cs sl pc : Nat} {lv : List (Nat × Value)} {st : List Value} {h : AH}
theorem x_callV {y' : MethodName} {cc' : ByteArray} {L' n d' mc' ms' idx b ci nb : Nat} {ret' : Option FieldType} {As rest : List Value} {Q' : Option Value → AH → Prop} {r : vw_C} (hA : AM G d' mc' ms' y' cc' L' ret' (.ref b :: As) h Q') (hd : decode cc pc = .ok (.invokevirtual idx, 3)) (hc : CRc y' cc' L' ret' n) (hv : VC y.cls idx y') (hb : hpS h b = (ci, nb)) (hcl : vwCl[ci]? = some r) (hcy : r.1 = y'.cls) (hn : As.length = n) (hst : st = As.reverse ++ .ref b :: rest) (hW : (rest.map fun v => v.category).sum ≤ 8) (hroom : roomy K d' L') (hcs : cs + mc' ≤ K.1.cells) (hsl : sl + ms' ≤ K.1.slots)
    (k : ∀ v h', Q' v h' → X G K y cc L ret (cs + mc') (sl + ms') (pc + 3) lv (v.toList ++ rest) h') : X G K y cc L ret cs sl pc lv st h := by
  subst hst
  intro p l e s m args below meth c locs H ls C R S V
  have hts := C.2.2.2.2.1
  have hci := cl_lt hcl
  have hbl := R.1 b (by rw [hb]; show ci ≤ 13; omega)
  have hv0 := wsH_get (cA := G.2.1) hbl.1 hbl.2
  rw [en_obj hb hci] at hv0
  have hrecv := va_recv C.2.2.2.2.2.2.2.2.1.1 R.2.2.2 hcl hv0
  rw [hcy] at hrecv
  have hg : ({ F0 m pc ls (As.reverse ++ .ref b :: rest) with stack := [] } : JFrame).monitorRoom = 0 := rfl
  rcases hv.1 with hl | hl
  · refine x_behind (va_runV (As := As) (rest := rest) (b := b) (C := y'.cls) (index := idx) (n := n) ⟨C.1, C.2.1, rfl, C.2.2.2.1, hts⟩ (hA l) ⟨callB_of n hts (good_code hc) rfl rfl rfl (hts _ hc.2.1.mem) (hts _ hl.mem) ⟨hc.2.2.1, hc.2.2.2.1, hc.2.2.2.2⟩ hroom, hts _ hv.2.1.mem, hts _ hv.2.2.mem⟩ ⟨blind, hrecv, pre_of C R S⟩ rfl hn (V.1.trans C.2.2.1.symm) rfl (by show 2 * 0 + _ ≤ 8; omega) hd ⟨hcs, hsl⟩) C S V k
  · refine x_behind (va_runVN (host := "Sandcastles") (As := As) (rest := rest) (b := b) (C := y'.cls) (index := idx) (n := n) ⟨C.1, C.2.1, rfl, C.2.2.2.1, hts⟩ (hA l) ⟨va_cnB n hts (good_code hc) rfl rfl rfl (C.2.2.2.2.2.2.2.2.1.2.1 _ hl rfl) (hts _ hc.2.1.mem) ⟨hc.2.2.1, hc.2.2.2.1, hc.2.2.2.2⟩ hroom, hts _ hv.2.1.mem, hts _ hv.2.2.mem⟩ ⟨blind, hrecv, pre_of C R S⟩ rfl hn (V.1.trans C.2.2.1.symm) rfl (by show 2 * 0 + _ ≤ 8; omega) hd ⟨hcs, hsl⟩) C S V k
theorem x_callS {y' : MethodName} {cc' : ByteArray} {L' n d' mc' ms' idx : Nat} {ret' : Option FieldType} {As rest : List Value} {Q' : Option Value → AH → Prop} (hA : AM G d' mc' ms' y' cc' L' ret' As h Q') (hd : decode cc pc = .ok (.invokestatic idx, 3)) (hc : CRc y' cc' L' ret' n) (hv : SC y.cls idx y') (hn : As.length = n) (hst : st = As.reverse ++ rest) (hW : (rest.map fun v => v.category).sum ≤ 8) (hroom : roomy K d' L') (hcs : cs + mc' ≤ K.1.cells) (hsl : sl + ms' ≤ K.1.slots)
    (k : ∀ v h', Q' v h' → X G K y cc L ret (cs + mc') (sl + ms') (pc + 3) lv (v.toList ++ rest) h') : X G K y cc L ret cs sl pc lv st h := by
  subst hst
  intro p l e s m args below meth c locs H ls C R S V
  have hts := C.2.2.2.2.1
  exact x_behind (va_runS (As := As) (rest := rest) (index := idx) (n := n) ⟨C.1, C.2.1, rfl, C.2.2.2.1, hts⟩ (hA l) ⟨callB_of n hts (good_code hc) rfl rfl rfl (hts _ hc.2.1.mem) (hts _ hv.1.mem) ⟨hc.2.2.1, hc.2.2.2.1, hc.2.2.2.2⟩ hroom, hts _ hv.2.mem⟩ ⟨blind, pre_of C R S⟩ rfl hn (V.1.trans C.2.2.1.symm) rfl (by show 2 * 0 + _ ≤ 8; omega) hd ⟨hcs, hsl⟩) C S V k
theorem x_callI {y' : MethodName} {cc' : ByteArray} {L' n d' mc' ms' idx b : Nat} {As rest : List Value} {Q' : Option Value → AH → Prop} (hA : AM G d' mc' ms' y' cc' L' none (.ref b :: As) h Q') (hd : decode cc pc = .ok (.invokespecial idx, 3)) (hc : CRc y' cc' L' none n) (hv : IC y.cls idx y') (hn : As.length = n) (hst : st = As.reverse ++ .ref b :: rest) (hW : (rest.map fun v => v.category).sum ≤ 8) (hroom : roomy K d' L') (hcs : cs + mc' ≤ K.1.cells) (hsl : sl + ms' ≤ K.1.slots)
    (k : ∀ v h', Q' v h' → X G K y cc L ret (cs + mc') (sl + ms') (pc + 3) lv (v.toList ++ rest) h') : X G K y cc L ret cs sl pc lv st h := by
  subst hst
  intro p l e s m args below meth c locs H ls C R S V
  have hts := C.2.2.2.2.1
  rcases hv.1 with hl | hl
  · exact x_behind (va_runI (As := As) (rest := rest) (b := b) (index := idx) (n := n) ⟨C.1, C.2.1, rfl, C.2.2.2.1, hts⟩ (hA l) ⟨callB_of n hts (good_code hc) rfl rfl rfl (hts _ hc.2.1.mem) (hts _ hl.mem) ⟨hc.2.2.1, hc.2.2.2.1, hc.2.2.2.2⟩ hroom, hv.2.2, hts _ hv.2.1.mem⟩ ⟨blind, pre_of C R S⟩ rfl hn (V.1.trans C.2.2.1.symm) rfl (by show 2 * 0 + _ ≤ 8; omega) hd ⟨hcs, hsl⟩) C S V k
  · exact x_behind (va_runIN (host := "Sandcastles") (As := As) (rest := rest) (b := b) (index := idx) (n := n) ⟨C.1, C.2.1, rfl, C.2.2.2.1, hts⟩ (hA l) ⟨va_cnB n hts (good_code hc) rfl rfl rfl (C.2.2.2.2.2.2.2.2.1.2.1 _ hl rfl) (hts _ hc.2.1.mem) ⟨hc.2.2.1, hc.2.2.2.1, hc.2.2.2.2⟩ hroom, hv.2.2, hts _ hv.2.1.mem⟩ ⟨blind, pre_of C R S⟩ rfl hn (V.1.trans C.2.2.1.symm) rfl (by show 2 * 0 + _ ≤ 8; omega) hd ⟨hcs, hsl⟩) C S V k
end
end
section
theorem dX0_init_0 : decode cX0_init 0 = .ok (.aload_n 0, 1) := by decide +kernel
theorem dX0_init_1 : decode cX0_init 1 = .ok (.invokespecial 3, 3) := by decide +kernel
theorem dX0_init_4 : decode cX0_init 4 = .ok (.return_, 1) := by decide +kernel
theorem dX0_begin_0 : decode cX0_begin 0 = .ok (.aload_n 0, 1) := by decide +kernel
theorem dX0_begin_1 : decode cX0_begin 1 = .ok (.iload_n 1, 1) := by decide +kernel
theorem dX0_begin_2 : decode cX0_begin 2 = .ok (.putfield 9, 3) := by decide +kernel
theorem dX0_begin_5 : decode cX0_begin 5 = .ok (.aload_n 0, 1) := by decide +kernel
theorem dX0_begin_6 : decode cX0_begin 6 = .ok (.iload_n 2, 1) := by decide +kernel
theorem dX0_begin_7 : decode cX0_begin 7 = .ok (.putfield 15, 3) := by decide +kernel
theorem dX0_begin_10 : decode cX0_begin 10 = .ok (.aload_n 0, 1) := by decide +kernel
theorem dX0_begin_11 : decode cX0_begin 11 = .ok (.iload_n 3, 1) := by decide +kernel
theorem dX0_begin_12 : decode cX0_begin 12 = .ok (.putfield 18, 3) := by decide +kernel
theorem dX0_begin_15 : decode cX0_begin 15 = .ok (.aload_n 0, 1) := by decide +kernel
theorem dX0_begin_16 : decode cX0_begin 16 = .ok (.iconst 0, 1) := by decide +kernel
theorem dX0_begin_17 : decode cX0_begin 17 = .ok (.putfield 21, 3) := by decide +kernel
theorem dX0_begin_20 : decode cX0_begin 20 = .ok (.aload_n 0, 1) := by decide +kernel
theorem dX0_begin_21 : decode cX0_begin 21 = .ok (.bipush 20, 2) := by decide +kernel
theorem dX0_begin_23 : decode cX0_begin 23 = .ok (.putfield 24, 3) := by decide +kernel
theorem dX0_begin_26 : decode cX0_begin 26 = .ok (.return_, 1) := by decide +kernel
theorem dX0_take_0 : decode cX0_take 0 = .ok (.aload_n 0, 1) := by decide +kernel
theorem dX0_take_1 : decode cX0_take 1 = .ok (.aload_n 1, 1) := by decide +kernel
theorem dX0_take_2 : decode cX0_take 2 = .ok (.getfield 9, 3) := by decide +kernel
theorem dX0_take_5 : decode cX0_take 5 = .ok (.putfield 9, 3) := by decide +kernel
theorem dX0_take_8 : decode cX0_take 8 = .ok (.aload_n 0, 1) := by decide +kernel
theorem dX0_take_9 : decode cX0_take 9 = .ok (.aload_n 1, 1) := by decide +kernel
theorem dX0_take_10 : decode cX0_take 10 = .ok (.getfield 15, 3) := by decide +kernel
theorem dX0_take_13 : decode cX0_take 13 = .ok (.putfield 15, 3) := by decide +kernel
theorem dX0_take_16 : decode cX0_take 16 = .ok (.aload_n 0, 1) := by decide +kernel
theorem dX0_take_17 : decode cX0_take 17 = .ok (.aload_n 1, 1) := by decide +kernel
theorem dX0_take_18 : decode cX0_take 18 = .ok (.getfield 18, 3) := by decide +kernel
theorem dX0_take_21 : decode cX0_take 21 = .ok (.putfield 18, 3) := by decide +kernel
theorem dX0_take_24 : decode cX0_take 24 = .ok (.aload_n 0, 1) := by decide +kernel
theorem dX0_take_25 : decode cX0_take 25 = .ok (.aload_n 1, 1) := by decide +kernel
theorem dX0_take_26 : decode cX0_take 26 = .ok (.getfield 21, 3) := by decide +kernel
theorem dX0_take_29 : decode cX0_take 29 = .ok (.putfield 21, 3) := by decide +kernel
theorem dX0_take_32 : decode cX0_take 32 = .ok (.aload_n 0, 1) := by decide +kernel
theorem dX0_take_33 : decode cX0_take 33 = .ok (.aload_n 1, 1) := by decide +kernel
theorem dX0_take_34 : decode cX0_take 34 = .ok (.getfield 24, 3) := by decide +kernel
theorem dX0_take_37 : decode cX0_take 37 = .ok (.putfield 24, 3) := by decide +kernel
theorem dX0_take_40 : decode cX0_take 40 = .ok (.return_, 1) := by decide +kernel
theorem dX0_stands_0 : decode cX0_stands 0 = .ok (.aload_n 0, 1) := by decide +kernel
theorem dX0_stands_1 : decode cX0_stands 1 = .ok (.getfield 24, 3) := by decide +kernel
theorem dX0_stands_4 : decode cX0_stands 4 = .ok (.ifCond .le 7, 3) := by decide +kernel
theorem dX0_stands_7 : decode cX0_stands 7 = .ok (.iconst 1, 1) := by decide +kernel
theorem dX0_stands_8 : decode cX0_stands 8 = .ok (.goto 4, 3) := by decide +kernel
theorem dX0_stands_11 : decode cX0_stands 11 = .ok (.iconst 0, 1) := by decide +kernel
theorem dX0_stands_12 : decode cX0_stands 12 = .ok (.ireturn, 1) := by decide +kernel
theorem dX0_isUnder_0 : decode cX0_isUnder 0 = .ok (.iload_n 1, 1) := by decide +kernel
theorem dX0_isUnder_1 : decode cX0_isUnder 1 = .ok (.ifCond .eq 37, 3) := by decide +kernel
theorem dX0_isUnder_4 : decode cX0_isUnder 4 = .ok (.iload_n 1, 1) := by decide +kernel
theorem dX0_isUnder_5 : decode cX0_isUnder 5 = .ok (.aload_n 0, 1) := by decide +kernel
theorem dX0_isUnder_6 : decode cX0_isUnder 6 = .ok (.getfield 9, 3) := by decide +kernel
theorem dX0_isUnder_9 : decode cX0_isUnder 9 = .ok (.if_icmp .eq 29, 3) := by decide +kernel
theorem dX0_isUnder_12 : decode cX0_isUnder 12 = .ok (.iload_n 1, 1) := by decide +kernel
theorem dX0_isUnder_13 : decode cX0_isUnder 13 = .ok (.iconst 1, 1) := by decide +kernel
theorem dX0_isUnder_14 : decode cX0_isUnder 14 = .ok (.if_icmp .ne 11, 3) := by decide +kernel
theorem dX0_isUnder_17 : decode cX0_isUnder 17 = .ok (.aload_n 0, 1) := by decide +kernel
theorem dX0_isUnder_18 : decode cX0_isUnder 18 = .ok (.getfield 9, 3) := by decide +kernel
theorem dX0_isUnder_21 : decode cX0_isUnder 21 = .ok (.iconst 3, 1) := by decide +kernel
theorem dX0_isUnder_22 : decode cX0_isUnder 22 = .ok (.if_icmp .eq 16, 3) := by decide +kernel
theorem dX0_isUnder_25 : decode cX0_isUnder 25 = .ok (.iload_n 1, 1) := by decide +kernel
theorem dX0_isUnder_26 : decode cX0_isUnder 26 = .ok (.iconst 2, 1) := by decide +kernel
theorem dX0_isUnder_27 : decode cX0_isUnder 27 = .ok (.if_icmp .ne 15, 3) := by decide +kernel
theorem dX0_isUnder_30 : decode cX0_isUnder 30 = .ok (.aload_n 0, 1) := by decide +kernel
theorem dX0_isUnder_31 : decode cX0_isUnder 31 = .ok (.getfield 9, 3) := by decide +kernel
theorem dX0_isUnder_34 : decode cX0_isUnder 34 = .ok (.iconst 4, 1) := by decide +kernel
theorem dX0_isUnder_35 : decode cX0_isUnder 35 = .ok (.if_icmp .ne 7, 3) := by decide +kernel
theorem dX0_isUnder_38 : decode cX0_isUnder 38 = .ok (.iconst 1, 1) := by decide +kernel
theorem dX0_isUnder_39 : decode cX0_isUnder 39 = .ok (.goto 4, 3) := by decide +kernel
theorem dX0_isUnder_42 : decode cX0_isUnder 42 = .ok (.iconst 0, 1) := by decide +kernel
theorem dX0_isUnder_43 : decode cX0_isUnder 43 = .ok (.ireturn, 1) := by decide +kernel
theorem dX0_lossBy_0 : decode cX0_lossBy 0 = .ok (.aload_n 0, 1) := by decide +kernel
theorem dX0_lossBy_1 : decode cX0_lossBy 1 = .ok (.getfield 9, 3) := by decide +kernel
theorem dX0_lossBy_4 : decode cX0_lossBy 4 = .ok (.tableswitch 90 1 5 #[36, 40, 54, 63, 79], 36) := by decide +kernel
theorem dX0_lossBy_40 : decode cX0_lossBy 40 = .ok (.iload_n 1, 1) := by decide +kernel
theorem dX0_lossBy_41 : decode cX0_lossBy 41 = .ok (.iconst 2, 1) := by decide +kernel
theorem dX0_lossBy_42 : decode cX0_lossBy 42 = .ok (.idiv, 1) := by decide +kernel
theorem dX0_lossBy_43 : decode cX0_lossBy 43 = .ok (.ireturn, 1) := by decide +kernel
theorem dX0_lossBy_44 : decode cX0_lossBy 44 = .ok (.aload_n 0, 1) := by decide +kernel
theorem dX0_lossBy_45 : decode cX0_lossBy 45 = .ok (.iload_n 2, 1) := by decide +kernel
theorem dX0_lossBy_46 : decode cX0_lossBy 46 = .ok (.invokevirtual 27, 3) := by decide +kernel
theorem dX0_lossBy_49 : decode cX0_lossBy 49 = .ok (.ifCond .eq 7, 3) := by decide +kernel
theorem dX0_lossBy_52 : decode cX0_lossBy 52 = .ok (.iconst 0, 1) := by decide +kernel
theorem dX0_lossBy_53 : decode cX0_lossBy 53 = .ok (.goto 4, 3) := by decide +kernel
theorem dX0_lossBy_56 : decode cX0_lossBy 56 = .ok (.iload_n 1, 1) := by decide +kernel
theorem dX0_lossBy_57 : decode cX0_lossBy 57 = .ok (.ireturn, 1) := by decide +kernel
theorem dX0_lossBy_58 : decode cX0_lossBy 58 = .ok (.iload_n 1, 1) := by decide +kernel
theorem dX0_lossBy_59 : decode cX0_lossBy 59 = .ok (.iconst 2, 1) := by decide +kernel
theorem dX0_lossBy_60 : decode cX0_lossBy 60 = .ok (.idiv, 1) := by decide +kernel
theorem dX0_lossBy_61 : decode cX0_lossBy 61 = .ok (.aload_n 0, 1) := by decide +kernel
theorem dX0_lossBy_62 : decode cX0_lossBy 62 = .ok (.getfield 15, 3) := by decide +kernel
theorem dX0_lossBy_65 : decode cX0_lossBy 65 = .ok (.iadd, 1) := by decide +kernel
theorem dX0_lossBy_66 : decode cX0_lossBy 66 = .ok (.ireturn, 1) := by decide +kernel
theorem dX0_lossBy_67 : decode cX0_lossBy 67 = .ok (.aload_n 0, 1) := by decide +kernel
theorem dX0_lossBy_68 : decode cX0_lossBy 68 = .ok (.iload_n 2, 1) := by decide +kernel
theorem dX0_lossBy_69 : decode cX0_lossBy 69 = .ok (.invokevirtual 27, 3) := by decide +kernel
theorem dX0_lossBy_72 : decode cX0_lossBy 72 = .ok (.ifCond .eq 7, 3) := by decide +kernel
theorem dX0_lossBy_75 : decode cX0_lossBy 75 = .ok (.iconst 0, 1) := by decide +kernel
theorem dX0_lossBy_76 : decode cX0_lossBy 76 = .ok (.goto 6, 3) := by decide +kernel
theorem dX0_lossBy_79 : decode cX0_lossBy 79 = .ok (.iconst 2, 1) := by decide +kernel
theorem dX0_lossBy_80 : decode cX0_lossBy 80 = .ok (.iload_n 1, 1) := by decide +kernel
theorem dX0_lossBy_81 : decode cX0_lossBy 81 = .ok (.imul, 1) := by decide +kernel
theorem dX0_lossBy_82 : decode cX0_lossBy 82 = .ok (.ireturn, 1) := by decide +kernel
theorem dX0_lossBy_83 : decode cX0_lossBy 83 = .ok (.iconst 0, 1) := by decide +kernel
theorem dX0_lossBy_84 : decode cX0_lossBy 84 = .ok (.iload_n 1, 1) := by decide +kernel
theorem dX0_lossBy_85 : decode cX0_lossBy 85 = .ok (.aload_n 0, 1) := by decide +kernel
theorem dX0_lossBy_86 : decode cX0_lossBy 86 = .ok (.getfield 15, 3) := by decide +kernel
theorem dX0_lossBy_89 : decode cX0_lossBy 89 = .ok (.isub, 1) := by decide +kernel
theorem dX0_lossBy_90 : decode cX0_lossBy 90 = .ok (.invokestatic 31, 3) := by decide +kernel
theorem dX0_lossBy_93 : decode cX0_lossBy 93 = .ok (.ireturn, 1) := by decide +kernel
theorem dX0_lossBy_94 : decode cX0_lossBy 94 = .ok (.iload_n 1, 1) := by decide +kernel
theorem dX0_lossBy_95 : decode cX0_lossBy 95 = .ok (.ireturn, 1) := by decide +kernel
theorem dX0_isDry_0 : decode cX0_isDry 0 = .ok (.aload_n 0, 1) := by decide +kernel
theorem dX0_isDry_1 : decode cX0_isDry 1 = .ok (.getfield 15, 3) := by decide +kernel
theorem dX0_isDry_4 : decode cX0_isDry 4 = .ok (.iconst 2, 1) := by decide +kernel
theorem dX0_isDry_5 : decode cX0_isDry 5 = .ok (.iadd, 1) := by decide +kernel
theorem dX0_isDry_6 : decode cX0_isDry 6 = .ok (.istore_n 2, 1) := by decide +kernel
theorem dX0_isDry_7 : decode cX0_isDry 7 = .ok (.iload_n 2, 1) := by decide +kernel
theorem dX0_isDry_8 : decode cX0_isDry 8 = .ok (.ifCond .le 13, 3) := by decide +kernel
theorem dX0_isDry_11 : decode cX0_isDry 11 = .ok (.iload_n 1, 1) := by decide +kernel
theorem dX0_isDry_12 : decode cX0_isDry 12 = .ok (.iload_n 2, 1) := by decide +kernel
theorem dX0_isDry_13 : decode cX0_isDry 13 = .ok (.irem, 1) := by decide +kernel
theorem dX0_isDry_14 : decode cX0_isDry 14 = .ok (.ifCond .ne 7, 3) := by decide +kernel
theorem dX0_isDry_17 : decode cX0_isDry 17 = .ok (.iconst 1, 1) := by decide +kernel
theorem dX0_isDry_18 : decode cX0_isDry 18 = .ok (.goto 4, 3) := by decide +kernel
theorem dX0_isDry_21 : decode cX0_isDry 21 = .ok (.iconst 0, 1) := by decide +kernel
theorem dX0_isDry_22 : decode cX0_isDry 22 = .ok (.ireturn, 1) := by decide +kernel
theorem dX0_riseBy_0 : decode cX0_riseBy 0 = .ok (.aload_n 0, 1) := by decide +kernel
theorem dX0_riseBy_1 : decode cX0_riseBy 1 = .ok (.getfield 9, 3) := by decide +kernel
theorem dX0_riseBy_4 : decode cX0_riseBy 4 = .ok (.tableswitch 46 1 4 #[32, 36, 32, 40], 32) := by decide +kernel
theorem dX0_riseBy_36 : decode cX0_riseBy 36 = .ok (.iload_n 1, 1) := by decide +kernel
theorem dX0_riseBy_37 : decode cX0_riseBy 37 = .ok (.iconst 1, 1) := by decide +kernel
theorem dX0_riseBy_38 : decode cX0_riseBy 38 = .ok (.iadd, 1) := by decide +kernel
theorem dX0_riseBy_39 : decode cX0_riseBy 39 = .ok (.ireturn, 1) := by decide +kernel
theorem dX0_riseBy_40 : decode cX0_riseBy 40 = .ok (.iload_n 1, 1) := by decide +kernel
theorem dX0_riseBy_41 : decode cX0_riseBy 41 = .ok (.iconst 2, 1) := by decide +kernel
theorem dX0_riseBy_42 : decode cX0_riseBy 42 = .ok (.idiv, 1) := by decide +kernel
theorem dX0_riseBy_43 : decode cX0_riseBy 43 = .ok (.ireturn, 1) := by decide +kernel
theorem dX0_riseBy_44 : decode cX0_riseBy 44 = .ok (.iload_n 1, 1) := by decide +kernel
theorem dX0_riseBy_45 : decode cX0_riseBy 45 = .ok (.iconst 2, 1) := by decide +kernel
theorem dX0_riseBy_46 : decode cX0_riseBy 46 = .ok (.idiv, 1) := by decide +kernel
theorem dX0_riseBy_47 : decode cX0_riseBy 47 = .ok (.iconst 1, 1) := by decide +kernel
theorem dX0_riseBy_48 : decode cX0_riseBy 48 = .ok (.iadd, 1) := by decide +kernel
theorem dX0_riseBy_49 : decode cX0_riseBy 49 = .ok (.ireturn, 1) := by decide +kernel
theorem dX0_riseBy_50 : decode cX0_riseBy 50 = .ok (.iload_n 1, 1) := by decide +kernel
theorem dX0_riseBy_51 : decode cX0_riseBy 51 = .ok (.ireturn, 1) := by decide +kernel
theorem dX1_init_0 : decode cX1_init 0 = .ok (.aload_n 0, 1) := by decide +kernel
theorem dX1_init_1 : decode cX1_init 1 = .ok (.invokespecial 3, 3) := by decide +kernel
theorem dX1_init_4 : decode cX1_init 4 = .ok (.aload_n 0, 1) := by decide +kernel
theorem dX1_init_5 : decode cX1_init 5 = .ok (.iconst 3, 1) := by decide +kernel
theorem dX1_init_6 : decode cX1_init 6 = .ok (.bipush 8, 2) := by decide +kernel
theorem dX1_init_8 : decode cX1_init 8 = .ok (.multianewarray 9 2, 4) := by decide +kernel
theorem dX1_init_12 : decode cX1_init 12 = .ok (.putfield 11, 3) := by decide +kernel
theorem dX1_init_15 : decode cX1_init 15 = .ok (.aload_n 0, 1) := by decide +kernel
theorem dX1_init_16 : decode cX1_init 16 = .ok (.aload_n 1, 1) := by decide +kernel
theorem dX1_init_17 : decode cX1_init 17 = .ok (.putfield 16, 3) := by decide +kernel
theorem dX1_init_20 : decode cX1_init 20 = .ok (.return_, 1) := by decide +kernel
theorem dX1_most_0 : decode cX1_most 0 = .ok (.iload_n 1, 1) := by decide +kernel
theorem dX1_most_1 : decode cX1_most 1 = .ok (.iconst 1, 1) := by decide +kernel
theorem dX1_most_2 : decode cX1_most 2 = .ok (.if_icmp .lt 8, 3) := by decide +kernel
theorem dX1_most_5 : decode cX1_most 5 = .ok (.iload_n 1, 1) := by decide +kernel
theorem dX1_most_6 : decode cX1_most 6 = .ok (.iconst 3, 1) := by decide +kernel
theorem dX1_most_7 : decode cX1_most 7 = .ok (.if_icmp .le 12, 3) := by decide +kernel
theorem dX1_most_10 : decode cX1_most 10 = .ok (.aload_n 0, 1) := by decide +kernel
theorem dX1_most_11 : decode cX1_most 11 = .ok (.getfield 16, 3) := by decide +kernel
theorem dX1_most_14 : decode cX1_most 14 = .ok (.iconst 0, 1) := by decide +kernel
theorem dX1_most_15 : decode cX1_most 15 = .ok (.invokevirtual 20, 3) := by decide +kernel
theorem dX1_most_18 : decode cX1_most 18 = .ok (.ireturn, 1) := by decide +kernel
theorem dX1_most_19 : decode cX1_most 19 = .ok (.iconst (-1), 1) := by decide +kernel
theorem dX1_most_20 : decode cX1_most 20 = .ok (.istore 4, 2) := by decide +kernel
theorem dX1_most_22 : decode cX1_most 22 = .ok (.aload_n 0, 1) := by decide +kernel
theorem dX1_most_23 : decode cX1_most 23 = .ok (.iload_n 1, 1) := by decide +kernel
theorem dX1_most_24 : decode cX1_most 24 = .ok (.iload_n 2, 1) := by decide +kernel
theorem dX1_most_25 : decode cX1_most 25 = .ok (.iload_n 3, 1) := by decide +kernel
theorem dX1_most_26 : decode cX1_most 26 = .ok (.invokevirtual 26, 3) := by decide +kernel
theorem dX1_most_29 : decode cX1_most 29 = .ok (.istore 5, 2) := by decide +kernel
theorem dX1_most_31 : decode cX1_most 31 = .ok (.iconst 0, 1) := by decide +kernel
theorem dX1_most_32 : decode cX1_most 32 = .ok (.istore 6, 2) := by decide +kernel
theorem dX1_most_34 : decode cX1_most 34 = .ok (.iload 6, 2) := by decide +kernel
theorem dX1_most_36 : decode cX1_most 36 = .ok (.aload_n 0, 1) := by decide +kernel
theorem dX1_most_37 : decode cX1_most 37 = .ok (.getfield 16, 3) := by decide +kernel
theorem dX1_most_40 : decode cX1_most 40 = .ok (.getfield 30, 3) := by decide +kernel
theorem dX1_most_43 : decode cX1_most 43 = .ok (.if_icmp .ge 94, 3) := by decide +kernel
theorem dX1_most_46 : decode cX1_most 46 = .ok (.iload 5, 2) := by decide +kernel
theorem dX1_most_48 : decode cX1_most 48 = .ok (.iload_n 3, 1) := by decide +kernel
theorem dX1_most_49 : decode cX1_most 49 = .ok (.if_icmp .ge 88, 3) := by decide +kernel
theorem dX1_most_52 : decode cX1_most 52 = .ok (.aload_n 0, 1) := by decide +kernel
theorem dX1_most_53 : decode cX1_most 53 = .ok (.getfield 16, 3) := by decide +kernel
theorem dX1_most_56 : decode cX1_most 56 = .ok (.iload 6, 2) := by decide +kernel
theorem dX1_most_58 : decode cX1_most 58 = .ok (.invokevirtual 34, 3) := by decide +kernel
theorem dX1_most_61 : decode cX1_most 61 = .ok (.astore 7, 2) := by decide +kernel
theorem dX1_most_63 : decode cX1_most 63 = .ok (.aload 7, 2) := by decide +kernel
theorem dX1_most_65 : decode cX1_most 65 = .ok (.ifnull 66, 3) := by decide +kernel
theorem dX1_most_68 : decode cX1_most 68 = .ok (.aload 7, 2) := by decide +kernel
theorem dX1_most_70 : decode cX1_most 70 = .ok (.getfield 38, 3) := by decide +kernel
theorem dX1_most_73 : decode cX1_most 73 = .ok (.ifCond .eq 6, 3) := by decide +kernel
theorem dX1_most_76 : decode cX1_most 76 = .ok (.goto 55, 3) := by decide +kernel
theorem dX1_most_79 : decode cX1_most 79 = .ok (.aload 7, 2) := by decide +kernel
theorem dX1_most_81 : decode cX1_most 81 = .ok (.getfield 43, 3) := by decide +kernel
theorem dX1_most_84 : decode cX1_most 84 = .ok (.istore 8, 2) := by decide +kernel
theorem dX1_most_86 : decode cX1_most 86 = .ok (.aload_n 0, 1) := by decide +kernel
theorem dX1_most_87 : decode cX1_most 87 = .ok (.getfield 16, 3) := by decide +kernel
theorem dX1_most_90 : decode cX1_most 90 = .ok (.aload 7, 2) := by decide +kernel
theorem dX1_most_92 : decode cX1_most 92 = .ok (.invokevirtual 46, 3) := by decide +kernel
theorem dX1_most_95 : decode cX1_most 95 = .ok (.aload_n 0, 1) := by decide +kernel
theorem dX1_most_96 : decode cX1_most 96 = .ok (.iload_n 1, 1) := by decide +kernel
theorem dX1_most_97 : decode cX1_most 97 = .ok (.iload_n 2, 1) := by decide +kernel
theorem dX1_most_98 : decode cX1_most 98 = .ok (.iload 5, 2) := by decide +kernel
theorem dX1_most_100 : decode cX1_most 100 = .ok (.invokestatic 50, 3) := by decide +kernel
theorem dX1_most_103 : decode cX1_most 103 = .ok (.iload_n 3, 1) := by decide +kernel
theorem dX1_most_104 : decode cX1_most 104 = .ok (.invokevirtual 26, 3) := by decide +kernel
theorem dX1_most_107 : decode cX1_most 107 = .ok (.istore 9, 2) := by decide +kernel
theorem dX1_most_109 : decode cX1_most 109 = .ok (.aload 7, 2) := by decide +kernel
theorem dX1_most_111 : decode cX1_most 111 = .ok (.iload 8, 2) := by decide +kernel
theorem dX1_most_113 : decode cX1_most 113 = .ok (.putfield 43, 3) := by decide +kernel
theorem dX1_most_116 : decode cX1_most 116 = .ok (.iload 9, 2) := by decide +kernel
theorem dX1_most_118 : decode cX1_most 118 = .ok (.iload 5, 2) := by decide +kernel
theorem dX1_most_120 : decode cX1_most 120 = .ok (.if_icmp .le 11, 3) := by decide +kernel
theorem dX1_most_123 : decode cX1_most 123 = .ok (.iload 9, 2) := by decide +kernel
theorem dX1_most_125 : decode cX1_most 125 = .ok (.istore 5, 2) := by decide +kernel
theorem dX1_most_127 : decode cX1_most 127 = .ok (.iload 6, 2) := by decide +kernel
theorem dX1_most_129 : decode cX1_most 129 = .ok (.istore 4, 2) := by decide +kernel
theorem dX1_most_131 : decode cX1_most 131 = .ok (.iinc 6 1, 3) := by decide +kernel
theorem dX1_most_134 : decode cX1_most 134 = .ok (.goto (-100), 3) := by decide +kernel
theorem dX1_most_137 : decode cX1_most 137 = .ok (.aload_n 0, 1) := by decide +kernel
theorem dX1_most_138 : decode cX1_most 138 = .ok (.iload 4, 2) := by decide +kernel
theorem dX1_most_140 : decode cX1_most 140 = .ok (.putfield 56, 3) := by decide +kernel
theorem dX1_most_143 : decode cX1_most 143 = .ok (.iload 5, 2) := by decide +kernel
theorem dX1_most_145 : decode cX1_most 145 = .ok (.ireturn, 1) := by decide +kernel
theorem dX1_least_0 : decode cX1_least 0 = .ok (.aload_n 0, 1) := by decide +kernel
theorem dX1_least_1 : decode cX1_least 1 = .ok (.iload_n 1, 1) := by decide +kernel
theorem dX1_least_2 : decode cX1_least 2 = .ok (.iload_n 2, 1) := by decide +kernel
theorem dX1_least_3 : decode cX1_least 3 = .ok (.iload_n 3, 1) := by decide +kernel
theorem dX1_least_4 : decode cX1_least 4 = .ok (.invokevirtual 59, 3) := by decide +kernel
theorem dX1_least_7 : decode cX1_least 7 = .ok (.istore 4, 2) := by decide +kernel
theorem dX1_least_9 : decode cX1_least 9 = .ok (.iconst 0, 1) := by decide +kernel
theorem dX1_least_10 : decode cX1_least 10 = .ok (.istore 5, 2) := by decide +kernel
theorem dX1_least_12 : decode cX1_least 12 = .ok (.iload 5, 2) := by decide +kernel
theorem dX1_least_14 : decode cX1_least 14 = .ok (.aload_n 0, 1) := by decide +kernel
theorem dX1_least_15 : decode cX1_least 15 = .ok (.getfield 16, 3) := by decide +kernel
theorem dX1_least_18 : decode cX1_least 18 = .ok (.getfield 30, 3) := by decide +kernel
theorem dX1_least_21 : decode cX1_least 21 = .ok (.if_icmp .ge 89, 3) := by decide +kernel
theorem dX1_least_24 : decode cX1_least 24 = .ok (.iload 4, 2) := by decide +kernel
theorem dX1_least_26 : decode cX1_least 26 = .ok (.iload_n 2, 1) := by decide +kernel
theorem dX1_least_27 : decode cX1_least 27 = .ok (.if_icmp .le 83, 3) := by decide +kernel
theorem dX1_least_30 : decode cX1_least 30 = .ok (.aload_n 0, 1) := by decide +kernel
theorem dX1_least_31 : decode cX1_least 31 = .ok (.getfield 16, 3) := by decide +kernel
theorem dX1_least_34 : decode cX1_least 34 = .ok (.iload 5, 2) := by decide +kernel
theorem dX1_least_36 : decode cX1_least 36 = .ok (.invokevirtual 34, 3) := by decide +kernel
theorem dX1_least_39 : decode cX1_least 39 = .ok (.astore 6, 2) := by decide +kernel
theorem dX1_least_41 : decode cX1_least 41 = .ok (.aload 6, 2) := by decide +kernel
theorem dX1_least_43 : decode cX1_least 43 = .ok (.ifnull 61, 3) := by decide +kernel
theorem dX1_least_46 : decode cX1_least 46 = .ok (.aload 6, 2) := by decide +kernel
theorem dX1_least_48 : decode cX1_least 48 = .ok (.getfield 38, 3) := by decide +kernel
theorem dX1_least_51 : decode cX1_least 51 = .ok (.iconst 1, 1) := by decide +kernel
theorem dX1_least_52 : decode cX1_least 52 = .ok (.if_icmp .eq 6, 3) := by decide +kernel
theorem dX1_least_55 : decode cX1_least 55 = .ok (.goto 49, 3) := by decide +kernel
theorem dX1_least_58 : decode cX1_least 58 = .ok (.aload 6, 2) := by decide +kernel
theorem dX1_least_60 : decode cX1_least 60 = .ok (.getfield 43, 3) := by decide +kernel
theorem dX1_least_63 : decode cX1_least 63 = .ok (.istore 7, 2) := by decide +kernel
theorem dX1_least_65 : decode cX1_least 65 = .ok (.aload_n 0, 1) := by decide +kernel
theorem dX1_least_66 : decode cX1_least 66 = .ok (.getfield 16, 3) := by decide +kernel
theorem dX1_least_69 : decode cX1_least 69 = .ok (.aload 6, 2) := by decide +kernel
theorem dX1_least_71 : decode cX1_least 71 = .ok (.invokevirtual 46, 3) := by decide +kernel
theorem dX1_least_74 : decode cX1_least 74 = .ok (.aload_n 0, 1) := by decide +kernel
theorem dX1_least_75 : decode cX1_least 75 = .ok (.iload_n 1, 1) := by decide +kernel
theorem dX1_least_76 : decode cX1_least 76 = .ok (.iload_n 2, 1) := by decide +kernel
theorem dX1_least_77 : decode cX1_least 77 = .ok (.iload_n 3, 1) := by decide +kernel
theorem dX1_least_78 : decode cX1_least 78 = .ok (.iload 4, 2) := by decide +kernel
theorem dX1_least_80 : decode cX1_least 80 = .ok (.invokestatic 62, 3) := by decide +kernel
theorem dX1_least_83 : decode cX1_least 83 = .ok (.invokevirtual 59, 3) := by decide +kernel
theorem dX1_least_86 : decode cX1_least 86 = .ok (.istore 8, 2) := by decide +kernel
theorem dX1_least_88 : decode cX1_least 88 = .ok (.aload 6, 2) := by decide +kernel
theorem dX1_least_90 : decode cX1_least 90 = .ok (.iload 7, 2) := by decide +kernel
theorem dX1_least_92 : decode cX1_least 92 = .ok (.putfield 43, 3) := by decide +kernel
theorem dX1_least_95 : decode cX1_least 95 = .ok (.iload 4, 2) := by decide +kernel
theorem dX1_least_97 : decode cX1_least 97 = .ok (.iload 8, 2) := by decide +kernel
theorem dX1_least_99 : decode cX1_least 99 = .ok (.invokestatic 62, 3) := by decide +kernel
theorem dX1_least_102 : decode cX1_least 102 = .ok (.istore 4, 2) := by decide +kernel
theorem dX1_least_104 : decode cX1_least 104 = .ok (.iinc 5 1, 3) := by decide +kernel
theorem dX1_least_107 : decode cX1_least 107 = .ok (.goto (-95), 3) := by decide +kernel
theorem dX1_least_110 : decode cX1_least 110 = .ok (.iload 4, 2) := by decide +kernel
theorem dX1_least_112 : decode cX1_least 112 = .ok (.ireturn, 1) := by decide +kernel
theorem dX1_behindWave_0 : decode cX1_behindWave 0 = .ok (.iload_n 1, 1) := by decide +kernel
theorem dX1_behindWave_1 : decode cX1_behindWave 1 = .ok (.iconst 1, 1) := by decide +kernel
theorem dX1_behindWave_2 : decode cX1_behindWave 2 = .ok (.if_icmp .lt 8, 3) := by decide +kernel
theorem dX1_behindWave_5 : decode cX1_behindWave 5 = .ok (.iload_n 1, 1) := by decide +kernel
theorem dX1_behindWave_6 : decode cX1_behindWave 6 = .ok (.iconst 3, 1) := by decide +kernel
theorem dX1_behindWave_7 : decode cX1_behindWave 7 = .ok (.if_icmp .le 12, 3) := by decide +kernel
theorem dX1_behindWave_10 : decode cX1_behindWave 10 = .ok (.aload_n 0, 1) := by decide +kernel
theorem dX1_behindWave_11 : decode cX1_behindWave 11 = .ok (.getfield 16, 3) := by decide +kernel
theorem dX1_behindWave_14 : decode cX1_behindWave 14 = .ok (.iconst 0, 1) := by decide +kernel
theorem dX1_behindWave_15 : decode cX1_behindWave 15 = .ok (.invokevirtual 20, 3) := by decide +kernel
theorem dX1_behindWave_18 : decode cX1_behindWave 18 = .ok (.ireturn, 1) := by decide +kernel
theorem dX1_behindWave_19 : decode cX1_behindWave 19 = .ok (.aload_n 0, 1) := by decide +kernel
theorem dX1_behindWave_20 : decode cX1_behindWave 20 = .ok (.getfield 11, 3) := by decide +kernel
theorem dX1_behindWave_23 : decode cX1_behindWave 23 = .ok (.iload_n 1, 1) := by decide +kernel
theorem dX1_behindWave_24 : decode cX1_behindWave 24 = .ok (.iconst 1, 1) := by decide +kernel
theorem dX1_behindWave_25 : decode cX1_behindWave 25 = .ok (.isub, 1) := by decide +kernel
theorem dX1_behindWave_26 : decode cX1_behindWave 26 = .ok (.aaload, 1) := by decide +kernel
theorem dX1_behindWave_27 : decode cX1_behindWave 27 = .ok (.astore 4, 2) := by decide +kernel
theorem dX1_behindWave_29 : decode cX1_behindWave 29 = .ok (.iconst 0, 1) := by decide +kernel
theorem dX1_behindWave_30 : decode cX1_behindWave 30 = .ok (.istore 5, 2) := by decide +kernel
theorem dX1_behindWave_32 : decode cX1_behindWave 32 = .ok (.iload 5, 2) := by decide +kernel
theorem dX1_behindWave_34 : decode cX1_behindWave 34 = .ok (.bipush 8, 2) := by decide +kernel
theorem dX1_behindWave_36 : decode cX1_behindWave 36 = .ok (.if_icmp .ge 27, 3) := by decide +kernel
theorem dX1_behindWave_39 : decode cX1_behindWave 39 = .ok (.aload 4, 2) := by decide +kernel
theorem dX1_behindWave_41 : decode cX1_behindWave 41 = .ok (.iload 5, 2) := by decide +kernel
theorem dX1_behindWave_43 : decode cX1_behindWave 43 = .ok (.aload_n 0, 1) := by decide +kernel
theorem dX1_behindWave_44 : decode cX1_behindWave 44 = .ok (.getfield 16, 3) := by decide +kernel
theorem dX1_behindWave_47 : decode cX1_behindWave 47 = .ok (.getfield 65, 3) := by decide +kernel
theorem dX1_behindWave_50 : decode cX1_behindWave 50 = .ok (.iload 5, 2) := by decide +kernel
theorem dX1_behindWave_52 : decode cX1_behindWave 52 = .ok (.aaload, 1) := by decide +kernel
theorem dX1_behindWave_53 : decode cX1_behindWave 53 = .ok (.getfield 43, 3) := by decide +kernel
theorem dX1_behindWave_56 : decode cX1_behindWave 56 = .ok (.iastore, 1) := by decide +kernel
theorem dX1_behindWave_57 : decode cX1_behindWave 57 = .ok (.iinc 5 1, 3) := by decide +kernel
theorem dX1_behindWave_60 : decode cX1_behindWave 60 = .ok (.goto (-28), 3) := by decide +kernel
theorem dX1_behindWave_63 : decode cX1_behindWave 63 = .ok (.aload_n 0, 1) := by decide +kernel
theorem dX1_behindWave_64 : decode cX1_behindWave 64 = .ok (.getfield 16, 3) := by decide +kernel
theorem dX1_behindWave_67 : decode cX1_behindWave 67 = .ok (.invokevirtual 69, 3) := by decide +kernel
theorem dX1_behindWave_70 : decode cX1_behindWave 70 = .ok (.aload_n 0, 1) := by decide +kernel
theorem dX1_behindWave_71 : decode cX1_behindWave 71 = .ok (.iload_n 1, 1) := by decide +kernel
theorem dX1_behindWave_72 : decode cX1_behindWave 72 = .ok (.iconst 1, 1) := by decide +kernel
theorem dX1_behindWave_73 : decode cX1_behindWave 73 = .ok (.isub, 1) := by decide +kernel
theorem dX1_behindWave_74 : decode cX1_behindWave 74 = .ok (.iload_n 2, 1) := by decide +kernel
theorem dX1_behindWave_75 : decode cX1_behindWave 75 = .ok (.iload_n 3, 1) := by decide +kernel
theorem dX1_behindWave_76 : decode cX1_behindWave 76 = .ok (.invokevirtual 72, 3) := by decide +kernel
theorem dX1_behindWave_79 : decode cX1_behindWave 79 = .ok (.istore 5, 2) := by decide +kernel
theorem dX1_behindWave_81 : decode cX1_behindWave 81 = .ok (.aload_n 0, 1) := by decide +kernel
theorem dX1_behindWave_82 : decode cX1_behindWave 82 = .ok (.getfield 16, 3) := by decide +kernel
theorem dX1_behindWave_85 : decode cX1_behindWave 85 = .ok (.dup, 1) := by decide +kernel
theorem dX1_behindWave_86 : decode cX1_behindWave 86 = .ok (.getfield 75, 3) := by decide +kernel
theorem dX1_behindWave_89 : decode cX1_behindWave 89 = .ok (.iconst 1, 1) := by decide +kernel
theorem dX1_behindWave_90 : decode cX1_behindWave 90 = .ok (.isub, 1) := by decide +kernel
theorem dX1_behindWave_91 : decode cX1_behindWave 91 = .ok (.putfield 75, 3) := by decide +kernel
theorem dX1_behindWave_94 : decode cX1_behindWave 94 = .ok (.iconst 0, 1) := by decide +kernel
theorem dX1_behindWave_95 : decode cX1_behindWave 95 = .ok (.istore 6, 2) := by decide +kernel
theorem dX1_behindWave_97 : decode cX1_behindWave 97 = .ok (.iload 6, 2) := by decide +kernel
theorem dX1_behindWave_99 : decode cX1_behindWave 99 = .ok (.bipush 8, 2) := by decide +kernel
theorem dX1_behindWave_101 : decode cX1_behindWave 101 = .ok (.if_icmp .ge 27, 3) := by decide +kernel
theorem dX1_behindWave_104 : decode cX1_behindWave 104 = .ok (.aload_n 0, 1) := by decide +kernel
theorem dX1_behindWave_105 : decode cX1_behindWave 105 = .ok (.getfield 16, 3) := by decide +kernel
theorem dX1_behindWave_108 : decode cX1_behindWave 108 = .ok (.getfield 65, 3) := by decide +kernel
theorem dX1_behindWave_111 : decode cX1_behindWave 111 = .ok (.iload 6, 2) := by decide +kernel
theorem dX1_behindWave_113 : decode cX1_behindWave 113 = .ok (.aaload, 1) := by decide +kernel
theorem dX1_behindWave_114 : decode cX1_behindWave 114 = .ok (.aload 4, 2) := by decide +kernel
theorem dX1_behindWave_116 : decode cX1_behindWave 116 = .ok (.iload 6, 2) := by decide +kernel
theorem dX1_behindWave_118 : decode cX1_behindWave 118 = .ok (.iaload, 1) := by decide +kernel
theorem dX1_behindWave_119 : decode cX1_behindWave 119 = .ok (.putfield 43, 3) := by decide +kernel
theorem dX1_behindWave_122 : decode cX1_behindWave 122 = .ok (.iinc 6 1, 3) := by decide +kernel
theorem dX1_behindWave_125 : decode cX1_behindWave 125 = .ok (.goto (-28), 3) := by decide +kernel
theorem dX1_behindWave_128 : decode cX1_behindWave 128 = .ok (.iload 5, 2) := by decide +kernel
theorem dX1_behindWave_130 : decode cX1_behindWave 130 = .ok (.ireturn, 1) := by decide +kernel
theorem dX2_init_0 : decode cX2_init 0 = .ok (.aload_n 0, 1) := by decide +kernel
theorem dX2_init_1 : decode cX2_init 1 = .ok (.invokespecial 3, 3) := by decide +kernel
theorem dX2_init_4 : decode cX2_init 4 = .ok (.aload_n 0, 1) := by decide +kernel
theorem dX2_init_5 : decode cX2_init 5 = .ok (.aload_n 1, 1) := by decide +kernel
theorem dX2_init_6 : decode cX2_init 6 = .ok (.putfield 9, 3) := by decide +kernel
theorem dX2_init_9 : decode cX2_init 9 = .ok (.return_, 1) := by decide +kernel
theorem dX2_readInto_0 : decode cX2_readInto 0 = .ok (.aload_n 0, 1) := by decide +kernel
theorem dX2_readInto_1 : decode cX2_readInto 1 = .ok (.getfield 9, 3) := by decide +kernel
theorem dX2_readInto_4 : decode cX2_readInto 4 = .ok (.invokevirtual 15, 3) := by decide +kernel
theorem dX2_readInto_7 : decode cX2_readInto 7 = .ok (.aload_n 1, 1) := by decide +kernel
theorem dX2_readInto_8 : decode cX2_readInto 8 = .ok (.invokevirtual 20, 3) := by decide +kernel
theorem dX2_readInto_11 : decode cX2_readInto 11 = .ok (.aload_n 0, 1) := by decide +kernel
theorem dX2_readInto_12 : decode cX2_readInto 12 = .ok (.iconst 0, 1) := by decide +kernel
theorem dX2_readInto_13 : decode cX2_readInto 13 = .ok (.putfield 25, 3) := by decide +kernel
theorem dX2_readInto_16 : decode cX2_readInto 16 = .ok (.aload_n 0, 1) := by decide +kernel
theorem dX2_readInto_17 : decode cX2_readInto 17 = .ok (.iconst (-1), 1) := by decide +kernel
theorem dX2_readInto_18 : decode cX2_readInto 18 = .ok (.putfield 29, 3) := by decide +kernel
theorem dX2_readInto_21 : decode cX2_readInto 21 = .ok (.aload_n 0, 1) := by decide +kernel
theorem dX2_readInto_22 : decode cX2_readInto 22 = .ok (.iconst 0, 1) := by decide +kernel
theorem dX2_readInto_23 : decode cX2_readInto 23 = .ok (.invokevirtual 32, 3) := by decide +kernel
theorem dX2_readInto_26 : decode cX2_readInto 26 = .ok (.aload_n 0, 1) := by decide +kernel
theorem dX2_readInto_27 : decode cX2_readInto 27 = .ok (.iconst 3, 1) := by decide +kernel
theorem dX2_readInto_28 : decode cX2_readInto 28 = .ok (.aload_n 1, 1) := by decide +kernel
theorem dX2_readInto_29 : decode cX2_readInto 29 = .ok (.invokevirtual 36, 3) := by decide +kernel
theorem dX2_readInto_32 : decode cX2_readInto 32 = .ok (.aload_n 1, 1) := by decide +kernel
theorem dX2_readInto_33 : decode cX2_readInto 33 = .ok (.invokevirtual 40, 3) := by decide +kernel
theorem dX2_readInto_36 : decode cX2_readInto 36 = .ok (.aload_n 0, 1) := by decide +kernel
theorem dX2_readInto_37 : decode cX2_readInto 37 = .ok (.iconst 4, 1) := by decide +kernel
theorem dX2_readInto_38 : decode cX2_readInto 38 = .ok (.aload_n 1, 1) := by decide +kernel
theorem dX2_readInto_39 : decode cX2_readInto 39 = .ok (.invokevirtual 36, 3) := by decide +kernel
theorem dX2_readInto_42 : decode cX2_readInto 42 = .ok (.aload_n 1, 1) := by decide +kernel
theorem dX2_readInto_43 : decode cX2_readInto 43 = .ok (.invokevirtual 43, 3) := by decide +kernel
theorem dX2_readInto_46 : decode cX2_readInto 46 = .ok (.aload_n 0, 1) := by decide +kernel
theorem dX2_readInto_47 : decode cX2_readInto 47 = .ok (.iconst 5, 1) := by decide +kernel
theorem dX2_readInto_48 : decode cX2_readInto 48 = .ok (.aload_n 1, 1) := by decide +kernel
theorem dX2_readInto_49 : decode cX2_readInto 49 = .ok (.invokevirtual 36, 3) := by decide +kernel
theorem dX2_readInto_52 : decode cX2_readInto 52 = .ok (.aload_n 0, 1) := by decide +kernel
theorem dX2_readInto_53 : decode cX2_readInto 53 = .ok (.getfield 46, 3) := by decide +kernel
theorem dX2_readInto_56 : decode cX2_readInto 56 = .ok (.iconst 1, 1) := by decide +kernel
theorem dX2_readInto_57 : decode cX2_readInto 57 = .ok (.if_icmp .eq 7, 3) := by decide +kernel
theorem dX2_readInto_60 : decode cX2_readInto 60 = .ok (.aload_n 0, 1) := by decide +kernel
theorem dX2_readInto_61 : decode cX2_readInto 61 = .ok (.invokevirtual 49, 3) := by decide +kernel
theorem dX2_readInto_64 : decode cX2_readInto 64 = .ok (.aload_n 0, 1) := by decide +kernel
theorem dX2_readInto_65 : decode cX2_readInto 65 = .ok (.getfield 29, 3) := by decide +kernel
theorem dX2_readInto_68 : decode cX2_readInto 68 = .ok (.ireturn, 1) := by decide +kernel
theorem dX2_readPart_0 : decode cX2_readPart 0 = .ok (.aload_n 0, 1) := by decide +kernel
theorem dX2_readPart_1 : decode cX2_readPart 1 = .ok (.iload_n 1, 1) := by decide +kernel
theorem dX2_readPart_2 : decode cX2_readPart 2 = .ok (.invokevirtual 52, 3) := by decide +kernel
theorem dX2_readPart_5 : decode cX2_readPart 5 = .ok (.aload_n 0, 1) := by decide +kernel
theorem dX2_readPart_6 : decode cX2_readPart 6 = .ok (.aload_n 2, 1) := by decide +kernel
theorem dX2_readPart_7 : decode cX2_readPart 7 = .ok (.invokevirtual 55, 3) := by decide +kernel
theorem dX2_readPart_10 : decode cX2_readPart 10 = .ok (.aload_n 0, 1) := by decide +kernel
theorem dX2_readPart_11 : decode cX2_readPart 11 = .ok (.bipush 59, 2) := by decide +kernel
theorem dX2_readPart_13 : decode cX2_readPart 13 = .ok (.invokevirtual 52, 3) := by decide +kernel
theorem dX2_readPart_16 : decode cX2_readPart 16 = .ok (.return_, 1) := by decide +kernel
theorem dX2_readE_0 : decode cX2_readE 0 = .ok (.aload_n 0, 1) := by decide +kernel
theorem dX2_readE_1 : decode cX2_readE 1 = .ok (.aload_n 1, 1) := by decide +kernel
theorem dX2_readE_2 : decode cX2_readE 2 = .ok (.invokevirtual 59, 3) := by decide +kernel
theorem dX2_readE_5 : decode cX2_readE 5 = .ok (.iconst 0, 1) := by decide +kernel
theorem dX2_readE_6 : decode cX2_readE 6 = .ok (.istore_n 2, 1) := by decide +kernel
theorem dX2_readE_7 : decode cX2_readE 7 = .ok (.iload_n 2, 1) := by decide +kernel
theorem dX2_readE_8 : decode cX2_readE 8 = .ok (.sipush 160, 3) := by decide +kernel
theorem dX2_readE_11 : decode cX2_readE 11 = .ok (.if_icmp .ge 39, 3) := by decide +kernel
theorem dX2_readE_14 : decode cX2_readE 14 = .ok (.aload_n 0, 1) := by decide +kernel
theorem dX2_readE_15 : decode cX2_readE 15 = .ok (.getfield 46, 3) := by decide +kernel
theorem dX2_readE_18 : decode cX2_readE 18 = .ok (.bipush (-9), 2) := by decide +kernel
theorem dX2_readE_20 : decode cX2_readE 20 = .ok (.if_icmp .ne 30, 3) := by decide +kernel
theorem dX2_readE_23 : decode cX2_readE 23 = .ok (.aload_n 0, 1) := by decide +kernel
theorem dX2_readE_24 : decode cX2_readE 24 = .ok (.aload_n 0, 1) := by decide +kernel
theorem dX2_readE_25 : decode cX2_readE 25 = .ok (.getfield 62, 3) := by decide +kernel
theorem dX2_readE_28 : decode cX2_readE 28 = .ok (.iconst 1, 1) := by decide +kernel
theorem dX2_readE_29 : decode cX2_readE 29 = .ok (.iadd, 1) := by decide +kernel
theorem dX2_readE_30 : decode cX2_readE 30 = .ok (.invokevirtual 32, 3) := by decide +kernel
theorem dX2_readE_33 : decode cX2_readE 33 = .ok (.aload_n 0, 1) := by decide +kernel
theorem dX2_readE_34 : decode cX2_readE 34 = .ok (.aload_n 1, 1) := by decide +kernel
theorem dX2_readE_35 : decode cX2_readE 35 = .ok (.invokevirtual 59, 3) := by decide +kernel
theorem dX2_readE_38 : decode cX2_readE 38 = .ok (.aload_n 1, 1) := by decide +kernel
theorem dX2_readE_39 : decode cX2_readE 39 = .ok (.bipush (-9), 2) := by decide +kernel
theorem dX2_readE_41 : decode cX2_readE 41 = .ok (.invokevirtual 65, 3) := by decide +kernel
theorem dX2_readE_44 : decode cX2_readE 44 = .ok (.iinc 2 1, 3) := by decide +kernel
theorem dX2_readE_47 : decode cX2_readE 47 = .ok (.goto (-40), 3) := by decide +kernel
theorem dX2_readE_50 : decode cX2_readE 50 = .ok (.return_, 1) := by decide +kernel
theorem dX2_readAnd_0 : decode cX2_readAnd 0 = .ok (.aload_n 0, 1) := by decide +kernel
theorem dX2_readAnd_1 : decode cX2_readAnd 1 = .ok (.aload_n 1, 1) := by decide +kernel
theorem dX2_readAnd_2 : decode cX2_readAnd 2 = .ok (.invokevirtual 68, 3) := by decide +kernel
theorem dX2_readAnd_5 : decode cX2_readAnd 5 = .ok (.iconst 0, 1) := by decide +kernel
theorem dX2_readAnd_6 : decode cX2_readAnd 6 = .ok (.istore_n 2, 1) := by decide +kernel
theorem dX2_readAnd_7 : decode cX2_readAnd 7 = .ok (.iload_n 2, 1) := by decide +kernel
theorem dX2_readAnd_8 : decode cX2_readAnd 8 = .ok (.sipush 160, 3) := by decide +kernel
theorem dX2_readAnd_11 : decode cX2_readAnd 11 = .ok (.if_icmp .ge 39, 3) := by decide +kernel
theorem dX2_readAnd_14 : decode cX2_readAnd 14 = .ok (.aload_n 0, 1) := by decide +kernel
theorem dX2_readAnd_15 : decode cX2_readAnd 15 = .ok (.getfield 46, 3) := by decide +kernel
theorem dX2_readAnd_18 : decode cX2_readAnd 18 = .ok (.bipush (-10), 2) := by decide +kernel
theorem dX2_readAnd_20 : decode cX2_readAnd 20 = .ok (.if_icmp .ne 30, 3) := by decide +kernel
theorem dX2_readAnd_23 : decode cX2_readAnd 23 = .ok (.aload_n 0, 1) := by decide +kernel
theorem dX2_readAnd_24 : decode cX2_readAnd 24 = .ok (.aload_n 0, 1) := by decide +kernel
theorem dX2_readAnd_25 : decode cX2_readAnd 25 = .ok (.getfield 62, 3) := by decide +kernel
theorem dX2_readAnd_28 : decode cX2_readAnd 28 = .ok (.iconst 1, 1) := by decide +kernel
theorem dX2_readAnd_29 : decode cX2_readAnd 29 = .ok (.iadd, 1) := by decide +kernel
theorem dX2_readAnd_30 : decode cX2_readAnd 30 = .ok (.invokevirtual 32, 3) := by decide +kernel
theorem dX2_readAnd_33 : decode cX2_readAnd 33 = .ok (.aload_n 0, 1) := by decide +kernel
theorem dX2_readAnd_34 : decode cX2_readAnd 34 = .ok (.aload_n 1, 1) := by decide +kernel
theorem dX2_readAnd_35 : decode cX2_readAnd 35 = .ok (.invokevirtual 68, 3) := by decide +kernel
theorem dX2_readAnd_38 : decode cX2_readAnd 38 = .ok (.aload_n 1, 1) := by decide +kernel
theorem dX2_readAnd_39 : decode cX2_readAnd 39 = .ok (.bipush (-10), 2) := by decide +kernel
theorem dX2_readAnd_41 : decode cX2_readAnd 41 = .ok (.invokevirtual 65, 3) := by decide +kernel
theorem dX2_readAnd_44 : decode cX2_readAnd 44 = .ok (.iinc 2 1, 3) := by decide +kernel
theorem dX2_readAnd_47 : decode cX2_readAnd 47 = .ok (.goto (-40), 3) := by decide +kernel
theorem dX2_readAnd_50 : decode cX2_readAnd 50 = .ok (.return_, 1) := by decide +kernel
theorem dX2_readNot_0 : decode cX2_readNot 0 = .ok (.aload_n 0, 1) := by decide +kernel
theorem dX2_readNot_1 : decode cX2_readNot 1 = .ok (.bipush (-7), 2) := by decide +kernel
theorem dX2_readNot_3 : decode cX2_readNot 3 = .ok (.invokevirtual 71, 3) := by decide +kernel
theorem dX2_readNot_6 : decode cX2_readNot 6 = .ok (.istore_n 2, 1) := by decide +kernel
theorem dX2_readNot_7 : decode cX2_readNot 7 = .ok (.aload_n 0, 1) := by decide +kernel
theorem dX2_readNot_8 : decode cX2_readNot 8 = .ok (.aload_n 1, 1) := by decide +kernel
theorem dX2_readNot_9 : decode cX2_readNot 9 = .ok (.invokevirtual 75, 3) := by decide +kernel
theorem dX2_readNot_12 : decode cX2_readNot 12 = .ok (.aload_n 0, 1) := by decide +kernel
theorem dX2_readNot_13 : decode cX2_readNot 13 = .ok (.getfield 46, 3) := by decide +kernel
theorem dX2_readNot_16 : decode cX2_readNot 16 = .ok (.bipush 60, 2) := by decide +kernel
theorem dX2_readNot_18 : decode cX2_readNot 18 = .ok (.if_icmp .eq 12, 3) := by decide +kernel
theorem dX2_readNot_21 : decode cX2_readNot 21 = .ok (.aload_n 0, 1) := by decide +kernel
theorem dX2_readNot_22 : decode cX2_readNot 22 = .ok (.getfield 46, 3) := by decide +kernel
theorem dX2_readNot_25 : decode cX2_readNot 25 = .ok (.bipush 61, 2) := by decide +kernel
theorem dX2_readNot_27 : decode cX2_readNot 27 = .ok (.if_icmp .ne 40, 3) := by decide +kernel
theorem dX2_readNot_30 : decode cX2_readNot 30 = .ok (.aload_n 0, 1) := by decide +kernel
theorem dX2_readNot_31 : decode cX2_readNot 31 = .ok (.getfield 46, 3) := by decide +kernel
theorem dX2_readNot_34 : decode cX2_readNot 34 = .ok (.bipush 60, 2) := by decide +kernel
theorem dX2_readNot_36 : decode cX2_readNot 36 = .ok (.if_icmp .ne 8, 3) := by decide +kernel
theorem dX2_readNot_39 : decode cX2_readNot 39 = .ok (.bipush (-11), 2) := by decide +kernel
theorem dX2_readNot_41 : decode cX2_readNot 41 = .ok (.goto 5, 3) := by decide +kernel
theorem dX2_readNot_44 : decode cX2_readNot 44 = .ok (.bipush (-12), 2) := by decide +kernel
theorem dX2_readNot_46 : decode cX2_readNot 46 = .ok (.istore_n 3, 1) := by decide +kernel
theorem dX2_readNot_47 : decode cX2_readNot 47 = .ok (.aload_n 0, 1) := by decide +kernel
theorem dX2_readNot_48 : decode cX2_readNot 48 = .ok (.aload_n 0, 1) := by decide +kernel
theorem dX2_readNot_49 : decode cX2_readNot 49 = .ok (.getfield 62, 3) := by decide +kernel
theorem dX2_readNot_52 : decode cX2_readNot 52 = .ok (.iconst 1, 1) := by decide +kernel
theorem dX2_readNot_53 : decode cX2_readNot 53 = .ok (.iadd, 1) := by decide +kernel
theorem dX2_readNot_54 : decode cX2_readNot 54 = .ok (.invokevirtual 32, 3) := by decide +kernel
theorem dX2_readNot_57 : decode cX2_readNot 57 = .ok (.aload_n 0, 1) := by decide +kernel
theorem dX2_readNot_58 : decode cX2_readNot 58 = .ok (.aload_n 1, 1) := by decide +kernel
theorem dX2_readNot_59 : decode cX2_readNot 59 = .ok (.invokevirtual 75, 3) := by decide +kernel
theorem dX2_readNot_62 : decode cX2_readNot 62 = .ok (.aload_n 1, 1) := by decide +kernel
theorem dX2_readNot_63 : decode cX2_readNot 63 = .ok (.iload_n 3, 1) := by decide +kernel
theorem dX2_readNot_64 : decode cX2_readNot 64 = .ok (.invokevirtual 65, 3) := by decide +kernel
theorem dX2_readNot_67 : decode cX2_readNot 67 = .ok (.aload_n 0, 1) := by decide +kernel
theorem dX2_readNot_68 : decode cX2_readNot 68 = .ok (.iload_n 2, 1) := by decide +kernel
theorem dX2_readNot_69 : decode cX2_readNot 69 = .ok (.bipush (-7), 2) := by decide +kernel
theorem dX2_readNot_71 : decode cX2_readNot 71 = .ok (.aload_n 1, 1) := by decide +kernel
theorem dX2_readNot_72 : decode cX2_readNot 72 = .ok (.invokevirtual 78, 3) := by decide +kernel
theorem dX2_readNot_75 : decode cX2_readNot 75 = .ok (.return_, 1) := by decide +kernel
theorem dX2_readSum_0 : decode cX2_readSum 0 = .ok (.aload_n 0, 1) := by decide +kernel
theorem dX2_readSum_1 : decode cX2_readSum 1 = .ok (.aload_n 1, 1) := by decide +kernel
theorem dX2_readSum_2 : decode cX2_readSum 2 = .ok (.invokevirtual 82, 3) := by decide +kernel
theorem dX2_readSum_5 : decode cX2_readSum 5 = .ok (.iconst 0, 1) := by decide +kernel
theorem dX2_readSum_6 : decode cX2_readSum 6 = .ok (.istore_n 2, 1) := by decide +kernel
theorem dX2_readSum_7 : decode cX2_readSum 7 = .ok (.iload_n 2, 1) := by decide +kernel
theorem dX2_readSum_8 : decode cX2_readSum 8 = .ok (.sipush 160, 3) := by decide +kernel
theorem dX2_readSum_11 : decode cX2_readSum 11 = .ok (.if_icmp .ge 64, 3) := by decide +kernel
theorem dX2_readSum_14 : decode cX2_readSum 14 = .ok (.aload_n 0, 1) := by decide +kernel
theorem dX2_readSum_15 : decode cX2_readSum 15 = .ok (.getfield 46, 3) := by decide +kernel
theorem dX2_readSum_18 : decode cX2_readSum 18 = .ok (.bipush 43, 2) := by decide +kernel
theorem dX2_readSum_20 : decode cX2_readSum 20 = .ok (.if_icmp .eq 12, 3) := by decide +kernel
theorem dX2_readSum_23 : decode cX2_readSum 23 = .ok (.aload_n 0, 1) := by decide +kernel
theorem dX2_readSum_24 : decode cX2_readSum 24 = .ok (.getfield 46, 3) := by decide +kernel
theorem dX2_readSum_27 : decode cX2_readSum 27 = .ok (.bipush 45, 2) := by decide +kernel
theorem dX2_readSum_29 : decode cX2_readSum 29 = .ok (.if_icmp .ne 46, 3) := by decide +kernel
theorem dX2_readSum_32 : decode cX2_readSum 32 = .ok (.aload_n 0, 1) := by decide +kernel
theorem dX2_readSum_33 : decode cX2_readSum 33 = .ok (.getfield 46, 3) := by decide +kernel
theorem dX2_readSum_36 : decode cX2_readSum 36 = .ok (.bipush 43, 2) := by decide +kernel
theorem dX2_readSum_38 : decode cX2_readSum 38 = .ok (.if_icmp .ne 8, 3) := by decide +kernel
theorem dX2_readSum_41 : decode cX2_readSum 41 = .ok (.bipush (-13), 2) := by decide +kernel
theorem dX2_readSum_43 : decode cX2_readSum 43 = .ok (.goto 5, 3) := by decide +kernel
theorem dX2_readSum_46 : decode cX2_readSum 46 = .ok (.bipush (-14), 2) := by decide +kernel
theorem dX2_readSum_48 : decode cX2_readSum 48 = .ok (.istore_n 3, 1) := by decide +kernel
theorem dX2_readSum_49 : decode cX2_readSum 49 = .ok (.aload_n 0, 1) := by decide +kernel
theorem dX2_readSum_50 : decode cX2_readSum 50 = .ok (.aload_n 0, 1) := by decide +kernel
theorem dX2_readSum_51 : decode cX2_readSum 51 = .ok (.getfield 62, 3) := by decide +kernel
theorem dX2_readSum_54 : decode cX2_readSum 54 = .ok (.iconst 1, 1) := by decide +kernel
theorem dX2_readSum_55 : decode cX2_readSum 55 = .ok (.iadd, 1) := by decide +kernel
theorem dX2_readSum_56 : decode cX2_readSum 56 = .ok (.invokevirtual 32, 3) := by decide +kernel
theorem dX2_readSum_59 : decode cX2_readSum 59 = .ok (.aload_n 0, 1) := by decide +kernel
theorem dX2_readSum_60 : decode cX2_readSum 60 = .ok (.aload_n 1, 1) := by decide +kernel
theorem dX2_readSum_61 : decode cX2_readSum 61 = .ok (.invokevirtual 82, 3) := by decide +kernel
theorem dX2_readSum_64 : decode cX2_readSum 64 = .ok (.aload_n 1, 1) := by decide +kernel
theorem dX2_readSum_65 : decode cX2_readSum 65 = .ok (.iload_n 3, 1) := by decide +kernel
theorem dX2_readSum_66 : decode cX2_readSum 66 = .ok (.invokevirtual 65, 3) := by decide +kernel
theorem dX2_readSum_69 : decode cX2_readSum 69 = .ok (.iinc 2 1, 3) := by decide +kernel
theorem dX2_readSum_72 : decode cX2_readSum 72 = .ok (.goto (-65), 3) := by decide +kernel
theorem dX2_readSum_75 : decode cX2_readSum 75 = .ok (.return_, 1) := by decide +kernel
theorem dX2_readTerm_0 : decode cX2_readTerm 0 = .ok (.aload_n 0, 1) := by decide +kernel
theorem dX2_readTerm_1 : decode cX2_readTerm 1 = .ok (.aload_n 1, 1) := by decide +kernel
theorem dX2_readTerm_2 : decode cX2_readTerm 2 = .ok (.invokevirtual 85, 3) := by decide +kernel
theorem dX2_readTerm_5 : decode cX2_readTerm 5 = .ok (.iconst 0, 1) := by decide +kernel
theorem dX2_readTerm_6 : decode cX2_readTerm 6 = .ok (.istore_n 2, 1) := by decide +kernel
theorem dX2_readTerm_7 : decode cX2_readTerm 7 = .ok (.iload_n 2, 1) := by decide +kernel
theorem dX2_readTerm_8 : decode cX2_readTerm 8 = .ok (.sipush 160, 3) := by decide +kernel
theorem dX2_readTerm_11 : decode cX2_readTerm 11 = .ok (.if_icmp .ge 39, 3) := by decide +kernel
theorem dX2_readTerm_14 : decode cX2_readTerm 14 = .ok (.aload_n 0, 1) := by decide +kernel
theorem dX2_readTerm_15 : decode cX2_readTerm 15 = .ok (.getfield 46, 3) := by decide +kernel
theorem dX2_readTerm_18 : decode cX2_readTerm 18 = .ok (.bipush 42, 2) := by decide +kernel
theorem dX2_readTerm_20 : decode cX2_readTerm 20 = .ok (.if_icmp .ne 30, 3) := by decide +kernel
theorem dX2_readTerm_23 : decode cX2_readTerm 23 = .ok (.aload_n 0, 1) := by decide +kernel
theorem dX2_readTerm_24 : decode cX2_readTerm 24 = .ok (.aload_n 0, 1) := by decide +kernel
theorem dX2_readTerm_25 : decode cX2_readTerm 25 = .ok (.getfield 62, 3) := by decide +kernel
theorem dX2_readTerm_28 : decode cX2_readTerm 28 = .ok (.iconst 1, 1) := by decide +kernel
theorem dX2_readTerm_29 : decode cX2_readTerm 29 = .ok (.iadd, 1) := by decide +kernel
theorem dX2_readTerm_30 : decode cX2_readTerm 30 = .ok (.invokevirtual 32, 3) := by decide +kernel
theorem dX2_readTerm_33 : decode cX2_readTerm 33 = .ok (.aload_n 0, 1) := by decide +kernel
theorem dX2_readTerm_34 : decode cX2_readTerm 34 = .ok (.aload_n 1, 1) := by decide +kernel
theorem dX2_readTerm_35 : decode cX2_readTerm 35 = .ok (.invokevirtual 85, 3) := by decide +kernel
theorem dX2_readTerm_38 : decode cX2_readTerm 38 = .ok (.aload_n 1, 1) := by decide +kernel
theorem dX2_readTerm_39 : decode cX2_readTerm 39 = .ok (.bipush (-15), 2) := by decide +kernel
theorem dX2_readTerm_41 : decode cX2_readTerm 41 = .ok (.invokevirtual 65, 3) := by decide +kernel
theorem dX2_readTerm_44 : decode cX2_readTerm 44 = .ok (.iinc 2 1, 3) := by decide +kernel
theorem dX2_readTerm_47 : decode cX2_readTerm 47 = .ok (.goto (-40), 3) := by decide +kernel
theorem dX2_readTerm_50 : decode cX2_readTerm 50 = .ok (.return_, 1) := by decide +kernel
theorem dX2_readOne_0 : decode cX2_readOne 0 = .ok (.aload_n 0, 1) := by decide +kernel
theorem dX2_readOne_1 : decode cX2_readOne 1 = .ok (.bipush 45, 2) := by decide +kernel
theorem dX2_readOne_3 : decode cX2_readOne 3 = .ok (.invokevirtual 71, 3) := by decide +kernel
theorem dX2_readOne_6 : decode cX2_readOne 6 = .ok (.istore_n 2, 1) := by decide +kernel
theorem dX2_readOne_7 : decode cX2_readOne 7 = .ok (.aload_n 0, 1) := by decide +kernel
theorem dX2_readOne_8 : decode cX2_readOne 8 = .ok (.getfield 46, 3) := by decide +kernel
theorem dX2_readOne_11 : decode cX2_readOne 11 = .ok (.sipush 1000, 3) := by decide +kernel
theorem dX2_readOne_14 : decode cX2_readOne 14 = .ok (.if_icmp .lt 28, 3) := by decide +kernel
theorem dX2_readOne_17 : decode cX2_readOne 17 = .ok (.aload_n 1, 1) := by decide +kernel
theorem dX2_readOne_18 : decode cX2_readOne 18 = .ok (.aload_n 0, 1) := by decide +kernel
theorem dX2_readOne_19 : decode cX2_readOne 19 = .ok (.getfield 46, 3) := by decide +kernel
theorem dX2_readOne_22 : decode cX2_readOne 22 = .ok (.sipush 1000, 3) := by decide +kernel
theorem dX2_readOne_25 : decode cX2_readOne 25 = .ok (.isub, 1) := by decide +kernel
theorem dX2_readOne_26 : decode cX2_readOne 26 = .ok (.invokevirtual 65, 3) := by decide +kernel
theorem dX2_readOne_29 : decode cX2_readOne 29 = .ok (.aload_n 0, 1) := by decide +kernel
theorem dX2_readOne_30 : decode cX2_readOne 30 = .ok (.aload_n 0, 1) := by decide +kernel
theorem dX2_readOne_31 : decode cX2_readOne 31 = .ok (.getfield 62, 3) := by decide +kernel
theorem dX2_readOne_34 : decode cX2_readOne 34 = .ok (.iconst 1, 1) := by decide +kernel
theorem dX2_readOne_35 : decode cX2_readOne 35 = .ok (.iadd, 1) := by decide +kernel
theorem dX2_readOne_36 : decode cX2_readOne 36 = .ok (.invokevirtual 32, 3) := by decide +kernel
theorem dX2_readOne_39 : decode cX2_readOne 39 = .ok (.goto 106, 3) := by decide +kernel
theorem dX2_readOne_42 : decode cX2_readOne 42 = .ok (.aload_n 0, 1) := by decide +kernel
theorem dX2_readOne_43 : decode cX2_readOne 43 = .ok (.getfield 46, 3) := by decide +kernel
theorem dX2_readOne_46 : decode cX2_readOne 46 = .ok (.iconst (-1), 1) := by decide +kernel
theorem dX2_readOne_47 : decode cX2_readOne 47 = .ok (.if_icmp .gt 33, 3) := by decide +kernel
theorem dX2_readOne_50 : decode cX2_readOne 50 = .ok (.aload_n 0, 1) := by decide +kernel
theorem dX2_readOne_51 : decode cX2_readOne 51 = .ok (.getfield 46, 3) := by decide +kernel
theorem dX2_readOne_54 : decode cX2_readOne 54 = .ok (.bipush (-6), 2) := by decide +kernel
theorem dX2_readOne_56 : decode cX2_readOne 56 = .ok (.if_icmp .lt 24, 3) := by decide +kernel
theorem dX2_readOne_59 : decode cX2_readOne 59 = .ok (.aload_n 1, 1) := by decide +kernel
theorem dX2_readOne_60 : decode cX2_readOne 60 = .ok (.aload_n 0, 1) := by decide +kernel
theorem dX2_readOne_61 : decode cX2_readOne 61 = .ok (.getfield 46, 3) := by decide +kernel
theorem dX2_readOne_64 : decode cX2_readOne 64 = .ok (.invokevirtual 65, 3) := by decide +kernel
theorem dX2_readOne_67 : decode cX2_readOne 67 = .ok (.aload_n 0, 1) := by decide +kernel
theorem dX2_readOne_68 : decode cX2_readOne 68 = .ok (.aload_n 0, 1) := by decide +kernel
theorem dX2_readOne_69 : decode cX2_readOne 69 = .ok (.getfield 62, 3) := by decide +kernel
theorem dX2_readOne_72 : decode cX2_readOne 72 = .ok (.iconst 1, 1) := by decide +kernel
theorem dX2_readOne_73 : decode cX2_readOne 73 = .ok (.iadd, 1) := by decide +kernel
theorem dX2_readOne_74 : decode cX2_readOne 74 = .ok (.invokevirtual 32, 3) := by decide +kernel
theorem dX2_readOne_77 : decode cX2_readOne 77 = .ok (.goto 68, 3) := by decide +kernel
theorem dX2_readOne_80 : decode cX2_readOne 80 = .ok (.aload_n 0, 1) := by decide +kernel
theorem dX2_readOne_81 : decode cX2_readOne 81 = .ok (.getfield 46, 3) := by decide +kernel
theorem dX2_readOne_84 : decode cX2_readOne 84 = .ok (.bipush 40, 2) := by decide +kernel
theorem dX2_readOne_86 : decode cX2_readOne 86 = .ok (.if_icmp .ne 55, 3) := by decide +kernel
theorem dX2_readOne_89 : decode cX2_readOne 89 = .ok (.aload_n 0, 1) := by decide +kernel
theorem dX2_readOne_90 : decode cX2_readOne 90 = .ok (.getfield 25, 3) := by decide +kernel
theorem dX2_readOne_93 : decode cX2_readOne 93 = .ok (.iconst 5, 1) := by decide +kernel
theorem dX2_readOne_94 : decode cX2_readOne 94 = .ok (.if_icmp .ge 47, 3) := by decide +kernel
theorem dX2_readOne_97 : decode cX2_readOne 97 = .ok (.aload_n 0, 1) := by decide +kernel
theorem dX2_readOne_98 : decode cX2_readOne 98 = .ok (.dup, 1) := by decide +kernel
theorem dX2_readOne_99 : decode cX2_readOne 99 = .ok (.getfield 25, 3) := by decide +kernel
theorem dX2_readOne_102 : decode cX2_readOne 102 = .ok (.iconst 1, 1) := by decide +kernel
theorem dX2_readOne_103 : decode cX2_readOne 103 = .ok (.iadd, 1) := by decide +kernel
theorem dX2_readOne_104 : decode cX2_readOne 104 = .ok (.putfield 25, 3) := by decide +kernel
theorem dX2_readOne_107 : decode cX2_readOne 107 = .ok (.aload_n 0, 1) := by decide +kernel
theorem dX2_readOne_108 : decode cX2_readOne 108 = .ok (.aload_n 0, 1) := by decide +kernel
theorem dX2_readOne_109 : decode cX2_readOne 109 = .ok (.getfield 62, 3) := by decide +kernel
theorem dX2_readOne_112 : decode cX2_readOne 112 = .ok (.iconst 1, 1) := by decide +kernel
theorem dX2_readOne_113 : decode cX2_readOne 113 = .ok (.iadd, 1) := by decide +kernel
theorem dX2_readOne_114 : decode cX2_readOne 114 = .ok (.invokevirtual 32, 3) := by decide +kernel
theorem dX2_readOne_117 : decode cX2_readOne 117 = .ok (.aload_n 0, 1) := by decide +kernel
theorem dX2_readOne_118 : decode cX2_readOne 118 = .ok (.aload_n 1, 1) := by decide +kernel
theorem dX2_readOne_119 : decode cX2_readOne 119 = .ok (.invokevirtual 55, 3) := by decide +kernel
theorem dX2_readOne_122 : decode cX2_readOne 122 = .ok (.aload_n 0, 1) := by decide +kernel
theorem dX2_readOne_123 : decode cX2_readOne 123 = .ok (.bipush 41, 2) := by decide +kernel
theorem dX2_readOne_125 : decode cX2_readOne 125 = .ok (.invokevirtual 52, 3) := by decide +kernel
theorem dX2_readOne_128 : decode cX2_readOne 128 = .ok (.aload_n 0, 1) := by decide +kernel
theorem dX2_readOne_129 : decode cX2_readOne 129 = .ok (.dup, 1) := by decide +kernel
theorem dX2_readOne_130 : decode cX2_readOne 130 = .ok (.getfield 25, 3) := by decide +kernel
theorem dX2_readOne_133 : decode cX2_readOne 133 = .ok (.iconst 1, 1) := by decide +kernel
theorem dX2_readOne_134 : decode cX2_readOne 134 = .ok (.isub, 1) := by decide +kernel
theorem dX2_readOne_135 : decode cX2_readOne 135 = .ok (.putfield 25, 3) := by decide +kernel
theorem dX2_readOne_138 : decode cX2_readOne 138 = .ok (.goto 7, 3) := by decide +kernel
theorem dX2_readOne_141 : decode cX2_readOne 141 = .ok (.aload_n 0, 1) := by decide +kernel
theorem dX2_readOne_142 : decode cX2_readOne 142 = .ok (.invokevirtual 49, 3) := by decide +kernel
theorem dX2_readOne_145 : decode cX2_readOne 145 = .ok (.aload_n 0, 1) := by decide +kernel
theorem dX2_readOne_146 : decode cX2_readOne 146 = .ok (.iload_n 2, 1) := by decide +kernel
theorem dX2_readOne_147 : decode cX2_readOne 147 = .ok (.bipush (-8), 2) := by decide +kernel
theorem dX2_readOne_149 : decode cX2_readOne 149 = .ok (.aload_n 1, 1) := by decide +kernel
theorem dX2_readOne_150 : decode cX2_readOne 150 = .ok (.invokevirtual 78, 3) := by decide +kernel
theorem dX2_readOne_153 : decode cX2_readOne 153 = .ok (.return_, 1) := by decide +kernel
theorem dX2_openAll_0 : decode cX2_openAll 0 = .ok (.iconst 0, 1) := by decide +kernel
theorem dX2_openAll_1 : decode cX2_openAll 1 = .ok (.istore_n 2, 1) := by decide +kernel
theorem dX2_openAll_2 : decode cX2_openAll 2 = .ok (.iconst 0, 1) := by decide +kernel
theorem dX2_openAll_3 : decode cX2_openAll 3 = .ok (.istore_n 3, 1) := by decide +kernel
theorem dX2_openAll_4 : decode cX2_openAll 4 = .ok (.iload_n 3, 1) := by decide +kernel
theorem dX2_openAll_5 : decode cX2_openAll 5 = .ok (.sipush 160, 3) := by decide +kernel
theorem dX2_openAll_8 : decode cX2_openAll 8 = .ok (.if_icmp .ge 55, 3) := by decide +kernel
theorem dX2_openAll_11 : decode cX2_openAll 11 = .ok (.aload_n 0, 1) := by decide +kernel
theorem dX2_openAll_12 : decode cX2_openAll 12 = .ok (.getfield 46, 3) := by decide +kernel
theorem dX2_openAll_15 : decode cX2_openAll 15 = .ok (.iload_n 1, 1) := by decide +kernel
theorem dX2_openAll_16 : decode cX2_openAll 16 = .ok (.if_icmp .ne 47, 3) := by decide +kernel
theorem dX2_openAll_19 : decode cX2_openAll 19 = .ok (.aload_n 0, 1) := by decide +kernel
theorem dX2_openAll_20 : decode cX2_openAll 20 = .ok (.getfield 25, 3) := by decide +kernel
theorem dX2_openAll_23 : decode cX2_openAll 23 = .ok (.iconst 5, 1) := by decide +kernel
theorem dX2_openAll_24 : decode cX2_openAll 24 = .ok (.if_icmp .ge 29, 3) := by decide +kernel
theorem dX2_openAll_27 : decode cX2_openAll 27 = .ok (.aload_n 0, 1) := by decide +kernel
theorem dX2_openAll_28 : decode cX2_openAll 28 = .ok (.dup, 1) := by decide +kernel
theorem dX2_openAll_29 : decode cX2_openAll 29 = .ok (.getfield 25, 3) := by decide +kernel
theorem dX2_openAll_32 : decode cX2_openAll 32 = .ok (.iconst 1, 1) := by decide +kernel
theorem dX2_openAll_33 : decode cX2_openAll 33 = .ok (.iadd, 1) := by decide +kernel
theorem dX2_openAll_34 : decode cX2_openAll 34 = .ok (.putfield 25, 3) := by decide +kernel
theorem dX2_openAll_37 : decode cX2_openAll 37 = .ok (.iinc 2 1, 3) := by decide +kernel
theorem dX2_openAll_40 : decode cX2_openAll 40 = .ok (.aload_n 0, 1) := by decide +kernel
theorem dX2_openAll_41 : decode cX2_openAll 41 = .ok (.aload_n 0, 1) := by decide +kernel
theorem dX2_openAll_42 : decode cX2_openAll 42 = .ok (.getfield 62, 3) := by decide +kernel
theorem dX2_openAll_45 : decode cX2_openAll 45 = .ok (.iconst 1, 1) := by decide +kernel
theorem dX2_openAll_46 : decode cX2_openAll 46 = .ok (.iadd, 1) := by decide +kernel
theorem dX2_openAll_47 : decode cX2_openAll 47 = .ok (.invokevirtual 32, 3) := by decide +kernel
theorem dX2_openAll_50 : decode cX2_openAll 50 = .ok (.goto 7, 3) := by decide +kernel
theorem dX2_openAll_53 : decode cX2_openAll 53 = .ok (.aload_n 0, 1) := by decide +kernel
theorem dX2_openAll_54 : decode cX2_openAll 54 = .ok (.invokevirtual 49, 3) := by decide +kernel
theorem dX2_openAll_57 : decode cX2_openAll 57 = .ok (.iinc 3 1, 3) := by decide +kernel
theorem dX2_openAll_60 : decode cX2_openAll 60 = .ok (.goto (-56), 3) := by decide +kernel
theorem dX2_openAll_63 : decode cX2_openAll 63 = .ok (.iload_n 2, 1) := by decide +kernel
theorem dX2_openAll_64 : decode cX2_openAll 64 = .ok (.ireturn, 1) := by decide +kernel
theorem dX2_closeAll_0 : decode cX2_closeAll 0 = .ok (.aload_n 0, 1) := by decide +kernel
theorem dX2_closeAll_1 : decode cX2_closeAll 1 = .ok (.dup, 1) := by decide +kernel
theorem dX2_closeAll_2 : decode cX2_closeAll 2 = .ok (.getfield 25, 3) := by decide +kernel
theorem dX2_closeAll_5 : decode cX2_closeAll 5 = .ok (.iload_n 1, 1) := by decide +kernel
theorem dX2_closeAll_6 : decode cX2_closeAll 6 = .ok (.isub, 1) := by decide +kernel
theorem dX2_closeAll_7 : decode cX2_closeAll 7 = .ok (.putfield 25, 3) := by decide +kernel
theorem dX2_closeAll_10 : decode cX2_closeAll 10 = .ok (.iconst 0, 1) := by decide +kernel
theorem dX2_closeAll_11 : decode cX2_closeAll 11 = .ok (.istore 4, 2) := by decide +kernel
theorem dX2_closeAll_13 : decode cX2_closeAll 13 = .ok (.iload 4, 2) := by decide +kernel
theorem dX2_closeAll_15 : decode cX2_closeAll 15 = .ok (.iload_n 1, 1) := by decide +kernel
theorem dX2_closeAll_16 : decode cX2_closeAll 16 = .ok (.if_icmp .ge 14, 3) := by decide +kernel
theorem dX2_closeAll_19 : decode cX2_closeAll 19 = .ok (.aload_n 3, 1) := by decide +kernel
theorem dX2_closeAll_20 : decode cX2_closeAll 20 = .ok (.iload_n 2, 1) := by decide +kernel
theorem dX2_closeAll_21 : decode cX2_closeAll 21 = .ok (.invokevirtual 65, 3) := by decide +kernel
theorem dX2_closeAll_24 : decode cX2_closeAll 24 = .ok (.iinc 4 1, 3) := by decide +kernel
theorem dX2_closeAll_27 : decode cX2_closeAll 27 = .ok (.goto (-14), 3) := by decide +kernel
theorem dX2_closeAll_30 : decode cX2_closeAll 30 = .ok (.return_, 1) := by decide +kernel
theorem dX2_expect_0 : decode cX2_expect 0 = .ok (.aload_n 0, 1) := by decide +kernel
theorem dX2_expect_1 : decode cX2_expect 1 = .ok (.getfield 46, 3) := by decide +kernel
theorem dX2_expect_4 : decode cX2_expect 4 = .ok (.iload_n 1, 1) := by decide +kernel
theorem dX2_expect_5 : decode cX2_expect 5 = .ok (.if_icmp .ne 16, 3) := by decide +kernel
theorem dX2_expect_8 : decode cX2_expect 8 = .ok (.aload_n 0, 1) := by decide +kernel
theorem dX2_expect_9 : decode cX2_expect 9 = .ok (.aload_n 0, 1) := by decide +kernel
theorem dX2_expect_10 : decode cX2_expect 10 = .ok (.getfield 62, 3) := by decide +kernel
theorem dX2_expect_13 : decode cX2_expect 13 = .ok (.iconst 1, 1) := by decide +kernel
theorem dX2_expect_14 : decode cX2_expect 14 = .ok (.iadd, 1) := by decide +kernel
theorem dX2_expect_15 : decode cX2_expect 15 = .ok (.invokevirtual 32, 3) := by decide +kernel
theorem dX2_expect_18 : decode cX2_expect 18 = .ok (.goto 7, 3) := by decide +kernel
theorem dX2_expect_21 : decode cX2_expect 21 = .ok (.aload_n 0, 1) := by decide +kernel
theorem dX2_expect_22 : decode cX2_expect 22 = .ok (.invokevirtual 49, 3) := by decide +kernel
theorem dX2_expect_25 : decode cX2_expect 25 = .ok (.return_, 1) := by decide +kernel
theorem dX2_goTo_0 : decode cX2_goTo 0 = .ok (.iload_n 1, 1) := by decide +kernel
theorem dX2_goTo_1 : decode cX2_goTo 1 = .ok (.ifCond .lt 31, 3) := by decide +kernel
theorem dX2_goTo_4 : decode cX2_goTo 4 = .ok (.iload_n 1, 1) := by decide +kernel
theorem dX2_goTo_5 : decode cX2_goTo 5 = .ok (.sipush 160, 3) := by decide +kernel
theorem dX2_goTo_8 : decode cX2_goTo 8 = .ok (.if_icmp .gt 24, 3) := by decide +kernel
theorem dX2_goTo_11 : decode cX2_goTo 11 = .ok (.aload_n 0, 1) := by decide +kernel
theorem dX2_goTo_12 : decode cX2_goTo 12 = .ok (.iload_n 1, 1) := by decide +kernel
theorem dX2_goTo_13 : decode cX2_goTo 13 = .ok (.putfield 62, 3) := by decide +kernel
theorem dX2_goTo_16 : decode cX2_goTo 16 = .ok (.aload_n 0, 1) := by decide +kernel
theorem dX2_goTo_17 : decode cX2_goTo 17 = .ok (.aload_n 0, 1) := by decide +kernel
theorem dX2_goTo_18 : decode cX2_goTo 18 = .ok (.getfield 9, 3) := by decide +kernel
theorem dX2_goTo_21 : decode cX2_goTo 21 = .ok (.getfield 88, 3) := by decide +kernel
theorem dX2_goTo_24 : decode cX2_goTo 24 = .ok (.aload_n 0, 1) := by decide +kernel
theorem dX2_goTo_25 : decode cX2_goTo 25 = .ok (.getfield 62, 3) := by decide +kernel
theorem dX2_goTo_28 : decode cX2_goTo 28 = .ok (.iaload, 1) := by decide +kernel
theorem dX2_goTo_29 : decode cX2_goTo 29 = .ok (.putfield 46, 3) := by decide +kernel
theorem dX2_goTo_32 : decode cX2_goTo 32 = .ok (.return_, 1) := by decide +kernel
theorem dX2_fail_0 : decode cX2_fail 0 = .ok (.aload_n 0, 1) := by decide +kernel
theorem dX2_fail_1 : decode cX2_fail 1 = .ok (.getfield 29, 3) := by decide +kernel
theorem dX2_fail_4 : decode cX2_fail 4 = .ok (.iconst (-1), 1) := by decide +kernel
theorem dX2_fail_5 : decode cX2_fail 5 = .ok (.if_icmp .ne 36, 3) := by decide +kernel
theorem dX2_fail_8 : decode cX2_fail 8 = .ok (.aload_n 0, 1) := by decide +kernel
theorem dX2_fail_9 : decode cX2_fail 9 = .ok (.getfield 62, 3) := by decide +kernel
theorem dX2_fail_12 : decode cX2_fail 12 = .ok (.ifCond .lt 29, 3) := by decide +kernel
theorem dX2_fail_15 : decode cX2_fail 15 = .ok (.aload_n 0, 1) := by decide +kernel
theorem dX2_fail_16 : decode cX2_fail 16 = .ok (.getfield 62, 3) := by decide +kernel
theorem dX2_fail_19 : decode cX2_fail 19 = .ok (.sipush 160, 3) := by decide +kernel
theorem dX2_fail_22 : decode cX2_fail 22 = .ok (.if_icmp .gt 19, 3) := by decide +kernel
theorem dX2_fail_25 : decode cX2_fail 25 = .ok (.aload_n 0, 1) := by decide +kernel
theorem dX2_fail_26 : decode cX2_fail 26 = .ok (.aload_n 0, 1) := by decide +kernel
theorem dX2_fail_27 : decode cX2_fail 27 = .ok (.getfield 9, 3) := by decide +kernel
theorem dX2_fail_30 : decode cX2_fail 30 = .ok (.getfield 92, 3) := by decide +kernel
theorem dX2_fail_33 : decode cX2_fail 33 = .ok (.aload_n 0, 1) := by decide +kernel
theorem dX2_fail_34 : decode cX2_fail 34 = .ok (.getfield 62, 3) := by decide +kernel
theorem dX2_fail_37 : decode cX2_fail 37 = .ok (.iaload, 1) := by decide +kernel
theorem dX2_fail_38 : decode cX2_fail 38 = .ok (.putfield 29, 3) := by decide +kernel
theorem dX2_fail_41 : decode cX2_fail 41 = .ok (.aload_n 0, 1) := by decide +kernel
theorem dX2_fail_42 : decode cX2_fail 42 = .ok (.iconst 2, 1) := by decide +kernel
theorem dX2_fail_43 : decode cX2_fail 43 = .ok (.putfield 46, 3) := by decide +kernel
theorem dX2_fail_46 : decode cX2_fail 46 = .ok (.return_, 1) := by decide +kernel
theorem dX3_init_0 : decode cX3_init 0 = .ok (.aload_n 0, 1) := by decide +kernel
theorem dX3_init_1 : decode cX3_init 1 = .ok (.invokespecial 3, 3) := by decide +kernel
theorem dX3_init_4 : decode cX3_init 4 = .ok (.aload_n 0, 1) := by decide +kernel
theorem dX3_init_5 : decode cX3_init 5 = .ok (.bipush 40, 2) := by decide +kernel
theorem dX3_init_7 : decode cX3_init 7 = .ok (.newarray .int, 2) := by decide +kernel
theorem dX3_init_9 : decode cX3_init 9 = .ok (.putfield 9, 3) := by decide +kernel
theorem dX3_init_12 : decode cX3_init 12 = .ok (.aload_n 0, 1) := by decide +kernel
theorem dX3_init_13 : decode cX3_init 13 = .ok (.iconst (-1), 1) := by decide +kernel
theorem dX3_init_14 : decode cX3_init 14 = .ok (.putfield 15, 3) := by decide +kernel
theorem dX3_init_17 : decode cX3_init 17 = .ok (.return_, 1) := by decide +kernel
theorem dX3_become_0 : decode cX3_become 0 = .ok (.aload_n 0, 1) := by decide +kernel
theorem dX3_become_1 : decode cX3_become 1 = .ok (.iload_n 1, 1) := by decide +kernel
theorem dX3_become_2 : decode cX3_become 2 = .ok (.putfield 15, 3) := by decide +kernel
theorem dX3_become_5 : decode cX3_become 5 = .ok (.aload_n 0, 1) := by decide +kernel
theorem dX3_become_6 : decode cX3_become 6 = .ok (.iconst 0, 1) := by decide +kernel
theorem dX3_become_7 : decode cX3_become 7 = .ok (.bipush 40, 2) := by decide +kernel
theorem dX3_become_9 : decode cX3_become 9 = .ok (.iload_n 2, 1) := by decide +kernel
theorem dX3_become_10 : decode cX3_become 10 = .ok (.invokestatic 19, 3) := by decide +kernel
theorem dX3_become_13 : decode cX3_become 13 = .ok (.invokestatic 25, 3) := by decide +kernel
theorem dX3_become_16 : decode cX3_become 16 = .ok (.putfield 28, 3) := by decide +kernel
theorem dX3_become_19 : decode cX3_become 19 = .ok (.iconst 0, 1) := by decide +kernel
theorem dX3_become_20 : decode cX3_become 20 = .ok (.istore_n 3, 1) := by decide +kernel
theorem dX3_become_21 : decode cX3_become 21 = .ok (.iload_n 3, 1) := by decide +kernel
theorem dX3_become_22 : decode cX3_become 22 = .ok (.bipush 40, 2) := by decide +kernel
theorem dX3_become_24 : decode cX3_become 24 = .ok (.if_icmp .ge 16, 3) := by decide +kernel
theorem dX3_become_27 : decode cX3_become 27 = .ok (.aload_n 0, 1) := by decide +kernel
theorem dX3_become_28 : decode cX3_become 28 = .ok (.getfield 9, 3) := by decide +kernel
theorem dX3_become_31 : decode cX3_become 31 = .ok (.iload_n 3, 1) := by decide +kernel
theorem dX3_become_32 : decode cX3_become 32 = .ok (.iconst 0, 1) := by decide +kernel
theorem dX3_become_33 : decode cX3_become 33 = .ok (.iastore, 1) := by decide +kernel
theorem dX3_become_34 : decode cX3_become 34 = .ok (.iinc 3 1, 3) := by decide +kernel
theorem dX3_become_37 : decode cX3_become 37 = .ok (.goto (-16), 3) := by decide +kernel
theorem dX3_become_40 : decode cX3_become 40 = .ok (.return_, 1) := by decide +kernel
theorem dX3_isMissing_0 : decode cX3_isMissing 0 = .ok (.aload_n 0, 1) := by decide +kernel
theorem dX3_isMissing_1 : decode cX3_isMissing 1 = .ok (.getfield 15, 3) := by decide +kernel
theorem dX3_isMissing_4 : decode cX3_isMissing 4 = .ok (.iconst (-1), 1) := by decide +kernel
theorem dX3_isMissing_5 : decode cX3_isMissing 5 = .ok (.if_icmp .ne 7, 3) := by decide +kernel
theorem dX3_isMissing_8 : decode cX3_isMissing 8 = .ok (.iconst 1, 1) := by decide +kernel
theorem dX3_isMissing_9 : decode cX3_isMissing 9 = .ok (.goto 4, 3) := by decide +kernel
theorem dX3_isMissing_12 : decode cX3_isMissing 12 = .ok (.iconst 0, 1) := by decide +kernel
theorem dX3_isMissing_13 : decode cX3_isMissing 13 = .ok (.ireturn, 1) := by decide +kernel
theorem dX3_spans_0 : decode cX3_spans 0 = .ok (.iload_n 1, 1) := by decide +kernel
theorem dX3_spans_1 : decode cX3_spans 1 = .ok (.ifCond .lt 21, 3) := by decide +kernel
theorem dX3_spans_4 : decode cX3_spans 4 = .ok (.iload_n 2, 1) := by decide +kernel
theorem dX3_spans_5 : decode cX3_spans 5 = .ok (.ifCond .lt 17, 3) := by decide +kernel
theorem dX3_spans_8 : decode cX3_spans 8 = .ok (.iload_n 1, 1) := by decide +kernel
theorem dX3_spans_9 : decode cX3_spans 9 = .ok (.aload_n 0, 1) := by decide +kernel
theorem dX3_spans_10 : decode cX3_spans 10 = .ok (.getfield 28, 3) := by decide +kernel
theorem dX3_spans_13 : decode cX3_spans 13 = .ok (.iload_n 2, 1) := by decide +kernel
theorem dX3_spans_14 : decode cX3_spans 14 = .ok (.isub, 1) := by decide +kernel
theorem dX3_spans_15 : decode cX3_spans 15 = .ok (.if_icmp .gt 7, 3) := by decide +kernel
theorem dX3_spans_18 : decode cX3_spans 18 = .ok (.iconst 1, 1) := by decide +kernel
theorem dX3_spans_19 : decode cX3_spans 19 = .ok (.goto 4, 3) := by decide +kernel
theorem dX3_spans_22 : decode cX3_spans 22 = .ok (.iconst 0, 1) := by decide +kernel
theorem dX3_spans_23 : decode cX3_spans 23 = .ok (.ireturn, 1) := by decide +kernel
theorem dX3_item_0 : decode cX3_item 0 = .ok (.iload_n 1, 1) := by decide +kernel
theorem dX3_item_1 : decode cX3_item 1 = .ok (.ifCond .lt 26, 3) := by decide +kernel
theorem dX3_item_4 : decode cX3_item 4 = .ok (.iload_n 1, 1) := by decide +kernel
theorem dX3_item_5 : decode cX3_item 5 = .ok (.aload_n 0, 1) := by decide +kernel
theorem dX3_item_6 : decode cX3_item 6 = .ok (.getfield 28, 3) := by decide +kernel
theorem dX3_item_9 : decode cX3_item 9 = .ok (.if_icmp .ge 18, 3) := by decide +kernel
theorem dX3_item_12 : decode cX3_item 12 = .ok (.iload_n 1, 1) := by decide +kernel
theorem dX3_item_13 : decode cX3_item 13 = .ok (.bipush 40, 2) := by decide +kernel
theorem dX3_item_15 : decode cX3_item 15 = .ok (.if_icmp .ge 12, 3) := by decide +kernel
theorem dX3_item_18 : decode cX3_item 18 = .ok (.aload_n 0, 1) := by decide +kernel
theorem dX3_item_19 : decode cX3_item 19 = .ok (.getfield 9, 3) := by decide +kernel
theorem dX3_item_22 : decode cX3_item 22 = .ok (.iload_n 1, 1) := by decide +kernel
theorem dX3_item_23 : decode cX3_item 23 = .ok (.iaload, 1) := by decide +kernel
theorem dX3_item_24 : decode cX3_item 24 = .ok (.goto 4, 3) := by decide +kernel
theorem dX3_item_27 : decode cX3_item 27 = .ok (.iconst 0, 1) := by decide +kernel
theorem dX3_item_28 : decode cX3_item 28 = .ok (.ireturn, 1) := by decide +kernel
theorem dX3_put_0 : decode cX3_put 0 = .ok (.iload_n 1, 1) := by decide +kernel
theorem dX3_put_1 : decode cX3_put 1 = .ok (.ifCond .lt 17, 3) := by decide +kernel
theorem dX3_put_4 : decode cX3_put 4 = .ok (.iload_n 1, 1) := by decide +kernel
theorem dX3_put_5 : decode cX3_put 5 = .ok (.aload_n 0, 1) := by decide +kernel
theorem dX3_put_6 : decode cX3_put 6 = .ok (.getfield 28, 3) := by decide +kernel
theorem dX3_put_9 : decode cX3_put 9 = .ok (.if_icmp .ge 9, 3) := by decide +kernel
theorem dX3_put_12 : decode cX3_put 12 = .ok (.iload_n 1, 1) := by decide +kernel
theorem dX3_put_13 : decode cX3_put 13 = .ok (.bipush 40, 2) := by decide +kernel
theorem dX3_put_15 : decode cX3_put 15 = .ok (.if_icmp .lt 5, 3) := by decide +kernel
theorem dX3_put_18 : decode cX3_put 18 = .ok (.iconst 0, 1) := by decide +kernel
theorem dX3_put_19 : decode cX3_put 19 = .ok (.ireturn, 1) := by decide +kernel
theorem dX3_put_20 : decode cX3_put 20 = .ok (.aload_n 0, 1) := by decide +kernel
theorem dX3_put_21 : decode cX3_put 21 = .ok (.getfield 15, 3) := by decide +kernel
theorem dX3_put_24 : decode cX3_put 24 = .ok (.ifCond .ne 14, 3) := by decide +kernel
theorem dX3_put_27 : decode cX3_put 27 = .ok (.aload_n 0, 1) := by decide +kernel
theorem dX3_put_28 : decode cX3_put 28 = .ok (.getfield 9, 3) := by decide +kernel
theorem dX3_put_31 : decode cX3_put 31 = .ok (.iload_n 1, 1) := by decide +kernel
theorem dX3_put_32 : decode cX3_put 32 = .ok (.iload_n 2, 1) := by decide +kernel
theorem dX3_put_33 : decode cX3_put 33 = .ok (.i2b, 1) := by decide +kernel
theorem dX3_put_34 : decode cX3_put 34 = .ok (.iastore, 1) := by decide +kernel
theorem dX3_put_35 : decode cX3_put 35 = .ok (.goto 29, 3) := by decide +kernel
theorem dX3_put_38 : decode cX3_put 38 = .ok (.aload_n 0, 1) := by decide +kernel
theorem dX3_put_39 : decode cX3_put 39 = .ok (.getfield 15, 3) := by decide +kernel
theorem dX3_put_42 : decode cX3_put 42 = .ok (.iconst 1, 1) := by decide +kernel
theorem dX3_put_43 : decode cX3_put 43 = .ok (.if_icmp .ne 14, 3) := by decide +kernel
theorem dX3_put_46 : decode cX3_put 46 = .ok (.aload_n 0, 1) := by decide +kernel
theorem dX3_put_47 : decode cX3_put 47 = .ok (.getfield 9, 3) := by decide +kernel
theorem dX3_put_50 : decode cX3_put 50 = .ok (.iload_n 1, 1) := by decide +kernel
theorem dX3_put_51 : decode cX3_put 51 = .ok (.iload_n 2, 1) := by decide +kernel
theorem dX3_put_52 : decode cX3_put 52 = .ok (.i2s, 1) := by decide +kernel
theorem dX3_put_53 : decode cX3_put 53 = .ok (.iastore, 1) := by decide +kernel
theorem dX3_put_54 : decode cX3_put 54 = .ok (.goto 10, 3) := by decide +kernel
theorem dX3_put_57 : decode cX3_put 57 = .ok (.aload_n 0, 1) := by decide +kernel
theorem dX3_put_58 : decode cX3_put 58 = .ok (.getfield 9, 3) := by decide +kernel
theorem dX3_put_61 : decode cX3_put 61 = .ok (.iload_n 1, 1) := by decide +kernel
theorem dX3_put_62 : decode cX3_put 62 = .ok (.iload_n 2, 1) := by decide +kernel
theorem dX3_put_63 : decode cX3_put 63 = .ok (.iastore, 1) := by decide +kernel
theorem dX3_put_64 : decode cX3_put 64 = .ok (.iconst 1, 1) := by decide +kernel
theorem dX3_put_65 : decode cX3_put 65 = .ok (.ireturn, 1) := by decide +kernel
theorem dX4_init_0 : decode cX4_init 0 = .ok (.aload_n 0, 1) := by decide +kernel
theorem dX4_init_1 : decode cX4_init 1 = .ok (.invokespecial 3, 3) := by decide +kernel
theorem dX4_init_4 : decode cX4_init 4 = .ok (.aload_n 0, 1) := by decide +kernel
theorem dX4_init_5 : decode cX4_init 5 = .ok (.bipush 8, 2) := by decide +kernel
theorem dX4_init_7 : decode cX4_init 7 = .ok (.anewarray 9, 3) := by decide +kernel
theorem dX4_init_10 : decode cX4_init 10 = .ok (.putfield 11, 3) := by decide +kernel
theorem dX4_init_13 : decode cX4_init 13 = .ok (.aload_n 0, 1) := by decide +kernel
theorem dX4_init_14 : decode cX4_init 14 = .ok (.aload_n 1, 1) := by decide +kernel
theorem dX4_init_15 : decode cX4_init 15 = .ok (.putfield 17, 3) := by decide +kernel
theorem dX4_init_18 : decode cX4_init 18 = .ok (.iconst 0, 1) := by decide +kernel
theorem dX4_init_19 : decode cX4_init 19 = .ok (.istore_n 2, 1) := by decide +kernel
theorem dX4_init_20 : decode cX4_init 20 = .ok (.iload_n 2, 1) := by decide +kernel
theorem dX4_init_21 : decode cX4_init 21 = .ok (.bipush 8, 2) := by decide +kernel
theorem dX4_init_23 : decode cX4_init 23 = .ok (.if_icmp .ge 22, 3) := by decide +kernel
theorem dX4_init_26 : decode cX4_init 26 = .ok (.aload_n 0, 1) := by decide +kernel
theorem dX4_init_27 : decode cX4_init 27 = .ok (.getfield 11, 3) := by decide +kernel
theorem dX4_init_30 : decode cX4_init 30 = .ok (.iload_n 2, 1) := by decide +kernel
theorem dX4_init_31 : decode cX4_init 31 = .ok (.new 9, 3) := by decide +kernel
theorem dX4_init_34 : decode cX4_init 34 = .ok (.dup, 1) := by decide +kernel
theorem dX4_init_35 : decode cX4_init 35 = .ok (.invokespecial 21, 3) := by decide +kernel
theorem dX4_init_38 : decode cX4_init 38 = .ok (.aastore, 1) := by decide +kernel
theorem dX4_init_39 : decode cX4_init 39 = .ok (.iinc 2 1, 3) := by decide +kernel
theorem dX4_init_42 : decode cX4_init 42 = .ok (.goto (-22), 3) := by decide +kernel
theorem dX4_init_45 : decode cX4_init 45 = .ok (.return_, 1) := by decide +kernel
theorem dX4_isFort_0 : decode cX4_isFort 0 = .ok (.iload_n 0, 1) := by decide +kernel
theorem dX4_isFort_1 : decode cX4_isFort 1 = .ok (.ifCond .lt 33, 3) := by decide +kernel
theorem dX4_isFort_4 : decode cX4_isFort 4 = .ok (.iload_n 0, 1) := by decide +kernel
theorem dX4_isFort_5 : decode cX4_isFort 5 = .ok (.bipush 6, 2) := by decide +kernel
theorem dX4_isFort_7 : decode cX4_isFort 7 = .ok (.if_icmp .ge 27, 3) := by decide +kernel
theorem dX4_isFort_10 : decode cX4_isFort 10 = .ok (.iload_n 1, 1) := by decide +kernel
theorem dX4_isFort_11 : decode cX4_isFort 11 = .ok (.ifCond .lt 23, 3) := by decide +kernel
theorem dX4_isFort_14 : decode cX4_isFort 14 = .ok (.iload_n 1, 1) := by decide +kernel
theorem dX4_isFort_15 : decode cX4_isFort 15 = .ok (.bipush 10, 2) := by decide +kernel
theorem dX4_isFort_17 : decode cX4_isFort 17 = .ok (.if_icmp .ge 17, 3) := by decide +kernel
theorem dX4_isFort_20 : decode cX4_isFort 20 = .ok (.iload_n 2, 1) := by decide +kernel
theorem dX4_isFort_21 : decode cX4_isFort 21 = .ok (.ifCond .lt 13, 3) := by decide +kernel
theorem dX4_isFort_24 : decode cX4_isFort 24 = .ok (.iload_n 2, 1) := by decide +kernel
theorem dX4_isFort_25 : decode cX4_isFort 25 = .ok (.bipush 16, 2) := by decide +kernel
theorem dX4_isFort_27 : decode cX4_isFort 27 = .ok (.if_icmp .ge 7, 3) := by decide +kernel
theorem dX4_isFort_30 : decode cX4_isFort 30 = .ok (.iconst 1, 1) := by decide +kernel
theorem dX4_isFort_31 : decode cX4_isFort 31 = .ok (.goto 4, 3) := by decide +kernel
theorem dX4_isFort_34 : decode cX4_isFort 34 = .ok (.iconst 0, 1) := by decide +kernel
theorem dX4_isFort_35 : decode cX4_isFort 35 = .ok (.ireturn, 1) := by decide +kernel
theorem dX4_add_0 : decode cX4_add 0 = .ok (.aload_n 0, 1) := by decide +kernel
theorem dX4_add_1 : decode cX4_add 1 = .ok (.getfield 22, 3) := by decide +kernel
theorem dX4_add_4 : decode cX4_add 4 = .ok (.ifCond .lt 12, 3) := by decide +kernel
theorem dX4_add_7 : decode cX4_add 7 = .ok (.aload_n 0, 1) := by decide +kernel
theorem dX4_add_8 : decode cX4_add 8 = .ok (.getfield 22, 3) := by decide +kernel
theorem dX4_add_11 : decode cX4_add 11 = .ok (.bipush 8, 2) := by decide +kernel
theorem dX4_add_13 : decode cX4_add 13 = .ok (.if_icmp .lt 6, 3) := by decide +kernel
theorem dX4_add_16 : decode cX4_add 16 = .ok (.bipush (-4), 2) := by decide +kernel
theorem dX4_add_18 : decode cX4_add 18 = .ok (.ireturn, 1) := by decide +kernel
theorem dX4_add_19 : decode cX4_add 19 = .ok (.aload_n 0, 1) := by decide +kernel
theorem dX4_add_20 : decode cX4_add 20 = .ok (.getfield 11, 3) := by decide +kernel
theorem dX4_add_23 : decode cX4_add 23 = .ok (.aload_n 0, 1) := by decide +kernel
theorem dX4_add_24 : decode cX4_add 24 = .ok (.getfield 22, 3) := by decide +kernel
theorem dX4_add_27 : decode cX4_add 27 = .ok (.aaload, 1) := by decide +kernel
theorem dX4_add_28 : decode cX4_add 28 = .ok (.iload_n 1, 1) := by decide +kernel
theorem dX4_add_29 : decode cX4_add 29 = .ok (.iload_n 2, 1) := by decide +kernel
theorem dX4_add_30 : decode cX4_add 30 = .ok (.iload_n 3, 1) := by decide +kernel
theorem dX4_add_31 : decode cX4_add 31 = .ok (.invokevirtual 26, 3) := by decide +kernel
theorem dX4_add_34 : decode cX4_add 34 = .ok (.aload_n 0, 1) := by decide +kernel
theorem dX4_add_35 : decode cX4_add 35 = .ok (.dup, 1) := by decide +kernel
theorem dX4_add_36 : decode cX4_add 36 = .ok (.getfield 22, 3) := by decide +kernel
theorem dX4_add_39 : decode cX4_add 39 = .ok (.iconst 1, 1) := by decide +kernel
theorem dX4_add_40 : decode cX4_add 40 = .ok (.iadd, 1) := by decide +kernel
theorem dX4_add_41 : decode cX4_add 41 = .ok (.putfield 22, 3) := by decide +kernel
theorem dX4_add_44 : decode cX4_add 44 = .ok (.aload_n 0, 1) := by decide +kernel
theorem dX4_add_45 : decode cX4_add 45 = .ok (.getfield 22, 3) := by decide +kernel
theorem dX4_add_48 : decode cX4_add 48 = .ok (.iconst 1, 1) := by decide +kernel
theorem dX4_add_49 : decode cX4_add 49 = .ok (.isub, 1) := by decide +kernel
theorem dX4_add_50 : decode cX4_add 50 = .ok (.ireturn, 1) := by decide +kernel
theorem dX4_at_0 : decode cX4_at 0 = .ok (.iload_n 1, 1) := by decide +kernel
theorem dX4_at_1 : decode cX4_at 1 = .ok (.ifCond .lt 26, 3) := by decide +kernel
theorem dX4_at_4 : decode cX4_at 4 = .ok (.iload_n 1, 1) := by decide +kernel
theorem dX4_at_5 : decode cX4_at 5 = .ok (.aload_n 0, 1) := by decide +kernel
theorem dX4_at_6 : decode cX4_at 6 = .ok (.getfield 22, 3) := by decide +kernel
theorem dX4_at_9 : decode cX4_at 9 = .ok (.if_icmp .ge 18, 3) := by decide +kernel
theorem dX4_at_12 : decode cX4_at 12 = .ok (.iload_n 1, 1) := by decide +kernel
theorem dX4_at_13 : decode cX4_at 13 = .ok (.bipush 8, 2) := by decide +kernel
theorem dX4_at_15 : decode cX4_at 15 = .ok (.if_icmp .ge 12, 3) := by decide +kernel
theorem dX4_at_18 : decode cX4_at 18 = .ok (.aload_n 0, 1) := by decide +kernel
theorem dX4_at_19 : decode cX4_at 19 = .ok (.getfield 11, 3) := by decide +kernel
theorem dX4_at_22 : decode cX4_at 22 = .ok (.iload_n 1, 1) := by decide +kernel
theorem dX4_at_23 : decode cX4_at 23 = .ok (.aaload, 1) := by decide +kernel
theorem dX4_at_24 : decode cX4_at 24 = .ok (.goto 4, 3) := by decide +kernel
theorem dX4_at_27 : decode cX4_at 27 = .ok (.aconst_null, 1) := by decide +kernel
theorem dX4_at_28 : decode cX4_at 28 = .ok (.areturn, 1) := by decide +kernel
theorem dX4_take_0 : decode cX4_take 0 = .ok (.iconst 0, 1) := by decide +kernel
theorem dX4_take_1 : decode cX4_take 1 = .ok (.istore_n 2, 1) := by decide +kernel
theorem dX4_take_2 : decode cX4_take 2 = .ok (.iload_n 2, 1) := by decide +kernel
theorem dX4_take_3 : decode cX4_take 3 = .ok (.bipush 8, 2) := by decide +kernel
theorem dX4_take_5 : decode cX4_take 5 = .ok (.if_icmp .ge 24, 3) := by decide +kernel
theorem dX4_take_8 : decode cX4_take 8 = .ok (.aload_n 0, 1) := by decide +kernel
theorem dX4_take_9 : decode cX4_take 9 = .ok (.getfield 11, 3) := by decide +kernel
theorem dX4_take_12 : decode cX4_take 12 = .ok (.iload_n 2, 1) := by decide +kernel
theorem dX4_take_13 : decode cX4_take 13 = .ok (.aaload, 1) := by decide +kernel
theorem dX4_take_14 : decode cX4_take 14 = .ok (.aload_n 1, 1) := by decide +kernel
theorem dX4_take_15 : decode cX4_take 15 = .ok (.getfield 11, 3) := by decide +kernel
theorem dX4_take_18 : decode cX4_take 18 = .ok (.iload_n 2, 1) := by decide +kernel
theorem dX4_take_19 : decode cX4_take 19 = .ok (.aaload, 1) := by decide +kernel
theorem dX4_take_20 : decode cX4_take 20 = .ok (.invokevirtual 30, 3) := by decide +kernel
theorem dX4_take_23 : decode cX4_take 23 = .ok (.iinc 2 1, 3) := by decide +kernel
theorem dX4_take_26 : decode cX4_take 26 = .ok (.goto (-24), 3) := by decide +kernel
theorem dX4_take_29 : decode cX4_take 29 = .ok (.aload_n 0, 1) := by decide +kernel
theorem dX4_take_30 : decode cX4_take 30 = .ok (.aload_n 1, 1) := by decide +kernel
theorem dX4_take_31 : decode cX4_take 31 = .ok (.getfield 22, 3) := by decide +kernel
theorem dX4_take_34 : decode cX4_take 34 = .ok (.putfield 22, 3) := by decide +kernel
theorem dX4_take_37 : decode cX4_take 37 = .ok (.aload_n 0, 1) := by decide +kernel
theorem dX4_take_38 : decode cX4_take 38 = .ok (.aload_n 1, 1) := by decide +kernel
theorem dX4_take_39 : decode cX4_take 39 = .ok (.getfield 34, 3) := by decide +kernel
theorem dX4_take_42 : decode cX4_take 42 = .ok (.putfield 34, 3) := by decide +kernel
theorem dX4_take_45 : decode cX4_take 45 = .ok (.aload_n 0, 1) := by decide +kernel
theorem dX4_take_46 : decode cX4_take 46 = .ok (.aload_n 1, 1) := by decide +kernel
theorem dX4_take_47 : decode cX4_take 47 = .ok (.getfield 37, 3) := by decide +kernel
theorem dX4_take_50 : decode cX4_take 50 = .ok (.putfield 37, 3) := by decide +kernel
theorem dX4_take_53 : decode cX4_take 53 = .ok (.aload_n 0, 1) := by decide +kernel
theorem dX4_take_54 : decode cX4_take 54 = .ok (.aload_n 1, 1) := by decide +kernel
theorem dX4_take_55 : decode cX4_take 55 = .ok (.getfield 17, 3) := by decide +kernel
theorem dX4_take_58 : decode cX4_take 58 = .ok (.putfield 17, 3) := by decide +kernel
theorem dX4_take_61 : decode cX4_take 61 = .ok (.return_, 1) := by decide +kernel
theorem dX4_losesOf_0 : decode cX4_losesOf 0 = .ok (.aload_n 1, 1) := by decide +kernel
theorem dX4_losesOf_1 : decode cX4_losesOf 1 = .ok (.aload_n 0, 1) := by decide +kernel
theorem dX4_losesOf_2 : decode cX4_losesOf 2 = .ok (.getfield 17, 3) := by decide +kernel
theorem dX4_losesOf_5 : decode cX4_losesOf 5 = .ok (.aload_n 0, 1) := by decide +kernel
theorem dX4_losesOf_6 : decode cX4_losesOf 6 = .ok (.aload_n 1, 1) := by decide +kernel
theorem dX4_losesOf_7 : decode cX4_losesOf 7 = .ok (.invokevirtual 40, 3) := by decide +kernel
theorem dX4_losesOf_10 : decode cX4_losesOf 10 = .ok (.aload_n 0, 1) := by decide +kernel
theorem dX4_losesOf_11 : decode cX4_losesOf 11 = .ok (.getfield 37, 3) := by decide +kernel
theorem dX4_losesOf_14 : decode cX4_losesOf 14 = .ok (.invokevirtual 46, 3) := by decide +kernel
theorem dX4_losesOf_17 : decode cX4_losesOf 17 = .ok (.ireturn, 1) := by decide +kernel
theorem dX4_risesOf_0 : decode cX4_risesOf 0 = .ok (.aload_n 1, 1) := by decide +kernel
theorem dX4_risesOf_1 : decode cX4_risesOf 1 = .ok (.aload_n 0, 1) := by decide +kernel
theorem dX4_risesOf_2 : decode cX4_risesOf 2 = .ok (.getfield 17, 3) := by decide +kernel
theorem dX4_risesOf_5 : decode cX4_risesOf 5 = .ok (.aload_n 0, 1) := by decide +kernel
theorem dX4_risesOf_6 : decode cX4_risesOf 6 = .ok (.aload_n 1, 1) := by decide +kernel
theorem dX4_risesOf_7 : decode cX4_risesOf 7 = .ok (.invokevirtual 50, 3) := by decide +kernel
theorem dX4_risesOf_10 : decode cX4_risesOf 10 = .ok (.invokevirtual 53, 3) := by decide +kernel
theorem dX4_risesOf_13 : decode cX4_risesOf 13 = .ok (.ireturn, 1) := by decide +kernel
theorem dX4_shelterOf_0 : decode cX4_shelterOf 0 = .ok (.iconst 0, 1) := by decide +kernel
theorem dX4_shelterOf_1 : decode cX4_shelterOf 1 = .ok (.istore_n 2, 1) := by decide +kernel
theorem dX4_shelterOf_2 : decode cX4_shelterOf 2 = .ok (.iconst 0, 1) := by decide +kernel
theorem dX4_shelterOf_3 : decode cX4_shelterOf 3 = .ok (.istore_n 3, 1) := by decide +kernel
theorem dX4_shelterOf_4 : decode cX4_shelterOf 4 = .ok (.iload_n 3, 1) := by decide +kernel
theorem dX4_shelterOf_5 : decode cX4_shelterOf 5 = .ok (.aload_n 0, 1) := by decide +kernel
theorem dX4_shelterOf_6 : decode cX4_shelterOf 6 = .ok (.getfield 22, 3) := by decide +kernel
theorem dX4_shelterOf_9 : decode cX4_shelterOf 9 = .ok (.if_icmp .ge 55, 3) := by decide +kernel
theorem dX4_shelterOf_12 : decode cX4_shelterOf 12 = .ok (.iload_n 3, 1) := by decide +kernel
theorem dX4_shelterOf_13 : decode cX4_shelterOf 13 = .ok (.bipush 8, 2) := by decide +kernel
theorem dX4_shelterOf_15 : decode cX4_shelterOf 15 = .ok (.if_icmp .ge 49, 3) := by decide +kernel
theorem dX4_shelterOf_18 : decode cX4_shelterOf 18 = .ok (.aload_n 0, 1) := by decide +kernel
theorem dX4_shelterOf_19 : decode cX4_shelterOf 19 = .ok (.getfield 11, 3) := by decide +kernel
theorem dX4_shelterOf_22 : decode cX4_shelterOf 22 = .ok (.iload_n 3, 1) := by decide +kernel
theorem dX4_shelterOf_23 : decode cX4_shelterOf 23 = .ok (.aaload, 1) := by decide +kernel
theorem dX4_shelterOf_24 : decode cX4_shelterOf 24 = .ok (.astore 4, 2) := by decide +kernel
theorem dX4_shelterOf_26 : decode cX4_shelterOf 26 = .ok (.aload 4, 2) := by decide +kernel
theorem dX4_shelterOf_28 : decode cX4_shelterOf 28 = .ok (.getfield 57, 3) := by decide +kernel
theorem dX4_shelterOf_31 : decode cX4_shelterOf 31 = .ok (.aload_n 1, 1) := by decide +kernel
theorem dX4_shelterOf_32 : decode cX4_shelterOf 32 = .ok (.getfield 57, 3) := by decide +kernel
theorem dX4_shelterOf_35 : decode cX4_shelterOf 35 = .ok (.if_icmp .ge 23, 3) := by decide +kernel
theorem dX4_shelterOf_38 : decode cX4_shelterOf 38 = .ok (.aload 4, 2) := by decide +kernel
theorem dX4_shelterOf_40 : decode cX4_shelterOf 40 = .ok (.getfield 60, 3) := by decide +kernel
theorem dX4_shelterOf_43 : decode cX4_shelterOf 43 = .ok (.ifCond .le 15, 3) := by decide +kernel
theorem dX4_shelterOf_46 : decode cX4_shelterOf 46 = .ok (.aload 4, 2) := by decide +kernel
theorem dX4_shelterOf_48 : decode cX4_shelterOf 48 = .ok (.getfield 63, 3) := by decide +kernel
theorem dX4_shelterOf_51 : decode cX4_shelterOf 51 = .ok (.iconst 2, 1) := by decide +kernel
theorem dX4_shelterOf_52 : decode cX4_shelterOf 52 = .ok (.if_icmp .eq 6, 3) := by decide +kernel
theorem dX4_shelterOf_55 : decode cX4_shelterOf 55 = .ok (.iinc 2 1, 3) := by decide +kernel
theorem dX4_shelterOf_58 : decode cX4_shelterOf 58 = .ok (.iinc 3 1, 3) := by decide +kernel
theorem dX4_shelterOf_61 : decode cX4_shelterOf 61 = .ok (.goto (-57), 3) := by decide +kernel
theorem dX4_shelterOf_64 : decode cX4_shelterOf 64 = .ok (.iload_n 2, 1) := by decide +kernel
theorem dX4_shelterOf_65 : decode cX4_shelterOf 65 = .ok (.ireturn, 1) := by decide +kernel
theorem dX4_beat_0 : decode cX4_beat 0 = .ok (.iconst 0, 1) := by decide +kernel
theorem dX4_beat_1 : decode cX4_beat 1 = .ok (.istore_n 1, 1) := by decide +kernel
theorem dX4_beat_2 : decode cX4_beat 2 = .ok (.iload_n 1, 1) := by decide +kernel
theorem dX4_beat_3 : decode cX4_beat 3 = .ok (.aload_n 0, 1) := by decide +kernel
theorem dX4_beat_4 : decode cX4_beat 4 = .ok (.getfield 22, 3) := by decide +kernel
theorem dX4_beat_7 : decode cX4_beat 7 = .ok (.if_icmp .ge 54, 3) := by decide +kernel
theorem dX4_beat_10 : decode cX4_beat 10 = .ok (.iload_n 1, 1) := by decide +kernel
theorem dX4_beat_11 : decode cX4_beat 11 = .ok (.bipush 8, 2) := by decide +kernel
theorem dX4_beat_13 : decode cX4_beat 13 = .ok (.if_icmp .ge 48, 3) := by decide +kernel
theorem dX4_beat_16 : decode cX4_beat 16 = .ok (.aload_n 0, 1) := by decide +kernel
theorem dX4_beat_17 : decode cX4_beat 17 = .ok (.getfield 11, 3) := by decide +kernel
theorem dX4_beat_20 : decode cX4_beat 20 = .ok (.iload_n 1, 1) := by decide +kernel
theorem dX4_beat_21 : decode cX4_beat 21 = .ok (.aaload, 1) := by decide +kernel
theorem dX4_beat_22 : decode cX4_beat 22 = .ok (.astore_n 2, 1) := by decide +kernel
theorem dX4_beat_23 : decode cX4_beat 23 = .ok (.aload_n 2, 1) := by decide +kernel
theorem dX4_beat_24 : decode cX4_beat 24 = .ok (.aload_n 2, 1) := by decide +kernel
theorem dX4_beat_25 : decode cX4_beat 25 = .ok (.invokevirtual 66, 3) := by decide +kernel
theorem dX4_beat_28 : decode cX4_beat 28 = .ok (.ifCond .eq 23, 3) := by decide +kernel
theorem dX4_beat_31 : decode cX4_beat 31 = .ok (.aload_n 2, 1) := by decide +kernel
theorem dX4_beat_32 : decode cX4_beat 32 = .ok (.aload_n 0, 1) := by decide +kernel
theorem dX4_beat_33 : decode cX4_beat 33 = .ok (.getfield 17, 3) := by decide +kernel
theorem dX4_beat_36 : decode cX4_beat 36 = .ok (.aload_n 0, 1) := by decide +kernel
theorem dX4_beat_37 : decode cX4_beat 37 = .ok (.aload_n 2, 1) := by decide +kernel
theorem dX4_beat_38 : decode cX4_beat 38 = .ok (.invokevirtual 40, 3) := by decide +kernel
theorem dX4_beat_41 : decode cX4_beat 41 = .ok (.aload_n 0, 1) := by decide +kernel
theorem dX4_beat_42 : decode cX4_beat 42 = .ok (.getfield 37, 3) := by decide +kernel
theorem dX4_beat_45 : decode cX4_beat 45 = .ok (.invokevirtual 46, 3) := by decide +kernel
theorem dX4_beat_48 : decode cX4_beat 48 = .ok (.goto 4, 3) := by decide +kernel
theorem dX4_beat_51 : decode cX4_beat 51 = .ok (.iconst 0, 1) := by decide +kernel
theorem dX4_beat_52 : decode cX4_beat 52 = .ok (.putfield 70, 3) := by decide +kernel
theorem dX4_beat_55 : decode cX4_beat 55 = .ok (.iinc 1 1, 3) := by decide +kernel
theorem dX4_beat_58 : decode cX4_beat 58 = .ok (.goto (-56), 3) := by decide +kernel
theorem dX4_beat_61 : decode cX4_beat 61 = .ok (.iconst 0, 1) := by decide +kernel
theorem dX4_beat_62 : decode cX4_beat 62 = .ok (.istore_n 1, 1) := by decide +kernel
theorem dX4_beat_63 : decode cX4_beat 63 = .ok (.iload_n 1, 1) := by decide +kernel
theorem dX4_beat_64 : decode cX4_beat 64 = .ok (.aload_n 0, 1) := by decide +kernel
theorem dX4_beat_65 : decode cX4_beat 65 = .ok (.getfield 22, 3) := by decide +kernel
theorem dX4_beat_68 : decode cX4_beat 68 = .ok (.if_icmp .ge 39, 3) := by decide +kernel
theorem dX4_beat_71 : decode cX4_beat 71 = .ok (.iload_n 1, 1) := by decide +kernel
theorem dX4_beat_72 : decode cX4_beat 72 = .ok (.bipush 8, 2) := by decide +kernel
theorem dX4_beat_74 : decode cX4_beat 74 = .ok (.if_icmp .ge 33, 3) := by decide +kernel
theorem dX4_beat_77 : decode cX4_beat 77 = .ok (.aload_n 0, 1) := by decide +kernel
theorem dX4_beat_78 : decode cX4_beat 78 = .ok (.getfield 11, 3) := by decide +kernel
theorem dX4_beat_81 : decode cX4_beat 81 = .ok (.iload_n 1, 1) := by decide +kernel
theorem dX4_beat_82 : decode cX4_beat 82 = .ok (.aaload, 1) := by decide +kernel
theorem dX4_beat_83 : decode cX4_beat 83 = .ok (.astore_n 2, 1) := by decide +kernel
theorem dX4_beat_84 : decode cX4_beat 84 = .ok (.aload_n 2, 1) := by decide +kernel
theorem dX4_beat_85 : decode cX4_beat 85 = .ok (.iconst 0, 1) := by decide +kernel
theorem dX4_beat_86 : decode cX4_beat 86 = .ok (.aload_n 2, 1) := by decide +kernel
theorem dX4_beat_87 : decode cX4_beat 87 = .ok (.getfield 60, 3) := by decide +kernel
theorem dX4_beat_90 : decode cX4_beat 90 = .ok (.aload_n 2, 1) := by decide +kernel
theorem dX4_beat_91 : decode cX4_beat 91 = .ok (.getfield 70, 3) := by decide +kernel
theorem dX4_beat_94 : decode cX4_beat 94 = .ok (.isub, 1) := by decide +kernel
theorem dX4_beat_95 : decode cX4_beat 95 = .ok (.invokestatic 73, 3) := by decide +kernel
theorem dX4_beat_98 : decode cX4_beat 98 = .ok (.putfield 60, 3) := by decide +kernel
theorem dX4_beat_101 : decode cX4_beat 101 = .ok (.iinc 1 1, 3) := by decide +kernel
theorem dX4_beat_104 : decode cX4_beat 104 = .ok (.goto (-41), 3) := by decide +kernel
theorem dX4_beat_107 : decode cX4_beat 107 = .ok (.aload_n 0, 1) := by decide +kernel
theorem dX4_beat_108 : decode cX4_beat 108 = .ok (.dup, 1) := by decide +kernel
theorem dX4_beat_109 : decode cX4_beat 109 = .ok (.getfield 37, 3) := by decide +kernel
theorem dX4_beat_112 : decode cX4_beat 112 = .ok (.iconst 1, 1) := by decide +kernel
theorem dX4_beat_113 : decode cX4_beat 113 = .ok (.iadd, 1) := by decide +kernel
theorem dX4_beat_114 : decode cX4_beat 114 = .ok (.putfield 37, 3) := by decide +kernel
theorem dX4_beat_117 : decode cX4_beat 117 = .ok (.return_, 1) := by decide +kernel
theorem dX4_pass_0 : decode cX4_pass 0 = .ok (.iconst 0, 1) := by decide +kernel
theorem dX4_pass_1 : decode cX4_pass 1 = .ok (.istore_n 2, 1) := by decide +kernel
theorem dX4_pass_2 : decode cX4_pass 2 = .ok (.iload_n 2, 1) := by decide +kernel
theorem dX4_pass_3 : decode cX4_pass 3 = .ok (.iload_n 1, 1) := by decide +kernel
theorem dX4_pass_4 : decode cX4_pass 4 = .ok (.if_icmp .ge 13, 3) := by decide +kernel
theorem dX4_pass_7 : decode cX4_pass 7 = .ok (.aload_n 0, 1) := by decide +kernel
theorem dX4_pass_8 : decode cX4_pass 8 = .ok (.invokevirtual 78, 3) := by decide +kernel
theorem dX4_pass_11 : decode cX4_pass 11 = .ok (.iinc 2 1, 3) := by decide +kernel
theorem dX4_pass_14 : decode cX4_pass 14 = .ok (.goto (-12), 3) := by decide +kernel
theorem dX4_pass_17 : decode cX4_pass 17 = .ok (.return_, 1) := by decide +kernel
theorem dX4_raise_0 : decode cX4_raise 0 = .ok (.aload_n 1, 1) := by decide +kernel
theorem dX4_raise_1 : decode cX4_raise 1 = .ok (.bipush 99, 2) := by decide +kernel
theorem dX4_raise_3 : decode cX4_raise 3 = .ok (.aload_n 1, 1) := by decide +kernel
theorem dX4_raise_4 : decode cX4_raise 4 = .ok (.getfield 60, 3) := by decide +kernel
theorem dX4_raise_7 : decode cX4_raise 7 = .ok (.aload_n 0, 1) := by decide +kernel
theorem dX4_raise_8 : decode cX4_raise 8 = .ok (.aload_n 1, 1) := by decide +kernel
theorem dX4_raise_9 : decode cX4_raise 9 = .ok (.invokevirtual 81, 3) := by decide +kernel
theorem dX4_raise_12 : decode cX4_raise 12 = .ok (.iadd, 1) := by decide +kernel
theorem dX4_raise_13 : decode cX4_raise 13 = .ok (.invokestatic 85, 3) := by decide +kernel
theorem dX4_raise_16 : decode cX4_raise 16 = .ok (.putfield 60, 3) := by decide +kernel
theorem dX4_raise_19 : decode cX4_raise 19 = .ok (.return_, 1) := by decide +kernel
theorem dX4_standing_0 : decode cX4_standing 0 = .ok (.iconst 0, 1) := by decide +kernel
theorem dX4_standing_1 : decode cX4_standing 1 = .ok (.istore_n 1, 1) := by decide +kernel
theorem dX4_standing_2 : decode cX4_standing 2 = .ok (.iconst 0, 1) := by decide +kernel
theorem dX4_standing_3 : decode cX4_standing 3 = .ok (.istore_n 2, 1) := by decide +kernel
theorem dX4_standing_4 : decode cX4_standing 4 = .ok (.iload_n 2, 1) := by decide +kernel
theorem dX4_standing_5 : decode cX4_standing 5 = .ok (.aload_n 0, 1) := by decide +kernel
theorem dX4_standing_6 : decode cX4_standing 6 = .ok (.getfield 22, 3) := by decide +kernel
theorem dX4_standing_9 : decode cX4_standing 9 = .ok (.if_icmp .ge 33, 3) := by decide +kernel
theorem dX4_standing_12 : decode cX4_standing 12 = .ok (.iload_n 2, 1) := by decide +kernel
theorem dX4_standing_13 : decode cX4_standing 13 = .ok (.bipush 8, 2) := by decide +kernel
theorem dX4_standing_15 : decode cX4_standing 15 = .ok (.if_icmp .ge 27, 3) := by decide +kernel
theorem dX4_standing_18 : decode cX4_standing 18 = .ok (.aload_n 0, 1) := by decide +kernel
theorem dX4_standing_19 : decode cX4_standing 19 = .ok (.getfield 11, 3) := by decide +kernel
theorem dX4_standing_22 : decode cX4_standing 22 = .ok (.iload_n 2, 1) := by decide +kernel
theorem dX4_standing_23 : decode cX4_standing 23 = .ok (.aaload, 1) := by decide +kernel
theorem dX4_standing_24 : decode cX4_standing 24 = .ok (.invokevirtual 66, 3) := by decide +kernel
theorem dX4_standing_27 : decode cX4_standing 27 = .ok (.ifCond .eq 9, 3) := by decide +kernel
theorem dX4_standing_30 : decode cX4_standing 30 = .ok (.iload_n 1, 1) := by decide +kernel
theorem dX4_standing_31 : decode cX4_standing 31 = .ok (.iconst 1, 1) := by decide +kernel
theorem dX4_standing_32 : decode cX4_standing 32 = .ok (.iload_n 2, 1) := by decide +kernel
theorem dX4_standing_33 : decode cX4_standing 33 = .ok (.ishl, 1) := by decide +kernel
theorem dX4_standing_34 : decode cX4_standing 34 = .ok (.ior, 1) := by decide +kernel
theorem dX4_standing_35 : decode cX4_standing 35 = .ok (.istore_n 1, 1) := by decide +kernel
theorem dX4_standing_36 : decode cX4_standing 36 = .ok (.iinc 2 1, 3) := by decide +kernel
theorem dX4_standing_39 : decode cX4_standing 39 = .ok (.goto (-35), 3) := by decide +kernel
theorem dX4_standing_42 : decode cX4_standing 42 = .ok (.iload_n 1, 1) := by decide +kernel
theorem dX4_standing_43 : decode cX4_standing 43 = .ok (.ireturn, 1) := by decide +kernel
theorem dX4_bay_0 : decode cX4_bay 0 = .ok (.iconst 0, 1) := by decide +kernel
theorem dX4_bay_1 : decode cX4_bay 1 = .ok (.istore_n 1, 1) := by decide +kernel
theorem dX4_bay_2 : decode cX4_bay 2 = .ok (.iconst 0, 1) := by decide +kernel
theorem dX4_bay_3 : decode cX4_bay 3 = .ok (.istore_n 2, 1) := by decide +kernel
theorem dX4_bay_4 : decode cX4_bay 4 = .ok (.iconst 0, 1) := by decide +kernel
theorem dX4_bay_5 : decode cX4_bay 5 = .ok (.istore_n 3, 1) := by decide +kernel
theorem dX4_bay_6 : decode cX4_bay 6 = .ok (.iload_n 3, 1) := by decide +kernel
theorem dX4_bay_7 : decode cX4_bay 7 = .ok (.aload_n 0, 1) := by decide +kernel
theorem dX4_bay_8 : decode cX4_bay 8 = .ok (.getfield 22, 3) := by decide +kernel
theorem dX4_bay_11 : decode cX4_bay 11 = .ok (.if_icmp .ge 66, 3) := by decide +kernel
theorem dX4_bay_14 : decode cX4_bay 14 = .ok (.iload_n 3, 1) := by decide +kernel
theorem dX4_bay_15 : decode cX4_bay 15 = .ok (.bipush 8, 2) := by decide +kernel
theorem dX4_bay_17 : decode cX4_bay 17 = .ok (.if_icmp .ge 60, 3) := by decide +kernel
theorem dX4_bay_20 : decode cX4_bay 20 = .ok (.aload_n 0, 1) := by decide +kernel
theorem dX4_bay_21 : decode cX4_bay 21 = .ok (.getfield 11, 3) := by decide +kernel
theorem dX4_bay_24 : decode cX4_bay 24 = .ok (.iload_n 3, 1) := by decide +kernel
theorem dX4_bay_25 : decode cX4_bay 25 = .ok (.aaload, 1) := by decide +kernel
theorem dX4_bay_26 : decode cX4_bay 26 = .ok (.astore 4, 2) := by decide +kernel
theorem dX4_bay_28 : decode cX4_bay 28 = .ok (.aload 4, 2) := by decide +kernel
theorem dX4_bay_30 : decode cX4_bay 30 = .ok (.getfield 88, 3) := by decide +kernel
theorem dX4_bay_33 : decode cX4_bay 33 = .ok (.ifCond .ne 7, 3) := by decide +kernel
theorem dX4_bay_36 : decode cX4_bay 36 = .ok (.iconst 1, 1) := by decide +kernel
theorem dX4_bay_37 : decode cX4_bay 37 = .ok (.goto 4, 3) := by decide +kernel
theorem dX4_bay_40 : decode cX4_bay 40 = .ok (.iconst (-1), 1) := by decide +kernel
theorem dX4_bay_41 : decode cX4_bay 41 = .ok (.istore 5, 2) := by decide +kernel
theorem dX4_bay_43 : decode cX4_bay 43 = .ok (.iload_n 1, 1) := by decide +kernel
theorem dX4_bay_44 : decode cX4_bay 44 = .ok (.aload 4, 2) := by decide +kernel
theorem dX4_bay_46 : decode cX4_bay 46 = .ok (.invokevirtual 66, 3) := by decide +kernel
theorem dX4_bay_49 : decode cX4_bay 49 = .ok (.ifCond .eq 8, 3) := by decide +kernel
theorem dX4_bay_52 : decode cX4_bay 52 = .ok (.iload 5, 2) := by decide +kernel
theorem dX4_bay_54 : decode cX4_bay 54 = .ok (.goto 4, 3) := by decide +kernel
theorem dX4_bay_57 : decode cX4_bay 57 = .ok (.iconst 0, 1) := by decide +kernel
theorem dX4_bay_58 : decode cX4_bay 58 = .ok (.iadd, 1) := by decide +kernel
theorem dX4_bay_59 : decode cX4_bay 59 = .ok (.istore_n 1, 1) := by decide +kernel
theorem dX4_bay_60 : decode cX4_bay 60 = .ok (.iload_n 2, 1) := by decide +kernel
theorem dX4_bay_61 : decode cX4_bay 61 = .ok (.iload 5, 2) := by decide +kernel
theorem dX4_bay_63 : decode cX4_bay 63 = .ok (.aload 4, 2) := by decide +kernel
theorem dX4_bay_65 : decode cX4_bay 65 = .ok (.getfield 60, 3) := by decide +kernel
theorem dX4_bay_68 : decode cX4_bay 68 = .ok (.imul, 1) := by decide +kernel
theorem dX4_bay_69 : decode cX4_bay 69 = .ok (.iadd, 1) := by decide +kernel
theorem dX4_bay_70 : decode cX4_bay 70 = .ok (.istore_n 2, 1) := by decide +kernel
theorem dX4_bay_71 : decode cX4_bay 71 = .ok (.iinc 3 1, 3) := by decide +kernel
theorem dX4_bay_74 : decode cX4_bay 74 = .ok (.goto (-68), 3) := by decide +kernel
theorem dX4_bay_77 : decode cX4_bay 77 = .ok (.iload_n 1, 1) := by decide +kernel
theorem dX4_bay_78 : decode cX4_bay 78 = .ok (.ifCond .eq 7, 3) := by decide +kernel
theorem dX4_bay_81 : decode cX4_bay 81 = .ok (.iload_n 1, 1) := by decide +kernel
theorem dX4_bay_82 : decode cX4_bay 82 = .ok (.goto 4, 3) := by decide +kernel
theorem dX4_bay_85 : decode cX4_bay 85 = .ok (.iload_n 2, 1) := by decide +kernel
theorem dX4_bay_86 : decode cX4_bay 86 = .ok (.istore_n 3, 1) := by decide +kernel
theorem dX4_bay_87 : decode cX4_bay 87 = .ok (.iload_n 3, 1) := by decide +kernel
theorem dX4_bay_88 : decode cX4_bay 88 = .ok (.ifCond .ne 5, 3) := by decide +kernel
theorem dX4_bay_91 : decode cX4_bay 91 = .ok (.iconst (-1), 1) := by decide +kernel
theorem dX4_bay_92 : decode cX4_bay 92 = .ok (.ireturn, 1) := by decide +kernel
theorem dX4_bay_93 : decode cX4_bay 93 = .ok (.iload_n 3, 1) := by decide +kernel
theorem dX4_bay_94 : decode cX4_bay 94 = .ok (.ifCond .le 7, 3) := by decide +kernel
theorem dX4_bay_97 : decode cX4_bay 97 = .ok (.iconst 0, 1) := by decide +kernel
theorem dX4_bay_98 : decode cX4_bay 98 = .ok (.goto 4, 3) := by decide +kernel
theorem dX4_bay_101 : decode cX4_bay 101 = .ok (.iconst 1, 1) := by decide +kernel
theorem dX4_bay_102 : decode cX4_bay 102 = .ok (.ireturn, 1) := by decide +kernel
theorem dX4_valueOf_0 : decode cX4_valueOf 0 = .ok (.iconst 0, 1) := by decide +kernel
theorem dX4_valueOf_1 : decode cX4_valueOf 1 = .ok (.istore_n 2, 1) := by decide +kernel
theorem dX4_valueOf_2 : decode cX4_valueOf 2 = .ok (.iconst 0, 1) := by decide +kernel
theorem dX4_valueOf_3 : decode cX4_valueOf 3 = .ok (.istore_n 3, 1) := by decide +kernel
theorem dX4_valueOf_4 : decode cX4_valueOf 4 = .ok (.iload_n 3, 1) := by decide +kernel
theorem dX4_valueOf_5 : decode cX4_valueOf 5 = .ok (.aload_n 0, 1) := by decide +kernel
theorem dX4_valueOf_6 : decode cX4_valueOf 6 = .ok (.getfield 22, 3) := by decide +kernel
theorem dX4_valueOf_9 : decode cX4_valueOf 9 = .ok (.if_icmp .ge 63, 3) := by decide +kernel
theorem dX4_valueOf_12 : decode cX4_valueOf 12 = .ok (.iload_n 3, 1) := by decide +kernel
theorem dX4_valueOf_13 : decode cX4_valueOf 13 = .ok (.bipush 8, 2) := by decide +kernel
theorem dX4_valueOf_15 : decode cX4_valueOf 15 = .ok (.if_icmp .ge 57, 3) := by decide +kernel
theorem dX4_valueOf_18 : decode cX4_valueOf 18 = .ok (.aload_n 0, 1) := by decide +kernel
theorem dX4_valueOf_19 : decode cX4_valueOf 19 = .ok (.getfield 11, 3) := by decide +kernel
theorem dX4_valueOf_22 : decode cX4_valueOf 22 = .ok (.iload_n 3, 1) := by decide +kernel
theorem dX4_valueOf_23 : decode cX4_valueOf 23 = .ok (.aaload, 1) := by decide +kernel
theorem dX4_valueOf_24 : decode cX4_valueOf 24 = .ok (.astore 4, 2) := by decide +kernel
theorem dX4_valueOf_26 : decode cX4_valueOf 26 = .ok (.aload 4, 2) := by decide +kernel
theorem dX4_valueOf_28 : decode cX4_valueOf 28 = .ok (.invokevirtual 66, 3) := by decide +kernel
theorem dX4_valueOf_31 : decode cX4_valueOf 31 = .ok (.ifCond .eq 35, 3) := by decide +kernel
theorem dX4_valueOf_34 : decode cX4_valueOf 34 = .ok (.aload_n 0, 1) := by decide +kernel
theorem dX4_valueOf_35 : decode cX4_valueOf 35 = .ok (.getfield 17, 3) := by decide +kernel
theorem dX4_valueOf_38 : decode cX4_valueOf 38 = .ok (.aload_n 0, 1) := by decide +kernel
theorem dX4_valueOf_39 : decode cX4_valueOf 39 = .ok (.aload 4, 2) := by decide +kernel
theorem dX4_valueOf_41 : decode cX4_valueOf 41 = .ok (.invokevirtual 91, 3) := by decide +kernel
theorem dX4_valueOf_44 : decode cX4_valueOf 44 = .ok (.istore 5, 2) := by decide +kernel
theorem dX4_valueOf_46 : decode cX4_valueOf 46 = .ok (.iload_n 2, 1) := by decide +kernel
theorem dX4_valueOf_47 : decode cX4_valueOf 47 = .ok (.aload 4, 2) := by decide +kernel
theorem dX4_valueOf_49 : decode cX4_valueOf 49 = .ok (.getfield 88, 3) := by decide +kernel
theorem dX4_valueOf_52 : decode cX4_valueOf 52 = .ok (.iload_n 1, 1) := by decide +kernel
theorem dX4_valueOf_53 : decode cX4_valueOf 53 = .ok (.if_icmp .ne 8, 3) := by decide +kernel
theorem dX4_valueOf_56 : decode cX4_valueOf 56 = .ok (.iload 5, 2) := by decide +kernel
theorem dX4_valueOf_58 : decode cX4_valueOf 58 = .ok (.goto 6, 3) := by decide +kernel
theorem dX4_valueOf_61 : decode cX4_valueOf 61 = .ok (.iload 5, 2) := by decide +kernel
theorem dX4_valueOf_63 : decode cX4_valueOf 63 = .ok (.ineg, 1) := by decide +kernel
theorem dX4_valueOf_64 : decode cX4_valueOf 64 = .ok (.iadd, 1) := by decide +kernel
theorem dX4_valueOf_65 : decode cX4_valueOf 65 = .ok (.istore_n 2, 1) := by decide +kernel
theorem dX4_valueOf_66 : decode cX4_valueOf 66 = .ok (.iinc 3 1, 3) := by decide +kernel
theorem dX4_valueOf_69 : decode cX4_valueOf 69 = .ok (.goto (-65), 3) := by decide +kernel
theorem dX4_valueOf_72 : decode cX4_valueOf 72 = .ok (.iload_n 2, 1) := by decide +kernel
theorem dX4_valueOf_73 : decode cX4_valueOf 73 = .ok (.ireturn, 1) := by decide +kernel
theorem dX5_init_0 : decode cX5_init 0 = .ok (.aload_n 0, 1) := by decide +kernel
theorem dX5_init_1 : decode cX5_init 1 = .ok (.invokespecial 3, 3) := by decide +kernel
theorem dX5_init_4 : decode cX5_init 4 = .ok (.aload_n 0, 1) := by decide +kernel
theorem dX5_init_5 : decode cX5_init 5 = .ok (.sipush 160, 3) := by decide +kernel
theorem dX5_init_8 : decode cX5_init 8 = .ok (.newarray .int, 2) := by decide +kernel
theorem dX5_init_10 : decode cX5_init 10 = .ok (.putfield 9, 3) := by decide +kernel
theorem dX5_init_13 : decode cX5_init 13 = .ok (.aload_n 0, 1) := by decide +kernel
theorem dX5_init_14 : decode cX5_init 14 = .ok (.sipush 161, 3) := by decide +kernel
theorem dX5_init_17 : decode cX5_init 17 = .ok (.newarray .int, 2) := by decide +kernel
theorem dX5_init_19 : decode cX5_init 19 = .ok (.putfield 15, 3) := by decide +kernel
theorem dX5_init_22 : decode cX5_init 22 = .ok (.aload_n 0, 1) := by decide +kernel
theorem dX5_init_23 : decode cX5_init 23 = .ok (.sipush 161, 3) := by decide +kernel
theorem dX5_init_26 : decode cX5_init 26 = .ok (.newarray .int, 2) := by decide +kernel
theorem dX5_init_28 : decode cX5_init 28 = .ok (.putfield 18, 3) := by decide +kernel
theorem dX5_init_31 : decode cX5_init 31 = .ok (.return_, 1) := by decide +kernel
theorem dX5_add_0 : decode cX5_add 0 = .ok (.aload_n 0, 1) := by decide +kernel
theorem dX5_add_1 : decode cX5_add 1 = .ok (.getfield 21, 3) := by decide +kernel
theorem dX5_add_4 : decode cX5_add 4 = .ok (.ifCond .lt 13, 3) := by decide +kernel
theorem dX5_add_7 : decode cX5_add 7 = .ok (.aload_n 0, 1) := by decide +kernel
theorem dX5_add_8 : decode cX5_add 8 = .ok (.getfield 21, 3) := by decide +kernel
theorem dX5_add_11 : decode cX5_add 11 = .ok (.sipush 160, 3) := by decide +kernel
theorem dX5_add_14 : decode cX5_add 14 = .ok (.if_icmp .lt 5, 3) := by decide +kernel
theorem dX5_add_17 : decode cX5_add 17 = .ok (.iconst 0, 1) := by decide +kernel
theorem dX5_add_18 : decode cX5_add 18 = .ok (.ireturn, 1) := by decide +kernel
theorem dX5_add_19 : decode cX5_add 19 = .ok (.aload_n 0, 1) := by decide +kernel
theorem dX5_add_20 : decode cX5_add 20 = .ok (.getfield 9, 3) := by decide +kernel
theorem dX5_add_23 : decode cX5_add 23 = .ok (.aload_n 0, 1) := by decide +kernel
theorem dX5_add_24 : decode cX5_add 24 = .ok (.getfield 21, 3) := by decide +kernel
theorem dX5_add_27 : decode cX5_add 27 = .ok (.iload_n 1, 1) := by decide +kernel
theorem dX5_add_28 : decode cX5_add 28 = .ok (.iastore, 1) := by decide +kernel
theorem dX5_add_29 : decode cX5_add 29 = .ok (.aload_n 0, 1) := by decide +kernel
theorem dX5_add_30 : decode cX5_add 30 = .ok (.dup, 1) := by decide +kernel
theorem dX5_add_31 : decode cX5_add 31 = .ok (.getfield 21, 3) := by decide +kernel
theorem dX5_add_34 : decode cX5_add 34 = .ok (.iconst 1, 1) := by decide +kernel
theorem dX5_add_35 : decode cX5_add 35 = .ok (.iadd, 1) := by decide +kernel
theorem dX5_add_36 : decode cX5_add 36 = .ok (.putfield 21, 3) := by decide +kernel
theorem dX5_add_39 : decode cX5_add 39 = .ok (.iconst 1, 1) := by decide +kernel
theorem dX5_add_40 : decode cX5_add 40 = .ok (.ireturn, 1) := by decide +kernel
theorem dX5_clear_0 : decode cX5_clear 0 = .ok (.aload_n 0, 1) := by decide +kernel
theorem dX5_clear_1 : decode cX5_clear 1 = .ok (.iconst 0, 1) := by decide +kernel
theorem dX5_clear_2 : decode cX5_clear 2 = .ok (.putfield 21, 3) := by decide +kernel
theorem dX5_clear_5 : decode cX5_clear 5 = .ok (.return_, 1) := by decide +kernel
theorem dX5_cut_0 : decode cX5_cut 0 = .ok (.iconst 0, 1) := by decide +kernel
theorem dX5_cut_1 : decode cX5_cut 1 = .ok (.istore_n 1, 1) := by decide +kernel
theorem dX5_cut_2 : decode cX5_cut 2 = .ok (.iconst 0, 1) := by decide +kernel
theorem dX5_cut_3 : decode cX5_cut 3 = .ok (.istore_n 2, 1) := by decide +kernel
theorem dX5_cut_4 : decode cX5_cut 4 = .ok (.iconst 0, 1) := by decide +kernel
theorem dX5_cut_5 : decode cX5_cut 5 = .ok (.istore_n 3, 1) := by decide +kernel
theorem dX5_cut_6 : decode cX5_cut 6 = .ok (.iload_n 3, 1) := by decide +kernel
theorem dX5_cut_7 : decode cX5_cut 7 = .ok (.sipush 160, 3) := by decide +kernel
theorem dX5_cut_10 : decode cX5_cut 10 = .ok (.if_icmp .gt 143, 3) := by decide +kernel
theorem dX5_cut_13 : decode cX5_cut 13 = .ok (.iload_n 1, 1) := by decide +kernel
theorem dX5_cut_14 : decode cX5_cut 14 = .ok (.iconst 1, 1) := by decide +kernel
theorem dX5_cut_15 : decode cX5_cut 15 = .ok (.if_icmp .eq 138, 3) := by decide +kernel
theorem dX5_cut_18 : decode cX5_cut 18 = .ok (.iload_n 1, 1) := by decide +kernel
theorem dX5_cut_19 : decode cX5_cut 19 = .ok (.iconst 2, 1) := by decide +kernel
theorem dX5_cut_20 : decode cX5_cut 20 = .ok (.if_icmp .eq 133, 3) := by decide +kernel
theorem dX5_cut_23 : decode cX5_cut 23 = .ok (.aload_n 0, 1) := by decide +kernel
theorem dX5_cut_24 : decode cX5_cut 24 = .ok (.iload_n 2, 1) := by decide +kernel
theorem dX5_cut_25 : decode cX5_cut 25 = .ok (.iconst 0, 1) := by decide +kernel
theorem dX5_cut_26 : decode cX5_cut 26 = .ok (.invokevirtual 25, 3) := by decide +kernel
theorem dX5_cut_29 : decode cX5_cut 29 = .ok (.istore 4, 2) := by decide +kernel
theorem dX5_cut_31 : decode cX5_cut 31 = .ok (.aload_n 0, 1) := by decide +kernel
theorem dX5_cut_32 : decode cX5_cut 32 = .ok (.iload 4, 2) := by decide +kernel
theorem dX5_cut_34 : decode cX5_cut 34 = .ok (.invokevirtual 29, 3) := by decide +kernel
theorem dX5_cut_37 : decode cX5_cut 37 = .ok (.tableswitch 80 1 3 #[27, 46, 65], 27) := by decide +kernel
theorem dX5_cut_64 : decode cX5_cut 64 = .ok (.aload_n 0, 1) := by decide +kernel
theorem dX5_cut_65 : decode cX5_cut 65 = .ok (.iload 4, 2) := by decide +kernel
theorem dX5_cut_67 : decode cX5_cut 67 = .ok (.iconst 1, 1) := by decide +kernel
theorem dX5_cut_68 : decode cX5_cut 68 = .ok (.invokevirtual 25, 3) := by decide +kernel
theorem dX5_cut_71 : decode cX5_cut 71 = .ok (.istore_n 2, 1) := by decide +kernel
theorem dX5_cut_72 : decode cX5_cut 72 = .ok (.aload_n 0, 1) := by decide +kernel
theorem dX5_cut_73 : decode cX5_cut 73 = .ok (.iload 4, 2) := by decide +kernel
theorem dX5_cut_75 : decode cX5_cut 75 = .ok (.iload_n 2, 1) := by decide +kernel
theorem dX5_cut_76 : decode cX5_cut 76 = .ok (.invokevirtual 33, 3) := by decide +kernel
theorem dX5_cut_79 : decode cX5_cut 79 = .ok (.istore_n 1, 1) := by decide +kernel
theorem dX5_cut_80 : decode cX5_cut 80 = .ok (.goto 52, 3) := by decide +kernel
theorem dX5_cut_83 : decode cX5_cut 83 = .ok (.aload_n 0, 1) := by decide +kernel
theorem dX5_cut_84 : decode cX5_cut 84 = .ok (.iload 4, 2) := by decide +kernel
theorem dX5_cut_86 : decode cX5_cut 86 = .ok (.iconst 2, 1) := by decide +kernel
theorem dX5_cut_87 : decode cX5_cut 87 = .ok (.invokevirtual 25, 3) := by decide +kernel
theorem dX5_cut_90 : decode cX5_cut 90 = .ok (.istore_n 2, 1) := by decide +kernel
theorem dX5_cut_91 : decode cX5_cut 91 = .ok (.aload_n 0, 1) := by decide +kernel
theorem dX5_cut_92 : decode cX5_cut 92 = .ok (.iload 4, 2) := by decide +kernel
theorem dX5_cut_94 : decode cX5_cut 94 = .ok (.iload_n 2, 1) := by decide +kernel
theorem dX5_cut_95 : decode cX5_cut 95 = .ok (.invokevirtual 36, 3) := by decide +kernel
theorem dX5_cut_98 : decode cX5_cut 98 = .ok (.istore_n 1, 1) := by decide +kernel
theorem dX5_cut_99 : decode cX5_cut 99 = .ok (.goto 33, 3) := by decide +kernel
theorem dX5_cut_102 : decode cX5_cut 102 = .ok (.iload 4, 2) := by decide +kernel
theorem dX5_cut_104 : decode cX5_cut 104 = .ok (.iconst 1, 1) := by decide +kernel
theorem dX5_cut_105 : decode cX5_cut 105 = .ok (.iadd, 1) := by decide +kernel
theorem dX5_cut_106 : decode cX5_cut 106 = .ok (.istore_n 2, 1) := by decide +kernel
theorem dX5_cut_107 : decode cX5_cut 107 = .ok (.aload_n 0, 1) := by decide +kernel
theorem dX5_cut_108 : decode cX5_cut 108 = .ok (.iload 4, 2) := by decide +kernel
theorem dX5_cut_110 : decode cX5_cut 110 = .ok (.invokevirtual 39, 3) := by decide +kernel
theorem dX5_cut_113 : decode cX5_cut 113 = .ok (.istore_n 1, 1) := by decide +kernel
theorem dX5_cut_114 : decode cX5_cut 114 = .ok (.goto 18, 3) := by decide +kernel
theorem dX5_cut_117 : decode cX5_cut 117 = .ok (.iload 4, 2) := by decide +kernel
theorem dX5_cut_119 : decode cX5_cut 119 = .ok (.aload_n 0, 1) := by decide +kernel
theorem dX5_cut_120 : decode cX5_cut 120 = .ok (.getfield 21, 3) := by decide +kernel
theorem dX5_cut_123 : decode cX5_cut 123 = .ok (.if_icmp .ge 7, 3) := by decide +kernel
theorem dX5_cut_126 : decode cX5_cut 126 = .ok (.iconst 2, 1) := by decide +kernel
theorem dX5_cut_127 : decode cX5_cut 127 = .ok (.goto 4, 3) := by decide +kernel
theorem dX5_cut_130 : decode cX5_cut 130 = .ok (.iconst 1, 1) := by decide +kernel
theorem dX5_cut_131 : decode cX5_cut 131 = .ok (.istore_n 1, 1) := by decide +kernel
theorem dX5_cut_132 : decode cX5_cut 132 = .ok (.aload_n 0, 1) := by decide +kernel
theorem dX5_cut_133 : decode cX5_cut 133 = .ok (.getfield 15, 3) := by decide +kernel
theorem dX5_cut_136 : decode cX5_cut 136 = .ok (.iload_n 3, 1) := by decide +kernel
theorem dX5_cut_137 : decode cX5_cut 137 = .ok (.iload_n 1, 1) := by decide +kernel
theorem dX5_cut_138 : decode cX5_cut 138 = .ok (.iastore, 1) := by decide +kernel
theorem dX5_cut_139 : decode cX5_cut 139 = .ok (.aload_n 0, 1) := by decide +kernel
theorem dX5_cut_140 : decode cX5_cut 140 = .ok (.getfield 18, 3) := by decide +kernel
theorem dX5_cut_143 : decode cX5_cut 143 = .ok (.iload_n 3, 1) := by decide +kernel
theorem dX5_cut_144 : decode cX5_cut 144 = .ok (.iload 4, 2) := by decide +kernel
theorem dX5_cut_146 : decode cX5_cut 146 = .ok (.iastore, 1) := by decide +kernel
theorem dX5_cut_147 : decode cX5_cut 147 = .ok (.iinc 3 1, 3) := by decide +kernel
theorem dX5_cut_150 : decode cX5_cut 150 = .ok (.goto (-144), 3) := by decide +kernel
theorem dX5_cut_153 : decode cX5_cut 153 = .ok (.return_, 1) := by decide +kernel
theorem dX5_behind_0 : decode cX5_behind 0 = .ok (.iload_n 1, 1) := by decide +kernel
theorem dX5_behind_1 : decode cX5_behind 1 = .ok (.istore_n 3, 1) := by decide +kernel
theorem dX5_behind_2 : decode cX5_behind 2 = .ok (.iload_n 3, 1) := by decide +kernel
theorem dX5_behind_3 : decode cX5_behind 3 = .ok (.aload_n 0, 1) := by decide +kernel
theorem dX5_behind_4 : decode cX5_behind 4 = .ok (.getfield 21, 3) := by decide +kernel
theorem dX5_behind_7 : decode cX5_behind 7 = .ok (.if_icmp .ge 18, 3) := by decide +kernel
theorem dX5_behind_10 : decode cX5_behind 10 = .ok (.aload_n 0, 1) := by decide +kernel
theorem dX5_behind_11 : decode cX5_behind 11 = .ok (.iload_n 3, 1) := by decide +kernel
theorem dX5_behind_12 : decode cX5_behind 12 = .ok (.invokevirtual 29, 3) := by decide +kernel
theorem dX5_behind_15 : decode cX5_behind 15 = .ok (.iload_n 2, 1) := by decide +kernel
theorem dX5_behind_16 : decode cX5_behind 16 = .ok (.if_icmp .ne 9, 3) := by decide +kernel
theorem dX5_behind_19 : decode cX5_behind 19 = .ok (.iinc 3 1, 3) := by decide +kernel
theorem dX5_behind_22 : decode cX5_behind 22 = .ok (.goto (-20), 3) := by decide +kernel
theorem dX5_behind_25 : decode cX5_behind 25 = .ok (.iload_n 3, 1) := by decide +kernel
theorem dX5_behind_26 : decode cX5_behind 26 = .ok (.ireturn, 1) := by decide +kernel
theorem dX5_numberToken_0 : decode cX5_numberToken 0 = .ok (.iload_n 2, 1) := by decide +kernel
theorem dX5_numberToken_1 : decode cX5_numberToken 1 = .ok (.iload_n 1, 1) := by decide +kernel
theorem dX5_numberToken_2 : decode cX5_numberToken 2 = .ok (.isub, 1) := by decide +kernel
theorem dX5_numberToken_3 : decode cX5_numberToken 3 = .ok (.iconst 4, 1) := by decide +kernel
theorem dX5_numberToken_4 : decode cX5_numberToken 4 = .ok (.if_icmp .le 5, 3) := by decide +kernel
theorem dX5_numberToken_7 : decode cX5_numberToken 7 = .ok (.iconst 2, 1) := by decide +kernel
theorem dX5_numberToken_8 : decode cX5_numberToken 8 = .ok (.ireturn, 1) := by decide +kernel
theorem dX5_numberToken_9 : decode cX5_numberToken 9 = .ok (.iconst 0, 1) := by decide +kernel
theorem dX5_numberToken_10 : decode cX5_numberToken 10 = .ok (.istore_n 3, 1) := by decide +kernel
theorem dX5_numberToken_11 : decode cX5_numberToken 11 = .ok (.iload_n 1, 1) := by decide +kernel
theorem dX5_numberToken_12 : decode cX5_numberToken 12 = .ok (.istore 4, 2) := by decide +kernel
theorem dX5_numberToken_14 : decode cX5_numberToken 14 = .ok (.iload 4, 2) := by decide +kernel
theorem dX5_numberToken_16 : decode cX5_numberToken 16 = .ok (.iload_n 2, 1) := by decide +kernel
theorem dX5_numberToken_17 : decode cX5_numberToken 17 = .ok (.if_icmp .ge 24, 3) := by decide +kernel
theorem dX5_numberToken_20 : decode cX5_numberToken 20 = .ok (.iload_n 3, 1) := by decide +kernel
theorem dX5_numberToken_21 : decode cX5_numberToken 21 = .ok (.bipush 10, 2) := by decide +kernel
theorem dX5_numberToken_23 : decode cX5_numberToken 23 = .ok (.imul, 1) := by decide +kernel
theorem dX5_numberToken_24 : decode cX5_numberToken 24 = .ok (.aload_n 0, 1) := by decide +kernel
theorem dX5_numberToken_25 : decode cX5_numberToken 25 = .ok (.iload 4, 2) := by decide +kernel
theorem dX5_numberToken_27 : decode cX5_numberToken 27 = .ok (.invokevirtual 39, 3) := by decide +kernel
theorem dX5_numberToken_30 : decode cX5_numberToken 30 = .ok (.iadd, 1) := by decide +kernel
theorem dX5_numberToken_31 : decode cX5_numberToken 31 = .ok (.bipush 48, 2) := by decide +kernel
theorem dX5_numberToken_33 : decode cX5_numberToken 33 = .ok (.isub, 1) := by decide +kernel
theorem dX5_numberToken_34 : decode cX5_numberToken 34 = .ok (.istore_n 3, 1) := by decide +kernel
theorem dX5_numberToken_35 : decode cX5_numberToken 35 = .ok (.iinc 4 1, 3) := by decide +kernel
theorem dX5_numberToken_38 : decode cX5_numberToken 38 = .ok (.goto (-24), 3) := by decide +kernel
theorem dX5_numberToken_41 : decode cX5_numberToken 41 = .ok (.sipush 1000, 3) := by decide +kernel
theorem dX5_numberToken_44 : decode cX5_numberToken 44 = .ok (.iload_n 3, 1) := by decide +kernel
theorem dX5_numberToken_45 : decode cX5_numberToken 45 = .ok (.iadd, 1) := by decide +kernel
theorem dX5_numberToken_46 : decode cX5_numberToken 46 = .ok (.ireturn, 1) := by decide +kernel
theorem dX5_wordToken_0 : decode cX5_wordToken 0 = .ok (.aload_n 0, 1) := by decide +kernel
theorem dX5_wordToken_1 : decode cX5_wordToken 1 = .ok (.ldc 42, 2) := by decide +kernel
theorem dX5_wordToken_3 : decode cX5_wordToken 3 = .ok (.iload_n 1, 1) := by decide +kernel
theorem dX5_wordToken_4 : decode cX5_wordToken 4 = .ok (.iload_n 2, 1) := by decide +kernel
theorem dX5_wordToken_5 : decode cX5_wordToken 5 = .ok (.invokevirtual 44, 3) := by decide +kernel
theorem dX5_wordToken_8 : decode cX5_wordToken 8 = .ok (.ifCond .eq 5, 3) := by decide +kernel
theorem dX5_wordToken_11 : decode cX5_wordToken 11 = .ok (.iconst 3, 1) := by decide +kernel
theorem dX5_wordToken_12 : decode cX5_wordToken 12 = .ok (.ireturn, 1) := by decide +kernel
theorem dX5_wordToken_13 : decode cX5_wordToken 13 = .ok (.aload_n 0, 1) := by decide +kernel
theorem dX5_wordToken_14 : decode cX5_wordToken 14 = .ok (.ldc 48, 2) := by decide +kernel
theorem dX5_wordToken_16 : decode cX5_wordToken 16 = .ok (.iload_n 1, 1) := by decide +kernel
theorem dX5_wordToken_17 : decode cX5_wordToken 17 = .ok (.iload_n 2, 1) := by decide +kernel
theorem dX5_wordToken_18 : decode cX5_wordToken 18 = .ok (.invokevirtual 44, 3) := by decide +kernel
theorem dX5_wordToken_21 : decode cX5_wordToken 21 = .ok (.ifCond .eq 5, 3) := by decide +kernel
theorem dX5_wordToken_24 : decode cX5_wordToken 24 = .ok (.iconst 4, 1) := by decide +kernel
theorem dX5_wordToken_25 : decode cX5_wordToken 25 = .ok (.ireturn, 1) := by decide +kernel
theorem dX5_wordToken_26 : decode cX5_wordToken 26 = .ok (.aload_n 0, 1) := by decide +kernel
theorem dX5_wordToken_27 : decode cX5_wordToken 27 = .ok (.ldc 50, 2) := by decide +kernel
theorem dX5_wordToken_29 : decode cX5_wordToken 29 = .ok (.iload_n 1, 1) := by decide +kernel
theorem dX5_wordToken_30 : decode cX5_wordToken 30 = .ok (.iload_n 2, 1) := by decide +kernel
theorem dX5_wordToken_31 : decode cX5_wordToken 31 = .ok (.invokevirtual 44, 3) := by decide +kernel
theorem dX5_wordToken_34 : decode cX5_wordToken 34 = .ok (.ifCond .eq 5, 3) := by decide +kernel
theorem dX5_wordToken_37 : decode cX5_wordToken 37 = .ok (.iconst 5, 1) := by decide +kernel
theorem dX5_wordToken_38 : decode cX5_wordToken 38 = .ok (.ireturn, 1) := by decide +kernel
theorem dX5_wordToken_39 : decode cX5_wordToken 39 = .ok (.aload_n 0, 1) := by decide +kernel
theorem dX5_wordToken_40 : decode cX5_wordToken 40 = .ok (.ldc 52, 2) := by decide +kernel
theorem dX5_wordToken_42 : decode cX5_wordToken 42 = .ok (.iload_n 1, 1) := by decide +kernel
theorem dX5_wordToken_43 : decode cX5_wordToken 43 = .ok (.iload_n 2, 1) := by decide +kernel
theorem dX5_wordToken_44 : decode cX5_wordToken 44 = .ok (.invokevirtual 44, 3) := by decide +kernel
theorem dX5_wordToken_47 : decode cX5_wordToken 47 = .ok (.ifCond .eq 6, 3) := by decide +kernel
theorem dX5_wordToken_50 : decode cX5_wordToken 50 = .ok (.bipush (-9), 2) := by decide +kernel
theorem dX5_wordToken_52 : decode cX5_wordToken 52 = .ok (.ireturn, 1) := by decide +kernel
theorem dX5_wordToken_53 : decode cX5_wordToken 53 = .ok (.aload_n 0, 1) := by decide +kernel
theorem dX5_wordToken_54 : decode cX5_wordToken 54 = .ok (.ldc 56, 2) := by decide +kernel
theorem dX5_wordToken_56 : decode cX5_wordToken 56 = .ok (.iload_n 1, 1) := by decide +kernel
theorem dX5_wordToken_57 : decode cX5_wordToken 57 = .ok (.iload_n 2, 1) := by decide +kernel
theorem dX5_wordToken_58 : decode cX5_wordToken 58 = .ok (.invokevirtual 44, 3) := by decide +kernel
theorem dX5_wordToken_61 : decode cX5_wordToken 61 = .ok (.ifCond .eq 6, 3) := by decide +kernel
theorem dX5_wordToken_64 : decode cX5_wordToken 64 = .ok (.bipush (-10), 2) := by decide +kernel
theorem dX5_wordToken_66 : decode cX5_wordToken 66 = .ok (.ireturn, 1) := by decide +kernel
theorem dX5_wordToken_67 : decode cX5_wordToken 67 = .ok (.aload_n 0, 1) := by decide +kernel
theorem dX5_wordToken_68 : decode cX5_wordToken 68 = .ok (.ldc 58, 2) := by decide +kernel
theorem dX5_wordToken_70 : decode cX5_wordToken 70 = .ok (.iload_n 1, 1) := by decide +kernel
theorem dX5_wordToken_71 : decode cX5_wordToken 71 = .ok (.iload_n 2, 1) := by decide +kernel
theorem dX5_wordToken_72 : decode cX5_wordToken 72 = .ok (.invokevirtual 44, 3) := by decide +kernel
theorem dX5_wordToken_75 : decode cX5_wordToken 75 = .ok (.ifCond .eq 6, 3) := by decide +kernel
theorem dX5_wordToken_78 : decode cX5_wordToken 78 = .ok (.bipush (-7), 2) := by decide +kernel
theorem dX5_wordToken_80 : decode cX5_wordToken 80 = .ok (.ireturn, 1) := by decide +kernel
theorem dX5_wordToken_81 : decode cX5_wordToken 81 = .ok (.aload_n 0, 1) := by decide +kernel
theorem dX5_wordToken_82 : decode cX5_wordToken 82 = .ok (.ldc 60, 2) := by decide +kernel
theorem dX5_wordToken_84 : decode cX5_wordToken 84 = .ok (.iload_n 1, 1) := by decide +kernel
theorem dX5_wordToken_85 : decode cX5_wordToken 85 = .ok (.iload_n 2, 1) := by decide +kernel
theorem dX5_wordToken_86 : decode cX5_wordToken 86 = .ok (.invokevirtual 44, 3) := by decide +kernel
theorem dX5_wordToken_89 : decode cX5_wordToken 89 = .ok (.ifCond .eq 5, 3) := by decide +kernel
theorem dX5_wordToken_92 : decode cX5_wordToken 92 = .ok (.iconst (-1), 1) := by decide +kernel
theorem dX5_wordToken_93 : decode cX5_wordToken 93 = .ok (.ireturn, 1) := by decide +kernel
theorem dX5_wordToken_94 : decode cX5_wordToken 94 = .ok (.aload_n 0, 1) := by decide +kernel
theorem dX5_wordToken_95 : decode cX5_wordToken 95 = .ok (.ldc 62, 2) := by decide +kernel
theorem dX5_wordToken_97 : decode cX5_wordToken 97 = .ok (.iload_n 1, 1) := by decide +kernel
theorem dX5_wordToken_98 : decode cX5_wordToken 98 = .ok (.iload_n 2, 1) := by decide +kernel
theorem dX5_wordToken_99 : decode cX5_wordToken 99 = .ok (.invokevirtual 44, 3) := by decide +kernel
theorem dX5_wordToken_102 : decode cX5_wordToken 102 = .ok (.ifCond .eq 6, 3) := by decide +kernel
theorem dX5_wordToken_105 : decode cX5_wordToken 105 = .ok (.bipush (-2), 2) := by decide +kernel
theorem dX5_wordToken_107 : decode cX5_wordToken 107 = .ok (.ireturn, 1) := by decide +kernel
theorem dX5_wordToken_108 : decode cX5_wordToken 108 = .ok (.aload_n 0, 1) := by decide +kernel
theorem dX5_wordToken_109 : decode cX5_wordToken 109 = .ok (.ldc 64, 2) := by decide +kernel
theorem dX5_wordToken_111 : decode cX5_wordToken 111 = .ok (.iload_n 1, 1) := by decide +kernel
theorem dX5_wordToken_112 : decode cX5_wordToken 112 = .ok (.iload_n 2, 1) := by decide +kernel
theorem dX5_wordToken_113 : decode cX5_wordToken 113 = .ok (.invokevirtual 44, 3) := by decide +kernel
theorem dX5_wordToken_116 : decode cX5_wordToken 116 = .ok (.ifCond .eq 6, 3) := by decide +kernel
theorem dX5_wordToken_119 : decode cX5_wordToken 119 = .ok (.bipush (-3), 2) := by decide +kernel
theorem dX5_wordToken_121 : decode cX5_wordToken 121 = .ok (.ireturn, 1) := by decide +kernel
theorem dX5_wordToken_122 : decode cX5_wordToken 122 = .ok (.aload_n 0, 1) := by decide +kernel
theorem dX5_wordToken_123 : decode cX5_wordToken 123 = .ok (.ldc 66, 2) := by decide +kernel
theorem dX5_wordToken_125 : decode cX5_wordToken 125 = .ok (.iload_n 1, 1) := by decide +kernel
theorem dX5_wordToken_126 : decode cX5_wordToken 126 = .ok (.iload_n 2, 1) := by decide +kernel
theorem dX5_wordToken_127 : decode cX5_wordToken 127 = .ok (.invokevirtual 44, 3) := by decide +kernel
theorem dX5_wordToken_130 : decode cX5_wordToken 130 = .ok (.ifCond .eq 6, 3) := by decide +kernel
theorem dX5_wordToken_133 : decode cX5_wordToken 133 = .ok (.bipush (-4), 2) := by decide +kernel
theorem dX5_wordToken_135 : decode cX5_wordToken 135 = .ok (.ireturn, 1) := by decide +kernel
theorem dX5_wordToken_136 : decode cX5_wordToken 136 = .ok (.aload_n 0, 1) := by decide +kernel
theorem dX5_wordToken_137 : decode cX5_wordToken 137 = .ok (.ldc 68, 2) := by decide +kernel
theorem dX5_wordToken_139 : decode cX5_wordToken 139 = .ok (.iload_n 1, 1) := by decide +kernel
theorem dX5_wordToken_140 : decode cX5_wordToken 140 = .ok (.iload_n 2, 1) := by decide +kernel
theorem dX5_wordToken_141 : decode cX5_wordToken 141 = .ok (.invokevirtual 44, 3) := by decide +kernel
theorem dX5_wordToken_144 : decode cX5_wordToken 144 = .ok (.ifCond .eq 6, 3) := by decide +kernel
theorem dX5_wordToken_147 : decode cX5_wordToken 147 = .ok (.bipush (-5), 2) := by decide +kernel
theorem dX5_wordToken_149 : decode cX5_wordToken 149 = .ok (.ireturn, 1) := by decide +kernel
theorem dX5_wordToken_150 : decode cX5_wordToken 150 = .ok (.aload_n 0, 1) := by decide +kernel
theorem dX5_wordToken_151 : decode cX5_wordToken 151 = .ok (.ldc 70, 2) := by decide +kernel
theorem dX5_wordToken_153 : decode cX5_wordToken 153 = .ok (.iload_n 1, 1) := by decide +kernel
theorem dX5_wordToken_154 : decode cX5_wordToken 154 = .ok (.iload_n 2, 1) := by decide +kernel
theorem dX5_wordToken_155 : decode cX5_wordToken 155 = .ok (.invokevirtual 44, 3) := by decide +kernel
theorem dX5_wordToken_158 : decode cX5_wordToken 158 = .ok (.ifCond .eq 6, 3) := by decide +kernel
theorem dX5_wordToken_161 : decode cX5_wordToken 161 = .ok (.bipush (-6), 2) := by decide +kernel
theorem dX5_wordToken_163 : decode cX5_wordToken 163 = .ok (.ireturn, 1) := by decide +kernel
theorem dX5_wordToken_164 : decode cX5_wordToken 164 = .ok (.iconst 2, 1) := by decide +kernel
theorem dX5_wordToken_165 : decode cX5_wordToken 165 = .ok (.ireturn, 1) := by decide +kernel
theorem dX5_isWord_0 : decode cX5_isWord 0 = .ok (.iload_n 3, 1) := by decide +kernel
theorem dX5_isWord_1 : decode cX5_isWord 1 = .ok (.iload_n 2, 1) := by decide +kernel
theorem dX5_isWord_2 : decode cX5_isWord 2 = .ok (.isub, 1) := by decide +kernel
theorem dX5_isWord_3 : decode cX5_isWord 3 = .ok (.aload_n 1, 1) := by decide +kernel
theorem dX5_isWord_4 : decode cX5_isWord 4 = .ok (.invokevirtual 72, 3) := by decide +kernel
theorem dX5_isWord_7 : decode cX5_isWord 7 = .ok (.if_icmp .eq 5, 3) := by decide +kernel
theorem dX5_isWord_10 : decode cX5_isWord 10 = .ok (.iconst 0, 1) := by decide +kernel
theorem dX5_isWord_11 : decode cX5_isWord 11 = .ok (.ireturn, 1) := by decide +kernel
theorem dX5_isWord_12 : decode cX5_isWord 12 = .ok (.iconst 0, 1) := by decide +kernel
theorem dX5_isWord_13 : decode cX5_isWord 13 = .ok (.istore 4, 2) := by decide +kernel
theorem dX5_isWord_15 : decode cX5_isWord 15 = .ok (.iload 4, 2) := by decide +kernel
theorem dX5_isWord_17 : decode cX5_isWord 17 = .ok (.aload_n 1, 1) := by decide +kernel
theorem dX5_isWord_18 : decode cX5_isWord 18 = .ok (.invokevirtual 72, 3) := by decide +kernel
theorem dX5_isWord_21 : decode cX5_isWord 21 = .ok (.if_icmp .ge 28, 3) := by decide +kernel
theorem dX5_isWord_24 : decode cX5_isWord 24 = .ok (.aload_n 0, 1) := by decide +kernel
theorem dX5_isWord_25 : decode cX5_isWord 25 = .ok (.iload_n 2, 1) := by decide +kernel
theorem dX5_isWord_26 : decode cX5_isWord 26 = .ok (.iload 4, 2) := by decide +kernel
theorem dX5_isWord_28 : decode cX5_isWord 28 = .ok (.iadd, 1) := by decide +kernel
theorem dX5_isWord_29 : decode cX5_isWord 29 = .ok (.invokevirtual 39, 3) := by decide +kernel
theorem dX5_isWord_32 : decode cX5_isWord 32 = .ok (.aload_n 1, 1) := by decide +kernel
theorem dX5_isWord_33 : decode cX5_isWord 33 = .ok (.iload 4, 2) := by decide +kernel
theorem dX5_isWord_35 : decode cX5_isWord 35 = .ok (.invokevirtual 78, 3) := by decide +kernel
theorem dX5_isWord_38 : decode cX5_isWord 38 = .ok (.if_icmp .eq 5, 3) := by decide +kernel
theorem dX5_isWord_41 : decode cX5_isWord 41 = .ok (.iconst 0, 1) := by decide +kernel
theorem dX5_isWord_42 : decode cX5_isWord 42 = .ok (.ireturn, 1) := by decide +kernel
theorem dX5_isWord_43 : decode cX5_isWord 43 = .ok (.iinc 4 1, 3) := by decide +kernel
theorem dX5_isWord_46 : decode cX5_isWord 46 = .ok (.goto (-31), 3) := by decide +kernel
theorem dX5_isWord_49 : decode cX5_isWord 49 = .ok (.iconst 1, 1) := by decide +kernel
theorem dX5_isWord_50 : decode cX5_isWord 50 = .ok (.ireturn, 1) := by decide +kernel
theorem dX5_byteAt_0 : decode cX5_byteAt 0 = .ok (.iload_n 1, 1) := by decide +kernel
theorem dX5_byteAt_1 : decode cX5_byteAt 1 = .ok (.ifCond .lt 27, 3) := by decide +kernel
theorem dX5_byteAt_4 : decode cX5_byteAt 4 = .ok (.iload_n 1, 1) := by decide +kernel
theorem dX5_byteAt_5 : decode cX5_byteAt 5 = .ok (.aload_n 0, 1) := by decide +kernel
theorem dX5_byteAt_6 : decode cX5_byteAt 6 = .ok (.getfield 21, 3) := by decide +kernel
theorem dX5_byteAt_9 : decode cX5_byteAt 9 = .ok (.if_icmp .ge 19, 3) := by decide +kernel
theorem dX5_byteAt_12 : decode cX5_byteAt 12 = .ok (.iload_n 1, 1) := by decide +kernel
theorem dX5_byteAt_13 : decode cX5_byteAt 13 = .ok (.sipush 160, 3) := by decide +kernel
theorem dX5_byteAt_16 : decode cX5_byteAt 16 = .ok (.if_icmp .ge 12, 3) := by decide +kernel
theorem dX5_byteAt_19 : decode cX5_byteAt 19 = .ok (.aload_n 0, 1) := by decide +kernel
theorem dX5_byteAt_20 : decode cX5_byteAt 20 = .ok (.getfield 9, 3) := by decide +kernel
theorem dX5_byteAt_23 : decode cX5_byteAt 23 = .ok (.iload_n 1, 1) := by decide +kernel
theorem dX5_byteAt_24 : decode cX5_byteAt 24 = .ok (.iaload, 1) := by decide +kernel
theorem dX5_byteAt_25 : decode cX5_byteAt 25 = .ok (.goto 4, 3) := by decide +kernel
theorem dX5_byteAt_28 : decode cX5_byteAt 28 = .ok (.iconst (-1), 1) := by decide +kernel
theorem dX5_byteAt_29 : decode cX5_byteAt 29 = .ok (.ireturn, 1) := by decide +kernel
theorem dX5_sortAt_0 : decode cX5_sortAt 0 = .ok (.aload_n 0, 1) := by decide +kernel
theorem dX5_sortAt_1 : decode cX5_sortAt 1 = .ok (.iload_n 1, 1) := by decide +kernel
theorem dX5_sortAt_2 : decode cX5_sortAt 2 = .ok (.invokevirtual 39, 3) := by decide +kernel
theorem dX5_sortAt_5 : decode cX5_sortAt 5 = .ok (.istore_n 2, 1) := by decide +kernel
theorem dX5_sortAt_6 : decode cX5_sortAt 6 = .ok (.iload_n 2, 1) := by decide +kernel
theorem dX5_sortAt_7 : decode cX5_sortAt 7 = .ok (.bipush 48, 2) := by decide +kernel
theorem dX5_sortAt_9 : decode cX5_sortAt 9 = .ok (.if_icmp .lt 11, 3) := by decide +kernel
theorem dX5_sortAt_12 : decode cX5_sortAt 12 = .ok (.iload_n 2, 1) := by decide +kernel
theorem dX5_sortAt_13 : decode cX5_sortAt 13 = .ok (.bipush 57, 2) := by decide +kernel
theorem dX5_sortAt_15 : decode cX5_sortAt 15 = .ok (.if_icmp .gt 5, 3) := by decide +kernel
theorem dX5_sortAt_18 : decode cX5_sortAt 18 = .ok (.iconst 1, 1) := by decide +kernel
theorem dX5_sortAt_19 : decode cX5_sortAt 19 = .ok (.ireturn, 1) := by decide +kernel
theorem dX5_sortAt_20 : decode cX5_sortAt 20 = .ok (.iload_n 2, 1) := by decide +kernel
theorem dX5_sortAt_21 : decode cX5_sortAt 21 = .ok (.bipush 97, 2) := by decide +kernel
theorem dX5_sortAt_23 : decode cX5_sortAt 23 = .ok (.if_icmp .lt 11, 3) := by decide +kernel
theorem dX5_sortAt_26 : decode cX5_sortAt 26 = .ok (.iload_n 2, 1) := by decide +kernel
theorem dX5_sortAt_27 : decode cX5_sortAt 27 = .ok (.bipush 122, 2) := by decide +kernel
theorem dX5_sortAt_29 : decode cX5_sortAt 29 = .ok (.if_icmp .gt 5, 3) := by decide +kernel
theorem dX5_sortAt_32 : decode cX5_sortAt 32 = .ok (.iconst 2, 1) := by decide +kernel
theorem dX5_sortAt_33 : decode cX5_sortAt 33 = .ok (.ireturn, 1) := by decide +kernel
theorem dX5_sortAt_34 : decode cX5_sortAt 34 = .ok (.iload_n 2, 1) := by decide +kernel
theorem dX5_sortAt_35 : decode cX5_sortAt 35 = .ok (.lookupswitch 93 #[(10, 89), (32, 89), (40, 91), (41, 91), (42, 91), (43, 91), (45, 91), (59, 91), (60, 91), (61, 91)], 89) := by decide +kernel
theorem dX5_sortAt_124 : decode cX5_sortAt 124 = .ok (.iconst 0, 1) := by decide +kernel
theorem dX5_sortAt_125 : decode cX5_sortAt 125 = .ok (.ireturn, 1) := by decide +kernel
theorem dX5_sortAt_126 : decode cX5_sortAt 126 = .ok (.iconst 3, 1) := by decide +kernel
theorem dX5_sortAt_127 : decode cX5_sortAt 127 = .ok (.ireturn, 1) := by decide +kernel
theorem dX5_sortAt_128 : decode cX5_sortAt 128 = .ok (.iconst 4, 1) := by decide +kernel
theorem dX5_sortAt_129 : decode cX5_sortAt 129 = .ok (.ireturn, 1) := by decide +kernel
theorem dX6_init_0 : decode cX6_init 0 = .ok (.aload_n 0, 1) := by decide +kernel
theorem dX6_init_1 : decode cX6_init 1 = .ok (.invokespecial 3, 3) := by decide +kernel
theorem dX6_init_4 : decode cX6_init 4 = .ok (.aload_n 0, 1) := by decide +kernel
theorem dX6_init_5 : decode cX6_init 5 = .ok (.sipush 160, 3) := by decide +kernel
theorem dX6_init_8 : decode cX6_init 8 = .ok (.newarray .int, 2) := by decide +kernel
theorem dX6_init_10 : decode cX6_init 10 = .ok (.putfield 9, 3) := by decide +kernel
theorem dX6_init_13 : decode cX6_init 13 = .ok (.aload_n 0, 1) := by decide +kernel
theorem dX6_init_14 : decode cX6_init 14 = .ok (.bipush 40, 2) := by decide +kernel
theorem dX6_init_16 : decode cX6_init 16 = .ok (.newarray .int, 2) := by decide +kernel
theorem dX6_init_18 : decode cX6_init 18 = .ok (.putfield 15, 3) := by decide +kernel
theorem dX6_init_21 : decode cX6_init 21 = .ok (.aload_n 0, 1) := by decide +kernel
theorem dX6_init_22 : decode cX6_init 22 = .ok (.iload_n 1, 1) := by decide +kernel
theorem dX6_init_23 : decode cX6_init 23 = .ok (.putfield 18, 3) := by decide +kernel
theorem dX6_init_26 : decode cX6_init 26 = .ok (.return_, 1) := by decide +kernel
theorem dX6_clear_0 : decode cX6_clear 0 = .ok (.aload_n 0, 1) := by decide +kernel
theorem dX6_clear_1 : decode cX6_clear 1 = .ok (.iconst 0, 1) := by decide +kernel
theorem dX6_clear_2 : decode cX6_clear 2 = .ok (.putfield 22, 3) := by decide +kernel
theorem dX6_clear_5 : decode cX6_clear 5 = .ok (.return_, 1) := by decide +kernel
theorem dX6_add_0 : decode cX6_add 0 = .ok (.aload_n 0, 1) := by decide +kernel
theorem dX6_add_1 : decode cX6_add 1 = .ok (.getfield 22, 3) := by decide +kernel
theorem dX6_add_4 : decode cX6_add 4 = .ok (.ifCond .lt 33, 3) := by decide +kernel
theorem dX6_add_7 : decode cX6_add 7 = .ok (.aload_n 0, 1) := by decide +kernel
theorem dX6_add_8 : decode cX6_add 8 = .ok (.getfield 22, 3) := by decide +kernel
theorem dX6_add_11 : decode cX6_add 11 = .ok (.sipush 160, 3) := by decide +kernel
theorem dX6_add_14 : decode cX6_add 14 = .ok (.if_icmp .ge 23, 3) := by decide +kernel
theorem dX6_add_17 : decode cX6_add 17 = .ok (.aload_n 0, 1) := by decide +kernel
theorem dX6_add_18 : decode cX6_add 18 = .ok (.getfield 9, 3) := by decide +kernel
theorem dX6_add_21 : decode cX6_add 21 = .ok (.aload_n 0, 1) := by decide +kernel
theorem dX6_add_22 : decode cX6_add 22 = .ok (.getfield 22, 3) := by decide +kernel
theorem dX6_add_25 : decode cX6_add 25 = .ok (.iload_n 1, 1) := by decide +kernel
theorem dX6_add_26 : decode cX6_add 26 = .ok (.iastore, 1) := by decide +kernel
theorem dX6_add_27 : decode cX6_add 27 = .ok (.aload_n 0, 1) := by decide +kernel
theorem dX6_add_28 : decode cX6_add 28 = .ok (.dup, 1) := by decide +kernel
theorem dX6_add_29 : decode cX6_add 29 = .ok (.getfield 22, 3) := by decide +kernel
theorem dX6_add_32 : decode cX6_add 32 = .ok (.iconst 1, 1) := by decide +kernel
theorem dX6_add_33 : decode cX6_add 33 = .ok (.iadd, 1) := by decide +kernel
theorem dX6_add_34 : decode cX6_add 34 = .ok (.putfield 22, 3) := by decide +kernel
theorem dX6_add_37 : decode cX6_add 37 = .ok (.return_, 1) := by decide +kernel
theorem dX6_startRaises_0 : decode cX6_startRaises 0 = .ok (.aload_n 0, 1) := by decide +kernel
theorem dX6_startRaises_1 : decode cX6_startRaises 1 = .ok (.aload_n 0, 1) := by decide +kernel
theorem dX6_startRaises_2 : decode cX6_startRaises 2 = .ok (.getfield 22, 3) := by decide +kernel
theorem dX6_startRaises_5 : decode cX6_startRaises 5 = .ok (.putfield 25, 3) := by decide +kernel
theorem dX6_startRaises_8 : decode cX6_startRaises 8 = .ok (.return_, 1) := by decide +kernel
theorem dX6_startWorth_0 : decode cX6_startWorth 0 = .ok (.aload_n 0, 1) := by decide +kernel
theorem dX6_startWorth_1 : decode cX6_startWorth 1 = .ok (.aload_n 0, 1) := by decide +kernel
theorem dX6_startWorth_2 : decode cX6_startWorth 2 = .ok (.getfield 22, 3) := by decide +kernel
theorem dX6_startWorth_5 : decode cX6_startWorth 5 = .ok (.putfield 28, 3) := by decide +kernel
theorem dX6_startWorth_8 : decode cX6_startWorth 8 = .ok (.return_, 1) := by decide +kernel
theorem dX6_strikeOn_0 : decode cX6_strikeOn 0 = .ok (.bipush 99, 2) := by decide +kernel
theorem dX6_strikeOn_2 : decode cX6_strikeOn 2 = .ok (.aload_n 0, 1) := by decide +kernel
theorem dX6_strikeOn_3 : decode cX6_strikeOn 3 = .ok (.iconst 0, 1) := by decide +kernel
theorem dX6_strikeOn_4 : decode cX6_strikeOn 4 = .ok (.aload_n 0, 1) := by decide +kernel
theorem dX6_strikeOn_5 : decode cX6_strikeOn 5 = .ok (.getfield 25, 3) := by decide +kernel
theorem dX6_strikeOn_8 : decode cX6_strikeOn 8 = .ok (.aload_n 1, 1) := by decide +kernel
theorem dX6_strikeOn_9 : decode cX6_strikeOn 9 = .ok (.aload_n 2, 1) := by decide +kernel
theorem dX6_strikeOn_10 : decode cX6_strikeOn 10 = .ok (.invokevirtual 31, 3) := by decide +kernel
theorem dX6_strikeOn_13 : decode cX6_strikeOn 13 = .ok (.invokestatic 35, 3) := by decide +kernel
theorem dX6_strikeOn_16 : decode cX6_strikeOn 16 = .ok (.ireturn, 1) := by decide +kernel
theorem dX6_raiseOf_0 : decode cX6_raiseOf 0 = .ok (.bipush 20, 2) := by decide +kernel
theorem dX6_raiseOf_2 : decode cX6_raiseOf 2 = .ok (.aload_n 0, 1) := by decide +kernel
theorem dX6_raiseOf_3 : decode cX6_raiseOf 3 = .ok (.aload_n 0, 1) := by decide +kernel
theorem dX6_raiseOf_4 : decode cX6_raiseOf 4 = .ok (.getfield 25, 3) := by decide +kernel
theorem dX6_raiseOf_7 : decode cX6_raiseOf 7 = .ok (.aload_n 0, 1) := by decide +kernel
theorem dX6_raiseOf_8 : decode cX6_raiseOf 8 = .ok (.getfield 28, 3) := by decide +kernel
theorem dX6_raiseOf_11 : decode cX6_raiseOf 11 = .ok (.aload_n 1, 1) := by decide +kernel
theorem dX6_raiseOf_12 : decode cX6_raiseOf 12 = .ok (.aload_n 2, 1) := by decide +kernel
theorem dX6_raiseOf_13 : decode cX6_raiseOf 13 = .ok (.invokevirtual 31, 3) := by decide +kernel
theorem dX6_raiseOf_16 : decode cX6_raiseOf 16 = .ok (.invokestatic 35, 3) := by decide +kernel
theorem dX6_raiseOf_19 : decode cX6_raiseOf 19 = .ok (.ireturn, 1) := by decide +kernel
theorem dX6_worthOf_0 : decode cX6_worthOf 0 = .ok (.bipush 99, 2) := by decide +kernel
theorem dX6_worthOf_2 : decode cX6_worthOf 2 = .ok (.aload_n 0, 1) := by decide +kernel
theorem dX6_worthOf_3 : decode cX6_worthOf 3 = .ok (.aload_n 0, 1) := by decide +kernel
theorem dX6_worthOf_4 : decode cX6_worthOf 4 = .ok (.getfield 28, 3) := by decide +kernel
theorem dX6_worthOf_7 : decode cX6_worthOf 7 = .ok (.aload_n 0, 1) := by decide +kernel
theorem dX6_worthOf_8 : decode cX6_worthOf 8 = .ok (.getfield 22, 3) := by decide +kernel
theorem dX6_worthOf_11 : decode cX6_worthOf 11 = .ok (.aload_n 1, 1) := by decide +kernel
theorem dX6_worthOf_12 : decode cX6_worthOf 12 = .ok (.aload_n 2, 1) := by decide +kernel
theorem dX6_worthOf_13 : decode cX6_worthOf 13 = .ok (.invokevirtual 31, 3) := by decide +kernel
theorem dX6_worthOf_16 : decode cX6_worthOf 16 = .ok (.invokestatic 35, 3) := by decide +kernel
theorem dX6_worthOf_19 : decode cX6_worthOf 19 = .ok (.ireturn, 1) := by decide +kernel
theorem dX6_tell_0 : decode cX6_tell 0 = .ok (.aload_n 0, 1) := by decide +kernel
theorem dX6_tell_1 : decode cX6_tell 1 = .ok (.iconst 0, 1) := by decide +kernel
theorem dX6_tell_2 : decode cX6_tell 2 = .ok (.putfield 41, 3) := by decide +kernel
theorem dX6_tell_5 : decode cX6_tell 5 = .ok (.iload_n 1, 1) := by decide +kernel
theorem dX6_tell_6 : decode cX6_tell 6 = .ok (.istore 5, 2) := by decide +kernel
theorem dX6_tell_8 : decode cX6_tell 8 = .ok (.iload 5, 2) := by decide +kernel
theorem dX6_tell_10 : decode cX6_tell 10 = .ok (.ifCond .lt 135, 3) := by decide +kernel
theorem dX6_tell_13 : decode cX6_tell 13 = .ok (.iload 5, 2) := by decide +kernel
theorem dX6_tell_15 : decode cX6_tell 15 = .ok (.iload_n 2, 1) := by decide +kernel
theorem dX6_tell_16 : decode cX6_tell 16 = .ok (.if_icmp .ge 129, 3) := by decide +kernel
theorem dX6_tell_19 : decode cX6_tell 19 = .ok (.iload 5, 2) := by decide +kernel
theorem dX6_tell_21 : decode cX6_tell 21 = .ok (.sipush 160, 3) := by decide +kernel
theorem dX6_tell_24 : decode cX6_tell 24 = .ok (.if_icmp .ge 121, 3) := by decide +kernel
theorem dX6_tell_27 : decode cX6_tell 27 = .ok (.aload_n 0, 1) := by decide +kernel
theorem dX6_tell_28 : decode cX6_tell 28 = .ok (.getfield 9, 3) := by decide +kernel
theorem dX6_tell_31 : decode cX6_tell 31 = .ok (.iload 5, 2) := by decide +kernel
theorem dX6_tell_33 : decode cX6_tell 33 = .ok (.iaload, 1) := by decide +kernel
theorem dX6_tell_34 : decode cX6_tell 34 = .ok (.istore 6, 2) := by decide +kernel
theorem dX6_tell_36 : decode cX6_tell 36 = .ok (.iload 6, 2) := by decide +kernel
theorem dX6_tell_38 : decode cX6_tell 38 = .ok (.ifCond .lt 12, 3) := by decide +kernel
theorem dX6_tell_41 : decode cX6_tell 41 = .ok (.aload_n 0, 1) := by decide +kernel
theorem dX6_tell_42 : decode cX6_tell 42 = .ok (.iload 6, 2) := by decide +kernel
theorem dX6_tell_44 : decode cX6_tell 44 = .ok (.invokevirtual 44, 3) := by decide +kernel
theorem dX6_tell_47 : decode cX6_tell 47 = .ok (.goto 92, 3) := by decide +kernel
theorem dX6_tell_50 : decode cX6_tell 50 = .ok (.iload 6, 2) := by decide +kernel
theorem dX6_tell_52 : decode cX6_tell 52 = .ok (.bipush (-6), 2) := by decide +kernel
theorem dX6_tell_54 : decode cX6_tell 54 = .ok (.if_icmp .lt 18, 3) := by decide +kernel
theorem dX6_tell_57 : decode cX6_tell 57 = .ok (.aload_n 0, 1) := by decide +kernel
theorem dX6_tell_58 : decode cX6_tell 58 = .ok (.iload 6, 2) := by decide +kernel
theorem dX6_tell_60 : decode cX6_tell 60 = .ok (.aload_n 3, 1) := by decide +kernel
theorem dX6_tell_61 : decode cX6_tell 61 = .ok (.aload 4, 2) := by decide +kernel
theorem dX6_tell_63 : decode cX6_tell 63 = .ok (.invokestatic 48, 3) := by decide +kernel
theorem dX6_tell_66 : decode cX6_tell 66 = .ok (.invokevirtual 44, 3) := by decide +kernel
theorem dX6_tell_69 : decode cX6_tell 69 = .ok (.goto 70, 3) := by decide +kernel
theorem dX6_tell_72 : decode cX6_tell 72 = .ok (.iload 6, 2) := by decide +kernel
theorem dX6_tell_74 : decode cX6_tell 74 = .ok (.bipush (-8), 2) := by decide +kernel
theorem dX6_tell_76 : decode cX6_tell 76 = .ok (.if_icmp .lt 42, 3) := by decide +kernel
theorem dX6_tell_79 : decode cX6_tell 79 = .ok (.aload_n 0, 1) := by decide +kernel
theorem dX6_tell_80 : decode cX6_tell 80 = .ok (.invokevirtual 52, 3) := by decide +kernel
theorem dX6_tell_83 : decode cX6_tell 83 = .ok (.istore 7, 2) := by decide +kernel
theorem dX6_tell_85 : decode cX6_tell 85 = .ok (.aload_n 0, 1) := by decide +kernel
theorem dX6_tell_86 : decode cX6_tell 86 = .ok (.iload 6, 2) := by decide +kernel
theorem dX6_tell_88 : decode cX6_tell 88 = .ok (.bipush (-8), 2) := by decide +kernel
theorem dX6_tell_90 : decode cX6_tell 90 = .ok (.if_icmp .ne 9, 3) := by decide +kernel
theorem dX6_tell_93 : decode cX6_tell 93 = .ok (.iload 7, 2) := by decide +kernel
theorem dX6_tell_95 : decode cX6_tell 95 = .ok (.ineg, 1) := by decide +kernel
theorem dX6_tell_96 : decode cX6_tell 96 = .ok (.goto 16, 3) := by decide +kernel
theorem dX6_tell_99 : decode cX6_tell 99 = .ok (.iload 7, 2) := by decide +kernel
theorem dX6_tell_101 : decode cX6_tell 101 = .ok (.ifCond .ne 7, 3) := by decide +kernel
theorem dX6_tell_104 : decode cX6_tell 104 = .ok (.iconst 1, 1) := by decide +kernel
theorem dX6_tell_105 : decode cX6_tell 105 = .ok (.goto 4, 3) := by decide +kernel
theorem dX6_tell_108 : decode cX6_tell 108 = .ok (.iconst 0, 1) := by decide +kernel
theorem dX6_tell_109 : decode cX6_tell 109 = .ok (.invokestatic 56, 3) := by decide +kernel
theorem dX6_tell_112 : decode cX6_tell 112 = .ok (.invokevirtual 44, 3) := by decide +kernel
theorem dX6_tell_115 : decode cX6_tell 115 = .ok (.goto 24, 3) := by decide +kernel
theorem dX6_tell_118 : decode cX6_tell 118 = .ok (.aload_n 0, 1) := by decide +kernel
theorem dX6_tell_119 : decode cX6_tell 119 = .ok (.invokevirtual 52, 3) := by decide +kernel
theorem dX6_tell_122 : decode cX6_tell 122 = .ok (.istore 7, 2) := by decide +kernel
theorem dX6_tell_124 : decode cX6_tell 124 = .ok (.aload_n 0, 1) := by decide +kernel
theorem dX6_tell_125 : decode cX6_tell 125 = .ok (.iload 6, 2) := by decide +kernel
theorem dX6_tell_127 : decode cX6_tell 127 = .ok (.aload_n 0, 1) := by decide +kernel
theorem dX6_tell_128 : decode cX6_tell 128 = .ok (.invokevirtual 52, 3) := by decide +kernel
theorem dX6_tell_131 : decode cX6_tell 131 = .ok (.iload 7, 2) := by decide +kernel
theorem dX6_tell_133 : decode cX6_tell 133 = .ok (.invokestatic 60, 3) := by decide +kernel
theorem dX6_tell_136 : decode cX6_tell 136 = .ok (.invokevirtual 44, 3) := by decide +kernel
theorem dX6_tell_139 : decode cX6_tell 139 = .ok (.iinc 5 1, 3) := by decide +kernel
theorem dX6_tell_142 : decode cX6_tell 142 = .ok (.goto (-134), 3) := by decide +kernel
theorem dX6_tell_145 : decode cX6_tell 145 = .ok (.iconst 0, 1) := by decide +kernel
theorem dX6_tell_146 : decode cX6_tell 146 = .ok (.aload_n 0, 1) := by decide +kernel
theorem dX6_tell_147 : decode cX6_tell 147 = .ok (.invokevirtual 52, 3) := by decide +kernel
theorem dX6_tell_150 : decode cX6_tell 150 = .ok (.invokestatic 64, 3) := by decide +kernel
theorem dX6_tell_153 : decode cX6_tell 153 = .ok (.ireturn, 1) := by decide +kernel
theorem dX6_push_0 : decode cX6_push 0 = .ok (.aload_n 0, 1) := by decide +kernel
theorem dX6_push_1 : decode cX6_push 1 = .ok (.getfield 41, 3) := by decide +kernel
theorem dX6_push_4 : decode cX6_push 4 = .ok (.ifCond .lt 32, 3) := by decide +kernel
theorem dX6_push_7 : decode cX6_push 7 = .ok (.aload_n 0, 1) := by decide +kernel
theorem dX6_push_8 : decode cX6_push 8 = .ok (.getfield 41, 3) := by decide +kernel
theorem dX6_push_11 : decode cX6_push 11 = .ok (.bipush 40, 2) := by decide +kernel
theorem dX6_push_13 : decode cX6_push 13 = .ok (.if_icmp .ge 23, 3) := by decide +kernel
theorem dX6_push_16 : decode cX6_push 16 = .ok (.aload_n 0, 1) := by decide +kernel
theorem dX6_push_17 : decode cX6_push 17 = .ok (.getfield 15, 3) := by decide +kernel
theorem dX6_push_20 : decode cX6_push 20 = .ok (.aload_n 0, 1) := by decide +kernel
theorem dX6_push_21 : decode cX6_push 21 = .ok (.getfield 41, 3) := by decide +kernel
theorem dX6_push_24 : decode cX6_push 24 = .ok (.iload_n 1, 1) := by decide +kernel
theorem dX6_push_25 : decode cX6_push 25 = .ok (.iastore, 1) := by decide +kernel
theorem dX6_push_26 : decode cX6_push 26 = .ok (.aload_n 0, 1) := by decide +kernel
theorem dX6_push_27 : decode cX6_push 27 = .ok (.dup, 1) := by decide +kernel
theorem dX6_push_28 : decode cX6_push 28 = .ok (.getfield 41, 3) := by decide +kernel
theorem dX6_push_31 : decode cX6_push 31 = .ok (.iconst 1, 1) := by decide +kernel
theorem dX6_push_32 : decode cX6_push 32 = .ok (.iadd, 1) := by decide +kernel
theorem dX6_push_33 : decode cX6_push 33 = .ok (.putfield 41, 3) := by decide +kernel
theorem dX6_push_36 : decode cX6_push 36 = .ok (.return_, 1) := by decide +kernel
theorem dX6_pop_0 : decode cX6_pop 0 = .ok (.aload_n 0, 1) := by decide +kernel
theorem dX6_pop_1 : decode cX6_pop 1 = .ok (.getfield 41, 3) := by decide +kernel
theorem dX6_pop_4 : decode cX6_pop 4 = .ok (.iconst 1, 1) := by decide +kernel
theorem dX6_pop_5 : decode cX6_pop 5 = .ok (.if_icmp .lt 12, 3) := by decide +kernel
theorem dX6_pop_8 : decode cX6_pop 8 = .ok (.aload_n 0, 1) := by decide +kernel
theorem dX6_pop_9 : decode cX6_pop 9 = .ok (.getfield 41, 3) := by decide +kernel
theorem dX6_pop_12 : decode cX6_pop 12 = .ok (.bipush 40, 2) := by decide +kernel
theorem dX6_pop_14 : decode cX6_pop 14 = .ok (.if_icmp .le 5, 3) := by decide +kernel
theorem dX6_pop_17 : decode cX6_pop 17 = .ok (.iconst 0, 1) := by decide +kernel
theorem dX6_pop_18 : decode cX6_pop 18 = .ok (.ireturn, 1) := by decide +kernel
theorem dX6_pop_19 : decode cX6_pop 19 = .ok (.aload_n 0, 1) := by decide +kernel
theorem dX6_pop_20 : decode cX6_pop 20 = .ok (.dup, 1) := by decide +kernel
theorem dX6_pop_21 : decode cX6_pop 21 = .ok (.getfield 41, 3) := by decide +kernel
theorem dX6_pop_24 : decode cX6_pop 24 = .ok (.iconst 1, 1) := by decide +kernel
theorem dX6_pop_25 : decode cX6_pop 25 = .ok (.isub, 1) := by decide +kernel
theorem dX6_pop_26 : decode cX6_pop 26 = .ok (.putfield 41, 3) := by decide +kernel
theorem dX6_pop_29 : decode cX6_pop 29 = .ok (.aload_n 0, 1) := by decide +kernel
theorem dX6_pop_30 : decode cX6_pop 30 = .ok (.getfield 15, 3) := by decide +kernel
theorem dX6_pop_33 : decode cX6_pop 33 = .ok (.aload_n 0, 1) := by decide +kernel
theorem dX6_pop_34 : decode cX6_pop 34 = .ok (.getfield 41, 3) := by decide +kernel
theorem dX6_pop_37 : decode cX6_pop 37 = .ok (.iaload, 1) := by decide +kernel
theorem dX6_pop_38 : decode cX6_pop 38 = .ok (.ireturn, 1) := by decide +kernel
theorem dX6_named_0 : decode cX6_named 0 = .ok (.iload_n 0, 1) := by decide +kernel
theorem dX6_named_1 : decode cX6_named 1 = .ok (.tableswitch 60 (-5) (-1) #[55, 50, 45, 40, 35], 35) := by decide +kernel
theorem dX6_named_36 : decode cX6_named 36 = .ok (.aload_n 1, 1) := by decide +kernel
theorem dX6_named_37 : decode cX6_named 37 = .ok (.getfield 67, 3) := by decide +kernel
theorem dX6_named_40 : decode cX6_named 40 = .ok (.ireturn, 1) := by decide +kernel
theorem dX6_named_41 : decode cX6_named 41 = .ok (.aload_n 1, 1) := by decide +kernel
theorem dX6_named_42 : decode cX6_named 42 = .ok (.getfield 72, 3) := by decide +kernel
theorem dX6_named_45 : decode cX6_named 45 = .ok (.ireturn, 1) := by decide +kernel
theorem dX6_named_46 : decode cX6_named 46 = .ok (.aload_n 2, 1) := by decide +kernel
theorem dX6_named_47 : decode cX6_named 47 = .ok (.getfield 75, 3) := by decide +kernel
theorem dX6_named_50 : decode cX6_named 50 = .ok (.ireturn, 1) := by decide +kernel
theorem dX6_named_51 : decode cX6_named 51 = .ok (.aload_n 2, 1) := by decide +kernel
theorem dX6_named_52 : decode cX6_named 52 = .ok (.getfield 80, 3) := by decide +kernel
theorem dX6_named_55 : decode cX6_named 55 = .ok (.ireturn, 1) := by decide +kernel
theorem dX6_named_56 : decode cX6_named 56 = .ok (.aload_n 2, 1) := by decide +kernel
theorem dX6_named_57 : decode cX6_named 57 = .ok (.getfield 83, 3) := by decide +kernel
theorem dX6_named_60 : decode cX6_named 60 = .ok (.ireturn, 1) := by decide +kernel
theorem dX6_named_61 : decode cX6_named 61 = .ok (.aload_n 1, 1) := by decide +kernel
theorem dX6_named_62 : decode cX6_named 62 = .ok (.aload_n 2, 1) := by decide +kernel
theorem dX6_named_63 : decode cX6_named 63 = .ok (.invokevirtual 86, 3) := by decide +kernel
theorem dX6_named_66 : decode cX6_named 66 = .ok (.ireturn, 1) := by decide +kernel
theorem dX6_joined_0 : decode cX6_joined 0 = .ok (.iload_n 0, 1) := by decide +kernel
theorem dX6_joined_1 : decode cX6_joined 1 = .ok (.tableswitch 109 (-14) (-9) #[105, 101, 87, 73, 56, 39], 39) := by decide +kernel
theorem dX6_joined_40 : decode cX6_joined 40 = .ok (.iload_n 1, 1) := by decide +kernel
theorem dX6_joined_41 : decode cX6_joined 41 = .ok (.ifCond .ne 7, 3) := by decide +kernel
theorem dX6_joined_44 : decode cX6_joined 44 = .ok (.iload_n 2, 1) := by decide +kernel
theorem dX6_joined_45 : decode cX6_joined 45 = .ok (.ifCond .eq 7, 3) := by decide +kernel
theorem dX6_joined_48 : decode cX6_joined 48 = .ok (.iconst 1, 1) := by decide +kernel
theorem dX6_joined_49 : decode cX6_joined 49 = .ok (.goto 4, 3) := by decide +kernel
theorem dX6_joined_52 : decode cX6_joined 52 = .ok (.iconst 0, 1) := by decide +kernel
theorem dX6_joined_53 : decode cX6_joined 53 = .ok (.invokestatic 56, 3) := by decide +kernel
theorem dX6_joined_56 : decode cX6_joined 56 = .ok (.ireturn, 1) := by decide +kernel
theorem dX6_joined_57 : decode cX6_joined 57 = .ok (.iload_n 1, 1) := by decide +kernel
theorem dX6_joined_58 : decode cX6_joined 58 = .ok (.ifCond .eq 11, 3) := by decide +kernel
theorem dX6_joined_61 : decode cX6_joined 61 = .ok (.iload_n 2, 1) := by decide +kernel
theorem dX6_joined_62 : decode cX6_joined 62 = .ok (.ifCond .eq 7, 3) := by decide +kernel
theorem dX6_joined_65 : decode cX6_joined 65 = .ok (.iconst 1, 1) := by decide +kernel
theorem dX6_joined_66 : decode cX6_joined 66 = .ok (.goto 4, 3) := by decide +kernel
theorem dX6_joined_69 : decode cX6_joined 69 = .ok (.iconst 0, 1) := by decide +kernel
theorem dX6_joined_70 : decode cX6_joined 70 = .ok (.invokestatic 56, 3) := by decide +kernel
theorem dX6_joined_73 : decode cX6_joined 73 = .ok (.ireturn, 1) := by decide +kernel
theorem dX6_joined_74 : decode cX6_joined 74 = .ok (.iload_n 1, 1) := by decide +kernel
theorem dX6_joined_75 : decode cX6_joined 75 = .ok (.iload_n 2, 1) := by decide +kernel
theorem dX6_joined_76 : decode cX6_joined 76 = .ok (.if_icmp .ge 7, 3) := by decide +kernel
theorem dX6_joined_79 : decode cX6_joined 79 = .ok (.iconst 1, 1) := by decide +kernel
theorem dX6_joined_80 : decode cX6_joined 80 = .ok (.goto 4, 3) := by decide +kernel
theorem dX6_joined_83 : decode cX6_joined 83 = .ok (.iconst 0, 1) := by decide +kernel
theorem dX6_joined_84 : decode cX6_joined 84 = .ok (.invokestatic 56, 3) := by decide +kernel
theorem dX6_joined_87 : decode cX6_joined 87 = .ok (.ireturn, 1) := by decide +kernel
theorem dX6_joined_88 : decode cX6_joined 88 = .ok (.iload_n 1, 1) := by decide +kernel
theorem dX6_joined_89 : decode cX6_joined 89 = .ok (.iload_n 2, 1) := by decide +kernel
theorem dX6_joined_90 : decode cX6_joined 90 = .ok (.if_icmp .ne 7, 3) := by decide +kernel
theorem dX6_joined_93 : decode cX6_joined 93 = .ok (.iconst 1, 1) := by decide +kernel
theorem dX6_joined_94 : decode cX6_joined 94 = .ok (.goto 4, 3) := by decide +kernel
theorem dX6_joined_97 : decode cX6_joined 97 = .ok (.iconst 0, 1) := by decide +kernel
theorem dX6_joined_98 : decode cX6_joined 98 = .ok (.invokestatic 56, 3) := by decide +kernel
theorem dX6_joined_101 : decode cX6_joined 101 = .ok (.ireturn, 1) := by decide +kernel
theorem dX6_joined_102 : decode cX6_joined 102 = .ok (.iload_n 1, 1) := by decide +kernel
theorem dX6_joined_103 : decode cX6_joined 103 = .ok (.iload_n 2, 1) := by decide +kernel
theorem dX6_joined_104 : decode cX6_joined 104 = .ok (.iadd, 1) := by decide +kernel
theorem dX6_joined_105 : decode cX6_joined 105 = .ok (.ireturn, 1) := by decide +kernel
theorem dX6_joined_106 : decode cX6_joined 106 = .ok (.iload_n 1, 1) := by decide +kernel
theorem dX6_joined_107 : decode cX6_joined 107 = .ok (.iload_n 2, 1) := by decide +kernel
theorem dX6_joined_108 : decode cX6_joined 108 = .ok (.isub, 1) := by decide +kernel
theorem dX6_joined_109 : decode cX6_joined 109 = .ok (.ireturn, 1) := by decide +kernel
theorem dX6_joined_110 : decode cX6_joined 110 = .ok (.iload_n 1, 1) := by decide +kernel
theorem dX6_joined_111 : decode cX6_joined 111 = .ok (.iload_n 2, 1) := by decide +kernel
theorem dX6_joined_112 : decode cX6_joined 112 = .ok (.imul, 1) := by decide +kernel
theorem dX6_joined_113 : decode cX6_joined 113 = .ok (.ireturn, 1) := by decide +kernel
theorem dX6_truth_0 : decode cX6_truth 0 = .ok (.iload_n 0, 1) := by decide +kernel
theorem dX6_truth_1 : decode cX6_truth 1 = .ok (.ifCond .eq 7, 3) := by decide +kernel
theorem dX6_truth_4 : decode cX6_truth 4 = .ok (.iconst 1, 1) := by decide +kernel
theorem dX6_truth_5 : decode cX6_truth 5 = .ok (.goto 4, 3) := by decide +kernel
theorem dX6_truth_8 : decode cX6_truth 8 = .ok (.iconst 0, 1) := by decide +kernel
theorem dX6_truth_9 : decode cX6_truth 9 = .ok (.ireturn, 1) := by decide +kernel
end
section
theorem dX7_init_0 : decode cX7_init 0 = .ok (.aload_n 0, 1) := by decide +kernel
theorem dX7_init_1 : decode cX7_init 1 = .ok (.invokespecial 1, 3) := by decide +kernel
theorem dX7_init_4 : decode cX7_init 4 = .ok (.aload_n 0, 1) := by decide +kernel
theorem dX7_init_5 : decode cX7_init 5 = .ok (.new 7, 3) := by decide +kernel
theorem dX7_init_8 : decode cX7_init 8 = .ok (.dup, 1) := by decide +kernel
theorem dX7_init_9 : decode cX7_init 9 = .ok (.invokespecial 9, 3) := by decide +kernel
theorem dX7_init_12 : decode cX7_init 12 = .ok (.putfield 10, 3) := by decide +kernel
theorem dX7_init_15 : decode cX7_init 15 = .ok (.aload_n 0, 1) := by decide +kernel
theorem dX7_init_16 : decode cX7_init 16 = .ok (.new 16, 3) := by decide +kernel
theorem dX7_init_19 : decode cX7_init 19 = .ok (.dup, 1) := by decide +kernel
theorem dX7_init_20 : decode cX7_init 20 = .ok (.aload_n 0, 1) := by decide +kernel
theorem dX7_init_21 : decode cX7_init 21 = .ok (.getfield 10, 3) := by decide +kernel
theorem dX7_init_24 : decode cX7_init 24 = .ok (.invokespecial 18, 3) := by decide +kernel
theorem dX7_init_27 : decode cX7_init 27 = .ok (.putfield 21, 3) := by decide +kernel
theorem dX7_init_30 : decode cX7_init 30 = .ok (.aload_n 0, 1) := by decide +kernel
theorem dX7_init_31 : decode cX7_init 31 = .ok (.bipush 6, 2) := by decide +kernel
theorem dX7_init_33 : decode cX7_init 33 = .ok (.anewarray 25, 3) := by decide +kernel
theorem dX7_init_36 : decode cX7_init 36 = .ok (.putfield 27, 3) := by decide +kernel
theorem dX7_init_39 : decode cX7_init 39 = .ok (.aload_n 0, 1) := by decide +kernel
theorem dX7_init_40 : decode cX7_init 40 = .ok (.iconst 4, 1) := by decide +kernel
theorem dX7_init_41 : decode cX7_init 41 = .ok (.anewarray 31, 3) := by decide +kernel
theorem dX7_init_44 : decode cX7_init 44 = .ok (.putfield 33, 3) := by decide +kernel
theorem dX7_init_47 : decode cX7_init 47 = .ok (.iconst 0, 1) := by decide +kernel
theorem dX7_init_48 : decode cX7_init 48 = .ok (.istore_n 1, 1) := by decide +kernel
theorem dX7_init_49 : decode cX7_init 49 = .ok (.iload_n 1, 1) := by decide +kernel
theorem dX7_init_50 : decode cX7_init 50 = .ok (.bipush 6, 2) := by decide +kernel
theorem dX7_init_52 : decode cX7_init 52 = .ok (.if_icmp .ge 23, 3) := by decide +kernel
theorem dX7_init_55 : decode cX7_init 55 = .ok (.aload_n 0, 1) := by decide +kernel
theorem dX7_init_56 : decode cX7_init 56 = .ok (.getfield 27, 3) := by decide +kernel
theorem dX7_init_59 : decode cX7_init 59 = .ok (.iload_n 1, 1) := by decide +kernel
theorem dX7_init_60 : decode cX7_init 60 = .ok (.new 25, 3) := by decide +kernel
theorem dX7_init_63 : decode cX7_init 63 = .ok (.dup, 1) := by decide +kernel
theorem dX7_init_64 : decode cX7_init 64 = .ok (.iload_n 1, 1) := by decide +kernel
theorem dX7_init_65 : decode cX7_init 65 = .ok (.invokespecial 37, 3) := by decide +kernel
theorem dX7_init_68 : decode cX7_init 68 = .ok (.aastore, 1) := by decide +kernel
theorem dX7_init_69 : decode cX7_init 69 = .ok (.iinc 1 1, 3) := by decide +kernel
theorem dX7_init_72 : decode cX7_init 72 = .ok (.goto (-23), 3) := by decide +kernel
theorem dX7_init_75 : decode cX7_init 75 = .ok (.iconst 0, 1) := by decide +kernel
theorem dX7_init_76 : decode cX7_init 76 = .ok (.istore_n 1, 1) := by decide +kernel
theorem dX7_init_77 : decode cX7_init 77 = .ok (.iload_n 1, 1) := by decide +kernel
theorem dX7_init_78 : decode cX7_init 78 = .ok (.iconst 4, 1) := by decide +kernel
theorem dX7_init_79 : decode cX7_init 79 = .ok (.if_icmp .ge 22, 3) := by decide +kernel
theorem dX7_init_82 : decode cX7_init 82 = .ok (.aload_n 0, 1) := by decide +kernel
theorem dX7_init_83 : decode cX7_init 83 = .ok (.getfield 33, 3) := by decide +kernel
theorem dX7_init_86 : decode cX7_init 86 = .ok (.iload_n 1, 1) := by decide +kernel
theorem dX7_init_87 : decode cX7_init 87 = .ok (.new 31, 3) := by decide +kernel
theorem dX7_init_90 : decode cX7_init 90 = .ok (.dup, 1) := by decide +kernel
theorem dX7_init_91 : decode cX7_init 91 = .ok (.invokespecial 40, 3) := by decide +kernel
theorem dX7_init_94 : decode cX7_init 94 = .ok (.aastore, 1) := by decide +kernel
theorem dX7_init_95 : decode cX7_init 95 = .ok (.iinc 1 1, 3) := by decide +kernel
theorem dX7_init_98 : decode cX7_init 98 = .ok (.goto (-21), 3) := by decide +kernel
theorem dX7_init_101 : decode cX7_init 101 = .ok (.iconst 0, 1) := by decide +kernel
theorem dX7_init_102 : decode cX7_init 102 = .ok (.istore_n 1, 1) := by decide +kernel
theorem dX7_init_103 : decode cX7_init 103 = .ok (.iload_n 1, 1) := by decide +kernel
theorem dX7_init_104 : decode cX7_init 104 = .ok (.ldc 41, 2) := by decide +kernel
theorem dX7_init_106 : decode cX7_init 106 = .ok (.invokevirtual 43, 3) := by decide +kernel
theorem dX7_init_109 : decode cX7_init 109 = .ok (.if_icmp .ge 23, 3) := by decide +kernel
theorem dX7_init_112 : decode cX7_init 112 = .ok (.aload_n 0, 1) := by decide +kernel
theorem dX7_init_113 : decode cX7_init 113 = .ok (.getfield 10, 3) := by decide +kernel
theorem dX7_init_116 : decode cX7_init 116 = .ok (.ldc 41, 2) := by decide +kernel
theorem dX7_init_118 : decode cX7_init 118 = .ok (.iload_n 1, 1) := by decide +kernel
theorem dX7_init_119 : decode cX7_init 119 = .ok (.invokevirtual 49, 3) := by decide +kernel
theorem dX7_init_122 : decode cX7_init 122 = .ok (.invokevirtual 53, 3) := by decide +kernel
theorem dX7_init_125 : decode cX7_init 125 = .ok (.pop, 1) := by decide +kernel
theorem dX7_init_126 : decode cX7_init 126 = .ok (.iinc 1 1, 3) := by decide +kernel
theorem dX7_init_129 : decode cX7_init 129 = .ok (.goto (-26), 3) := by decide +kernel
theorem dX7_init_132 : decode cX7_init 132 = .ok (.aload_n 0, 1) := by decide +kernel
theorem dX7_init_133 : decode cX7_init 133 = .ok (.getfield 21, 3) := by decide +kernel
theorem dX7_init_136 : decode cX7_init 136 = .ok (.aload_n 0, 1) := by decide +kernel
theorem dX7_init_137 : decode cX7_init 137 = .ok (.getfield 27, 3) := by decide +kernel
theorem dX7_init_140 : decode cX7_init 140 = .ok (.iconst 0, 1) := by decide +kernel
theorem dX7_init_141 : decode cX7_init 141 = .ok (.aaload, 1) := by decide +kernel
theorem dX7_init_142 : decode cX7_init 142 = .ok (.invokevirtual 57, 3) := by decide +kernel
theorem dX7_init_145 : decode cX7_init 145 = .ok (.pop, 1) := by decide +kernel
theorem dX7_init_146 : decode cX7_init 146 = .ok (.aload_n 0, 1) := by decide +kernel
theorem dX7_init_147 : decode cX7_init 147 = .ok (.getfield 10, 3) := by decide +kernel
theorem dX7_init_150 : decode cX7_init 150 = .ok (.invokevirtual 61, 3) := by decide +kernel
theorem dX7_init_153 : decode cX7_init 153 = .ok (.aload_n 0, 1) := by decide +kernel
theorem dX7_init_154 : decode cX7_init 154 = .ok (.iconst 1, 1) := by decide +kernel
theorem dX7_init_155 : decode cX7_init 155 = .ok (.putfield 64, 3) := by decide +kernel
theorem dX7_init_158 : decode cX7_init 158 = .ok (.aload_n 0, 1) := by decide +kernel
theorem dX7_init_159 : decode cX7_init 159 = .ok (.new 68, 3) := by decide +kernel
theorem dX7_init_162 : decode cX7_init 162 = .ok (.dup, 1) := by decide +kernel
theorem dX7_init_163 : decode cX7_init 163 = .ok (.aload_n 0, 1) := by decide +kernel
theorem dX7_init_164 : decode cX7_init 164 = .ok (.getfield 27, 3) := by decide +kernel
theorem dX7_init_167 : decode cX7_init 167 = .ok (.iconst 0, 1) := by decide +kernel
theorem dX7_init_168 : decode cX7_init 168 = .ok (.aaload, 1) := by decide +kernel
theorem dX7_init_169 : decode cX7_init 169 = .ok (.invokespecial 70, 3) := by decide +kernel
theorem dX7_init_172 : decode cX7_init 172 = .ok (.putfield 73, 3) := by decide +kernel
theorem dX7_init_175 : decode cX7_init 175 = .ok (.aload_n 0, 1) := by decide +kernel
theorem dX7_init_176 : decode cX7_init 176 = .ok (.new 68, 3) := by decide +kernel
theorem dX7_init_179 : decode cX7_init 179 = .ok (.dup, 1) := by decide +kernel
theorem dX7_init_180 : decode cX7_init 180 = .ok (.aload_n 0, 1) := by decide +kernel
theorem dX7_init_181 : decode cX7_init 181 = .ok (.getfield 27, 3) := by decide +kernel
theorem dX7_init_184 : decode cX7_init 184 = .ok (.iconst 0, 1) := by decide +kernel
theorem dX7_init_185 : decode cX7_init 185 = .ok (.aaload, 1) := by decide +kernel
theorem dX7_init_186 : decode cX7_init 186 = .ok (.invokespecial 70, 3) := by decide +kernel
theorem dX7_init_189 : decode cX7_init 189 = .ok (.putfield 77, 3) := by decide +kernel
theorem dX7_init_192 : decode cX7_init 192 = .ok (.aload_n 0, 1) := by decide +kernel
theorem dX7_init_193 : decode cX7_init 193 = .ok (.new 68, 3) := by decide +kernel
theorem dX7_init_196 : decode cX7_init 196 = .ok (.dup, 1) := by decide +kernel
theorem dX7_init_197 : decode cX7_init 197 = .ok (.aload_n 0, 1) := by decide +kernel
theorem dX7_init_198 : decode cX7_init 198 = .ok (.getfield 27, 3) := by decide +kernel
theorem dX7_init_201 : decode cX7_init 201 = .ok (.iconst 0, 1) := by decide +kernel
theorem dX7_init_202 : decode cX7_init 202 = .ok (.aaload, 1) := by decide +kernel
theorem dX7_init_203 : decode cX7_init 203 = .ok (.invokespecial 70, 3) := by decide +kernel
theorem dX7_init_206 : decode cX7_init 206 = .ok (.putfield 80, 3) := by decide +kernel
theorem dX7_init_209 : decode cX7_init 209 = .ok (.aload_n 0, 1) := by decide +kernel
theorem dX7_init_210 : decode cX7_init 210 = .ok (.new 83, 3) := by decide +kernel
theorem dX7_init_213 : decode cX7_init 213 = .ok (.dup, 1) := by decide +kernel
theorem dX7_init_214 : decode cX7_init 214 = .ok (.aload_n 0, 1) := by decide +kernel
theorem dX7_init_215 : decode cX7_init 215 = .ok (.getfield 77, 3) := by decide +kernel
theorem dX7_init_218 : decode cX7_init 218 = .ok (.invokespecial 85, 3) := by decide +kernel
theorem dX7_init_221 : decode cX7_init 221 = .ok (.putfield 88, 3) := by decide +kernel
theorem dX7_init_224 : decode cX7_init 224 = .ok (.return_, 1) := by decide +kernel
theorem dX7_set_0 : decode cX7_set 0 = .ok (.iload_n 3, 1) := by decide +kernel
theorem dX7_set_1 : decode cX7_set 1 = .ok (.ifCond .lt 11, 3) := by decide +kernel
theorem dX7_set_4 : decode cX7_set 4 = .ok (.iload_n 3, 1) := by decide +kernel
theorem dX7_set_5 : decode cX7_set 5 = .ok (.iload_n 1, 1) := by decide +kernel
theorem dX7_set_6 : decode cX7_set 6 = .ok (.invokestatic 92, 3) := by decide +kernel
theorem dX7_set_9 : decode cX7_set 9 = .ok (.if_icmp .lt 6, 3) := by decide +kernel
theorem dX7_set_12 : decode cX7_set 12 = .ok (.bipush (-2), 2) := by decide +kernel
theorem dX7_set_14 : decode cX7_set 14 = .ok (.ireturn, 1) := by decide +kernel
theorem dX7_set_15 : decode cX7_set 15 = .ok (.aload_n 0, 1) := by decide +kernel
theorem dX7_set_16 : decode cX7_set 16 = .ok (.iload_n 2, 1) := by decide +kernel
theorem dX7_set_17 : decode cX7_set 17 = .ok (.iload_n 1, 1) := by decide +kernel
theorem dX7_set_18 : decode cX7_set 18 = .ok (.invokevirtual 96, 3) := by decide +kernel
theorem dX7_set_21 : decode cX7_set 21 = .ok (.istore 4, 2) := by decide +kernel
theorem dX7_set_23 : decode cX7_set 23 = .ok (.iload 4, 2) := by decide +kernel
theorem dX7_set_25 : decode cX7_set 25 = .ok (.bipush (-2), 2) := by decide +kernel
theorem dX7_set_27 : decode cX7_set 27 = .ok (.if_icmp .ne 6, 3) := by decide +kernel
theorem dX7_set_30 : decode cX7_set 30 = .ok (.bipush (-2), 2) := by decide +kernel
theorem dX7_set_32 : decode cX7_set 32 = .ok (.ireturn, 1) := by decide +kernel
theorem dX7_set_33 : decode cX7_set 33 = .ok (.iload_n 1, 1) := by decide +kernel
theorem dX7_set_34 : decode cX7_set 34 = .ok (.ifCond .ne 14, 3) := by decide +kernel
theorem dX7_set_37 : decode cX7_set 37 = .ok (.aload_n 0, 1) := by decide +kernel
theorem dX7_set_38 : decode cX7_set 38 = .ok (.getfield 73, 3) := by decide +kernel
theorem dX7_set_41 : decode cX7_set 41 = .ok (.iload_n 3, 1) := by decide +kernel
theorem dX7_set_42 : decode cX7_set 42 = .ok (.putfield 100, 3) := by decide +kernel
theorem dX7_set_45 : decode cX7_set 45 = .ok (.goto 32, 3) := by decide +kernel
theorem dX7_set_48 : decode cX7_set 48 = .ok (.iload_n 1, 1) := by decide +kernel
theorem dX7_set_49 : decode cX7_set 49 = .ok (.iconst 1, 1) := by decide +kernel
theorem dX7_set_50 : decode cX7_set 50 = .ok (.if_icmp .ne 14, 3) := by decide +kernel
theorem dX7_set_53 : decode cX7_set 53 = .ok (.aload_n 0, 1) := by decide +kernel
theorem dX7_set_54 : decode cX7_set 54 = .ok (.getfield 73, 3) := by decide +kernel
theorem dX7_set_57 : decode cX7_set 57 = .ok (.iload_n 3, 1) := by decide +kernel
theorem dX7_set_58 : decode cX7_set 58 = .ok (.putfield 103, 3) := by decide +kernel
theorem dX7_set_61 : decode cX7_set 61 = .ok (.goto 16, 3) := by decide +kernel
theorem dX7_set_64 : decode cX7_set 64 = .ok (.aload_n 0, 1) := by decide +kernel
theorem dX7_set_65 : decode cX7_set 65 = .ok (.getfield 73, 3) := by decide +kernel
theorem dX7_set_68 : decode cX7_set 68 = .ok (.iload_n 2, 1) := by decide +kernel
theorem dX7_set_69 : decode cX7_set 69 = .ok (.invokevirtual 106, 3) := by decide +kernel
theorem dX7_set_72 : decode cX7_set 72 = .ok (.iload_n 1, 1) := by decide +kernel
theorem dX7_set_73 : decode cX7_set 73 = .ok (.iload_n 3, 1) := by decide +kernel
theorem dX7_set_74 : decode cX7_set 74 = .ok (.invokestatic 110, 3) := by decide +kernel
theorem dX7_set_77 : decode cX7_set 77 = .ok (.iload 4, 2) := by decide +kernel
theorem dX7_set_79 : decode cX7_set 79 = .ok (.ireturn, 1) := by decide +kernel
theorem dX7_fort_0 : decode cX7_fort 0 = .ok (.iload_n 1, 1) := by decide +kernel
theorem dX7_fort_1 : decode cX7_fort 1 = .ok (.iload_n 2, 1) := by decide +kernel
theorem dX7_fort_2 : decode cX7_fort 2 = .ok (.iload_n 3, 1) := by decide +kernel
theorem dX7_fort_3 : decode cX7_fort 3 = .ok (.invokestatic 114, 3) := by decide +kernel
theorem dX7_fort_6 : decode cX7_fort 6 = .ok (.ifCond .ne 6, 3) := by decide +kernel
theorem dX7_fort_9 : decode cX7_fort 9 = .ok (.bipush (-2), 2) := by decide +kernel
theorem dX7_fort_11 : decode cX7_fort 11 = .ok (.ireturn, 1) := by decide +kernel
theorem dX7_fort_12 : decode cX7_fort 12 = .ok (.aload_n 0, 1) := by decide +kernel
theorem dX7_fort_13 : decode cX7_fort 13 = .ok (.getfield 73, 3) := by decide +kernel
theorem dX7_fort_16 : decode cX7_fort 16 = .ok (.iload_n 1, 1) := by decide +kernel
theorem dX7_fort_17 : decode cX7_fort 17 = .ok (.iload_n 2, 1) := by decide +kernel
theorem dX7_fort_18 : decode cX7_fort 18 = .ok (.iload_n 3, 1) := by decide +kernel
theorem dX7_fort_19 : decode cX7_fort 19 = .ok (.invokevirtual 118, 3) := by decide +kernel
theorem dX7_fort_22 : decode cX7_fort 22 = .ok (.ireturn, 1) := by decide +kernel
theorem dX7_told_0 : decode cX7_told 0 = .ok (.iload_n 2, 1) := by decide +kernel
theorem dX7_told_1 : decode cX7_told 1 = .ok (.ifCond .ne 11, 3) := by decide +kernel
theorem dX7_told_4 : decode cX7_told 4 = .ok (.aload_n 0, 1) := by decide +kernel
theorem dX7_told_5 : decode cX7_told 5 = .ok (.getfield 73, 3) := by decide +kernel
theorem dX7_told_8 : decode cX7_told 8 = .ok (.getfield 100, 3) := by decide +kernel
theorem dX7_told_11 : decode cX7_told 11 = .ok (.ireturn, 1) := by decide +kernel
theorem dX7_told_12 : decode cX7_told 12 = .ok (.iload_n 2, 1) := by decide +kernel
theorem dX7_told_13 : decode cX7_told 13 = .ok (.iconst 1, 1) := by decide +kernel
theorem dX7_told_14 : decode cX7_told 14 = .ok (.if_icmp .ne 11, 3) := by decide +kernel
theorem dX7_told_17 : decode cX7_told 17 = .ok (.aload_n 0, 1) := by decide +kernel
theorem dX7_told_18 : decode cX7_told 18 = .ok (.getfield 73, 3) := by decide +kernel
theorem dX7_told_21 : decode cX7_told 21 = .ok (.getfield 103, 3) := by decide +kernel
theorem dX7_told_24 : decode cX7_told 24 = .ok (.ireturn, 1) := by decide +kernel
theorem dX7_told_25 : decode cX7_told 25 = .ok (.aload_n 0, 1) := by decide +kernel
theorem dX7_told_26 : decode cX7_told 26 = .ok (.getfield 73, 3) := by decide +kernel
theorem dX7_told_29 : decode cX7_told 29 = .ok (.iload_n 1, 1) := by decide +kernel
theorem dX7_told_30 : decode cX7_told 30 = .ok (.invokevirtual 106, 3) := by decide +kernel
theorem dX7_told_33 : decode cX7_told 33 = .ok (.astore_n 3, 1) := by decide +kernel
theorem dX7_told_34 : decode cX7_told 34 = .ok (.aload_n 3, 1) := by decide +kernel
theorem dX7_told_35 : decode cX7_told 35 = .ok (.ifnonnull 6, 3) := by decide +kernel
theorem dX7_told_38 : decode cX7_told 38 = .ok (.bipush (-2), 2) := by decide +kernel
theorem dX7_told_40 : decode cX7_told 40 = .ok (.ireturn, 1) := by decide +kernel
theorem dX7_told_41 : decode cX7_told 41 = .ok (.iload_n 2, 1) := by decide +kernel
theorem dX7_told_42 : decode cX7_told 42 = .ok (.tableswitch 98 2 9 #[46, 51, 56, 61, 66, 71, 80, 89], 46) := by decide +kernel
theorem dX7_told_88 : decode cX7_told 88 = .ok (.aload_n 3, 1) := by decide +kernel
theorem dX7_told_89 : decode cX7_told 89 = .ok (.getfield 121, 3) := by decide +kernel
theorem dX7_told_92 : decode cX7_told 92 = .ok (.ireturn, 1) := by decide +kernel
theorem dX7_told_93 : decode cX7_told 93 = .ok (.aload_n 3, 1) := by decide +kernel
theorem dX7_told_94 : decode cX7_told 94 = .ok (.getfield 126, 3) := by decide +kernel
theorem dX7_told_97 : decode cX7_told 97 = .ok (.ireturn, 1) := by decide +kernel
theorem dX7_told_98 : decode cX7_told 98 = .ok (.aload_n 3, 1) := by decide +kernel
theorem dX7_told_99 : decode cX7_told 99 = .ok (.getfield 129, 3) := by decide +kernel
theorem dX7_told_102 : decode cX7_told 102 = .ok (.ireturn, 1) := by decide +kernel
theorem dX7_told_103 : decode cX7_told 103 = .ok (.aload_n 3, 1) := by decide +kernel
theorem dX7_told_104 : decode cX7_told 104 = .ok (.getfield 132, 3) := by decide +kernel
theorem dX7_told_107 : decode cX7_told 107 = .ok (.ireturn, 1) := by decide +kernel
theorem dX7_told_108 : decode cX7_told 108 = .ok (.aload_n 3, 1) := by decide +kernel
theorem dX7_told_109 : decode cX7_told 109 = .ok (.getfield 135, 3) := by decide +kernel
theorem dX7_told_112 : decode cX7_told 112 = .ok (.ireturn, 1) := by decide +kernel
theorem dX7_told_113 : decode cX7_told 113 = .ok (.aload_n 0, 1) := by decide +kernel
theorem dX7_told_114 : decode cX7_told 114 = .ok (.getfield 73, 3) := by decide +kernel
theorem dX7_told_117 : decode cX7_told 117 = .ok (.aload_n 3, 1) := by decide +kernel
theorem dX7_told_118 : decode cX7_told 118 = .ok (.invokevirtual 138, 3) := by decide +kernel
theorem dX7_told_121 : decode cX7_told 121 = .ok (.ireturn, 1) := by decide +kernel
theorem dX7_told_122 : decode cX7_told 122 = .ok (.aload_n 0, 1) := by decide +kernel
theorem dX7_told_123 : decode cX7_told 123 = .ok (.getfield 73, 3) := by decide +kernel
theorem dX7_told_126 : decode cX7_told 126 = .ok (.aload_n 3, 1) := by decide +kernel
theorem dX7_told_127 : decode cX7_told 127 = .ok (.invokevirtual 142, 3) := by decide +kernel
theorem dX7_told_130 : decode cX7_told 130 = .ok (.ireturn, 1) := by decide +kernel
theorem dX7_told_131 : decode cX7_told 131 = .ok (.aload_n 0, 1) := by decide +kernel
theorem dX7_told_132 : decode cX7_told 132 = .ok (.getfield 73, 3) := by decide +kernel
theorem dX7_told_135 : decode cX7_told 135 = .ok (.aload_n 3, 1) := by decide +kernel
theorem dX7_told_136 : decode cX7_told 136 = .ok (.invokevirtual 145, 3) := by decide +kernel
theorem dX7_told_139 : decode cX7_told 139 = .ok (.ireturn, 1) := by decide +kernel
theorem dX7_told_140 : decode cX7_told 140 = .ok (.bipush (-2), 2) := by decide +kernel
theorem dX7_told_142 : decode cX7_told 142 = .ok (.ireturn, 1) := by decide +kernel
theorem dX7_bound_0 : decode cX7_bound 0 = .ok (.iload_n 0, 1) := by decide +kernel
theorem dX7_bound_1 : decode cX7_bound 1 = .ok (.tableswitch 57 0 5 #[39, 42, 46, 49, 52, 54], 39) := by decide +kernel
theorem dX7_bound_40 : decode cX7_bound 40 = .ok (.bipush 10, 2) := by decide +kernel
theorem dX7_bound_42 : decode cX7_bound 42 = .ok (.ireturn, 1) := by decide +kernel
theorem dX7_bound_43 : decode cX7_bound 43 = .ok (.sipush 1000, 3) := by decide +kernel
theorem dX7_bound_46 : decode cX7_bound 46 = .ok (.ireturn, 1) := by decide +kernel
theorem dX7_bound_47 : decode cX7_bound 47 = .ok (.bipush 10, 2) := by decide +kernel
theorem dX7_bound_49 : decode cX7_bound 49 = .ok (.ireturn, 1) := by decide +kernel
theorem dX7_bound_50 : decode cX7_bound 50 = .ok (.bipush 16, 2) := by decide +kernel
theorem dX7_bound_52 : decode cX7_bound 52 = .ok (.ireturn, 1) := by decide +kernel
theorem dX7_bound_53 : decode cX7_bound 53 = .ok (.iconst 2, 1) := by decide +kernel
theorem dX7_bound_54 : decode cX7_bound 54 = .ok (.ireturn, 1) := by decide +kernel
theorem dX7_bound_55 : decode cX7_bound 55 = .ok (.bipush 100, 2) := by decide +kernel
theorem dX7_bound_57 : decode cX7_bound 57 = .ok (.ireturn, 1) := by decide +kernel
theorem dX7_bound_58 : decode cX7_bound 58 = .ok (.iconst 0, 1) := by decide +kernel
theorem dX7_bound_59 : decode cX7_bound 59 = .ok (.ireturn, 1) := by decide +kernel
theorem dX7_change_0 : decode cX7_change 0 = .ok (.aload_n 0, 1) := by decide +kernel
theorem dX7_change_1 : decode cX7_change 1 = .ok (.ifnonnull 4, 3) := by decide +kernel
theorem dX7_change_4 : decode cX7_change 4 = .ok (.return_, 1) := by decide +kernel
theorem dX7_change_5 : decode cX7_change 5 = .ok (.iload_n 1, 1) := by decide +kernel
theorem dX7_change_6 : decode cX7_change 6 = .ok (.tableswitch 62 2 5 #[30, 38, 46, 54], 30) := by decide +kernel
theorem dX7_change_36 : decode cX7_change 36 = .ok (.aload_n 0, 1) := by decide +kernel
theorem dX7_change_37 : decode cX7_change 37 = .ok (.iload_n 2, 1) := by decide +kernel
theorem dX7_change_38 : decode cX7_change 38 = .ok (.putfield 121, 3) := by decide +kernel
theorem dX7_change_41 : decode cX7_change 41 = .ok (.goto 27, 3) := by decide +kernel
theorem dX7_change_44 : decode cX7_change 44 = .ok (.aload_n 0, 1) := by decide +kernel
theorem dX7_change_45 : decode cX7_change 45 = .ok (.iload_n 2, 1) := by decide +kernel
theorem dX7_change_46 : decode cX7_change 46 = .ok (.putfield 126, 3) := by decide +kernel
theorem dX7_change_49 : decode cX7_change 49 = .ok (.goto 19, 3) := by decide +kernel
theorem dX7_change_52 : decode cX7_change 52 = .ok (.aload_n 0, 1) := by decide +kernel
theorem dX7_change_53 : decode cX7_change 53 = .ok (.iload_n 2, 1) := by decide +kernel
theorem dX7_change_54 : decode cX7_change 54 = .ok (.putfield 129, 3) := by decide +kernel
theorem dX7_change_57 : decode cX7_change 57 = .ok (.goto 11, 3) := by decide +kernel
theorem dX7_change_60 : decode cX7_change 60 = .ok (.aload_n 0, 1) := by decide +kernel
theorem dX7_change_61 : decode cX7_change 61 = .ok (.iload_n 2, 1) := by decide +kernel
theorem dX7_change_62 : decode cX7_change 62 = .ok (.putfield 132, 3) := by decide +kernel
theorem dX7_change_65 : decode cX7_change 65 = .ok (.goto 3, 3) := by decide +kernel
theorem dX7_change_68 : decode cX7_change 68 = .ok (.return_, 1) := by decide +kernel
theorem dX7_feed_0 : decode cX7_feed 0 = .ok (.iload_n 1, 1) := by decide +kernel
theorem dX7_feed_1 : decode cX7_feed 1 = .ok (.ifCond .lt 10, 3) := by decide +kernel
theorem dX7_feed_4 : decode cX7_feed 4 = .ok (.iload_n 1, 1) := by decide +kernel
theorem dX7_feed_5 : decode cX7_feed 5 = .ok (.sipush 255, 3) := by decide +kernel
theorem dX7_feed_8 : decode cX7_feed 8 = .ok (.if_icmp .le 6, 3) := by decide +kernel
theorem dX7_feed_11 : decode cX7_feed 11 = .ok (.bipush (-2), 2) := by decide +kernel
theorem dX7_feed_13 : decode cX7_feed 13 = .ok (.ireturn, 1) := by decide +kernel
theorem dX7_feed_14 : decode cX7_feed 14 = .ok (.aload_n 0, 1) := by decide +kernel
theorem dX7_feed_15 : decode cX7_feed 15 = .ok (.getfield 10, 3) := by decide +kernel
theorem dX7_feed_18 : decode cX7_feed 18 = .ok (.iload_n 1, 1) := by decide +kernel
theorem dX7_feed_19 : decode cX7_feed 19 = .ok (.invokevirtual 53, 3) := by decide +kernel
theorem dX7_feed_22 : decode cX7_feed 22 = .ok (.ifCond .eq 13, 3) := by decide +kernel
theorem dX7_feed_25 : decode cX7_feed 25 = .ok (.aload_n 0, 1) := by decide +kernel
theorem dX7_feed_26 : decode cX7_feed 26 = .ok (.getfield 10, 3) := by decide +kernel
theorem dX7_feed_29 : decode cX7_feed 29 = .ok (.getfield 148, 3) := by decide +kernel
theorem dX7_feed_32 : decode cX7_feed 32 = .ok (.goto 5, 3) := by decide +kernel
theorem dX7_feed_35 : decode cX7_feed 35 = .ok (.bipush (-4), 2) := by decide +kernel
theorem dX7_feed_37 : decode cX7_feed 37 = .ok (.ireturn, 1) := by decide +kernel
theorem dX7_text_0 : decode cX7_text 0 = .ok (.aload_n 0, 1) := by decide +kernel
theorem dX7_text_1 : decode cX7_text 1 = .ok (.getfield 64, 3) := by decide +kernel
theorem dX7_text_4 : decode cX7_text 4 = .ok (.ifCond .lt 12, 3) := by decide +kernel
theorem dX7_text_7 : decode cX7_text 7 = .ok (.aload_n 0, 1) := by decide +kernel
theorem dX7_text_8 : decode cX7_text 8 = .ok (.getfield 64, 3) := by decide +kernel
theorem dX7_text_11 : decode cX7_text 11 = .ok (.bipush 6, 2) := by decide +kernel
theorem dX7_text_13 : decode cX7_text 13 = .ok (.if_icmp .lt 6, 3) := by decide +kernel
theorem dX7_text_16 : decode cX7_text 16 = .ok (.bipush (-4), 2) := by decide +kernel
theorem dX7_text_18 : decode cX7_text 18 = .ok (.ireturn, 1) := by decide +kernel
theorem dX7_text_19 : decode cX7_text 19 = .ok (.aload_n 0, 1) := by decide +kernel
theorem dX7_text_20 : decode cX7_text 20 = .ok (.getfield 21, 3) := by decide +kernel
theorem dX7_text_23 : decode cX7_text 23 = .ok (.aload_n 0, 1) := by decide +kernel
theorem dX7_text_24 : decode cX7_text 24 = .ok (.getfield 27, 3) := by decide +kernel
theorem dX7_text_27 : decode cX7_text 27 = .ok (.aload_n 0, 1) := by decide +kernel
theorem dX7_text_28 : decode cX7_text 28 = .ok (.getfield 64, 3) := by decide +kernel
theorem dX7_text_31 : decode cX7_text 31 = .ok (.aaload, 1) := by decide +kernel
theorem dX7_text_32 : decode cX7_text 32 = .ok (.invokevirtual 57, 3) := by decide +kernel
theorem dX7_text_35 : decode cX7_text 35 = .ok (.istore_n 1, 1) := by decide +kernel
theorem dX7_text_36 : decode cX7_text 36 = .ok (.aload_n 0, 1) := by decide +kernel
theorem dX7_text_37 : decode cX7_text 37 = .ok (.getfield 10, 3) := by decide +kernel
theorem dX7_text_40 : decode cX7_text 40 = .ok (.invokevirtual 61, 3) := by decide +kernel
theorem dX7_text_43 : decode cX7_text 43 = .ok (.iload_n 1, 1) := by decide +kernel
theorem dX7_text_44 : decode cX7_text 44 = .ok (.iconst (-1), 1) := by decide +kernel
theorem dX7_text_45 : decode cX7_text 45 = .ok (.if_icmp .eq 8, 3) := by decide +kernel
theorem dX7_text_48 : decode cX7_text 48 = .ok (.bipush (-100), 2) := by decide +kernel
theorem dX7_text_50 : decode cX7_text 50 = .ok (.iload_n 1, 1) := by decide +kernel
theorem dX7_text_51 : decode cX7_text 51 = .ok (.isub, 1) := by decide +kernel
theorem dX7_text_52 : decode cX7_text 52 = .ok (.ireturn, 1) := by decide +kernel
theorem dX7_text_53 : decode cX7_text 53 = .ok (.aload_n 0, 1) := by decide +kernel
theorem dX7_text_54 : decode cX7_text 54 = .ok (.dup, 1) := by decide +kernel
theorem dX7_text_55 : decode cX7_text 55 = .ok (.getfield 64, 3) := by decide +kernel
theorem dX7_text_58 : decode cX7_text 58 = .ok (.iconst 1, 1) := by decide +kernel
theorem dX7_text_59 : decode cX7_text 59 = .ok (.iadd, 1) := by decide +kernel
theorem dX7_text_60 : decode cX7_text 60 = .ok (.putfield 64, 3) := by decide +kernel
theorem dX7_text_63 : decode cX7_text 63 = .ok (.aload_n 0, 1) := by decide +kernel
theorem dX7_text_64 : decode cX7_text 64 = .ok (.getfield 64, 3) := by decide +kernel
theorem dX7_text_67 : decode cX7_text 67 = .ok (.iconst 1, 1) := by decide +kernel
theorem dX7_text_68 : decode cX7_text 68 = .ok (.isub, 1) := by decide +kernel
theorem dX7_text_69 : decode cX7_text 69 = .ok (.ireturn, 1) := by decide +kernel
theorem dX7_force_0 : decode cX7_force 0 = .ok (.iload_n 1, 1) := by decide +kernel
theorem dX7_force_1 : decode cX7_force 1 = .ok (.ifCond .lt 17, 3) := by decide +kernel
theorem dX7_force_4 : decode cX7_force 4 = .ok (.iload_n 1, 1) := by decide +kernel
theorem dX7_force_5 : decode cX7_force 5 = .ok (.aload_n 0, 1) := by decide +kernel
theorem dX7_force_6 : decode cX7_force 6 = .ok (.getfield 64, 3) := by decide +kernel
theorem dX7_force_9 : decode cX7_force 9 = .ok (.if_icmp .ge 9, 3) := by decide +kernel
theorem dX7_force_12 : decode cX7_force 12 = .ok (.iload_n 1, 1) := by decide +kernel
theorem dX7_force_13 : decode cX7_force 13 = .ok (.bipush 6, 2) := by decide +kernel
theorem dX7_force_15 : decode cX7_force 15 = .ok (.if_icmp .lt 6, 3) := by decide +kernel
theorem dX7_force_18 : decode cX7_force 18 = .ok (.bipush (-2), 2) := by decide +kernel
theorem dX7_force_20 : decode cX7_force 20 = .ok (.ireturn, 1) := by decide +kernel
theorem dX7_force_21 : decode cX7_force 21 = .ok (.aload_n 0, 1) := by decide +kernel
theorem dX7_force_22 : decode cX7_force 22 = .ok (.getfield 73, 3) := by decide +kernel
theorem dX7_force_25 : decode cX7_force 25 = .ok (.getfield 151, 3) := by decide +kernel
theorem dX7_force_28 : decode cX7_force 28 = .ok (.getfield 155, 3) := by decide +kernel
theorem dX7_force_31 : decode cX7_force 31 = .ok (.istore_n 2, 1) := by decide +kernel
theorem dX7_force_32 : decode cX7_force 32 = .ok (.aload_n 0, 1) := by decide +kernel
theorem dX7_force_33 : decode cX7_force 33 = .ok (.getfield 73, 3) := by decide +kernel
theorem dX7_force_36 : decode cX7_force 36 = .ok (.aload_n 0, 1) := by decide +kernel
theorem dX7_force_37 : decode cX7_force 37 = .ok (.getfield 27, 3) := by decide +kernel
theorem dX7_force_40 : decode cX7_force 40 = .ok (.iload_n 1, 1) := by decide +kernel
theorem dX7_force_41 : decode cX7_force 41 = .ok (.aaload, 1) := by decide +kernel
theorem dX7_force_42 : decode cX7_force 42 = .ok (.putfield 151, 3) := by decide +kernel
theorem dX7_force_45 : decode cX7_force 45 = .ok (.iload_n 2, 1) := by decide +kernel
theorem dX7_force_46 : decode cX7_force 46 = .ok (.ireturn, 1) := by decide +kernel
theorem dX7_wave_0 : decode cX7_wave 0 = .ok (.aload_n 0, 1) := by decide +kernel
theorem dX7_wave_1 : decode cX7_wave 1 = .ok (.getfield 73, 3) := by decide +kernel
theorem dX7_wave_4 : decode cX7_wave 4 = .ok (.getfield 103, 3) := by decide +kernel
theorem dX7_wave_7 : decode cX7_wave 7 = .ok (.sipush 999, 3) := by decide +kernel
theorem dX7_wave_10 : decode cX7_wave 10 = .ok (.if_icmp .lt 6, 3) := by decide +kernel
theorem dX7_wave_13 : decode cX7_wave 13 = .ok (.bipush (-3), 2) := by decide +kernel
theorem dX7_wave_15 : decode cX7_wave 15 = .ok (.ireturn, 1) := by decide +kernel
theorem dX7_wave_16 : decode cX7_wave 16 = .ok (.aload_n 0, 1) := by decide +kernel
theorem dX7_wave_17 : decode cX7_wave 17 = .ok (.getfield 73, 3) := by decide +kernel
theorem dX7_wave_20 : decode cX7_wave 20 = .ok (.invokevirtual 158, 3) := by decide +kernel
theorem dX7_wave_23 : decode cX7_wave 23 = .ok (.aload_n 0, 1) := by decide +kernel
theorem dX7_wave_24 : decode cX7_wave 24 = .ok (.getfield 73, 3) := by decide +kernel
theorem dX7_wave_27 : decode cX7_wave 27 = .ok (.invokevirtual 161, 3) := by decide +kernel
theorem dX7_wave_30 : decode cX7_wave 30 = .ok (.ireturn, 1) := by decide +kernel
theorem dX7_spade_0 : decode cX7_spade 0 = .ok (.aload_n 0, 1) := by decide +kernel
theorem dX7_spade_1 : decode cX7_spade 1 = .ok (.getfield 73, 3) := by decide +kernel
theorem dX7_spade_4 : decode cX7_spade 4 = .ok (.iload_n 1, 1) := by decide +kernel
theorem dX7_spade_5 : decode cX7_spade 5 = .ok (.invokevirtual 106, 3) := by decide +kernel
theorem dX7_spade_8 : decode cX7_spade 8 = .ok (.astore_n 2, 1) := by decide +kernel
theorem dX7_spade_9 : decode cX7_spade 9 = .ok (.aload_n 2, 1) := by decide +kernel
theorem dX7_spade_10 : decode cX7_spade 10 = .ok (.ifnonnull 6, 3) := by decide +kernel
theorem dX7_spade_13 : decode cX7_spade 13 = .ok (.bipush (-2), 2) := by decide +kernel
theorem dX7_spade_15 : decode cX7_spade 15 = .ok (.ireturn, 1) := by decide +kernel
theorem dX7_spade_16 : decode cX7_spade 16 = .ok (.aload_n 0, 1) := by decide +kernel
theorem dX7_spade_17 : decode cX7_spade 17 = .ok (.getfield 73, 3) := by decide +kernel
theorem dX7_spade_20 : decode cX7_spade 20 = .ok (.aload_n 2, 1) := by decide +kernel
theorem dX7_spade_21 : decode cX7_spade 21 = .ok (.invokevirtual 164, 3) := by decide +kernel
theorem dX7_spade_24 : decode cX7_spade 24 = .ok (.aload_n 2, 1) := by decide +kernel
theorem dX7_spade_25 : decode cX7_spade 25 = .ok (.getfield 132, 3) := by decide +kernel
theorem dX7_spade_28 : decode cX7_spade 28 = .ok (.ireturn, 1) := by decide +kernel
theorem dX7_run_0 : decode cX7_run 0 = .ok (.iload_n 1, 1) := by decide +kernel
theorem dX7_run_1 : decode cX7_run 1 = .ok (.invokestatic 168, 3) := by decide +kernel
theorem dX7_run_4 : decode cX7_run 4 = .ok (.ifCond .eq 11, 3) := by decide +kernel
theorem dX7_run_7 : decode cX7_run 7 = .ok (.aload_n 0, 1) := by decide +kernel
theorem dX7_run_8 : decode cX7_run 8 = .ok (.iload_n 2, 1) := by decide +kernel
theorem dX7_run_9 : decode cX7_run 9 = .ok (.invokevirtual 171, 3) := by decide +kernel
theorem dX7_run_12 : decode cX7_run 12 = .ok (.ifCond .ne 6, 3) := by decide +kernel
theorem dX7_run_15 : decode cX7_run 15 = .ok (.ldc 174, 2) := by decide +kernel
theorem dX7_run_17 : decode cX7_run 17 = .ok (.ireturn, 1) := by decide +kernel
theorem dX7_run_18 : decode cX7_run 18 = .ok (.aload_n 0, 1) := by decide +kernel
theorem dX7_run_19 : decode cX7_run 19 = .ok (.invokevirtual 175, 3) := by decide +kernel
theorem dX7_run_22 : decode cX7_run 22 = .ok (.iload_n 1, 1) := by decide +kernel
theorem dX7_run_23 : decode cX7_run 23 = .ok (.invokevirtual 179, 3) := by decide +kernel
theorem dX7_run_26 : decode cX7_run 26 = .ok (.aload_n 0, 1) := by decide +kernel
theorem dX7_run_27 : decode cX7_run 27 = .ok (.iload_n 2, 1) := by decide +kernel
theorem dX7_run_28 : decode cX7_run 28 = .ok (.invokevirtual 182, 3) := by decide +kernel
theorem dX7_run_31 : decode cX7_run 31 = .ok (.ireturn, 1) := by decide +kernel
theorem dX7_plan_0 : decode cX7_plan 0 = .ok (.aload_n 0, 1) := by decide +kernel
theorem dX7_plan_1 : decode cX7_plan 1 = .ok (.iload_n 1, 1) := by decide +kernel
theorem dX7_plan_2 : decode cX7_plan 2 = .ok (.invokevirtual 185, 3) := by decide +kernel
theorem dX7_plan_5 : decode cX7_plan 5 = .ok (.astore_n 3, 1) := by decide +kernel
theorem dX7_plan_6 : decode cX7_plan 6 = .ok (.aload_n 3, 1) := by decide +kernel
theorem dX7_plan_7 : decode cX7_plan 7 = .ok (.ifnull 26, 3) := by decide +kernel
theorem dX7_plan_10 : decode cX7_plan 10 = .ok (.aload_n 0, 1) := by decide +kernel
theorem dX7_plan_11 : decode cX7_plan 11 = .ok (.iload_n 2, 1) := by decide +kernel
theorem dX7_plan_12 : decode cX7_plan 12 = .ok (.invokevirtual 171, 3) := by decide +kernel
theorem dX7_plan_15 : decode cX7_plan 15 = .ok (.ifCond .eq 18, 3) := by decide +kernel
theorem dX7_plan_18 : decode cX7_plan 18 = .ok (.aload_n 3, 1) := by decide +kernel
theorem dX7_plan_19 : decode cX7_plan 19 = .ok (.invokevirtual 189, 3) := by decide +kernel
theorem dX7_plan_22 : decode cX7_plan 22 = .ok (.ifCond .ne 11, 3) := by decide +kernel
theorem dX7_plan_25 : decode cX7_plan 25 = .ok (.aload_n 0, 1) := by decide +kernel
theorem dX7_plan_26 : decode cX7_plan 26 = .ok (.aload_n 3, 1) := by decide +kernel
theorem dX7_plan_27 : decode cX7_plan 27 = .ok (.invokevirtual 193, 3) := by decide +kernel
theorem dX7_plan_30 : decode cX7_plan 30 = .ok (.ifCond .ne 6, 3) := by decide +kernel
theorem dX7_plan_33 : decode cX7_plan 33 = .ok (.ldc 174, 2) := by decide +kernel
theorem dX7_plan_35 : decode cX7_plan 35 = .ok (.ireturn, 1) := by decide +kernel
theorem dX7_plan_36 : decode cX7_plan 36 = .ok (.aload_n 0, 1) := by decide +kernel
theorem dX7_plan_37 : decode cX7_plan 37 = .ok (.invokevirtual 175, 3) := by decide +kernel
theorem dX7_plan_40 : decode cX7_plan 40 = .ok (.pop, 1) := by decide +kernel
theorem dX7_plan_41 : decode cX7_plan 41 = .ok (.iconst 0, 1) := by decide +kernel
theorem dX7_plan_42 : decode cX7_plan 42 = .ok (.istore 4, 2) := by decide +kernel
theorem dX7_plan_44 : decode cX7_plan 44 = .ok (.iload 4, 2) := by decide +kernel
theorem dX7_plan_46 : decode cX7_plan 46 = .ok (.aload_n 3, 1) := by decide +kernel
theorem dX7_plan_47 : decode cX7_plan 47 = .ok (.getfield 197, 3) := by decide +kernel
theorem dX7_plan_50 : decode cX7_plan 50 = .ok (.if_icmp .ge 45, 3) := by decide +kernel
theorem dX7_plan_53 : decode cX7_plan 53 = .ok (.aload_n 0, 1) := by decide +kernel
theorem dX7_plan_54 : decode cX7_plan 54 = .ok (.getfield 77, 3) := by decide +kernel
theorem dX7_plan_57 : decode cX7_plan 57 = .ok (.aload_n 3, 1) := by decide +kernel
theorem dX7_plan_58 : decode cX7_plan 58 = .ok (.iload 4, 2) := by decide +kernel
theorem dX7_plan_60 : decode cX7_plan 60 = .ok (.invokevirtual 198, 3) := by decide +kernel
theorem dX7_plan_63 : decode cX7_plan 63 = .ok (.invokevirtual 106, 3) := by decide +kernel
theorem dX7_plan_66 : decode cX7_plan 66 = .ok (.astore 5, 2) := by decide +kernel
theorem dX7_plan_68 : decode cX7_plan 68 = .ok (.aload 5, 2) := by decide +kernel
theorem dX7_plan_70 : decode cX7_plan 70 = .ok (.ifnull 12, 3) := by decide +kernel
theorem dX7_plan_73 : decode cX7_plan 73 = .ok (.aload_n 0, 1) := by decide +kernel
theorem dX7_plan_74 : decode cX7_plan 74 = .ok (.getfield 77, 3) := by decide +kernel
theorem dX7_plan_77 : decode cX7_plan 77 = .ok (.aload 5, 2) := by decide +kernel
theorem dX7_plan_79 : decode cX7_plan 79 = .ok (.invokevirtual 164, 3) := by decide +kernel
theorem dX7_plan_82 : decode cX7_plan 82 = .ok (.aload_n 0, 1) := by decide +kernel
theorem dX7_plan_83 : decode cX7_plan 83 = .ok (.getfield 77, 3) := by decide +kernel
theorem dX7_plan_86 : decode cX7_plan 86 = .ok (.invokevirtual 158, 3) := by decide +kernel
theorem dX7_plan_89 : decode cX7_plan 89 = .ok (.iinc 4 1, 3) := by decide +kernel
theorem dX7_plan_92 : decode cX7_plan 92 = .ok (.goto (-48), 3) := by decide +kernel
theorem dX7_plan_95 : decode cX7_plan 95 = .ok (.aload_n 0, 1) := by decide +kernel
theorem dX7_plan_96 : decode cX7_plan 96 = .ok (.iload_n 2, 1) := by decide +kernel
theorem dX7_plan_97 : decode cX7_plan 97 = .ok (.invokevirtual 182, 3) := by decide +kernel
theorem dX7_plan_100 : decode cX7_plan 100 = .ok (.ireturn, 1) := by decide +kernel
theorem dX7_isPlan_0 : decode cX7_isPlan 0 = .ok (.iconst 0, 1) := by decide +kernel
theorem dX7_isPlan_1 : decode cX7_isPlan 1 = .ok (.istore_n 2, 1) := by decide +kernel
theorem dX7_isPlan_2 : decode cX7_isPlan 2 = .ok (.iload_n 2, 1) := by decide +kernel
theorem dX7_isPlan_3 : decode cX7_isPlan 3 = .ok (.aload_n 1, 1) := by decide +kernel
theorem dX7_isPlan_4 : decode cX7_isPlan 4 = .ok (.getfield 197, 3) := by decide +kernel
theorem dX7_isPlan_7 : decode cX7_isPlan 7 = .ok (.if_icmp .ge 33, 3) := by decide +kernel
theorem dX7_isPlan_10 : decode cX7_isPlan 10 = .ok (.aload_n 1, 1) := by decide +kernel
theorem dX7_isPlan_11 : decode cX7_isPlan 11 = .ok (.iload_n 2, 1) := by decide +kernel
theorem dX7_isPlan_12 : decode cX7_isPlan 12 = .ok (.invokevirtual 198, 3) := by decide +kernel
theorem dX7_isPlan_15 : decode cX7_isPlan 15 = .ok (.istore_n 3, 1) := by decide +kernel
theorem dX7_isPlan_16 : decode cX7_isPlan 16 = .ok (.iload_n 3, 1) := by decide +kernel
theorem dX7_isPlan_17 : decode cX7_isPlan 17 = .ok (.iconst (-1), 1) := by decide +kernel
theorem dX7_isPlan_18 : decode cX7_isPlan 18 = .ok (.if_icmp .eq 16, 3) := by decide +kernel
theorem dX7_isPlan_21 : decode cX7_isPlan 21 = .ok (.aload_n 0, 1) := by decide +kernel
theorem dX7_isPlan_22 : decode cX7_isPlan 22 = .ok (.getfield 73, 3) := by decide +kernel
theorem dX7_isPlan_25 : decode cX7_isPlan 25 = .ok (.iload_n 3, 1) := by decide +kernel
theorem dX7_isPlan_26 : decode cX7_isPlan 26 = .ok (.invokevirtual 106, 3) := by decide +kernel
theorem dX7_isPlan_29 : decode cX7_isPlan 29 = .ok (.ifnonnull 5, 3) := by decide +kernel
theorem dX7_isPlan_32 : decode cX7_isPlan 32 = .ok (.iconst 0, 1) := by decide +kernel
theorem dX7_isPlan_33 : decode cX7_isPlan 33 = .ok (.ireturn, 1) := by decide +kernel
theorem dX7_isPlan_34 : decode cX7_isPlan 34 = .ok (.iinc 2 1, 3) := by decide +kernel
theorem dX7_isPlan_37 : decode cX7_isPlan 37 = .ok (.goto (-35), 3) := by decide +kernel
theorem dX7_isPlan_40 : decode cX7_isPlan 40 = .ok (.iconst 1, 1) := by decide +kernel
theorem dX7_isPlan_41 : decode cX7_isPlan 41 = .ok (.ireturn, 1) := by decide +kernel
theorem dX7_isAhead_0 : decode cX7_isAhead 0 = .ok (.iload_n 0, 1) := by decide +kernel
theorem dX7_isAhead_1 : decode cX7_isAhead 1 = .ok (.ifCond .lt 13, 3) := by decide +kernel
theorem dX7_isAhead_4 : decode cX7_isAhead 4 = .ok (.iload_n 0, 1) := by decide +kernel
theorem dX7_isAhead_5 : decode cX7_isAhead 5 = .ok (.bipush 40, 2) := by decide +kernel
theorem dX7_isAhead_7 : decode cX7_isAhead 7 = .ok (.if_icmp .gt 7, 3) := by decide +kernel
theorem dX7_isAhead_10 : decode cX7_isAhead 10 = .ok (.iconst 1, 1) := by decide +kernel
theorem dX7_isAhead_11 : decode cX7_isAhead 11 = .ok (.goto 4, 3) := by decide +kernel
theorem dX7_isAhead_14 : decode cX7_isAhead 14 = .ok (.iconst 0, 1) := by decide +kernel
theorem dX7_isAhead_15 : decode cX7_isAhead 15 = .ok (.ireturn, 1) := by decide +kernel
theorem dX7_isView_0 : decode cX7_isView 0 = .ok (.iload_n 1, 1) := by decide +kernel
theorem dX7_isView_1 : decode cX7_isView 1 = .ok (.ifCond .lt 8, 3) := by decide +kernel
theorem dX7_isView_4 : decode cX7_isView 4 = .ok (.iload_n 1, 1) := by decide +kernel
theorem dX7_isView_5 : decode cX7_isView 5 = .ok (.iconst 2, 1) := by decide +kernel
theorem dX7_isView_6 : decode cX7_isView 6 = .ok (.if_icmp .le 17, 3) := by decide +kernel
theorem dX7_isView_9 : decode cX7_isView 9 = .ok (.aload_n 0, 1) := by decide +kernel
theorem dX7_isView_10 : decode cX7_isView 10 = .ok (.getfield 73, 3) := by decide +kernel
theorem dX7_isView_13 : decode cX7_isView 13 = .ok (.iload_n 1, 1) := by decide +kernel
theorem dX7_isView_14 : decode cX7_isView 14 = .ok (.bipush 10, 2) := by decide +kernel
theorem dX7_isView_16 : decode cX7_isView 16 = .ok (.isub, 1) := by decide +kernel
theorem dX7_isView_17 : decode cX7_isView 17 = .ok (.invokevirtual 106, 3) := by decide +kernel
theorem dX7_isView_20 : decode cX7_isView 20 = .ok (.ifnull 7, 3) := by decide +kernel
theorem dX7_isView_23 : decode cX7_isView 23 = .ok (.iconst 1, 1) := by decide +kernel
theorem dX7_isView_24 : decode cX7_isView 24 = .ok (.goto 4, 3) := by decide +kernel
theorem dX7_isView_27 : decode cX7_isView 27 = .ok (.iconst 0, 1) := by decide +kernel
theorem dX7_isView_28 : decode cX7_isView 28 = .ok (.ireturn, 1) := by decide +kernel
theorem dX7_view_0 : decode cX7_view 0 = .ok (.iload_n 1, 1) := by decide +kernel
theorem dX7_view_1 : decode cX7_view 1 = .ok (.tableswitch 52 0 2 #[27, 35, 43], 27) := by decide +kernel
theorem dX7_view_28 : decode cX7_view 28 = .ok (.aload_n 0, 1) := by decide +kernel
theorem dX7_view_29 : decode cX7_view 29 = .ok (.getfield 77, 3) := by decide +kernel
theorem dX7_view_32 : decode cX7_view 32 = .ok (.invokevirtual 161, 3) := by decide +kernel
theorem dX7_view_35 : decode cX7_view 35 = .ok (.ireturn, 1) := by decide +kernel
theorem dX7_view_36 : decode cX7_view 36 = .ok (.aload_n 0, 1) := by decide +kernel
theorem dX7_view_37 : decode cX7_view 37 = .ok (.getfield 77, 3) := by decide +kernel
theorem dX7_view_40 : decode cX7_view 40 = .ok (.invokevirtual 201, 3) := by decide +kernel
theorem dX7_view_43 : decode cX7_view 43 = .ok (.ireturn, 1) := by decide +kernel
theorem dX7_view_44 : decode cX7_view 44 = .ok (.aload_n 0, 1) := by decide +kernel
theorem dX7_view_45 : decode cX7_view 45 = .ok (.getfield 77, 3) := by decide +kernel
theorem dX7_view_48 : decode cX7_view 48 = .ok (.iconst 0, 1) := by decide +kernel
theorem dX7_view_49 : decode cX7_view 49 = .ok (.invokevirtual 204, 3) := by decide +kernel
theorem dX7_view_52 : decode cX7_view 52 = .ok (.ireturn, 1) := by decide +kernel
theorem dX7_view_53 : decode cX7_view 53 = .ok (.aload_n 0, 1) := by decide +kernel
theorem dX7_view_54 : decode cX7_view 54 = .ok (.getfield 77, 3) := by decide +kernel
theorem dX7_view_57 : decode cX7_view 57 = .ok (.iload_n 1, 1) := by decide +kernel
theorem dX7_view_58 : decode cX7_view 58 = .ok (.bipush 10, 2) := by decide +kernel
theorem dX7_view_60 : decode cX7_view 60 = .ok (.isub, 1) := by decide +kernel
theorem dX7_view_61 : decode cX7_view 61 = .ok (.invokevirtual 106, 3) := by decide +kernel
theorem dX7_view_64 : decode cX7_view 64 = .ok (.astore_n 2, 1) := by decide +kernel
theorem dX7_view_65 : decode cX7_view 65 = .ok (.aload_n 2, 1) := by decide +kernel
theorem dX7_view_66 : decode cX7_view 66 = .ok (.ifnonnull 8, 3) := by decide +kernel
theorem dX7_view_69 : decode cX7_view 69 = .ok (.ldc 174, 2) := by decide +kernel
theorem dX7_view_71 : decode cX7_view 71 = .ok (.goto 7, 3) := by decide +kernel
theorem dX7_view_74 : decode cX7_view 74 = .ok (.aload_n 2, 1) := by decide +kernel
theorem dX7_view_75 : decode cX7_view 75 = .ok (.getfield 132, 3) := by decide +kernel
theorem dX7_view_78 : decode cX7_view 78 = .ok (.ireturn, 1) := by decide +kernel
theorem dX7_think_0 : decode cX7_think 0 = .ok (.aload_n 0, 1) := by decide +kernel
theorem dX7_think_1 : decode cX7_think 1 = .ok (.getfield 77, 3) := by decide +kernel
theorem dX7_think_4 : decode cX7_think 4 = .ok (.aload_n 0, 1) := by decide +kernel
theorem dX7_think_5 : decode cX7_think 5 = .ok (.getfield 73, 3) := by decide +kernel
theorem dX7_think_8 : decode cX7_think 8 = .ok (.invokevirtual 207, 3) := by decide +kernel
theorem dX7_think_11 : decode cX7_think 11 = .ok (.aload_n 0, 1) := by decide +kernel
theorem dX7_think_12 : decode cX7_think 12 = .ok (.getfield 77, 3) := by decide +kernel
theorem dX7_think_15 : decode cX7_think 15 = .ok (.areturn, 1) := by decide +kernel
theorem dX7_keeps_0 : decode cX7_keeps 0 = .ok (.aload_n 0, 1) := by decide +kernel
theorem dX7_keeps_1 : decode cX7_keeps 1 = .ok (.invokevirtual 175, 3) := by decide +kernel
theorem dX7_keeps_4 : decode cX7_keeps 4 = .ok (.iload_n 1, 1) := by decide +kernel
theorem dX7_keeps_5 : decode cX7_keeps 5 = .ok (.invokevirtual 106, 3) := by decide +kernel
theorem dX7_keeps_8 : decode cX7_keeps 8 = .ok (.astore_n 3, 1) := by decide +kernel
theorem dX7_keeps_9 : decode cX7_keeps 9 = .ok (.aload_n 3, 1) := by decide +kernel
theorem dX7_keeps_10 : decode cX7_keeps 10 = .ok (.ifnull 10, 3) := by decide +kernel
theorem dX7_keeps_13 : decode cX7_keeps 13 = .ok (.iload_n 2, 1) := by decide +kernel
theorem dX7_keeps_14 : decode cX7_keeps 14 = .ok (.invokestatic 168, 3) := by decide +kernel
theorem dX7_keeps_17 : decode cX7_keeps 17 = .ok (.ifCond .ne 6, 3) := by decide +kernel
theorem dX7_keeps_20 : decode cX7_keeps 20 = .ok (.bipush (-2), 2) := by decide +kernel
theorem dX7_keeps_22 : decode cX7_keeps 22 = .ok (.ireturn, 1) := by decide +kernel
theorem dX7_keeps_23 : decode cX7_keeps 23 = .ok (.aload_n 3, 1) := by decide +kernel
theorem dX7_keeps_24 : decode cX7_keeps 24 = .ok (.getfield 132, 3) := by decide +kernel
theorem dX7_keeps_27 : decode cX7_keeps 27 = .ok (.istore 4, 2) := by decide +kernel
theorem dX7_keeps_29 : decode cX7_keeps 29 = .ok (.iconst 0, 1) := by decide +kernel
theorem dX7_keeps_30 : decode cX7_keeps 30 = .ok (.istore 5, 2) := by decide +kernel
theorem dX7_keeps_32 : decode cX7_keeps 32 = .ok (.iload 4, 2) := by decide +kernel
theorem dX7_keeps_34 : decode cX7_keeps 34 = .ok (.iload 5, 2) := by decide +kernel
theorem dX7_keeps_36 : decode cX7_keeps 36 = .ok (.iadd, 1) := by decide +kernel
theorem dX7_keeps_37 : decode cX7_keeps 37 = .ok (.bipush 100, 2) := by decide +kernel
theorem dX7_keeps_39 : decode cX7_keeps 39 = .ok (.if_icmp .ge 41, 3) := by decide +kernel
theorem dX7_keeps_42 : decode cX7_keeps 42 = .ok (.aload_n 0, 1) := by decide +kernel
theorem dX7_keeps_43 : decode cX7_keeps 43 = .ok (.invokevirtual 175, 3) := by decide +kernel
theorem dX7_keeps_46 : decode cX7_keeps 46 = .ok (.pop, 1) := by decide +kernel
theorem dX7_keeps_47 : decode cX7_keeps 47 = .ok (.aload_n 3, 1) := by decide +kernel
theorem dX7_keeps_48 : decode cX7_keeps 48 = .ok (.iload 4, 2) := by decide +kernel
theorem dX7_keeps_50 : decode cX7_keeps 50 = .ok (.iload 5, 2) := by decide +kernel
theorem dX7_keeps_52 : decode cX7_keeps 52 = .ok (.iadd, 1) := by decide +kernel
theorem dX7_keeps_53 : decode cX7_keeps 53 = .ok (.putfield 132, 3) := by decide +kernel
theorem dX7_keeps_56 : decode cX7_keeps 56 = .ok (.aload_n 0, 1) := by decide +kernel
theorem dX7_keeps_57 : decode cX7_keeps 57 = .ok (.getfield 77, 3) := by decide +kernel
theorem dX7_keeps_60 : decode cX7_keeps 60 = .ok (.iload_n 2, 1) := by decide +kernel
theorem dX7_keeps_61 : decode cX7_keeps 61 = .ok (.invokevirtual 179, 3) := by decide +kernel
theorem dX7_keeps_64 : decode cX7_keeps 64 = .ok (.aload_n 3, 1) := by decide +kernel
theorem dX7_keeps_65 : decode cX7_keeps 65 = .ok (.invokevirtual 210, 3) := by decide +kernel
theorem dX7_keeps_68 : decode cX7_keeps 68 = .ok (.ifCond .eq 6, 3) := by decide +kernel
theorem dX7_keeps_71 : decode cX7_keeps 71 = .ok (.iload 5, 2) := by decide +kernel
theorem dX7_keeps_73 : decode cX7_keeps 73 = .ok (.ireturn, 1) := by decide +kernel
theorem dX7_keeps_74 : decode cX7_keeps 74 = .ok (.iinc 5 1, 3) := by decide +kernel
theorem dX7_keeps_77 : decode cX7_keeps 77 = .ok (.goto (-45), 3) := by decide +kernel
theorem dX7_keeps_80 : decode cX7_keeps 80 = .ok (.iconst (-1), 1) := by decide +kernel
theorem dX7_keeps_81 : decode cX7_keeps 81 = .ok (.ireturn, 1) := by decide +kernel
theorem dX7_best_0 : decode cX7_best 0 = .ok (.aload_n 0, 1) := by decide +kernel
theorem dX7_best_1 : decode cX7_best 1 = .ok (.invokevirtual 175, 3) := by decide +kernel
theorem dX7_best_4 : decode cX7_best 4 = .ok (.iload_n 1, 1) := by decide +kernel
theorem dX7_best_5 : decode cX7_best 5 = .ok (.invokevirtual 106, 3) := by decide +kernel
theorem dX7_best_8 : decode cX7_best 8 = .ok (.astore 4, 2) := by decide +kernel
theorem dX7_best_10 : decode cX7_best 10 = .ok (.aload 4, 2) := by decide +kernel
theorem dX7_best_12 : decode cX7_best 12 = .ok (.ifnull 17, 3) := by decide +kernel
theorem dX7_best_15 : decode cX7_best 15 = .ok (.iload_n 2, 1) := by decide +kernel
theorem dX7_best_16 : decode cX7_best 16 = .ok (.invokestatic 168, 3) := by decide +kernel
theorem dX7_best_19 : decode cX7_best 19 = .ok (.ifCond .eq 10, 3) := by decide +kernel
theorem dX7_best_22 : decode cX7_best 22 = .ok (.iload_n 3, 1) := by decide +kernel
theorem dX7_best_23 : decode cX7_best 23 = .ok (.invokestatic 213, 3) := by decide +kernel
theorem dX7_best_26 : decode cX7_best 26 = .ok (.ifCond .ne 6, 3) := by decide +kernel
theorem dX7_best_29 : decode cX7_best 29 = .ok (.bipush (-2), 2) := by decide +kernel
theorem dX7_best_31 : decode cX7_best 31 = .ok (.ireturn, 1) := by decide +kernel
theorem dX7_best_32 : decode cX7_best 32 = .ok (.iconst 0, 1) := by decide +kernel
theorem dX7_best_33 : decode cX7_best 33 = .ok (.istore 5, 2) := by decide +kernel
theorem dX7_best_35 : decode cX7_best 35 = .ok (.iconst (-1), 1) := by decide +kernel
theorem dX7_best_36 : decode cX7_best 36 = .ok (.istore 6, 2) := by decide +kernel
theorem dX7_best_38 : decode cX7_best 38 = .ok (.iconst 0, 1) := by decide +kernel
theorem dX7_best_39 : decode cX7_best 39 = .ok (.istore 7, 2) := by decide +kernel
theorem dX7_best_41 : decode cX7_best 41 = .ok (.iload 7, 2) := by decide +kernel
theorem dX7_best_43 : decode cX7_best 43 = .ok (.bipush 16, 2) := by decide +kernel
theorem dX7_best_45 : decode cX7_best 45 = .ok (.if_icmp .ge 50, 3) := by decide +kernel
theorem dX7_best_48 : decode cX7_best 48 = .ok (.aload_n 0, 1) := by decide +kernel
theorem dX7_best_49 : decode cX7_best 49 = .ok (.invokevirtual 175, 3) := by decide +kernel
theorem dX7_best_52 : decode cX7_best 52 = .ok (.pop, 1) := by decide +kernel
theorem dX7_best_53 : decode cX7_best 53 = .ok (.aload 4, 2) := by decide +kernel
theorem dX7_best_55 : decode cX7_best 55 = .ok (.iload 7, 2) := by decide +kernel
theorem dX7_best_57 : decode cX7_best 57 = .ok (.putfield 126, 3) := by decide +kernel
theorem dX7_best_60 : decode cX7_best 60 = .ok (.aload_n 0, 1) := by decide +kernel
theorem dX7_best_61 : decode cX7_best 61 = .ok (.getfield 77, 3) := by decide +kernel
theorem dX7_best_64 : decode cX7_best 64 = .ok (.iload_n 2, 1) := by decide +kernel
theorem dX7_best_65 : decode cX7_best 65 = .ok (.invokevirtual 179, 3) := by decide +kernel
theorem dX7_best_68 : decode cX7_best 68 = .ok (.aload 4, 2) := by decide +kernel
theorem dX7_best_70 : decode cX7_best 70 = .ok (.getfield 132, 3) := by decide +kernel
theorem dX7_best_73 : decode cX7_best 73 = .ok (.iload 6, 2) := by decide +kernel
theorem dX7_best_75 : decode cX7_best 75 = .ok (.if_icmp .le 14, 3) := by decide +kernel
theorem dX7_best_78 : decode cX7_best 78 = .ok (.aload 4, 2) := by decide +kernel
theorem dX7_best_80 : decode cX7_best 80 = .ok (.getfield 132, 3) := by decide +kernel
theorem dX7_best_83 : decode cX7_best 83 = .ok (.istore 6, 2) := by decide +kernel
theorem dX7_best_85 : decode cX7_best 85 = .ok (.iload 7, 2) := by decide +kernel
theorem dX7_best_87 : decode cX7_best 87 = .ok (.istore 5, 2) := by decide +kernel
theorem dX7_best_89 : decode cX7_best 89 = .ok (.iinc 7 1, 3) := by decide +kernel
theorem dX7_best_92 : decode cX7_best 92 = .ok (.goto (-51), 3) := by decide +kernel
theorem dX7_best_95 : decode cX7_best 95 = .ok (.iload_n 3, 1) := by decide +kernel
theorem dX7_best_96 : decode cX7_best 96 = .ok (.ifCond .ne 8, 3) := by decide +kernel
theorem dX7_best_99 : decode cX7_best 99 = .ok (.iload 5, 2) := by decide +kernel
theorem dX7_best_101 : decode cX7_best 101 = .ok (.goto 5, 3) := by decide +kernel
theorem dX7_best_104 : decode cX7_best 104 = .ok (.iload 6, 2) := by decide +kernel
theorem dX7_best_106 : decode cX7_best 106 = .ok (.ireturn, 1) := by decide +kernel
theorem dX7_matters_0 : decode cX7_matters 0 = .ok (.aload_n 0, 1) := by decide +kernel
theorem dX7_matters_1 : decode cX7_matters 1 = .ok (.invokevirtual 175, 3) := by decide +kernel
theorem dX7_matters_4 : decode cX7_matters 4 = .ok (.iload_n 1, 1) := by decide +kernel
theorem dX7_matters_5 : decode cX7_matters 5 = .ok (.invokevirtual 106, 3) := by decide +kernel
theorem dX7_matters_8 : decode cX7_matters 8 = .ok (.astore 4, 2) := by decide +kernel
theorem dX7_matters_10 : decode cX7_matters 10 = .ok (.aload 4, 2) := by decide +kernel
theorem dX7_matters_12 : decode cX7_matters 12 = .ok (.ifnull 17, 3) := by decide +kernel
theorem dX7_matters_15 : decode cX7_matters 15 = .ok (.iload_n 2, 1) := by decide +kernel
theorem dX7_matters_16 : decode cX7_matters 16 = .ok (.invokestatic 168, 3) := by decide +kernel
theorem dX7_matters_19 : decode cX7_matters 19 = .ok (.ifCond .eq 10, 3) := by decide +kernel
theorem dX7_matters_22 : decode cX7_matters 22 = .ok (.iload_n 3, 1) := by decide +kernel
theorem dX7_matters_23 : decode cX7_matters 23 = .ok (.invokestatic 213, 3) := by decide +kernel
theorem dX7_matters_26 : decode cX7_matters 26 = .ok (.ifCond .ne 6, 3) := by decide +kernel
theorem dX7_matters_29 : decode cX7_matters 29 = .ok (.bipush (-2), 2) := by decide +kernel
theorem dX7_matters_31 : decode cX7_matters 31 = .ok (.ireturn, 1) := by decide +kernel
theorem dX7_matters_32 : decode cX7_matters 32 = .ok (.aload_n 0, 1) := by decide +kernel
theorem dX7_matters_33 : decode cX7_matters 33 = .ok (.getfield 77, 3) := by decide +kernel
theorem dX7_matters_36 : decode cX7_matters 36 = .ok (.iload_n 2, 1) := by decide +kernel
theorem dX7_matters_37 : decode cX7_matters 37 = .ok (.invokevirtual 179, 3) := by decide +kernel
theorem dX7_matters_40 : decode cX7_matters 40 = .ok (.aload 4, 2) := by decide +kernel
theorem dX7_matters_42 : decode cX7_matters 42 = .ok (.getfield 132, 3) := by decide +kernel
theorem dX7_matters_45 : decode cX7_matters 45 = .ok (.istore 5, 2) := by decide +kernel
theorem dX7_matters_47 : decode cX7_matters 47 = .ok (.iconst (-1), 1) := by decide +kernel
theorem dX7_matters_48 : decode cX7_matters 48 = .ok (.istore 6, 2) := by decide +kernel
theorem dX7_matters_50 : decode cX7_matters 50 = .ok (.iconst 0, 1) := by decide +kernel
theorem dX7_matters_51 : decode cX7_matters 51 = .ok (.istore 7, 2) := by decide +kernel
theorem dX7_matters_53 : decode cX7_matters 53 = .ok (.iload 7, 2) := by decide +kernel
theorem dX7_matters_55 : decode cX7_matters 55 = .ok (.aload_n 0, 1) := by decide +kernel
theorem dX7_matters_56 : decode cX7_matters 56 = .ok (.getfield 73, 3) := by decide +kernel
theorem dX7_matters_59 : decode cX7_matters 59 = .ok (.getfield 216, 3) := by decide +kernel
theorem dX7_matters_62 : decode cX7_matters 62 = .ok (.if_icmp .ge 82, 3) := by decide +kernel
theorem dX7_matters_65 : decode cX7_matters 65 = .ok (.aload_n 0, 1) := by decide +kernel
theorem dX7_matters_66 : decode cX7_matters 66 = .ok (.invokevirtual 175, 3) := by decide +kernel
theorem dX7_matters_69 : decode cX7_matters 69 = .ok (.iload 7, 2) := by decide +kernel
theorem dX7_matters_71 : decode cX7_matters 71 = .ok (.invokevirtual 106, 3) := by decide +kernel
theorem dX7_matters_74 : decode cX7_matters 74 = .ok (.astore 8, 2) := by decide +kernel
theorem dX7_matters_76 : decode cX7_matters 76 = .ok (.aload 8, 2) := by decide +kernel
theorem dX7_matters_78 : decode cX7_matters 78 = .ok (.ifnull 60, 3) := by decide +kernel
theorem dX7_matters_81 : decode cX7_matters 81 = .ok (.iload 7, 2) := by decide +kernel
theorem dX7_matters_83 : decode cX7_matters 83 = .ok (.iload_n 1, 1) := by decide +kernel
theorem dX7_matters_84 : decode cX7_matters 84 = .ok (.if_icmp .eq 54, 3) := by decide +kernel
theorem dX7_matters_87 : decode cX7_matters 87 = .ok (.aload 8, 2) := by decide +kernel
theorem dX7_matters_89 : decode cX7_matters 89 = .ok (.getfield 129, 3) := by decide +kernel
theorem dX7_matters_92 : decode cX7_matters 92 = .ok (.aload 4, 2) := by decide +kernel
theorem dX7_matters_94 : decode cX7_matters 94 = .ok (.getfield 129, 3) := by decide +kernel
theorem dX7_matters_97 : decode cX7_matters 97 = .ok (.if_icmp .eq 6, 3) := by decide +kernel
theorem dX7_matters_100 : decode cX7_matters 100 = .ok (.goto 38, 3) := by decide +kernel
theorem dX7_matters_103 : decode cX7_matters 103 = .ok (.aload 8, 2) := by decide +kernel
theorem dX7_matters_105 : decode cX7_matters 105 = .ok (.iconst 0, 1) := by decide +kernel
theorem dX7_matters_106 : decode cX7_matters 106 = .ok (.putfield 132, 3) := by decide +kernel
theorem dX7_matters_109 : decode cX7_matters 109 = .ok (.aload_n 0, 1) := by decide +kernel
theorem dX7_matters_110 : decode cX7_matters 110 = .ok (.getfield 77, 3) := by decide +kernel
theorem dX7_matters_113 : decode cX7_matters 113 = .ok (.iload_n 2, 1) := by decide +kernel
theorem dX7_matters_114 : decode cX7_matters 114 = .ok (.invokevirtual 179, 3) := by decide +kernel
theorem dX7_matters_117 : decode cX7_matters 117 = .ok (.aload 4, 2) := by decide +kernel
theorem dX7_matters_119 : decode cX7_matters 119 = .ok (.getfield 132, 3) := by decide +kernel
theorem dX7_matters_122 : decode cX7_matters 122 = .ok (.iload 5, 2) := by decide +kernel
theorem dX7_matters_124 : decode cX7_matters 124 = .ok (.if_icmp .ge 14, 3) := by decide +kernel
theorem dX7_matters_127 : decode cX7_matters 127 = .ok (.aload 4, 2) := by decide +kernel
theorem dX7_matters_129 : decode cX7_matters 129 = .ok (.getfield 132, 3) := by decide +kernel
theorem dX7_matters_132 : decode cX7_matters 132 = .ok (.istore 5, 2) := by decide +kernel
theorem dX7_matters_134 : decode cX7_matters 134 = .ok (.iload 7, 2) := by decide +kernel
theorem dX7_matters_136 : decode cX7_matters 136 = .ok (.istore 6, 2) := by decide +kernel
theorem dX7_matters_138 : decode cX7_matters 138 = .ok (.iinc 7 1, 3) := by decide +kernel
theorem dX7_matters_141 : decode cX7_matters 141 = .ok (.goto (-88), 3) := by decide +kernel
theorem dX7_matters_144 : decode cX7_matters 144 = .ok (.iload_n 3, 1) := by decide +kernel
theorem dX7_matters_145 : decode cX7_matters 145 = .ok (.ifCond .ne 8, 3) := by decide +kernel
theorem dX7_matters_148 : decode cX7_matters 148 = .ok (.iload 6, 2) := by decide +kernel
theorem dX7_matters_150 : decode cX7_matters 150 = .ok (.goto 5, 3) := by decide +kernel
theorem dX7_matters_153 : decode cX7_matters 153 = .ok (.iload 5, 2) := by decide +kernel
theorem dX7_matters_155 : decode cX7_matters 155 = .ok (.ireturn, 1) := by decide +kernel
theorem dX7_wish_0 : decode cX7_wish 0 = .ok (.iload_n 1, 1) := by decide +kernel
theorem dX7_wish_1 : decode cX7_wish 1 = .ok (.ifCond .lt 22, 3) := by decide +kernel
theorem dX7_wish_4 : decode cX7_wish 4 = .ok (.iload_n 1, 1) := by decide +kernel
theorem dX7_wish_5 : decode cX7_wish 5 = .ok (.iconst 2, 1) := by decide +kernel
theorem dX7_wish_6 : decode cX7_wish 6 = .ok (.if_icmp .ge 17, 3) := by decide +kernel
theorem dX7_wish_9 : decode cX7_wish 9 = .ok (.iload_n 2, 1) := by decide +kernel
theorem dX7_wish_10 : decode cX7_wish 10 = .ok (.invokestatic 168, 3) := by decide +kernel
theorem dX7_wish_13 : decode cX7_wish 13 = .ok (.ifCond .eq 10, 3) := by decide +kernel
theorem dX7_wish_16 : decode cX7_wish 16 = .ok (.iload_n 3, 1) := by decide +kernel
theorem dX7_wish_17 : decode cX7_wish 17 = .ok (.invokestatic 213, 3) := by decide +kernel
theorem dX7_wish_20 : decode cX7_wish 20 = .ok (.ifCond .ne 6, 3) := by decide +kernel
theorem dX7_wish_23 : decode cX7_wish 23 = .ok (.ldc 174, 2) := by decide +kernel
theorem dX7_wish_25 : decode cX7_wish 25 = .ok (.ireturn, 1) := by decide +kernel
theorem dX7_wish_26 : decode cX7_wish 26 = .ok (.aload_n 0, 1) := by decide +kernel
theorem dX7_wish_27 : decode cX7_wish 27 = .ok (.invokevirtual 175, 3) := by decide +kernel
theorem dX7_wish_30 : decode cX7_wish 30 = .ok (.iload_n 2, 1) := by decide +kernel
theorem dX7_wish_31 : decode cX7_wish 31 = .ok (.invokevirtual 179, 3) := by decide +kernel
theorem dX7_wish_34 : decode cX7_wish 34 = .ok (.aload_n 0, 1) := by decide +kernel
theorem dX7_wish_35 : decode cX7_wish 35 = .ok (.getfield 77, 3) := by decide +kernel
theorem dX7_wish_38 : decode cX7_wish 38 = .ok (.iload_n 1, 1) := by decide +kernel
theorem dX7_wish_39 : decode cX7_wish 39 = .ok (.invokevirtual 204, 3) := by decide +kernel
theorem dX7_wish_42 : decode cX7_wish 42 = .ok (.istore 4, 2) := by decide +kernel
theorem dX7_wish_44 : decode cX7_wish 44 = .ok (.iconst (-1), 1) := by decide +kernel
theorem dX7_wish_45 : decode cX7_wish 45 = .ok (.istore 5, 2) := by decide +kernel
theorem dX7_wish_47 : decode cX7_wish 47 = .ok (.iconst 0, 1) := by decide +kernel
theorem dX7_wish_48 : decode cX7_wish 48 = .ok (.istore 6, 2) := by decide +kernel
theorem dX7_wish_50 : decode cX7_wish 50 = .ok (.iload 6, 2) := by decide +kernel
theorem dX7_wish_52 : decode cX7_wish 52 = .ok (.aload_n 0, 1) := by decide +kernel
theorem dX7_wish_53 : decode cX7_wish 53 = .ok (.getfield 73, 3) := by decide +kernel
theorem dX7_wish_56 : decode cX7_wish 56 = .ok (.getfield 216, 3) := by decide +kernel
theorem dX7_wish_59 : decode cX7_wish 59 = .ok (.if_icmp .ge 76, 3) := by decide +kernel
theorem dX7_wish_62 : decode cX7_wish 62 = .ok (.aload_n 0, 1) := by decide +kernel
theorem dX7_wish_63 : decode cX7_wish 63 = .ok (.invokevirtual 175, 3) := by decide +kernel
theorem dX7_wish_66 : decode cX7_wish 66 = .ok (.iload 6, 2) := by decide +kernel
theorem dX7_wish_68 : decode cX7_wish 68 = .ok (.invokevirtual 106, 3) := by decide +kernel
theorem dX7_wish_71 : decode cX7_wish 71 = .ok (.astore 7, 2) := by decide +kernel
theorem dX7_wish_73 : decode cX7_wish 73 = .ok (.aload 7, 2) := by decide +kernel
theorem dX7_wish_75 : decode cX7_wish 75 = .ok (.ifnull 54, 3) := by decide +kernel
theorem dX7_wish_78 : decode cX7_wish 78 = .ok (.aload 7, 2) := by decide +kernel
theorem dX7_wish_80 : decode cX7_wish 80 = .ok (.getfield 129, 3) := by decide +kernel
theorem dX7_wish_83 : decode cX7_wish 83 = .ok (.iload_n 1, 1) := by decide +kernel
theorem dX7_wish_84 : decode cX7_wish 84 = .ok (.if_icmp .ne 6, 3) := by decide +kernel
theorem dX7_wish_87 : decode cX7_wish 87 = .ok (.goto 42, 3) := by decide +kernel
theorem dX7_wish_90 : decode cX7_wish 90 = .ok (.aload 7, 2) := by decide +kernel
theorem dX7_wish_92 : decode cX7_wish 92 = .ok (.iconst 0, 1) := by decide +kernel
theorem dX7_wish_93 : decode cX7_wish 93 = .ok (.putfield 132, 3) := by decide +kernel
theorem dX7_wish_96 : decode cX7_wish 96 = .ok (.aload_n 0, 1) := by decide +kernel
theorem dX7_wish_97 : decode cX7_wish 97 = .ok (.getfield 77, 3) := by decide +kernel
theorem dX7_wish_100 : decode cX7_wish 100 = .ok (.iload_n 2, 1) := by decide +kernel
theorem dX7_wish_101 : decode cX7_wish 101 = .ok (.invokevirtual 179, 3) := by decide +kernel
theorem dX7_wish_104 : decode cX7_wish 104 = .ok (.aload_n 0, 1) := by decide +kernel
theorem dX7_wish_105 : decode cX7_wish 105 = .ok (.getfield 77, 3) := by decide +kernel
theorem dX7_wish_108 : decode cX7_wish 108 = .ok (.iload_n 1, 1) := by decide +kernel
theorem dX7_wish_109 : decode cX7_wish 109 = .ok (.invokevirtual 204, 3) := by decide +kernel
theorem dX7_wish_112 : decode cX7_wish 112 = .ok (.istore 8, 2) := by decide +kernel
theorem dX7_wish_114 : decode cX7_wish 114 = .ok (.iload 8, 2) := by decide +kernel
theorem dX7_wish_116 : decode cX7_wish 116 = .ok (.iload 4, 2) := by decide +kernel
theorem dX7_wish_118 : decode cX7_wish 118 = .ok (.if_icmp .le 11, 3) := by decide +kernel
theorem dX7_wish_121 : decode cX7_wish 121 = .ok (.iload 8, 2) := by decide +kernel
theorem dX7_wish_123 : decode cX7_wish 123 = .ok (.istore 4, 2) := by decide +kernel
theorem dX7_wish_125 : decode cX7_wish 125 = .ok (.iload 6, 2) := by decide +kernel
theorem dX7_wish_127 : decode cX7_wish 127 = .ok (.istore 5, 2) := by decide +kernel
theorem dX7_wish_129 : decode cX7_wish 129 = .ok (.iinc 6 1, 3) := by decide +kernel
theorem dX7_wish_132 : decode cX7_wish 132 = .ok (.goto (-82), 3) := by decide +kernel
theorem dX7_wish_135 : decode cX7_wish 135 = .ok (.iload_n 3, 1) := by decide +kernel
theorem dX7_wish_136 : decode cX7_wish 136 = .ok (.ifCond .ne 8, 3) := by decide +kernel
theorem dX7_wish_139 : decode cX7_wish 139 = .ok (.iload 5, 2) := by decide +kernel
theorem dX7_wish_141 : decode cX7_wish 141 = .ok (.goto 5, 3) := by decide +kernel
theorem dX7_wish_144 : decode cX7_wish 144 = .ok (.iload 4, 2) := by decide +kernel
theorem dX7_wish_146 : decode cX7_wish 146 = .ok (.ireturn, 1) := by decide +kernel
theorem dX7_game_0 : decode cX7_game 0 = .ok (.iload_n 1, 1) := by decide +kernel
theorem dX7_game_1 : decode cX7_game 1 = .ok (.iconst 1, 1) := by decide +kernel
theorem dX7_game_2 : decode cX7_game 2 = .ok (.if_icmp .lt 15, 3) := by decide +kernel
theorem dX7_game_5 : decode cX7_game 5 = .ok (.iload_n 1, 1) := by decide +kernel
theorem dX7_game_6 : decode cX7_game 6 = .ok (.iconst 3, 1) := by decide +kernel
theorem dX7_game_7 : decode cX7_game 7 = .ok (.if_icmp .gt 10, 3) := by decide +kernel
theorem dX7_game_10 : decode cX7_game 10 = .ok (.iload_n 2, 1) := by decide +kernel
theorem dX7_game_11 : decode cX7_game 11 = .ok (.invokestatic 213, 3) := by decide +kernel
theorem dX7_game_14 : decode cX7_game 14 = .ok (.ifCond .ne 6, 3) := by decide +kernel
theorem dX7_game_17 : decode cX7_game 17 = .ok (.ldc 174, 2) := by decide +kernel
theorem dX7_game_19 : decode cX7_game 19 = .ok (.ireturn, 1) := by decide +kernel
theorem dX7_game_20 : decode cX7_game 20 = .ok (.aload_n 0, 1) := by decide +kernel
theorem dX7_game_21 : decode cX7_game 21 = .ok (.invokevirtual 175, 3) := by decide +kernel
theorem dX7_game_24 : decode cX7_game 24 = .ok (.pop, 1) := by decide +kernel
theorem dX7_game_25 : decode cX7_game 25 = .ok (.aload_n 0, 1) := by decide +kernel
theorem dX7_game_26 : decode cX7_game 26 = .ok (.getfield 88, 3) := by decide +kernel
theorem dX7_game_29 : decode cX7_game 29 = .ok (.iload_n 1, 1) := by decide +kernel
theorem dX7_game_30 : decode cX7_game 30 = .ok (.ldc 219, 2) := by decide +kernel
theorem dX7_game_32 : decode cX7_game 32 = .ok (.ldc 220, 2) := by decide +kernel
theorem dX7_game_34 : decode cX7_game 34 = .ok (.invokevirtual 221, 3) := by decide +kernel
theorem dX7_game_37 : decode cX7_game 37 = .ok (.istore_n 3, 1) := by decide +kernel
theorem dX7_game_38 : decode cX7_game 38 = .ok (.iload_n 2, 1) := by decide +kernel
theorem dX7_game_39 : decode cX7_game 39 = .ok (.ifCond .ne 7, 3) := by decide +kernel
theorem dX7_game_42 : decode cX7_game 42 = .ok (.iload_n 3, 1) := by decide +kernel
theorem dX7_game_43 : decode cX7_game 43 = .ok (.goto 10, 3) := by decide +kernel
theorem dX7_game_46 : decode cX7_game 46 = .ok (.aload_n 0, 1) := by decide +kernel
theorem dX7_game_47 : decode cX7_game 47 = .ok (.getfield 88, 3) := by decide +kernel
theorem dX7_game_50 : decode cX7_game 50 = .ok (.getfield 224, 3) := by decide +kernel
theorem dX7_game_53 : decode cX7_game 53 = .ok (.ireturn, 1) := by decide +kernel
theorem dX7_isAnswer_0 : decode cX7_isAnswer 0 = .ok (.iload_n 0, 1) := by decide +kernel
theorem dX7_isAnswer_1 : decode cX7_isAnswer 1 = .ok (.ifCond .eq 8, 3) := by decide +kernel
theorem dX7_isAnswer_4 : decode cX7_isAnswer 4 = .ok (.iload_n 0, 1) := by decide +kernel
theorem dX7_isAnswer_5 : decode cX7_isAnswer 5 = .ok (.iconst 1, 1) := by decide +kernel
theorem dX7_isAnswer_6 : decode cX7_isAnswer 6 = .ok (.if_icmp .ne 7, 3) := by decide +kernel
theorem dX7_isAnswer_9 : decode cX7_isAnswer 9 = .ok (.iconst 1, 1) := by decide +kernel
theorem dX7_isAnswer_10 : decode cX7_isAnswer 10 = .ok (.goto 4, 3) := by decide +kernel
theorem dX7_isAnswer_13 : decode cX7_isAnswer 13 = .ok (.iconst 0, 1) := by decide +kernel
theorem dX7_isAnswer_14 : decode cX7_isAnswer 14 = .ok (.ireturn, 1) := by decide +kernel
theorem dX7_tells_0 : decode cX7_tells 0 = .ok (.aload_n 0, 1) := by decide +kernel
theorem dX7_tells_1 : decode cX7_tells 1 = .ok (.iload_n 1, 1) := by decide +kernel
theorem dX7_tells_2 : decode cX7_tells 2 = .ok (.invokevirtual 185, 3) := by decide +kernel
theorem dX7_tells_5 : decode cX7_tells 5 = .ok (.astore 4, 2) := by decide +kernel
theorem dX7_tells_7 : decode cX7_tells 7 = .ok (.aload_n 0, 1) := by decide +kernel
theorem dX7_tells_8 : decode cX7_tells 8 = .ok (.invokevirtual 175, 3) := by decide +kernel
theorem dX7_tells_11 : decode cX7_tells 11 = .ok (.iload_n 2, 1) := by decide +kernel
theorem dX7_tells_12 : decode cX7_tells 12 = .ok (.invokevirtual 106, 3) := by decide +kernel
theorem dX7_tells_15 : decode cX7_tells 15 = .ok (.astore 5, 2) := by decide +kernel
theorem dX7_tells_17 : decode cX7_tells 17 = .ok (.aload 4, 2) := by decide +kernel
theorem dX7_tells_19 : decode cX7_tells 19 = .ok (.ifnull 17, 3) := by decide +kernel
theorem dX7_tells_22 : decode cX7_tells 22 = .ok (.aload 5, 2) := by decide +kernel
theorem dX7_tells_24 : decode cX7_tells 24 = .ok (.ifnull 12, 3) := by decide +kernel
theorem dX7_tells_27 : decode cX7_tells 27 = .ok (.iload_n 3, 1) := by decide +kernel
theorem dX7_tells_28 : decode cX7_tells 28 = .ok (.ifCond .lt 8, 3) := by decide +kernel
theorem dX7_tells_31 : decode cX7_tells 31 = .ok (.iload_n 3, 1) := by decide +kernel
theorem dX7_tells_32 : decode cX7_tells 32 = .ok (.iconst 5, 1) := by decide +kernel
theorem dX7_tells_33 : decode cX7_tells 33 = .ok (.if_icmp .le 6, 3) := by decide +kernel
theorem dX7_tells_36 : decode cX7_tells 36 = .ok (.bipush (-2), 2) := by decide +kernel
theorem dX7_tells_38 : decode cX7_tells 38 = .ok (.ireturn, 1) := by decide +kernel
theorem dX7_tells_39 : decode cX7_tells 39 = .ok (.aload 4, 2) := by decide +kernel
theorem dX7_tells_41 : decode cX7_tells 41 = .ok (.invokevirtual 189, 3) := by decide +kernel
theorem dX7_tells_44 : decode cX7_tells 44 = .ok (.ifCond .eq 6, 3) := by decide +kernel
theorem dX7_tells_47 : decode cX7_tells 47 = .ok (.bipush (-11), 2) := by decide +kernel
theorem dX7_tells_49 : decode cX7_tells 49 = .ok (.ireturn, 1) := by decide +kernel
theorem dX7_tells_50 : decode cX7_tells 50 = .ok (.iload_n 3, 1) := by decide +kernel
theorem dX7_tells_51 : decode cX7_tells 51 = .ok (.ifCond .ne 12, 3) := by decide +kernel
theorem dX7_tells_54 : decode cX7_tells 54 = .ok (.aload_n 0, 1) := by decide +kernel
theorem dX7_tells_55 : decode cX7_tells 55 = .ok (.aload 4, 2) := by decide +kernel
theorem dX7_tells_57 : decode cX7_tells 57 = .ok (.aload 5, 2) := by decide +kernel
theorem dX7_tells_59 : decode cX7_tells 59 = .ok (.invokevirtual 227, 3) := by decide +kernel
theorem dX7_tells_62 : decode cX7_tells 62 = .ok (.ireturn, 1) := by decide +kernel
theorem dX7_tells_63 : decode cX7_tells 63 = .ok (.iconst 0, 1) := by decide +kernel
theorem dX7_tells_64 : decode cX7_tells 64 = .ok (.istore 6, 2) := by decide +kernel
theorem dX7_tells_66 : decode cX7_tells 66 = .ok (.aload_n 0, 1) := by decide +kernel
theorem dX7_tells_67 : decode cX7_tells 67 = .ok (.iload_n 3, 1) := by decide +kernel
theorem dX7_tells_68 : decode cX7_tells 68 = .ok (.invokevirtual 231, 3) := by decide +kernel
theorem dX7_tells_71 : decode cX7_tells 71 = .ok (.istore 7, 2) := by decide +kernel
theorem dX7_tells_73 : decode cX7_tells 73 = .ok (.iconst 0, 1) := by decide +kernel
theorem dX7_tells_74 : decode cX7_tells 74 = .ok (.istore 8, 2) := by decide +kernel
theorem dX7_tells_76 : decode cX7_tells 76 = .ok (.iload 8, 2) := by decide +kernel
theorem dX7_tells_78 : decode cX7_tells 78 = .ok (.iload 7, 2) := by decide +kernel
theorem dX7_tells_80 : decode cX7_tells 80 = .ok (.if_icmp .ge 44, 3) := by decide +kernel
theorem dX7_tells_83 : decode cX7_tells 83 = .ok (.aload_n 0, 1) := by decide +kernel
theorem dX7_tells_84 : decode cX7_tells 84 = .ok (.invokevirtual 175, 3) := by decide +kernel
theorem dX7_tells_87 : decode cX7_tells 87 = .ok (.pop, 1) := by decide +kernel
theorem dX7_tells_88 : decode cX7_tells 88 = .ok (.aload_n 0, 1) := by decide +kernel
theorem dX7_tells_89 : decode cX7_tells 89 = .ok (.aload 5, 2) := by decide +kernel
theorem dX7_tells_91 : decode cX7_tells 91 = .ok (.iload_n 3, 1) := by decide +kernel
theorem dX7_tells_92 : decode cX7_tells 92 = .ok (.iload 8, 2) := by decide +kernel
theorem dX7_tells_94 : decode cX7_tells 94 = .ok (.invokevirtual 234, 3) := by decide +kernel
theorem dX7_tells_97 : decode cX7_tells 97 = .ok (.aload_n 0, 1) := by decide +kernel
theorem dX7_tells_98 : decode cX7_tells 98 = .ok (.aload 4, 2) := by decide +kernel
theorem dX7_tells_100 : decode cX7_tells 100 = .ok (.aload 5, 2) := by decide +kernel
theorem dX7_tells_102 : decode cX7_tells 102 = .ok (.invokevirtual 227, 3) := by decide +kernel
theorem dX7_tells_105 : decode cX7_tells 105 = .ok (.iconst (-1), 1) := by decide +kernel
theorem dX7_tells_106 : decode cX7_tells 106 = .ok (.if_icmp .ne 12, 3) := by decide +kernel
theorem dX7_tells_109 : decode cX7_tells 109 = .ok (.iload 6, 2) := by decide +kernel
theorem dX7_tells_111 : decode cX7_tells 111 = .ok (.iconst 1, 1) := by decide +kernel
theorem dX7_tells_112 : decode cX7_tells 112 = .ok (.iload 8, 2) := by decide +kernel
theorem dX7_tells_114 : decode cX7_tells 114 = .ok (.ishl, 1) := by decide +kernel
theorem dX7_tells_115 : decode cX7_tells 115 = .ok (.ior, 1) := by decide +kernel
theorem dX7_tells_116 : decode cX7_tells 116 = .ok (.istore 6, 2) := by decide +kernel
theorem dX7_tells_118 : decode cX7_tells 118 = .ok (.iinc 8 1, 3) := by decide +kernel
theorem dX7_tells_121 : decode cX7_tells 121 = .ok (.goto (-45), 3) := by decide +kernel
theorem dX7_tells_124 : decode cX7_tells 124 = .ok (.iload 6, 2) := by decide +kernel
theorem dX7_tells_126 : decode cX7_tells 126 = .ok (.ireturn, 1) := by decide +kernel
theorem dX7_choicesOf_0 : decode cX7_choicesOf 0 = .ok (.iload_n 1, 1) := by decide +kernel
theorem dX7_choicesOf_1 : decode cX7_choicesOf 1 = .ok (.tableswitch 43 1 4 #[31, 34, 37, 40], 31) := by decide +kernel
theorem dX7_choicesOf_32 : decode cX7_choicesOf 32 = .ok (.bipush 6, 2) := by decide +kernel
theorem dX7_choicesOf_34 : decode cX7_choicesOf 34 = .ok (.ireturn, 1) := by decide +kernel
theorem dX7_choicesOf_35 : decode cX7_choicesOf 35 = .ok (.bipush 10, 2) := by decide +kernel
theorem dX7_choicesOf_37 : decode cX7_choicesOf 37 = .ok (.ireturn, 1) := by decide +kernel
theorem dX7_choicesOf_38 : decode cX7_choicesOf 38 = .ok (.bipush 10, 2) := by decide +kernel
theorem dX7_choicesOf_40 : decode cX7_choicesOf 40 = .ok (.ireturn, 1) := by decide +kernel
theorem dX7_choicesOf_41 : decode cX7_choicesOf 41 = .ok (.bipush 16, 2) := by decide +kernel
theorem dX7_choicesOf_43 : decode cX7_choicesOf 43 = .ok (.ireturn, 1) := by decide +kernel
theorem dX7_choicesOf_44 : decode cX7_choicesOf 44 = .ok (.aload_n 0, 1) := by decide +kernel
theorem dX7_choicesOf_45 : decode cX7_choicesOf 45 = .ok (.getfield 64, 3) := by decide +kernel
theorem dX7_choicesOf_48 : decode cX7_choicesOf 48 = .ok (.ireturn, 1) := by decide +kernel
theorem dX7_suppose_0 : decode cX7_suppose 0 = .ok (.iload_n 2, 1) := by decide +kernel
theorem dX7_suppose_1 : decode cX7_suppose 1 = .ok (.tableswitch 66 1 4 #[31, 39, 47, 58], 31) := by decide +kernel
theorem dX7_suppose_32 : decode cX7_suppose 32 = .ok (.aload_n 1, 1) := by decide +kernel
theorem dX7_suppose_33 : decode cX7_suppose 33 = .ok (.iload_n 3, 1) := by decide +kernel
theorem dX7_suppose_34 : decode cX7_suppose 34 = .ok (.putfield 135, 3) := by decide +kernel
theorem dX7_suppose_37 : decode cX7_suppose 37 = .ok (.goto 53, 3) := by decide +kernel
theorem dX7_suppose_40 : decode cX7_suppose 40 = .ok (.aload_n 1, 1) := by decide +kernel
theorem dX7_suppose_41 : decode cX7_suppose 41 = .ok (.iload_n 3, 1) := by decide +kernel
theorem dX7_suppose_42 : decode cX7_suppose 42 = .ok (.putfield 121, 3) := by decide +kernel
theorem dX7_suppose_45 : decode cX7_suppose 45 = .ok (.goto 45, 3) := by decide +kernel
theorem dX7_suppose_48 : decode cX7_suppose 48 = .ok (.aload_n 0, 1) := by decide +kernel
theorem dX7_suppose_49 : decode cX7_suppose 49 = .ok (.getfield 77, 3) := by decide +kernel
theorem dX7_suppose_52 : decode cX7_suppose 52 = .ok (.iload_n 3, 1) := by decide +kernel
theorem dX7_suppose_53 : decode cX7_suppose 53 = .ok (.putfield 100, 3) := by decide +kernel
theorem dX7_suppose_56 : decode cX7_suppose 56 = .ok (.goto 34, 3) := by decide +kernel
theorem dX7_suppose_59 : decode cX7_suppose 59 = .ok (.aload_n 1, 1) := by decide +kernel
theorem dX7_suppose_60 : decode cX7_suppose 60 = .ok (.iload_n 3, 1) := by decide +kernel
theorem dX7_suppose_61 : decode cX7_suppose 61 = .ok (.putfield 126, 3) := by decide +kernel
theorem dX7_suppose_64 : decode cX7_suppose 64 = .ok (.goto 26, 3) := by decide +kernel
theorem dX7_suppose_67 : decode cX7_suppose 67 = .ok (.iload_n 3, 1) := by decide +kernel
theorem dX7_suppose_68 : decode cX7_suppose 68 = .ok (.ifCond .lt 22, 3) := by decide +kernel
theorem dX7_suppose_71 : decode cX7_suppose 71 = .ok (.iload_n 3, 1) := by decide +kernel
theorem dX7_suppose_72 : decode cX7_suppose 72 = .ok (.bipush 6, 2) := by decide +kernel
theorem dX7_suppose_74 : decode cX7_suppose 74 = .ok (.if_icmp .ge 16, 3) := by decide +kernel
theorem dX7_suppose_77 : decode cX7_suppose 77 = .ok (.aload_n 0, 1) := by decide +kernel
theorem dX7_suppose_78 : decode cX7_suppose 78 = .ok (.getfield 77, 3) := by decide +kernel
theorem dX7_suppose_81 : decode cX7_suppose 81 = .ok (.aload_n 0, 1) := by decide +kernel
theorem dX7_suppose_82 : decode cX7_suppose 82 = .ok (.getfield 27, 3) := by decide +kernel
theorem dX7_suppose_85 : decode cX7_suppose 85 = .ok (.iload_n 3, 1) := by decide +kernel
theorem dX7_suppose_86 : decode cX7_suppose 86 = .ok (.aaload, 1) := by decide +kernel
theorem dX7_suppose_87 : decode cX7_suppose 87 = .ok (.putfield 151, 3) := by decide +kernel
theorem dX7_suppose_90 : decode cX7_suppose 90 = .ok (.return_, 1) := by decide +kernel
theorem dX7_firstOther_0 : decode cX7_firstOther 0 = .ok (.iconst 0, 1) := by decide +kernel
theorem dX7_firstOther_1 : decode cX7_firstOther 1 = .ok (.istore_n 3, 1) := by decide +kernel
theorem dX7_firstOther_2 : decode cX7_firstOther 2 = .ok (.iload_n 3, 1) := by decide +kernel
theorem dX7_firstOther_3 : decode cX7_firstOther 3 = .ok (.aload_n 1, 1) := by decide +kernel
theorem dX7_firstOther_4 : decode cX7_firstOther 4 = .ok (.getfield 197, 3) := by decide +kernel
theorem dX7_firstOther_7 : decode cX7_firstOther 7 = .ok (.if_icmp .ge 30, 3) := by decide +kernel
theorem dX7_firstOther_10 : decode cX7_firstOther 10 = .ok (.aload_n 0, 1) := by decide +kernel
theorem dX7_firstOther_11 : decode cX7_firstOther 11 = .ok (.getfield 77, 3) := by decide +kernel
theorem dX7_firstOther_14 : decode cX7_firstOther 14 = .ok (.invokevirtual 158, 3) := by decide +kernel
theorem dX7_firstOther_17 : decode cX7_firstOther 17 = .ok (.aload_n 2, 1) := by decide +kernel
theorem dX7_firstOther_18 : decode cX7_firstOther 18 = .ok (.getfield 132, 3) := by decide +kernel
theorem dX7_firstOther_21 : decode cX7_firstOther 21 = .ok (.aload_n 1, 1) := by decide +kernel
theorem dX7_firstOther_22 : decode cX7_firstOther 22 = .ok (.iload_n 3, 1) := by decide +kernel
theorem dX7_firstOther_23 : decode cX7_firstOther 23 = .ok (.invokevirtual 198, 3) := by decide +kernel
theorem dX7_firstOther_26 : decode cX7_firstOther 26 = .ok (.if_icmp .eq 5, 3) := by decide +kernel
theorem dX7_firstOther_29 : decode cX7_firstOther 29 = .ok (.iload_n 3, 1) := by decide +kernel
theorem dX7_firstOther_30 : decode cX7_firstOther 30 = .ok (.ireturn, 1) := by decide +kernel
theorem dX7_firstOther_31 : decode cX7_firstOther 31 = .ok (.iinc 3 1, 3) := by decide +kernel
theorem dX7_firstOther_34 : decode cX7_firstOther 34 = .ok (.goto (-32), 3) := by decide +kernel
theorem dX7_firstOther_37 : decode cX7_firstOther 37 = .ok (.iconst (-1), 1) := by decide +kernel
theorem dX7_firstOther_38 : decode cX7_firstOther 38 = .ok (.ireturn, 1) := by decide +kernel
theorem dX7_film_0 : decode cX7_film 0 = .ok (.aload_n 0, 1) := by decide +kernel
theorem dX7_film_1 : decode cX7_film 1 = .ok (.iload_n 1, 1) := by decide +kernel
theorem dX7_film_2 : decode cX7_film 2 = .ok (.invokevirtual 185, 3) := by decide +kernel
theorem dX7_film_5 : decode cX7_film 5 = .ok (.astore 4, 2) := by decide +kernel
theorem dX7_film_7 : decode cX7_film 7 = .ok (.aload_n 0, 1) := by decide +kernel
theorem dX7_film_8 : decode cX7_film 8 = .ok (.invokevirtual 175, 3) := by decide +kernel
theorem dX7_film_11 : decode cX7_film 11 = .ok (.iload_n 2, 1) := by decide +kernel
theorem dX7_film_12 : decode cX7_film 12 = .ok (.invokevirtual 106, 3) := by decide +kernel
theorem dX7_film_15 : decode cX7_film 15 = .ok (.astore 5, 2) := by decide +kernel
theorem dX7_film_17 : decode cX7_film 17 = .ok (.aload 4, 2) := by decide +kernel
theorem dX7_film_19 : decode cX7_film 19 = .ok (.ifnull 15, 3) := by decide +kernel
theorem dX7_film_22 : decode cX7_film 22 = .ok (.aload 5, 2) := by decide +kernel
theorem dX7_film_24 : decode cX7_film 24 = .ok (.ifnull 10, 3) := by decide +kernel
theorem dX7_film_27 : decode cX7_film 27 = .ok (.iload_n 3, 1) := by decide +kernel
theorem dX7_film_28 : decode cX7_film 28 = .ok (.invokestatic 168, 3) := by decide +kernel
theorem dX7_film_31 : decode cX7_film 31 = .ok (.ifCond .ne 6, 3) := by decide +kernel
theorem dX7_film_34 : decode cX7_film 34 = .ok (.bipush (-2), 2) := by decide +kernel
theorem dX7_film_36 : decode cX7_film 36 = .ok (.ireturn, 1) := by decide +kernel
theorem dX7_film_37 : decode cX7_film 37 = .ok (.aload 4, 2) := by decide +kernel
theorem dX7_film_39 : decode cX7_film 39 = .ok (.iconst 0, 1) := by decide +kernel
theorem dX7_film_40 : decode cX7_film 40 = .ok (.iload_n 3, 1) := by decide +kernel
theorem dX7_film_41 : decode cX7_film 41 = .ok (.invokevirtual 237, 3) := by decide +kernel
theorem dX7_film_44 : decode cX7_film 44 = .ok (.iconst 0, 1) := by decide +kernel
theorem dX7_film_45 : decode cX7_film 45 = .ok (.istore 6, 2) := by decide +kernel
theorem dX7_film_47 : decode cX7_film 47 = .ok (.iload 6, 2) := by decide +kernel
theorem dX7_film_49 : decode cX7_film 49 = .ok (.iload_n 3, 1) := by decide +kernel
theorem dX7_film_50 : decode cX7_film 50 = .ok (.if_icmp .ge 29, 3) := by decide +kernel
theorem dX7_film_53 : decode cX7_film 53 = .ok (.aload_n 0, 1) := by decide +kernel
theorem dX7_film_54 : decode cX7_film 54 = .ok (.getfield 77, 3) := by decide +kernel
theorem dX7_film_57 : decode cX7_film 57 = .ok (.invokevirtual 158, 3) := by decide +kernel
theorem dX7_film_60 : decode cX7_film 60 = .ok (.aload 4, 2) := by decide +kernel
theorem dX7_film_62 : decode cX7_film 62 = .ok (.iload 6, 2) := by decide +kernel
theorem dX7_film_64 : decode cX7_film 64 = .ok (.aload 5, 2) := by decide +kernel
theorem dX7_film_66 : decode cX7_film 66 = .ok (.getfield 132, 3) := by decide +kernel
theorem dX7_film_69 : decode cX7_film 69 = .ok (.invokevirtual 241, 3) := by decide +kernel
theorem dX7_film_72 : decode cX7_film 72 = .ok (.pop, 1) := by decide +kernel
theorem dX7_film_73 : decode cX7_film 73 = .ok (.iinc 6 1, 3) := by decide +kernel
theorem dX7_film_76 : decode cX7_film 76 = .ok (.goto (-29), 3) := by decide +kernel
theorem dX7_film_79 : decode cX7_film 79 = .ok (.iload_n 3, 1) := by decide +kernel
theorem dX7_film_80 : decode cX7_film 80 = .ok (.ireturn, 1) := by decide +kernel
theorem dX7_drawn_0 : decode cX7_drawn 0 = .ok (.iload_n 2, 1) := by decide +kernel
theorem dX7_drawn_1 : decode cX7_drawn 1 = .ok (.invokestatic 168, 3) := by decide +kernel
theorem dX7_drawn_4 : decode cX7_drawn 4 = .ok (.ifCond .ne 6, 3) := by decide +kernel
theorem dX7_drawn_7 : decode cX7_drawn 7 = .ok (.bipush (-2), 2) := by decide +kernel
theorem dX7_drawn_9 : decode cX7_drawn 9 = .ok (.ireturn, 1) := by decide +kernel
theorem dX7_drawn_10 : decode cX7_drawn 10 = .ok (.aload_n 0, 1) := by decide +kernel
theorem dX7_drawn_11 : decode cX7_drawn 11 = .ok (.iload_n 1, 1) := by decide +kernel
theorem dX7_drawn_12 : decode cX7_drawn 12 = .ok (.iload_n 2, 1) := by decide +kernel
theorem dX7_drawn_13 : decode cX7_drawn 13 = .ok (.invokevirtual 245, 3) := by decide +kernel
theorem dX7_drawn_16 : decode cX7_drawn 16 = .ok (.aload_n 0, 1) := by decide +kernel
theorem dX7_drawn_17 : decode cX7_drawn 17 = .ok (.getfield 77, 3) := by decide +kernel
theorem dX7_drawn_20 : decode cX7_drawn 20 = .ok (.invokevirtual 161, 3) := by decide +kernel
theorem dX7_drawn_23 : decode cX7_drawn 23 = .ok (.ireturn, 1) := by decide +kernel
theorem dX7_chance_0 : decode cX7_chance 0 = .ok (.iload_n 2, 1) := by decide +kernel
theorem dX7_chance_1 : decode cX7_chance 1 = .ok (.iconst 1, 1) := by decide +kernel
theorem dX7_chance_2 : decode cX7_chance 2 = .ok (.if_icmp .lt 24, 3) := by decide +kernel
theorem dX7_chance_5 : decode cX7_chance 5 = .ok (.iload_n 2, 1) := by decide +kernel
theorem dX7_chance_6 : decode cX7_chance 6 = .ok (.bipush 20, 2) := by decide +kernel
theorem dX7_chance_8 : decode cX7_chance 8 = .ok (.if_icmp .gt 18, 3) := by decide +kernel
theorem dX7_chance_11 : decode cX7_chance 11 = .ok (.iload_n 3, 1) := by decide +kernel
theorem dX7_chance_12 : decode cX7_chance 12 = .ok (.invokestatic 168, 3) := by decide +kernel
theorem dX7_chance_15 : decode cX7_chance 15 = .ok (.ifCond .eq 11, 3) := by decide +kernel
theorem dX7_chance_18 : decode cX7_chance 18 = .ok (.iload 4, 2) := by decide +kernel
theorem dX7_chance_20 : decode cX7_chance 20 = .ok (.invokestatic 213, 3) := by decide +kernel
theorem dX7_chance_23 : decode cX7_chance 23 = .ok (.ifCond .ne 7, 3) := by decide +kernel
theorem dX7_chance_26 : decode cX7_chance 26 = .ok (.ldc2_w 248, 3) := by decide +kernel
theorem dX7_chance_29 : decode cX7_chance 29 = .ok (.lreturn, 1) := by decide +kernel
theorem dX7_chance_30 : decode cX7_chance 30 = .ok (.iconst 0, 1) := by decide +kernel
theorem dX7_chance_31 : decode cX7_chance 31 = .ok (.istore 5, 2) := by decide +kernel
theorem dX7_chance_33 : decode cX7_chance 33 = .ok (.iconst 0, 1) := by decide +kernel
theorem dX7_chance_34 : decode cX7_chance 34 = .ok (.istore 6, 2) := by decide +kernel
theorem dX7_chance_36 : decode cX7_chance 36 = .ok (.iload 6, 2) := by decide +kernel
theorem dX7_chance_38 : decode cX7_chance 38 = .ok (.iload_n 2, 1) := by decide +kernel
theorem dX7_chance_39 : decode cX7_chance 39 = .ok (.if_icmp .ge 31, 3) := by decide +kernel
theorem dX7_chance_42 : decode cX7_chance 42 = .ok (.aload_n 0, 1) := by decide +kernel
theorem dX7_chance_43 : decode cX7_chance 43 = .ok (.iload_n 1, 1) := by decide +kernel
theorem dX7_chance_44 : decode cX7_chance 44 = .ok (.iload 6, 2) := by decide +kernel
theorem dX7_chance_46 : decode cX7_chance 46 = .ok (.iadd, 1) := by decide +kernel
theorem dX7_chance_47 : decode cX7_chance 47 = .ok (.iload_n 3, 1) := by decide +kernel
theorem dX7_chance_48 : decode cX7_chance 48 = .ok (.invokevirtual 245, 3) := by decide +kernel
theorem dX7_chance_51 : decode cX7_chance 51 = .ok (.aload_n 0, 1) := by decide +kernel
theorem dX7_chance_52 : decode cX7_chance 52 = .ok (.getfield 77, 3) := by decide +kernel
theorem dX7_chance_55 : decode cX7_chance 55 = .ok (.invokevirtual 201, 3) := by decide +kernel
theorem dX7_chance_58 : decode cX7_chance 58 = .ok (.ifCond .ne 6, 3) := by decide +kernel
theorem dX7_chance_61 : decode cX7_chance 61 = .ok (.iinc 5 1, 3) := by decide +kernel
theorem dX7_chance_64 : decode cX7_chance 64 = .ok (.iinc 6 1, 3) := by decide +kernel
theorem dX7_chance_67 : decode cX7_chance 67 = .ok (.goto (-31), 3) := by decide +kernel
theorem dX7_chance_70 : decode cX7_chance 70 = .ok (.iload 5, 2) := by decide +kernel
theorem dX7_chance_72 : decode cX7_chance 72 = .ok (.iload_n 2, 1) := by decide +kernel
theorem dX7_chance_73 : decode cX7_chance 73 = .ok (.invokestatic 250, 3) := by decide +kernel
theorem dX7_chance_76 : decode cX7_chance 76 = .ok (.istore 6, 2) := by decide +kernel
theorem dX7_chance_78 : decode cX7_chance 78 = .ok (.iload 6, 2) := by decide +kernel
theorem dX7_chance_80 : decode cX7_chance 80 = .ok (.iconst 1, 1) := by decide +kernel
theorem dX7_chance_81 : decode cX7_chance 81 = .ok (.if_icmp .ge 7, 3) := by decide +kernel
theorem dX7_chance_84 : decode cX7_chance 84 = .ok (.ldc2_w 248, 3) := by decide +kernel
theorem dX7_chance_87 : decode cX7_chance 87 = .ok (.lreturn, 1) := by decide +kernel
theorem dX7_chance_88 : decode cX7_chance 88 = .ok (.iload 4, 2) := by decide +kernel
theorem dX7_chance_90 : decode cX7_chance 90 = .ok (.ifCond .ne 12, 3) := by decide +kernel
theorem dX7_chance_93 : decode cX7_chance 93 = .ok (.iload 5, 2) := by decide +kernel
theorem dX7_chance_95 : decode cX7_chance 95 = .ok (.iload 6, 2) := by decide +kernel
theorem dX7_chance_97 : decode cX7_chance 97 = .ok (.idiv, 1) := by decide +kernel
theorem dX7_chance_98 : decode cX7_chance 98 = .ok (.i2l, 1) := by decide +kernel
theorem dX7_chance_99 : decode cX7_chance 99 = .ok (.goto 8, 3) := by decide +kernel
theorem dX7_chance_102 : decode cX7_chance 102 = .ok (.iload_n 2, 1) := by decide +kernel
theorem dX7_chance_103 : decode cX7_chance 103 = .ok (.iload 6, 2) := by decide +kernel
theorem dX7_chance_105 : decode cX7_chance 105 = .ok (.idiv, 1) := by decide +kernel
theorem dX7_chance_106 : decode cX7_chance 106 = .ok (.i2l, 1) := by decide +kernel
theorem dX7_chance_107 : decode cX7_chance 107 = .ok (.lreturn, 1) := by decide +kernel
theorem dX7_passDrawn_0 : decode cX7_passDrawn 0 = .ok (.aload_n 0, 1) := by decide +kernel
theorem dX7_passDrawn_1 : decode cX7_passDrawn 1 = .ok (.invokevirtual 175, 3) := by decide +kernel
theorem dX7_passDrawn_4 : decode cX7_passDrawn 4 = .ok (.pop, 1) := by decide +kernel
theorem dX7_passDrawn_5 : decode cX7_passDrawn 5 = .ok (.iload_n 1, 1) := by decide +kernel
theorem dX7_passDrawn_6 : decode cX7_passDrawn 6 = .ok (.istore_n 3, 1) := by decide +kernel
theorem dX7_passDrawn_7 : decode cX7_passDrawn 7 = .ok (.iconst 0, 1) := by decide +kernel
theorem dX7_passDrawn_8 : decode cX7_passDrawn 8 = .ok (.istore 4, 2) := by decide +kernel
theorem dX7_passDrawn_10 : decode cX7_passDrawn 10 = .ok (.iload 4, 2) := by decide +kernel
theorem dX7_passDrawn_12 : decode cX7_passDrawn 12 = .ok (.iload_n 2, 1) := by decide +kernel
theorem dX7_passDrawn_13 : decode cX7_passDrawn 13 = .ok (.if_icmp .ge 39, 3) := by decide +kernel
theorem dX7_passDrawn_16 : decode cX7_passDrawn 16 = .ok (.iload_n 3, 1) := by decide +kernel
theorem dX7_passDrawn_17 : decode cX7_passDrawn 17 = .ok (.ldc 253, 2) := by decide +kernel
theorem dX7_passDrawn_19 : decode cX7_passDrawn 19 = .ok (.imul, 1) := by decide +kernel
theorem dX7_passDrawn_20 : decode cX7_passDrawn 20 = .ok (.sipush 12345, 3) := by decide +kernel
theorem dX7_passDrawn_23 : decode cX7_passDrawn 23 = .ok (.iadd, 1) := by decide +kernel
theorem dX7_passDrawn_24 : decode cX7_passDrawn 24 = .ok (.istore_n 3, 1) := by decide +kernel
theorem dX7_passDrawn_25 : decode cX7_passDrawn 25 = .ok (.aload_n 0, 1) := by decide +kernel
theorem dX7_passDrawn_26 : decode cX7_passDrawn 26 = .ok (.getfield 77, 3) := by decide +kernel
theorem dX7_passDrawn_29 : decode cX7_passDrawn 29 = .ok (.iload_n 3, 1) := by decide +kernel
theorem dX7_passDrawn_30 : decode cX7_passDrawn 30 = .ok (.bipush 9, 2) := by decide +kernel
theorem dX7_passDrawn_32 : decode cX7_passDrawn 32 = .ok (.iushr, 1) := by decide +kernel
theorem dX7_passDrawn_33 : decode cX7_passDrawn 33 = .ok (.bipush 10, 2) := by decide +kernel
theorem dX7_passDrawn_35 : decode cX7_passDrawn 35 = .ok (.irem, 1) := by decide +kernel
theorem dX7_passDrawn_36 : decode cX7_passDrawn 36 = .ok (.putfield 100, 3) := by decide +kernel
theorem dX7_passDrawn_39 : decode cX7_passDrawn 39 = .ok (.aload_n 0, 1) := by decide +kernel
theorem dX7_passDrawn_40 : decode cX7_passDrawn 40 = .ok (.getfield 77, 3) := by decide +kernel
theorem dX7_passDrawn_43 : decode cX7_passDrawn 43 = .ok (.invokevirtual 158, 3) := by decide +kernel
theorem dX7_passDrawn_46 : decode cX7_passDrawn 46 = .ok (.iinc 4 1, 3) := by decide +kernel
theorem dX7_passDrawn_49 : decode cX7_passDrawn 49 = .ok (.goto (-39), 3) := by decide +kernel
theorem dX7_passDrawn_52 : decode cX7_passDrawn 52 = .ok (.return_, 1) := by decide +kernel
theorem dX7_commonDivisor_0 : decode cX7_commonDivisor 0 = .ok (.iload_n 1, 1) := by decide +kernel
theorem dX7_commonDivisor_1 : decode cX7_commonDivisor 1 = .ok (.istore_n 2, 1) := by decide +kernel
theorem dX7_commonDivisor_2 : decode cX7_commonDivisor 2 = .ok (.iload_n 2, 1) := by decide +kernel
theorem dX7_commonDivisor_3 : decode cX7_commonDivisor 3 = .ok (.iconst 1, 1) := by decide +kernel
theorem dX7_commonDivisor_4 : decode cX7_commonDivisor 4 = .ok (.if_icmp .le 23, 3) := by decide +kernel
theorem dX7_commonDivisor_7 : decode cX7_commonDivisor 7 = .ok (.iload_n 0, 1) := by decide +kernel
theorem dX7_commonDivisor_8 : decode cX7_commonDivisor 8 = .ok (.iload_n 2, 1) := by decide +kernel
theorem dX7_commonDivisor_9 : decode cX7_commonDivisor 9 = .ok (.irem, 1) := by decide +kernel
theorem dX7_commonDivisor_10 : decode cX7_commonDivisor 10 = .ok (.ifCond .ne 11, 3) := by decide +kernel
theorem dX7_commonDivisor_13 : decode cX7_commonDivisor 13 = .ok (.iload_n 1, 1) := by decide +kernel
theorem dX7_commonDivisor_14 : decode cX7_commonDivisor 14 = .ok (.iload_n 2, 1) := by decide +kernel
theorem dX7_commonDivisor_15 : decode cX7_commonDivisor 15 = .ok (.irem, 1) := by decide +kernel
theorem dX7_commonDivisor_16 : decode cX7_commonDivisor 16 = .ok (.ifCond .ne 5, 3) := by decide +kernel
theorem dX7_commonDivisor_19 : decode cX7_commonDivisor 19 = .ok (.iload_n 2, 1) := by decide +kernel
theorem dX7_commonDivisor_20 : decode cX7_commonDivisor 20 = .ok (.ireturn, 1) := by decide +kernel
theorem dX7_commonDivisor_21 : decode cX7_commonDivisor 21 = .ok (.iinc 2 (-1), 3) := by decide +kernel
theorem dX7_commonDivisor_24 : decode cX7_commonDivisor 24 = .ok (.goto (-22), 3) := by decide +kernel
theorem dX7_commonDivisor_27 : decode cX7_commonDivisor 27 = .ok (.iconst 1, 1) := by decide +kernel
theorem dX7_commonDivisor_28 : decode cX7_commonDivisor 28 = .ok (.ireturn, 1) := by decide +kernel
theorem dX7_image_0 : decode cX7_image 0 = .ok (.aload_n 0, 1) := by decide +kernel
theorem dX7_image_1 : decode cX7_image 1 = .ok (.getfield 80, 3) := by decide +kernel
theorem dX7_image_4 : decode cX7_image 4 = .ok (.aload_n 0, 1) := by decide +kernel
theorem dX7_image_5 : decode cX7_image 5 = .ok (.getfield 73, 3) := by decide +kernel
theorem dX7_image_8 : decode cX7_image 8 = .ok (.invokevirtual 207, 3) := by decide +kernel
theorem dX7_image_11 : decode cX7_image 11 = .ok (.aload_n 0, 1) := by decide +kernel
theorem dX7_image_12 : decode cX7_image 12 = .ok (.iconst 1, 1) := by decide +kernel
theorem dX7_image_13 : decode cX7_image 13 = .ok (.putfield 254, 3) := by decide +kernel
theorem dX7_image_16 : decode cX7_image 16 = .ok (.aload_n 0, 1) := by decide +kernel
theorem dX7_image_17 : decode cX7_image 17 = .ok (.getfield 73, 3) := by decide +kernel
theorem dX7_image_20 : decode cX7_image 20 = .ok (.getfield 216, 3) := by decide +kernel
theorem dX7_image_23 : decode cX7_image 23 = .ok (.ireturn, 1) := by decide +kernel
theorem dX7_back_0 : decode cX7_back 0 = .ok (.aload_n 0, 1) := by decide +kernel
theorem dX7_back_1 : decode cX7_back 1 = .ok (.getfield 254, 3) := by decide +kernel
theorem dX7_back_4 : decode cX7_back 4 = .ok (.ifCond .ne 6, 3) := by decide +kernel
theorem dX7_back_7 : decode cX7_back 7 = .ok (.bipush (-3), 2) := by decide +kernel
theorem dX7_back_9 : decode cX7_back 9 = .ok (.ireturn, 1) := by decide +kernel
theorem dX7_back_10 : decode cX7_back 10 = .ok (.aload_n 0, 1) := by decide +kernel
theorem dX7_back_11 : decode cX7_back 11 = .ok (.getfield 73, 3) := by decide +kernel
theorem dX7_back_14 : decode cX7_back 14 = .ok (.aload_n 0, 1) := by decide +kernel
theorem dX7_back_15 : decode cX7_back 15 = .ok (.getfield 80, 3) := by decide +kernel
theorem dX7_back_18 : decode cX7_back 18 = .ok (.invokevirtual 207, 3) := by decide +kernel
theorem dX7_back_21 : decode cX7_back 21 = .ok (.aload_n 0, 1) := by decide +kernel
theorem dX7_back_22 : decode cX7_back 22 = .ok (.getfield 73, 3) := by decide +kernel
theorem dX7_back_25 : decode cX7_back 25 = .ok (.getfield 216, 3) := by decide +kernel
theorem dX7_back_28 : decode cX7_back 28 = .ok (.ireturn, 1) := by decide +kernel
theorem dX7_count_0 : decode cX7_count 0 = .ok (.iload_n 1, 1) := by decide +kernel
theorem dX7_count_1 : decode cX7_count 1 = .ok (.tableswitch 90 0 5 #[39, 47, 58, 66, 71, 79], 39) := by decide +kernel
theorem dX7_count_40 : decode cX7_count 40 = .ok (.aload_n 0, 1) := by decide +kernel
theorem dX7_count_41 : decode cX7_count 41 = .ok (.getfield 73, 3) := by decide +kernel
theorem dX7_count_44 : decode cX7_count 44 = .ok (.getfield 216, 3) := by decide +kernel
theorem dX7_count_47 : decode cX7_count 47 = .ok (.ireturn, 1) := by decide +kernel
theorem dX7_count_48 : decode cX7_count 48 = .ok (.aload_n 0, 1) := by decide +kernel
theorem dX7_count_49 : decode cX7_count 49 = .ok (.getfield 73, 3) := by decide +kernel
theorem dX7_count_52 : decode cX7_count 52 = .ok (.invokevirtual 161, 3) := by decide +kernel
theorem dX7_count_55 : decode cX7_count 55 = .ok (.invokestatic 258, 3) := by decide +kernel
theorem dX7_count_58 : decode cX7_count 58 = .ok (.ireturn, 1) := by decide +kernel
theorem dX7_count_59 : decode cX7_count 59 = .ok (.aload_n 0, 1) := by decide +kernel
theorem dX7_count_60 : decode cX7_count 60 = .ok (.getfield 73, 3) := by decide +kernel
theorem dX7_count_63 : decode cX7_count 63 = .ok (.getfield 103, 3) := by decide +kernel
theorem dX7_count_66 : decode cX7_count 66 = .ok (.ireturn, 1) := by decide +kernel
theorem dX7_count_67 : decode cX7_count 67 = .ok (.aload_n 0, 1) := by decide +kernel
theorem dX7_count_68 : decode cX7_count 68 = .ok (.getfield 64, 3) := by decide +kernel
theorem dX7_count_71 : decode cX7_count 71 = .ok (.ireturn, 1) := by decide +kernel
theorem dX7_count_72 : decode cX7_count 72 = .ok (.aload_n 0, 1) := by decide +kernel
theorem dX7_count_73 : decode cX7_count 73 = .ok (.getfield 10, 3) := by decide +kernel
theorem dX7_count_76 : decode cX7_count 76 = .ok (.getfield 148, 3) := by decide +kernel
theorem dX7_count_79 : decode cX7_count 79 = .ok (.ireturn, 1) := by decide +kernel
theorem dX7_count_80 : decode cX7_count 80 = .ok (.aload_n 0, 1) := by decide +kernel
theorem dX7_count_81 : decode cX7_count 81 = .ok (.getfield 73, 3) := by decide +kernel
theorem dX7_count_84 : decode cX7_count 84 = .ok (.getfield 151, 3) := by decide +kernel
theorem dX7_count_87 : decode cX7_count 87 = .ok (.getfield 155, 3) := by decide +kernel
theorem dX7_count_90 : decode cX7_count 90 = .ok (.ireturn, 1) := by decide +kernel
theorem dX7_count_91 : decode cX7_count 91 = .ok (.bipush (-2), 2) := by decide +kernel
theorem dX7_count_93 : decode cX7_count 93 = .ok (.ireturn, 1) := by decide +kernel
theorem dX7_sheet_0 : decode cX7_sheet 0 = .ok (.aload_n 0, 1) := by decide +kernel
theorem dX7_sheet_1 : decode cX7_sheet 1 = .ok (.iload_n 1, 1) := by decide +kernel
theorem dX7_sheet_2 : decode cX7_sheet 2 = .ok (.invokevirtual 185, 3) := by decide +kernel
theorem dX7_sheet_5 : decode cX7_sheet 5 = .ok (.astore 4, 2) := by decide +kernel
theorem dX7_sheet_7 : decode cX7_sheet 7 = .ok (.aload 4, 2) := by decide +kernel
theorem dX7_sheet_9 : decode cX7_sheet 9 = .ok (.ifnull 13, 3) := by decide +kernel
theorem dX7_sheet_12 : decode cX7_sheet 12 = .ok (.iload_n 2, 1) := by decide +kernel
theorem dX7_sheet_13 : decode cX7_sheet 13 = .ok (.iconst (-1), 1) := by decide +kernel
theorem dX7_sheet_14 : decode cX7_sheet 14 = .ok (.if_icmp .lt 8, 3) := by decide +kernel
theorem dX7_sheet_17 : decode cX7_sheet 17 = .ok (.iload_n 2, 1) := by decide +kernel
theorem dX7_sheet_18 : decode cX7_sheet 18 = .ok (.iconst 3, 1) := by decide +kernel
theorem dX7_sheet_19 : decode cX7_sheet 19 = .ok (.if_icmp .lt 6, 3) := by decide +kernel
theorem dX7_sheet_22 : decode cX7_sheet 22 = .ok (.bipush (-2), 2) := by decide +kernel
theorem dX7_sheet_24 : decode cX7_sheet 24 = .ok (.ireturn, 1) := by decide +kernel
theorem dX7_sheet_25 : decode cX7_sheet 25 = .ok (.iload_n 2, 1) := by decide +kernel
theorem dX7_sheet_26 : decode cX7_sheet 26 = .ok (.iconst (-1), 1) := by decide +kernel
theorem dX7_sheet_27 : decode cX7_sheet 27 = .ok (.if_icmp .ne 12, 3) := by decide +kernel
theorem dX7_sheet_30 : decode cX7_sheet 30 = .ok (.aload 4, 2) := by decide +kernel
theorem dX7_sheet_32 : decode cX7_sheet 32 = .ok (.iconst (-1), 1) := by decide +kernel
theorem dX7_sheet_33 : decode cX7_sheet 33 = .ok (.iconst 0, 1) := by decide +kernel
theorem dX7_sheet_34 : decode cX7_sheet 34 = .ok (.invokevirtual 237, 3) := by decide +kernel
theorem dX7_sheet_37 : decode cX7_sheet 37 = .ok (.iconst 1, 1) := by decide +kernel
theorem dX7_sheet_38 : decode cX7_sheet 38 = .ok (.ireturn, 1) := by decide +kernel
theorem dX7_sheet_39 : decode cX7_sheet 39 = .ok (.iload_n 3, 1) := by decide +kernel
theorem dX7_sheet_40 : decode cX7_sheet 40 = .ok (.bipush 40, 2) := by decide +kernel
theorem dX7_sheet_42 : decode cX7_sheet 42 = .ok (.if_icmp .le 6, 3) := by decide +kernel
theorem dX7_sheet_45 : decode cX7_sheet 45 = .ok (.bipush (-2), 2) := by decide +kernel
theorem dX7_sheet_47 : decode cX7_sheet 47 = .ok (.ireturn, 1) := by decide +kernel
theorem dX7_sheet_48 : decode cX7_sheet 48 = .ok (.iload_n 3, 1) := by decide +kernel
theorem dX7_sheet_49 : decode cX7_sheet 49 = .ok (.ifCond .ge 6, 3) := by decide +kernel
theorem dX7_sheet_52 : decode cX7_sheet 52 = .ok (.bipush (-14), 2) := by decide +kernel
theorem dX7_sheet_54 : decode cX7_sheet 54 = .ok (.ireturn, 1) := by decide +kernel
theorem dX7_sheet_55 : decode cX7_sheet 55 = .ok (.aload 4, 2) := by decide +kernel
theorem dX7_sheet_57 : decode cX7_sheet 57 = .ok (.iload_n 2, 1) := by decide +kernel
theorem dX7_sheet_58 : decode cX7_sheet 58 = .ok (.iload_n 3, 1) := by decide +kernel
theorem dX7_sheet_59 : decode cX7_sheet 59 = .ok (.invokevirtual 237, 3) := by decide +kernel
theorem dX7_sheet_62 : decode cX7_sheet 62 = .ok (.iconst 1, 1) := by decide +kernel
theorem dX7_sheet_63 : decode cX7_sheet 63 = .ok (.ireturn, 1) := by decide +kernel
theorem dX7_cell_0 : decode cX7_cell 0 = .ok (.aload_n 0, 1) := by decide +kernel
theorem dX7_cell_1 : decode cX7_cell 1 = .ok (.iload_n 1, 1) := by decide +kernel
theorem dX7_cell_2 : decode cX7_cell 2 = .ok (.invokevirtual 185, 3) := by decide +kernel
theorem dX7_cell_5 : decode cX7_cell 5 = .ok (.astore 4, 2) := by decide +kernel
theorem dX7_cell_7 : decode cX7_cell 7 = .ok (.aload 4, 2) := by decide +kernel
theorem dX7_cell_9 : decode cX7_cell 9 = .ok (.ifnonnull 6, 3) := by decide +kernel
theorem dX7_cell_12 : decode cX7_cell 12 = .ok (.bipush (-2), 2) := by decide +kernel
theorem dX7_cell_14 : decode cX7_cell 14 = .ok (.ireturn, 1) := by decide +kernel
theorem dX7_cell_15 : decode cX7_cell 15 = .ok (.aload 4, 2) := by decide +kernel
theorem dX7_cell_17 : decode cX7_cell 17 = .ok (.invokevirtual 189, 3) := by decide +kernel
theorem dX7_cell_20 : decode cX7_cell 20 = .ok (.ifCond .eq 6, 3) := by decide +kernel
theorem dX7_cell_23 : decode cX7_cell 23 = .ok (.bipush (-11), 2) := by decide +kernel
theorem dX7_cell_25 : decode cX7_cell 25 = .ok (.ireturn, 1) := by decide +kernel
theorem dX7_cell_26 : decode cX7_cell 26 = .ok (.aload 4, 2) := by decide +kernel
theorem dX7_cell_28 : decode cX7_cell 28 = .ok (.iload_n 2, 1) := by decide +kernel
theorem dX7_cell_29 : decode cX7_cell 29 = .ok (.iload_n 3, 1) := by decide +kernel
theorem dX7_cell_30 : decode cX7_cell 30 = .ok (.invokevirtual 241, 3) := by decide +kernel
theorem dX7_cell_33 : decode cX7_cell 33 = .ok (.ifCond .eq 7, 3) := by decide +kernel
theorem dX7_cell_36 : decode cX7_cell 36 = .ok (.iconst 1, 1) := by decide +kernel
theorem dX7_cell_37 : decode cX7_cell 37 = .ok (.goto 5, 3) := by decide +kernel
theorem dX7_cell_40 : decode cX7_cell 40 = .ok (.bipush (-12), 2) := by decide +kernel
theorem dX7_cell_42 : decode cX7_cell 42 = .ok (.ireturn, 1) := by decide +kernel
theorem dX7_copy_0 : decode cX7_copy 0 = .ok (.aload_n 0, 1) := by decide +kernel
theorem dX7_copy_1 : decode cX7_copy 1 = .ok (.iload_n 1, 1) := by decide +kernel
theorem dX7_copy_2 : decode cX7_copy 2 = .ok (.invokevirtual 185, 3) := by decide +kernel
theorem dX7_copy_5 : decode cX7_copy 5 = .ok (.astore 6, 2) := by decide +kernel
theorem dX7_copy_7 : decode cX7_copy 7 = .ok (.aload_n 0, 1) := by decide +kernel
theorem dX7_copy_8 : decode cX7_copy 8 = .ok (.iload_n 3, 1) := by decide +kernel
theorem dX7_copy_9 : decode cX7_copy 9 = .ok (.invokevirtual 185, 3) := by decide +kernel
theorem dX7_copy_12 : decode cX7_copy 12 = .ok (.astore 7, 2) := by decide +kernel
theorem dX7_copy_14 : decode cX7_copy 14 = .ok (.aload 6, 2) := by decide +kernel
theorem dX7_copy_16 : decode cX7_copy 16 = .ok (.ifnull 8, 3) := by decide +kernel
theorem dX7_copy_19 : decode cX7_copy 19 = .ok (.aload 7, 2) := by decide +kernel
theorem dX7_copy_21 : decode cX7_copy 21 = .ok (.ifnonnull 6, 3) := by decide +kernel
theorem dX7_copy_24 : decode cX7_copy 24 = .ok (.bipush (-2), 2) := by decide +kernel
theorem dX7_copy_26 : decode cX7_copy 26 = .ok (.ireturn, 1) := by decide +kernel
theorem dX7_copy_27 : decode cX7_copy 27 = .ok (.aload 6, 2) := by decide +kernel
theorem dX7_copy_29 : decode cX7_copy 29 = .ok (.invokevirtual 189, 3) := by decide +kernel
theorem dX7_copy_32 : decode cX7_copy 32 = .ok (.ifCond .ne 11, 3) := by decide +kernel
theorem dX7_copy_35 : decode cX7_copy 35 = .ok (.aload 7, 2) := by decide +kernel
theorem dX7_copy_37 : decode cX7_copy 37 = .ok (.invokevirtual 189, 3) := by decide +kernel
theorem dX7_copy_40 : decode cX7_copy 40 = .ok (.ifCond .eq 6, 3) := by decide +kernel
theorem dX7_copy_43 : decode cX7_copy 43 = .ok (.bipush (-11), 2) := by decide +kernel
theorem dX7_copy_45 : decode cX7_copy 45 = .ok (.ireturn, 1) := by decide +kernel
theorem dX7_copy_46 : decode cX7_copy 46 = .ok (.aload 6, 2) := by decide +kernel
theorem dX7_copy_48 : decode cX7_copy 48 = .ok (.getfield 261, 3) := by decide +kernel
theorem dX7_copy_51 : decode cX7_copy 51 = .ok (.aload 7, 2) := by decide +kernel
theorem dX7_copy_53 : decode cX7_copy 53 = .ok (.getfield 261, 3) := by decide +kernel
theorem dX7_copy_56 : decode cX7_copy 56 = .ok (.if_icmp .eq 6, 3) := by decide +kernel
theorem dX7_copy_59 : decode cX7_copy 59 = .ok (.bipush (-13), 2) := by decide +kernel
theorem dX7_copy_61 : decode cX7_copy 61 = .ok (.ireturn, 1) := by decide +kernel
theorem dX7_copy_62 : decode cX7_copy 62 = .ok (.aload 6, 2) := by decide +kernel
theorem dX7_copy_64 : decode cX7_copy 64 = .ok (.iload_n 2, 1) := by decide +kernel
theorem dX7_copy_65 : decode cX7_copy 65 = .ok (.iload 5, 2) := by decide +kernel
theorem dX7_copy_67 : decode cX7_copy 67 = .ok (.invokevirtual 264, 3) := by decide +kernel
theorem dX7_copy_70 : decode cX7_copy 70 = .ok (.ifCond .eq 15, 3) := by decide +kernel
theorem dX7_copy_73 : decode cX7_copy 73 = .ok (.aload 7, 2) := by decide +kernel
theorem dX7_copy_75 : decode cX7_copy 75 = .ok (.iload 4, 2) := by decide +kernel
theorem dX7_copy_77 : decode cX7_copy 77 = .ok (.iload 5, 2) := by decide +kernel
theorem dX7_copy_79 : decode cX7_copy 79 = .ok (.invokevirtual 264, 3) := by decide +kernel
theorem dX7_copy_82 : decode cX7_copy 82 = .ok (.ifCond .ne 6, 3) := by decide +kernel
theorem dX7_copy_85 : decode cX7_copy 85 = .ok (.bipush (-12), 2) := by decide +kernel
theorem dX7_copy_87 : decode cX7_copy 87 = .ok (.ireturn, 1) := by decide +kernel
theorem dX7_copy_88 : decode cX7_copy 88 = .ok (.aload 6, 2) := by decide +kernel
theorem dX7_copy_90 : decode cX7_copy 90 = .ok (.getfield 267, 3) := by decide +kernel
theorem dX7_copy_93 : decode cX7_copy 93 = .ok (.iload_n 2, 1) := by decide +kernel
theorem dX7_copy_94 : decode cX7_copy 94 = .ok (.aload 7, 2) := by decide +kernel
theorem dX7_copy_96 : decode cX7_copy 96 = .ok (.getfield 267, 3) := by decide +kernel
theorem dX7_copy_99 : decode cX7_copy 99 = .ok (.iload 4, 2) := by decide +kernel
theorem dX7_copy_101 : decode cX7_copy 101 = .ok (.iload 5, 2) := by decide +kernel
theorem dX7_copy_103 : decode cX7_copy 103 = .ok (.invokestatic 271, 3) := by decide +kernel
theorem dX7_copy_106 : decode cX7_copy 106 = .ok (.iload 5, 2) := by decide +kernel
theorem dX7_copy_108 : decode cX7_copy 108 = .ok (.ireturn, 1) := by decide +kernel
theorem dX7_forts_0 : decode cX7_forts 0 = .ok (.aload_n 0, 1) := by decide +kernel
theorem dX7_forts_1 : decode cX7_forts 1 = .ok (.iload_n 1, 1) := by decide +kernel
theorem dX7_forts_2 : decode cX7_forts 2 = .ok (.invokevirtual 185, 3) := by decide +kernel
theorem dX7_forts_5 : decode cX7_forts 5 = .ok (.astore 5, 2) := by decide +kernel
theorem dX7_forts_7 : decode cX7_forts 7 = .ok (.aload 5, 2) := by decide +kernel
theorem dX7_forts_9 : decode cX7_forts 9 = .ok (.ifnull 24, 3) := by decide +kernel
theorem dX7_forts_12 : decode cX7_forts 12 = .ok (.iload_n 2, 1) := by decide +kernel
theorem dX7_forts_13 : decode cX7_forts 13 = .ok (.ifCond .lt 20, 3) := by decide +kernel
theorem dX7_forts_16 : decode cX7_forts 16 = .ok (.iload_n 2, 1) := by decide +kernel
theorem dX7_forts_17 : decode cX7_forts 17 = .ok (.iconst 3, 1) := by decide +kernel
theorem dX7_forts_18 : decode cX7_forts 18 = .ok (.if_icmp .ge 15, 3) := by decide +kernel
theorem dX7_forts_21 : decode cX7_forts 21 = .ok (.iload 4, 2) := by decide +kernel
theorem dX7_forts_23 : decode cX7_forts 23 = .ok (.ifCond .lt 10, 3) := by decide +kernel
theorem dX7_forts_26 : decode cX7_forts 26 = .ok (.iload 4, 2) := by decide +kernel
theorem dX7_forts_28 : decode cX7_forts 28 = .ok (.bipush 8, 2) := by decide +kernel
theorem dX7_forts_30 : decode cX7_forts 30 = .ok (.if_icmp .le 6, 3) := by decide +kernel
theorem dX7_forts_33 : decode cX7_forts 33 = .ok (.bipush (-2), 2) := by decide +kernel
theorem dX7_forts_35 : decode cX7_forts 35 = .ok (.ireturn, 1) := by decide +kernel
theorem dX7_forts_36 : decode cX7_forts 36 = .ok (.aload 5, 2) := by decide +kernel
theorem dX7_forts_38 : decode cX7_forts 38 = .ok (.invokevirtual 189, 3) := by decide +kernel
theorem dX7_forts_41 : decode cX7_forts 41 = .ok (.ifCond .ne 15, 3) := by decide +kernel
theorem dX7_forts_44 : decode cX7_forts 44 = .ok (.aload 5, 2) := by decide +kernel
theorem dX7_forts_46 : decode cX7_forts 46 = .ok (.getfield 261, 3) := by decide +kernel
theorem dX7_forts_49 : decode cX7_forts 49 = .ok (.iload_n 2, 1) := by decide +kernel
theorem dX7_forts_50 : decode cX7_forts 50 = .ok (.if_icmp .eq 6, 3) := by decide +kernel
theorem dX7_forts_53 : decode cX7_forts 53 = .ok (.bipush (-13), 2) := by decide +kernel
theorem dX7_forts_55 : decode cX7_forts 55 = .ok (.ireturn, 1) := by decide +kernel
theorem dX7_forts_56 : decode cX7_forts 56 = .ok (.aload 5, 2) := by decide +kernel
theorem dX7_forts_58 : decode cX7_forts 58 = .ok (.invokevirtual 189, 3) := by decide +kernel
theorem dX7_forts_61 : decode cX7_forts 61 = .ok (.ifCond .eq 6, 3) := by decide +kernel
theorem dX7_forts_64 : decode cX7_forts 64 = .ok (.bipush (-11), 2) := by decide +kernel
theorem dX7_forts_66 : decode cX7_forts 66 = .ok (.ireturn, 1) := by decide +kernel
theorem dX7_forts_67 : decode cX7_forts 67 = .ok (.iconst 0, 1) := by decide +kernel
theorem dX7_forts_68 : decode cX7_forts 68 = .ok (.istore 6, 2) := by decide +kernel
theorem dX7_forts_70 : decode cX7_forts 70 = .ok (.iload_n 3, 1) := by decide +kernel
theorem dX7_forts_71 : decode cX7_forts 71 = .ok (.istore 7, 2) := by decide +kernel
theorem dX7_forts_73 : decode cX7_forts 73 = .ok (.iconst 0, 1) := by decide +kernel
theorem dX7_forts_74 : decode cX7_forts 74 = .ok (.istore 8, 2) := by decide +kernel
theorem dX7_forts_76 : decode cX7_forts 76 = .ok (.iload 8, 2) := by decide +kernel
theorem dX7_forts_78 : decode cX7_forts 78 = .ok (.iload 4, 2) := by decide +kernel
theorem dX7_forts_80 : decode cX7_forts 80 = .ok (.if_icmp .ge 61, 3) := by decide +kernel
theorem dX7_forts_83 : decode cX7_forts 83 = .ok (.aload 5, 2) := by decide +kernel
theorem dX7_forts_85 : decode cX7_forts 85 = .ok (.iload 7, 2) := by decide +kernel
theorem dX7_forts_87 : decode cX7_forts 87 = .ok (.iconst 3, 1) := by decide +kernel
theorem dX7_forts_88 : decode cX7_forts 88 = .ok (.invokevirtual 264, 3) := by decide +kernel
theorem dX7_forts_91 : decode cX7_forts 91 = .ok (.ifCond .ne 6, 3) := by decide +kernel
theorem dX7_forts_94 : decode cX7_forts 94 = .ok (.bipush (-12), 2) := by decide +kernel
theorem dX7_forts_96 : decode cX7_forts 96 = .ok (.ireturn, 1) := by decide +kernel
theorem dX7_forts_97 : decode cX7_forts 97 = .ok (.aload_n 0, 1) := by decide +kernel
theorem dX7_forts_98 : decode cX7_forts 98 = .ok (.aload 5, 2) := by decide +kernel
theorem dX7_forts_100 : decode cX7_forts 100 = .ok (.iload 7, 2) := by decide +kernel
theorem dX7_forts_102 : decode cX7_forts 102 = .ok (.invokevirtual 198, 3) := by decide +kernel
theorem dX7_forts_105 : decode cX7_forts 105 = .ok (.aload 5, 2) := by decide +kernel
theorem dX7_forts_107 : decode cX7_forts 107 = .ok (.iload 7, 2) := by decide +kernel
theorem dX7_forts_109 : decode cX7_forts 109 = .ok (.iconst 1, 1) := by decide +kernel
theorem dX7_forts_110 : decode cX7_forts 110 = .ok (.iadd, 1) := by decide +kernel
theorem dX7_forts_111 : decode cX7_forts 111 = .ok (.invokevirtual 198, 3) := by decide +kernel
theorem dX7_forts_114 : decode cX7_forts 114 = .ok (.aload 5, 2) := by decide +kernel
theorem dX7_forts_116 : decode cX7_forts 116 = .ok (.iload 7, 2) := by decide +kernel
theorem dX7_forts_118 : decode cX7_forts 118 = .ok (.iconst 2, 1) := by decide +kernel
theorem dX7_forts_119 : decode cX7_forts 119 = .ok (.iadd, 1) := by decide +kernel
theorem dX7_forts_120 : decode cX7_forts 120 = .ok (.invokevirtual 198, 3) := by decide +kernel
theorem dX7_forts_123 : decode cX7_forts 123 = .ok (.invokevirtual 277, 3) := by decide +kernel
theorem dX7_forts_126 : decode cX7_forts 126 = .ok (.ifCond .lt 6, 3) := by decide +kernel
theorem dX7_forts_129 : decode cX7_forts 129 = .ok (.iinc 6 1, 3) := by decide +kernel
theorem dX7_forts_132 : decode cX7_forts 132 = .ok (.iinc 7 3, 3) := by decide +kernel
theorem dX7_forts_135 : decode cX7_forts 135 = .ok (.iinc 8 1, 3) := by decide +kernel
theorem dX7_forts_138 : decode cX7_forts 138 = .ok (.goto (-62), 3) := by decide +kernel
theorem dX7_forts_141 : decode cX7_forts 141 = .ok (.iload 6, 2) := by decide +kernel
theorem dX7_forts_143 : decode cX7_forts 143 = .ok (.ireturn, 1) := by decide +kernel
theorem dX7_taken_0 : decode cX7_taken 0 = .ok (.iload_n 2, 1) := by decide +kernel
theorem dX7_taken_1 : decode cX7_taken 1 = .ok (.ifCond .lt 9, 3) := by decide +kernel
theorem dX7_taken_4 : decode cX7_taken 4 = .ok (.iload_n 2, 1) := by decide +kernel
theorem dX7_taken_5 : decode cX7_taken 5 = .ok (.bipush 6, 2) := by decide +kernel
theorem dX7_taken_7 : decode cX7_taken 7 = .ok (.if_icmp .lt 6, 3) := by decide +kernel
theorem dX7_taken_10 : decode cX7_taken 10 = .ok (.bipush (-2), 2) := by decide +kernel
theorem dX7_taken_12 : decode cX7_taken 12 = .ok (.ireturn, 1) := by decide +kernel
theorem dX7_taken_13 : decode cX7_taken 13 = .ok (.aload_n 0, 1) := by decide +kernel
theorem dX7_taken_14 : decode cX7_taken 14 = .ok (.getfield 73, 3) := by decide +kernel
theorem dX7_taken_17 : decode cX7_taken 17 = .ok (.iload_n 1, 1) := by decide +kernel
theorem dX7_taken_18 : decode cX7_taken 18 = .ok (.invokevirtual 106, 3) := by decide +kernel
theorem dX7_taken_21 : decode cX7_taken 21 = .ok (.astore_n 3, 1) := by decide +kernel
theorem dX7_taken_22 : decode cX7_taken 22 = .ok (.aload_n 3, 1) := by decide +kernel
theorem dX7_taken_23 : decode cX7_taken 23 = .ok (.ifnonnull 6, 3) := by decide +kernel
theorem dX7_taken_26 : decode cX7_taken 26 = .ok (.bipush (-11), 2) := by decide +kernel
theorem dX7_taken_28 : decode cX7_taken 28 = .ok (.ireturn, 1) := by decide +kernel
theorem dX7_taken_29 : decode cX7_taken 29 = .ok (.aload_n 3, 1) := by decide +kernel
theorem dX7_taken_30 : decode cX7_taken 30 = .ok (.iload_n 2, 1) := by decide +kernel
theorem dX7_taken_31 : decode cX7_taken 31 = .ok (.invokevirtual 280, 3) := by decide +kernel
theorem dX7_taken_34 : decode cX7_taken 34 = .ok (.ifCond .eq 10, 3) := by decide +kernel
theorem dX7_taken_37 : decode cX7_taken 37 = .ok (.aload_n 3, 1) := by decide +kernel
theorem dX7_taken_38 : decode cX7_taken 38 = .ok (.getfield 121, 3) := by decide +kernel
theorem dX7_taken_41 : decode cX7_taken 41 = .ok (.goto 5, 3) := by decide +kernel
theorem dX7_taken_44 : decode cX7_taken 44 = .ok (.bipush (-13), 2) := by decide +kernel
theorem dX7_taken_46 : decode cX7_taken 46 = .ok (.ireturn, 1) := by decide +kernel
theorem dX7_sheetAt_0 : decode cX7_sheetAt 0 = .ok (.iload_n 1, 1) := by decide +kernel
theorem dX7_sheetAt_1 : decode cX7_sheetAt 1 = .ok (.ifCond .lt 17, 3) := by decide +kernel
theorem dX7_sheetAt_4 : decode cX7_sheetAt 4 = .ok (.iload_n 1, 1) := by decide +kernel
theorem dX7_sheetAt_5 : decode cX7_sheetAt 5 = .ok (.iconst 4, 1) := by decide +kernel
theorem dX7_sheetAt_6 : decode cX7_sheetAt 6 = .ok (.if_icmp .ge 12, 3) := by decide +kernel
theorem dX7_sheetAt_9 : decode cX7_sheetAt 9 = .ok (.aload_n 0, 1) := by decide +kernel
theorem dX7_sheetAt_10 : decode cX7_sheetAt 10 = .ok (.getfield 33, 3) := by decide +kernel
theorem dX7_sheetAt_13 : decode cX7_sheetAt 13 = .ok (.iload_n 1, 1) := by decide +kernel
theorem dX7_sheetAt_14 : decode cX7_sheetAt 14 = .ok (.aaload, 1) := by decide +kernel
theorem dX7_sheetAt_15 : decode cX7_sheetAt 15 = .ok (.goto 4, 3) := by decide +kernel
theorem dX7_sheetAt_18 : decode cX7_sheetAt 18 = .ok (.aconst_null, 1) := by decide +kernel
theorem dX7_sheetAt_19 : decode cX7_sheetAt 19 = .ok (.areturn, 1) := by decide +kernel
end
section
theorem dX8_init_0 : decode cX8_init 0 = .ok (.aload_n 0, 1) := by decide +kernel
theorem dX8_init_1 : decode cX8_init 1 = .ok (.invokespecial 1, 3) := by decide +kernel
theorem dX8_init_4 : decode cX8_init 4 = .ok (.aload_n 0, 1) := by decide +kernel
theorem dX8_init_5 : decode cX8_init 5 = .ok (.bipush 8, 2) := by decide +kernel
theorem dX8_init_7 : decode cX8_init 7 = .ok (.newarray .int, 2) := by decide +kernel
theorem dX8_init_9 : decode cX8_init 9 = .ok (.putfield 7, 3) := by decide +kernel
theorem dX8_init_12 : decode cX8_init 12 = .ok (.aload_n 0, 1) := by decide +kernel
theorem dX8_init_13 : decode cX8_init 13 = .ok (.bipush 8, 2) := by decide +kernel
theorem dX8_init_15 : decode cX8_init 15 = .ok (.newarray .int, 2) := by decide +kernel
theorem dX8_init_17 : decode cX8_init 17 = .ok (.putfield 13, 3) := by decide +kernel
theorem dX8_init_20 : decode cX8_init 20 = .ok (.aload_n 0, 1) := by decide +kernel
theorem dX8_init_21 : decode cX8_init 21 = .ok (.bipush 8, 2) := by decide +kernel
theorem dX8_init_23 : decode cX8_init 23 = .ok (.newarray .int, 2) := by decide +kernel
theorem dX8_init_25 : decode cX8_init 25 = .ok (.putfield 16, 3) := by decide +kernel
theorem dX8_init_28 : decode cX8_init 28 = .ok (.aload_n 0, 1) := by decide +kernel
theorem dX8_init_29 : decode cX8_init 29 = .ok (.bipush 8, 2) := by decide +kernel
theorem dX8_init_31 : decode cX8_init 31 = .ok (.newarray .int, 2) := by decide +kernel
theorem dX8_init_33 : decode cX8_init 33 = .ok (.putfield 19, 3) := by decide +kernel
theorem dX8_init_36 : decode cX8_init 36 = .ok (.aload_n 0, 1) := by decide +kernel
theorem dX8_init_37 : decode cX8_init 37 = .ok (.bipush 8, 2) := by decide +kernel
theorem dX8_init_39 : decode cX8_init 39 = .ok (.newarray .int, 2) := by decide +kernel
theorem dX8_init_41 : decode cX8_init 41 = .ok (.putfield 22, 3) := by decide +kernel
theorem dX8_init_44 : decode cX8_init 44 = .ok (.aload_n 0, 1) := by decide +kernel
theorem dX8_init_45 : decode cX8_init 45 = .ok (.sipush 160, 3) := by decide +kernel
theorem dX8_init_48 : decode cX8_init 48 = .ok (.newarray .int, 2) := by decide +kernel
theorem dX8_init_50 : decode cX8_init 50 = .ok (.putfield 25, 3) := by decide +kernel
theorem dX8_init_53 : decode cX8_init 53 = .ok (.aload_n 0, 1) := by decide +kernel
theorem dX8_init_54 : decode cX8_init 54 = .ok (.bipush 18, 2) := by decide +kernel
theorem dX8_init_56 : decode cX8_init 56 = .ok (.newarray .int, 2) := by decide +kernel
theorem dX8_init_58 : decode cX8_init 58 = .ok (.putfield 28, 3) := by decide +kernel
theorem dX8_init_61 : decode cX8_init 61 = .ok (.aload_n 0, 1) := by decide +kernel
theorem dX8_init_62 : decode cX8_init 62 = .ok (.bipush 18, 2) := by decide +kernel
theorem dX8_init_64 : decode cX8_init 64 = .ok (.newarray .int, 2) := by decide +kernel
theorem dX8_init_66 : decode cX8_init 66 = .ok (.putfield 31, 3) := by decide +kernel
theorem dX8_init_69 : decode cX8_init 69 = .ok (.aload_n 0, 1) := by decide +kernel
theorem dX8_init_70 : decode cX8_init 70 = .ok (.sipush 3000, 3) := by decide +kernel
theorem dX8_init_73 : decode cX8_init 73 = .ok (.newarray .int, 2) := by decide +kernel
theorem dX8_init_75 : decode cX8_init 75 = .ok (.putfield 34, 3) := by decide +kernel
theorem dX8_init_78 : decode cX8_init 78 = .ok (.aload_n 0, 1) := by decide +kernel
theorem dX8_init_79 : decode cX8_init 79 = .ok (.sipush 200, 3) := by decide +kernel
theorem dX8_init_82 : decode cX8_init 82 = .ok (.newarray .int, 2) := by decide +kernel
theorem dX8_init_84 : decode cX8_init 84 = .ok (.putfield 37, 3) := by decide +kernel
theorem dX8_init_87 : decode cX8_init 87 = .ok (.aload_n 0, 1) := by decide +kernel
theorem dX8_init_88 : decode cX8_init 88 = .ok (.bipush 8, 2) := by decide +kernel
theorem dX8_init_90 : decode cX8_init 90 = .ok (.newarray .int, 2) := by decide +kernel
theorem dX8_init_92 : decode cX8_init 92 = .ok (.putfield 40, 3) := by decide +kernel
theorem dX8_init_95 : decode cX8_init 95 = .ok (.aload_n 0, 1) := by decide +kernel
theorem dX8_init_96 : decode cX8_init 96 = .ok (.bipush 56, 2) := by decide +kernel
theorem dX8_init_98 : decode cX8_init 98 = .ok (.newarray .int, 2) := by decide +kernel
theorem dX8_init_100 : decode cX8_init 100 = .ok (.putfield 43, 3) := by decide +kernel
theorem dX8_init_103 : decode cX8_init 103 = .ok (.aload_n 0, 1) := by decide +kernel
theorem dX8_init_104 : decode cX8_init 104 = .ok (.bipush 8, 2) := by decide +kernel
theorem dX8_init_106 : decode cX8_init 106 = .ok (.newarray .int, 2) := by decide +kernel
theorem dX8_init_108 : decode cX8_init 108 = .ok (.putfield 46, 3) := by decide +kernel
theorem dX8_init_111 : decode cX8_init 111 = .ok (.aload_n 0, 1) := by decide +kernel
theorem dX8_init_112 : decode cX8_init 112 = .ok (.bipush 35, 2) := by decide +kernel
theorem dX8_init_114 : decode cX8_init 114 = .ok (.newarray .int, 2) := by decide +kernel
theorem dX8_init_116 : decode cX8_init 116 = .ok (.putfield 49, 3) := by decide +kernel
theorem dX8_init_119 : decode cX8_init 119 = .ok (.aload_n 0, 1) := by decide +kernel
theorem dX8_init_120 : decode cX8_init 120 = .ok (.iconst 4, 1) := by decide +kernel
theorem dX8_init_121 : decode cX8_init 121 = .ok (.newarray .int, 2) := by decide +kernel
theorem dX8_init_123 : decode cX8_init 123 = .ok (.putfield 52, 3) := by decide +kernel
theorem dX8_init_126 : decode cX8_init 126 = .ok (.aload_n 0, 1) := by decide +kernel
theorem dX8_init_127 : decode cX8_init 127 = .ok (.iconst 4, 1) := by decide +kernel
theorem dX8_init_128 : decode cX8_init 128 = .ok (.newarray .int, 2) := by decide +kernel
theorem dX8_init_130 : decode cX8_init 130 = .ok (.putfield 55, 3) := by decide +kernel
theorem dX8_init_133 : decode cX8_init 133 = .ok (.aload_n 0, 1) := by decide +kernel
theorem dX8_init_134 : decode cX8_init 134 = .ok (.sipush 160, 3) := by decide +kernel
theorem dX8_init_137 : decode cX8_init 137 = .ok (.newarray .int, 2) := by decide +kernel
theorem dX8_init_139 : decode cX8_init 139 = .ok (.putfield 58, 3) := by decide +kernel
theorem dX8_init_142 : decode cX8_init 142 = .ok (.iconst 0, 1) := by decide +kernel
theorem dX8_init_143 : decode cX8_init 143 = .ok (.istore_n 1, 1) := by decide +kernel
theorem dX8_init_144 : decode cX8_init 144 = .ok (.iload_n 1, 1) := by decide +kernel
theorem dX8_init_145 : decode cX8_init 145 = .ok (.iconst 4, 1) := by decide +kernel
theorem dX8_init_146 : decode cX8_init 146 = .ok (.if_icmp .ge 16, 3) := by decide +kernel
theorem dX8_init_149 : decode cX8_init 149 = .ok (.aload_n 0, 1) := by decide +kernel
theorem dX8_init_150 : decode cX8_init 150 = .ok (.getfield 52, 3) := by decide +kernel
theorem dX8_init_153 : decode cX8_init 153 = .ok (.iload_n 1, 1) := by decide +kernel
theorem dX8_init_154 : decode cX8_init 154 = .ok (.iconst (-1), 1) := by decide +kernel
theorem dX8_init_155 : decode cX8_init 155 = .ok (.iastore, 1) := by decide +kernel
theorem dX8_init_156 : decode cX8_init 156 = .ok (.iinc 1 1, 3) := by decide +kernel
theorem dX8_init_159 : decode cX8_init 159 = .ok (.goto (-15), 3) := by decide +kernel
theorem dX8_init_162 : decode cX8_init 162 = .ok (.ldc 61, 2) := by decide +kernel
theorem dX8_init_164 : decode cX8_init 164 = .ok (.astore_n 1, 1) := by decide +kernel
theorem dX8_init_165 : decode cX8_init 165 = .ok (.iconst 0, 1) := by decide +kernel
theorem dX8_init_166 : decode cX8_init 166 = .ok (.istore_n 2, 1) := by decide +kernel
theorem dX8_init_167 : decode cX8_init 167 = .ok (.iload_n 2, 1) := by decide +kernel
theorem dX8_init_168 : decode cX8_init 168 = .ok (.aload_n 1, 1) := by decide +kernel
theorem dX8_init_169 : decode cX8_init 169 = .ok (.invokevirtual 63, 3) := by decide +kernel
theorem dX8_init_172 : decode cX8_init 172 = .ok (.if_icmp .ge 20, 3) := by decide +kernel
theorem dX8_init_175 : decode cX8_init 175 = .ok (.aload_n 0, 1) := by decide +kernel
theorem dX8_init_176 : decode cX8_init 176 = .ok (.getfield 25, 3) := by decide +kernel
theorem dX8_init_179 : decode cX8_init 179 = .ok (.iload_n 2, 1) := by decide +kernel
theorem dX8_init_180 : decode cX8_init 180 = .ok (.aload_n 1, 1) := by decide +kernel
theorem dX8_init_181 : decode cX8_init 181 = .ok (.iload_n 2, 1) := by decide +kernel
theorem dX8_init_182 : decode cX8_init 182 = .ok (.invokevirtual 68, 3) := by decide +kernel
theorem dX8_init_185 : decode cX8_init 185 = .ok (.iastore, 1) := by decide +kernel
theorem dX8_init_186 : decode cX8_init 186 = .ok (.iinc 2 1, 3) := by decide +kernel
theorem dX8_init_189 : decode cX8_init 189 = .ok (.goto (-22), 3) := by decide +kernel
theorem dX8_init_192 : decode cX8_init 192 = .ok (.aload_n 0, 1) := by decide +kernel
theorem dX8_init_193 : decode cX8_init 193 = .ok (.aload_n 1, 1) := by decide +kernel
theorem dX8_init_194 : decode cX8_init 194 = .ok (.invokevirtual 63, 3) := by decide +kernel
theorem dX8_init_197 : decode cX8_init 197 = .ok (.putfield 72, 3) := by decide +kernel
theorem dX8_init_200 : decode cX8_init 200 = .ok (.aload_n 0, 1) := by decide +kernel
theorem dX8_init_201 : decode cX8_init 201 = .ok (.invokevirtual 76, 3) := by decide +kernel
theorem dX8_init_204 : decode cX8_init 204 = .ok (.pop, 1) := by decide +kernel
theorem dX8_init_205 : decode cX8_init 205 = .ok (.return_, 1) := by decide +kernel
theorem dX8_within_0 : decode cX8_within 0 = .ok (.iload_n 0, 1) := by decide +kernel
theorem dX8_within_1 : decode cX8_within 1 = .ok (.iload_n 1, 1) := by decide +kernel
theorem dX8_within_2 : decode cX8_within 2 = .ok (.if_icmp .lt 12, 3) := by decide +kernel
theorem dX8_within_5 : decode cX8_within 5 = .ok (.iload_n 0, 1) := by decide +kernel
theorem dX8_within_6 : decode cX8_within 6 = .ok (.iload_n 2, 1) := by decide +kernel
theorem dX8_within_7 : decode cX8_within 7 = .ok (.if_icmp .gt 7, 3) := by decide +kernel
theorem dX8_within_10 : decode cX8_within 10 = .ok (.iconst 1, 1) := by decide +kernel
theorem dX8_within_11 : decode cX8_within 11 = .ok (.goto 4, 3) := by decide +kernel
theorem dX8_within_14 : decode cX8_within 14 = .ok (.iconst 0, 1) := by decide +kernel
theorem dX8_within_15 : decode cX8_within 15 = .ok (.ireturn, 1) := by decide +kernel
theorem dX8_isFort_0 : decode cX8_isFort 0 = .ok (.iload_n 1, 1) := by decide +kernel
theorem dX8_isFort_1 : decode cX8_isFort 1 = .ok (.iconst 0, 1) := by decide +kernel
theorem dX8_isFort_2 : decode cX8_isFort 2 = .ok (.aload_n 0, 1) := by decide +kernel
theorem dX8_isFort_3 : decode cX8_isFort 3 = .ok (.getfield 79, 3) := by decide +kernel
theorem dX8_isFort_6 : decode cX8_isFort 6 = .ok (.iconst 1, 1) := by decide +kernel
theorem dX8_isFort_7 : decode cX8_isFort 7 = .ok (.isub, 1) := by decide +kernel
theorem dX8_isFort_8 : decode cX8_isFort 8 = .ok (.invokestatic 82, 3) := by decide +kernel
theorem dX8_isFort_11 : decode cX8_isFort 11 = .ok (.ireturn, 1) := by decide +kernel
theorem dX8_isWaves_0 : decode cX8_isWaves 0 = .ok (.iload_n 0, 1) := by decide +kernel
theorem dX8_isWaves_1 : decode cX8_isWaves 1 = .ok (.iconst 0, 1) := by decide +kernel
theorem dX8_isWaves_2 : decode cX8_isWaves 2 = .ok (.bipush 40, 2) := by decide +kernel
theorem dX8_isWaves_4 : decode cX8_isWaves 4 = .ok (.invokestatic 82, 3) := by decide +kernel
theorem dX8_isWaves_7 : decode cX8_isWaves 7 = .ok (.ireturn, 1) := by decide +kernel
theorem dX8_isSheet_0 : decode cX8_isSheet 0 = .ok (.iload_n 0, 1) := by decide +kernel
theorem dX8_isSheet_1 : decode cX8_isSheet 1 = .ok (.iconst 0, 1) := by decide +kernel
theorem dX8_isSheet_2 : decode cX8_isSheet 2 = .ok (.iconst 3, 1) := by decide +kernel
theorem dX8_isSheet_3 : decode cX8_isSheet 3 = .ok (.invokestatic 82, 3) := by decide +kernel
theorem dX8_isSheet_6 : decode cX8_isSheet 6 = .ok (.ireturn, 1) := by decide +kernel
theorem dX8_most_0 : decode cX8_most 0 = .ok (.iload_n 0, 1) := by decide +kernel
theorem dX8_most_1 : decode cX8_most 1 = .ok (.tableswitch 47 1 5 #[35, 47, 39, 42, 44], 35) := by decide +kernel
theorem dX8_most_36 : decode cX8_most 36 = .ok (.sipush 999, 3) := by decide +kernel
theorem dX8_most_39 : decode cX8_most 39 = .ok (.ireturn, 1) := by decide +kernel
theorem dX8_most_40 : decode cX8_most 40 = .ok (.bipush 15, 2) := by decide +kernel
theorem dX8_most_42 : decode cX8_most 42 = .ok (.ireturn, 1) := by decide +kernel
theorem dX8_most_43 : decode cX8_most 43 = .ok (.iconst 1, 1) := by decide +kernel
theorem dX8_most_44 : decode cX8_most 44 = .ok (.ireturn, 1) := by decide +kernel
theorem dX8_most_45 : decode cX8_most 45 = .ok (.bipush 99, 2) := by decide +kernel
theorem dX8_most_47 : decode cX8_most 47 = .ok (.ireturn, 1) := by decide +kernel
theorem dX8_most_48 : decode cX8_most 48 = .ok (.bipush 9, 2) := by decide +kernel
theorem dX8_most_50 : decode cX8_most 50 = .ok (.ireturn, 1) := by decide +kernel
theorem dX8_get_0 : decode cX8_get 0 = .ok (.iload_n 2, 1) := by decide +kernel
theorem dX8_get_1 : decode cX8_get 1 = .ok (.tableswitch 108 0 8 #[51, 56, 61, 68, 75, 82, 89, 96, 102], 51) := by decide +kernel
theorem dX8_get_52 : decode cX8_get 52 = .ok (.aload_n 0, 1) := by decide +kernel
theorem dX8_get_53 : decode cX8_get 53 = .ok (.getfield 86, 3) := by decide +kernel
theorem dX8_get_56 : decode cX8_get 56 = .ok (.ireturn, 1) := by decide +kernel
theorem dX8_get_57 : decode cX8_get 57 = .ok (.aload_n 0, 1) := by decide +kernel
theorem dX8_get_58 : decode cX8_get 58 = .ok (.getfield 89, 3) := by decide +kernel
theorem dX8_get_61 : decode cX8_get 61 = .ok (.ireturn, 1) := by decide +kernel
theorem dX8_get_62 : decode cX8_get 62 = .ok (.aload_n 0, 1) := by decide +kernel
theorem dX8_get_63 : decode cX8_get 63 = .ok (.getfield 13, 3) := by decide +kernel
theorem dX8_get_66 : decode cX8_get 66 = .ok (.iload_n 1, 1) := by decide +kernel
theorem dX8_get_67 : decode cX8_get 67 = .ok (.iaload, 1) := by decide +kernel
theorem dX8_get_68 : decode cX8_get 68 = .ok (.ireturn, 1) := by decide +kernel
theorem dX8_get_69 : decode cX8_get 69 = .ok (.aload_n 0, 1) := by decide +kernel
theorem dX8_get_70 : decode cX8_get 70 = .ok (.getfield 16, 3) := by decide +kernel
theorem dX8_get_73 : decode cX8_get 73 = .ok (.iload_n 1, 1) := by decide +kernel
theorem dX8_get_74 : decode cX8_get 74 = .ok (.iaload, 1) := by decide +kernel
theorem dX8_get_75 : decode cX8_get 75 = .ok (.ireturn, 1) := by decide +kernel
theorem dX8_get_76 : decode cX8_get 76 = .ok (.aload_n 0, 1) := by decide +kernel
theorem dX8_get_77 : decode cX8_get 77 = .ok (.getfield 19, 3) := by decide +kernel
theorem dX8_get_80 : decode cX8_get 80 = .ok (.iload_n 1, 1) := by decide +kernel
theorem dX8_get_81 : decode cX8_get 81 = .ok (.iaload, 1) := by decide +kernel
theorem dX8_get_82 : decode cX8_get 82 = .ok (.ireturn, 1) := by decide +kernel
theorem dX8_get_83 : decode cX8_get 83 = .ok (.aload_n 0, 1) := by decide +kernel
theorem dX8_get_84 : decode cX8_get 84 = .ok (.getfield 22, 3) := by decide +kernel
theorem dX8_get_87 : decode cX8_get 87 = .ok (.iload_n 1, 1) := by decide +kernel
theorem dX8_get_88 : decode cX8_get 88 = .ok (.iaload, 1) := by decide +kernel
theorem dX8_get_89 : decode cX8_get 89 = .ok (.ireturn, 1) := by decide +kernel
theorem dX8_get_90 : decode cX8_get 90 = .ok (.aload_n 0, 1) := by decide +kernel
theorem dX8_get_91 : decode cX8_get 91 = .ok (.getfield 7, 3) := by decide +kernel
theorem dX8_get_94 : decode cX8_get 94 = .ok (.iload_n 1, 1) := by decide +kernel
theorem dX8_get_95 : decode cX8_get 95 = .ok (.iaload, 1) := by decide +kernel
theorem dX8_get_96 : decode cX8_get 96 = .ok (.ireturn, 1) := by decide +kernel
theorem dX8_get_97 : decode cX8_get 97 = .ok (.aload_n 0, 1) := by decide +kernel
theorem dX8_get_98 : decode cX8_get 98 = .ok (.iload_n 1, 1) := by decide +kernel
theorem dX8_get_99 : decode cX8_get 99 = .ok (.invokevirtual 92, 3) := by decide +kernel
theorem dX8_get_102 : decode cX8_get 102 = .ok (.ireturn, 1) := by decide +kernel
theorem dX8_get_103 : decode cX8_get 103 = .ok (.aload_n 0, 1) := by decide +kernel
theorem dX8_get_104 : decode cX8_get 104 = .ok (.iload_n 1, 1) := by decide +kernel
theorem dX8_get_105 : decode cX8_get 105 = .ok (.invokevirtual 96, 3) := by decide +kernel
theorem dX8_get_108 : decode cX8_get 108 = .ok (.ireturn, 1) := by decide +kernel
theorem dX8_get_109 : decode cX8_get 109 = .ok (.aload_n 0, 1) := by decide +kernel
theorem dX8_get_110 : decode cX8_get 110 = .ok (.iload_n 1, 1) := by decide +kernel
theorem dX8_get_111 : decode cX8_get 111 = .ok (.invokevirtual 99, 3) := by decide +kernel
theorem dX8_get_114 : decode cX8_get 114 = .ok (.ireturn, 1) := by decide +kernel
theorem dX8_put_0 : decode cX8_put 0 = .ok (.iload_n 1, 1) := by decide +kernel
theorem dX8_put_1 : decode cX8_put 1 = .ok (.tableswitch 71 0 4 #[35, 41, 47, 55, 63], 35) := by decide +kernel
theorem dX8_put_36 : decode cX8_put 36 = .ok (.aload_n 0, 1) := by decide +kernel
theorem dX8_put_37 : decode cX8_put 37 = .ok (.iload_n 3, 1) := by decide +kernel
theorem dX8_put_38 : decode cX8_put 38 = .ok (.putfield 86, 3) := by decide +kernel
theorem dX8_put_41 : decode cX8_put 41 = .ok (.return_, 1) := by decide +kernel
theorem dX8_put_42 : decode cX8_put 42 = .ok (.aload_n 0, 1) := by decide +kernel
theorem dX8_put_43 : decode cX8_put 43 = .ok (.iload_n 3, 1) := by decide +kernel
theorem dX8_put_44 : decode cX8_put 44 = .ok (.putfield 89, 3) := by decide +kernel
theorem dX8_put_47 : decode cX8_put 47 = .ok (.return_, 1) := by decide +kernel
theorem dX8_put_48 : decode cX8_put 48 = .ok (.aload_n 0, 1) := by decide +kernel
theorem dX8_put_49 : decode cX8_put 49 = .ok (.getfield 13, 3) := by decide +kernel
theorem dX8_put_52 : decode cX8_put 52 = .ok (.iload_n 2, 1) := by decide +kernel
theorem dX8_put_53 : decode cX8_put 53 = .ok (.iload_n 3, 1) := by decide +kernel
theorem dX8_put_54 : decode cX8_put 54 = .ok (.iastore, 1) := by decide +kernel
theorem dX8_put_55 : decode cX8_put 55 = .ok (.return_, 1) := by decide +kernel
theorem dX8_put_56 : decode cX8_put 56 = .ok (.aload_n 0, 1) := by decide +kernel
theorem dX8_put_57 : decode cX8_put 57 = .ok (.getfield 16, 3) := by decide +kernel
theorem dX8_put_60 : decode cX8_put 60 = .ok (.iload_n 2, 1) := by decide +kernel
theorem dX8_put_61 : decode cX8_put 61 = .ok (.iload_n 3, 1) := by decide +kernel
theorem dX8_put_62 : decode cX8_put 62 = .ok (.iastore, 1) := by decide +kernel
theorem dX8_put_63 : decode cX8_put 63 = .ok (.return_, 1) := by decide +kernel
theorem dX8_put_64 : decode cX8_put 64 = .ok (.aload_n 0, 1) := by decide +kernel
theorem dX8_put_65 : decode cX8_put 65 = .ok (.getfield 19, 3) := by decide +kernel
theorem dX8_put_68 : decode cX8_put 68 = .ok (.iload_n 2, 1) := by decide +kernel
theorem dX8_put_69 : decode cX8_put 69 = .ok (.iload_n 3, 1) := by decide +kernel
theorem dX8_put_70 : decode cX8_put 70 = .ok (.iastore, 1) := by decide +kernel
theorem dX8_put_71 : decode cX8_put 71 = .ok (.return_, 1) := by decide +kernel
theorem dX8_put_72 : decode cX8_put 72 = .ok (.aload_n 0, 1) := by decide +kernel
theorem dX8_put_73 : decode cX8_put 73 = .ok (.getfield 22, 3) := by decide +kernel
theorem dX8_put_76 : decode cX8_put 76 = .ok (.iload_n 2, 1) := by decide +kernel
theorem dX8_put_77 : decode cX8_put 77 = .ok (.iload_n 3, 1) := by decide +kernel
theorem dX8_put_78 : decode cX8_put 78 = .ok (.iastore, 1) := by decide +kernel
theorem dX8_put_79 : decode cX8_put 79 = .ok (.return_, 1) := by decide +kernel
theorem dX8_set_0 : decode cX8_set 0 = .ok (.iload_n 1, 1) := by decide +kernel
theorem dX8_set_1 : decode cX8_set 1 = .ok (.iconst 0, 1) := by decide +kernel
theorem dX8_set_2 : decode cX8_set 2 = .ok (.iconst 5, 1) := by decide +kernel
theorem dX8_set_3 : decode cX8_set 3 = .ok (.invokestatic 82, 3) := by decide +kernel
theorem dX8_set_6 : decode cX8_set 6 = .ok (.ifCond .eq 28, 3) := by decide +kernel
theorem dX8_set_9 : decode cX8_set 9 = .ok (.iload_n 1, 1) := by decide +kernel
theorem dX8_set_10 : decode cX8_set 10 = .ok (.iconst 1, 1) := by decide +kernel
theorem dX8_set_11 : decode cX8_set 11 = .ok (.if_icmp .le 11, 3) := by decide +kernel
theorem dX8_set_14 : decode cX8_set 14 = .ok (.aload_n 0, 1) := by decide +kernel
theorem dX8_set_15 : decode cX8_set 15 = .ok (.iload_n 2, 1) := by decide +kernel
theorem dX8_set_16 : decode cX8_set 16 = .ok (.invokevirtual 102, 3) := by decide +kernel
theorem dX8_set_19 : decode cX8_set 19 = .ok (.ifCond .eq 15, 3) := by decide +kernel
theorem dX8_set_22 : decode cX8_set 22 = .ok (.iload_n 3, 1) := by decide +kernel
theorem dX8_set_23 : decode cX8_set 23 = .ok (.iconst 0, 1) := by decide +kernel
theorem dX8_set_24 : decode cX8_set 24 = .ok (.iload_n 1, 1) := by decide +kernel
theorem dX8_set_25 : decode cX8_set 25 = .ok (.invokestatic 106, 3) := by decide +kernel
theorem dX8_set_28 : decode cX8_set 28 = .ok (.invokestatic 82, 3) := by decide +kernel
theorem dX8_set_31 : decode cX8_set 31 = .ok (.ifCond .ne 6, 3) := by decide +kernel
theorem dX8_set_34 : decode cX8_set 34 = .ok (.bipush (-2), 2) := by decide +kernel
theorem dX8_set_36 : decode cX8_set 36 = .ok (.ireturn, 1) := by decide +kernel
theorem dX8_set_37 : decode cX8_set 37 = .ok (.aload_n 0, 1) := by decide +kernel
theorem dX8_set_38 : decode cX8_set 38 = .ok (.iload_n 2, 1) := by decide +kernel
theorem dX8_set_39 : decode cX8_set 39 = .ok (.iload_n 1, 1) := by decide +kernel
theorem dX8_set_40 : decode cX8_set 40 = .ok (.invokevirtual 109, 3) := by decide +kernel
theorem dX8_set_43 : decode cX8_set 43 = .ok (.istore 4, 2) := by decide +kernel
theorem dX8_set_45 : decode cX8_set 45 = .ok (.aload_n 0, 1) := by decide +kernel
theorem dX8_set_46 : decode cX8_set 46 = .ok (.iload_n 1, 1) := by decide +kernel
theorem dX8_set_47 : decode cX8_set 47 = .ok (.iload_n 2, 1) := by decide +kernel
theorem dX8_set_48 : decode cX8_set 48 = .ok (.iload_n 3, 1) := by decide +kernel
theorem dX8_set_49 : decode cX8_set 49 = .ok (.invokevirtual 113, 3) := by decide +kernel
theorem dX8_set_52 : decode cX8_set 52 = .ok (.iload 4, 2) := by decide +kernel
theorem dX8_set_54 : decode cX8_set 54 = .ok (.ireturn, 1) := by decide +kernel
theorem dX8_fort_0 : decode cX8_fort 0 = .ok (.iload_n 1, 1) := by decide +kernel
theorem dX8_fort_1 : decode cX8_fort 1 = .ok (.iconst 0, 1) := by decide +kernel
theorem dX8_fort_2 : decode cX8_fort 2 = .ok (.iconst 5, 1) := by decide +kernel
theorem dX8_fort_3 : decode cX8_fort 3 = .ok (.invokestatic 82, 3) := by decide +kernel
theorem dX8_fort_6 : decode cX8_fort 6 = .ok (.ifCond .eq 23, 3) := by decide +kernel
theorem dX8_fort_9 : decode cX8_fort 9 = .ok (.iload_n 2, 1) := by decide +kernel
theorem dX8_fort_10 : decode cX8_fort 10 = .ok (.iconst 0, 1) := by decide +kernel
theorem dX8_fort_11 : decode cX8_fort 11 = .ok (.bipush 9, 2) := by decide +kernel
theorem dX8_fort_13 : decode cX8_fort 13 = .ok (.invokestatic 82, 3) := by decide +kernel
theorem dX8_fort_16 : decode cX8_fort 16 = .ok (.ifCond .eq 13, 3) := by decide +kernel
theorem dX8_fort_19 : decode cX8_fort 19 = .ok (.iload_n 3, 1) := by decide +kernel
theorem dX8_fort_20 : decode cX8_fort 20 = .ok (.iconst 0, 1) := by decide +kernel
theorem dX8_fort_21 : decode cX8_fort 21 = .ok (.bipush 15, 2) := by decide +kernel
theorem dX8_fort_23 : decode cX8_fort 23 = .ok (.invokestatic 82, 3) := by decide +kernel
theorem dX8_fort_26 : decode cX8_fort 26 = .ok (.ifCond .ne 6, 3) := by decide +kernel
theorem dX8_fort_29 : decode cX8_fort 29 = .ok (.bipush (-2), 2) := by decide +kernel
theorem dX8_fort_31 : decode cX8_fort 31 = .ok (.ireturn, 1) := by decide +kernel
theorem dX8_fort_32 : decode cX8_fort 32 = .ok (.aload_n 0, 1) := by decide +kernel
theorem dX8_fort_33 : decode cX8_fort 33 = .ok (.getfield 79, 3) := by decide +kernel
theorem dX8_fort_36 : decode cX8_fort 36 = .ok (.bipush 8, 2) := by decide +kernel
theorem dX8_fort_38 : decode cX8_fort 38 = .ok (.if_icmp .ne 6, 3) := by decide +kernel
theorem dX8_fort_41 : decode cX8_fort 41 = .ok (.bipush (-4), 2) := by decide +kernel
theorem dX8_fort_43 : decode cX8_fort 43 = .ok (.ireturn, 1) := by decide +kernel
theorem dX8_fort_44 : decode cX8_fort 44 = .ok (.aload_n 0, 1) := by decide +kernel
theorem dX8_fort_45 : decode cX8_fort 45 = .ok (.getfield 7, 3) := by decide +kernel
theorem dX8_fort_48 : decode cX8_fort 48 = .ok (.aload_n 0, 1) := by decide +kernel
theorem dX8_fort_49 : decode cX8_fort 49 = .ok (.getfield 79, 3) := by decide +kernel
theorem dX8_fort_52 : decode cX8_fort 52 = .ok (.iload_n 1, 1) := by decide +kernel
theorem dX8_fort_53 : decode cX8_fort 53 = .ok (.iastore, 1) := by decide +kernel
theorem dX8_fort_54 : decode cX8_fort 54 = .ok (.aload_n 0, 1) := by decide +kernel
theorem dX8_fort_55 : decode cX8_fort 55 = .ok (.getfield 13, 3) := by decide +kernel
theorem dX8_fort_58 : decode cX8_fort 58 = .ok (.aload_n 0, 1) := by decide +kernel
theorem dX8_fort_59 : decode cX8_fort 59 = .ok (.getfield 79, 3) := by decide +kernel
theorem dX8_fort_62 : decode cX8_fort 62 = .ok (.iload_n 2, 1) := by decide +kernel
theorem dX8_fort_63 : decode cX8_fort 63 = .ok (.iastore, 1) := by decide +kernel
theorem dX8_fort_64 : decode cX8_fort 64 = .ok (.aload_n 0, 1) := by decide +kernel
theorem dX8_fort_65 : decode cX8_fort 65 = .ok (.getfield 16, 3) := by decide +kernel
theorem dX8_fort_68 : decode cX8_fort 68 = .ok (.aload_n 0, 1) := by decide +kernel
theorem dX8_fort_69 : decode cX8_fort 69 = .ok (.getfield 79, 3) := by decide +kernel
theorem dX8_fort_72 : decode cX8_fort 72 = .ok (.iload_n 3, 1) := by decide +kernel
theorem dX8_fort_73 : decode cX8_fort 73 = .ok (.iastore, 1) := by decide +kernel
theorem dX8_fort_74 : decode cX8_fort 74 = .ok (.aload_n 0, 1) := by decide +kernel
theorem dX8_fort_75 : decode cX8_fort 75 = .ok (.getfield 19, 3) := by decide +kernel
theorem dX8_fort_78 : decode cX8_fort 78 = .ok (.aload_n 0, 1) := by decide +kernel
theorem dX8_fort_79 : decode cX8_fort 79 = .ok (.getfield 79, 3) := by decide +kernel
theorem dX8_fort_82 : decode cX8_fort 82 = .ok (.iconst 0, 1) := by decide +kernel
theorem dX8_fort_83 : decode cX8_fort 83 = .ok (.iastore, 1) := by decide +kernel
theorem dX8_fort_84 : decode cX8_fort 84 = .ok (.aload_n 0, 1) := by decide +kernel
theorem dX8_fort_85 : decode cX8_fort 85 = .ok (.getfield 22, 3) := by decide +kernel
theorem dX8_fort_88 : decode cX8_fort 88 = .ok (.aload_n 0, 1) := by decide +kernel
theorem dX8_fort_89 : decode cX8_fort 89 = .ok (.getfield 79, 3) := by decide +kernel
theorem dX8_fort_92 : decode cX8_fort 92 = .ok (.bipush 20, 2) := by decide +kernel
theorem dX8_fort_94 : decode cX8_fort 94 = .ok (.iastore, 1) := by decide +kernel
theorem dX8_fort_95 : decode cX8_fort 95 = .ok (.aload_n 0, 1) := by decide +kernel
theorem dX8_fort_96 : decode cX8_fort 96 = .ok (.dup, 1) := by decide +kernel
theorem dX8_fort_97 : decode cX8_fort 97 = .ok (.getfield 79, 3) := by decide +kernel
theorem dX8_fort_100 : decode cX8_fort 100 = .ok (.dup_x1, 1) := by decide +kernel
theorem dX8_fort_101 : decode cX8_fort 101 = .ok (.iconst 1, 1) := by decide +kernel
theorem dX8_fort_102 : decode cX8_fort 102 = .ok (.iadd, 1) := by decide +kernel
theorem dX8_fort_103 : decode cX8_fort 103 = .ok (.putfield 79, 3) := by decide +kernel
theorem dX8_fort_106 : decode cX8_fort 106 = .ok (.ireturn, 1) := by decide +kernel
theorem dX8_told_0 : decode cX8_told 0 = .ok (.iload_n 2, 1) := by decide +kernel
theorem dX8_told_1 : decode cX8_told 1 = .ok (.iconst 0, 1) := by decide +kernel
theorem dX8_told_2 : decode cX8_told 2 = .ok (.bipush 9, 2) := by decide +kernel
theorem dX8_told_4 : decode cX8_told 4 = .ok (.invokestatic 82, 3) := by decide +kernel
theorem dX8_told_7 : decode cX8_told 7 = .ok (.ifCond .eq 25, 3) := by decide +kernel
theorem dX8_told_10 : decode cX8_told 10 = .ok (.iload_n 2, 1) := by decide +kernel
theorem dX8_told_11 : decode cX8_told 11 = .ok (.iconst 2, 1) := by decide +kernel
theorem dX8_told_12 : decode cX8_told 12 = .ok (.if_icmp .lt 11, 3) := by decide +kernel
theorem dX8_told_15 : decode cX8_told 15 = .ok (.aload_n 0, 1) := by decide +kernel
theorem dX8_told_16 : decode cX8_told 16 = .ok (.iload_n 1, 1) := by decide +kernel
theorem dX8_told_17 : decode cX8_told 17 = .ok (.invokevirtual 102, 3) := by decide +kernel
theorem dX8_told_20 : decode cX8_told 20 = .ok (.ifCond .eq 12, 3) := by decide +kernel
theorem dX8_told_23 : decode cX8_told 23 = .ok (.aload_n 0, 1) := by decide +kernel
theorem dX8_told_24 : decode cX8_told 24 = .ok (.iload_n 1, 1) := by decide +kernel
theorem dX8_told_25 : decode cX8_told 25 = .ok (.iload_n 2, 1) := by decide +kernel
theorem dX8_told_26 : decode cX8_told 26 = .ok (.invokevirtual 109, 3) := by decide +kernel
theorem dX8_told_29 : decode cX8_told 29 = .ok (.goto 5, 3) := by decide +kernel
theorem dX8_told_32 : decode cX8_told 32 = .ok (.bipush (-2), 2) := by decide +kernel
theorem dX8_told_34 : decode cX8_told 34 = .ok (.ireturn, 1) := by decide +kernel
theorem dX8_feed_0 : decode cX8_feed 0 = .ok (.iload_n 1, 1) := by decide +kernel
theorem dX8_feed_1 : decode cX8_feed 1 = .ok (.iconst 0, 1) := by decide +kernel
theorem dX8_feed_2 : decode cX8_feed 2 = .ok (.sipush 255, 3) := by decide +kernel
theorem dX8_feed_5 : decode cX8_feed 5 = .ok (.invokestatic 82, 3) := by decide +kernel
theorem dX8_feed_8 : decode cX8_feed 8 = .ok (.ifCond .ne 6, 3) := by decide +kernel
theorem dX8_feed_11 : decode cX8_feed 11 = .ok (.bipush (-2), 2) := by decide +kernel
theorem dX8_feed_13 : decode cX8_feed 13 = .ok (.ireturn, 1) := by decide +kernel
theorem dX8_feed_14 : decode cX8_feed 14 = .ok (.aload_n 0, 1) := by decide +kernel
theorem dX8_feed_15 : decode cX8_feed 15 = .ok (.getfield 72, 3) := by decide +kernel
theorem dX8_feed_18 : decode cX8_feed 18 = .ok (.sipush 160, 3) := by decide +kernel
theorem dX8_feed_21 : decode cX8_feed 21 = .ok (.if_icmp .ne 6, 3) := by decide +kernel
theorem dX8_feed_24 : decode cX8_feed 24 = .ok (.bipush (-4), 2) := by decide +kernel
theorem dX8_feed_26 : decode cX8_feed 26 = .ok (.ireturn, 1) := by decide +kernel
theorem dX8_feed_27 : decode cX8_feed 27 = .ok (.aload_n 0, 1) := by decide +kernel
theorem dX8_feed_28 : decode cX8_feed 28 = .ok (.getfield 25, 3) := by decide +kernel
theorem dX8_feed_31 : decode cX8_feed 31 = .ok (.aload_n 0, 1) := by decide +kernel
theorem dX8_feed_32 : decode cX8_feed 32 = .ok (.dup, 1) := by decide +kernel
theorem dX8_feed_33 : decode cX8_feed 33 = .ok (.getfield 72, 3) := by decide +kernel
theorem dX8_feed_36 : decode cX8_feed 36 = .ok (.dup_x1, 1) := by decide +kernel
theorem dX8_feed_37 : decode cX8_feed 37 = .ok (.iconst 1, 1) := by decide +kernel
theorem dX8_feed_38 : decode cX8_feed 38 = .ok (.iadd, 1) := by decide +kernel
theorem dX8_feed_39 : decode cX8_feed 39 = .ok (.putfield 72, 3) := by decide +kernel
theorem dX8_feed_42 : decode cX8_feed 42 = .ok (.iload_n 1, 1) := by decide +kernel
theorem dX8_feed_43 : decode cX8_feed 43 = .ok (.iastore, 1) := by decide +kernel
theorem dX8_feed_44 : decode cX8_feed 44 = .ok (.aload_n 0, 1) := by decide +kernel
theorem dX8_feed_45 : decode cX8_feed 45 = .ok (.getfield 72, 3) := by decide +kernel
theorem dX8_feed_48 : decode cX8_feed 48 = .ok (.ireturn, 1) := by decide +kernel
theorem dX8_isLetter_0 : decode cX8_isLetter 0 = .ok (.iload_n 0, 1) := by decide +kernel
theorem dX8_isLetter_1 : decode cX8_isLetter 1 = .ok (.bipush 97, 2) := by decide +kernel
theorem dX8_isLetter_3 : decode cX8_isLetter 3 = .ok (.if_icmp .lt 13, 3) := by decide +kernel
theorem dX8_isLetter_6 : decode cX8_isLetter 6 = .ok (.iload_n 0, 1) := by decide +kernel
theorem dX8_isLetter_7 : decode cX8_isLetter 7 = .ok (.bipush 122, 2) := by decide +kernel
theorem dX8_isLetter_9 : decode cX8_isLetter 9 = .ok (.if_icmp .gt 7, 3) := by decide +kernel
theorem dX8_isLetter_12 : decode cX8_isLetter 12 = .ok (.iconst 1, 1) := by decide +kernel
theorem dX8_isLetter_13 : decode cX8_isLetter 13 = .ok (.goto 4, 3) := by decide +kernel
theorem dX8_isLetter_16 : decode cX8_isLetter 16 = .ok (.iconst 0, 1) := by decide +kernel
theorem dX8_isLetter_17 : decode cX8_isLetter 17 = .ok (.ireturn, 1) := by decide +kernel
theorem dX8_isDigit_0 : decode cX8_isDigit 0 = .ok (.iload_n 0, 1) := by decide +kernel
theorem dX8_isDigit_1 : decode cX8_isDigit 1 = .ok (.bipush 48, 2) := by decide +kernel
theorem dX8_isDigit_3 : decode cX8_isDigit 3 = .ok (.if_icmp .lt 13, 3) := by decide +kernel
theorem dX8_isDigit_6 : decode cX8_isDigit 6 = .ok (.iload_n 0, 1) := by decide +kernel
theorem dX8_isDigit_7 : decode cX8_isDigit 7 = .ok (.bipush 57, 2) := by decide +kernel
theorem dX8_isDigit_9 : decode cX8_isDigit 9 = .ok (.if_icmp .gt 7, 3) := by decide +kernel
theorem dX8_isDigit_12 : decode cX8_isDigit 12 = .ok (.iconst 1, 1) := by decide +kernel
theorem dX8_isDigit_13 : decode cX8_isDigit 13 = .ok (.goto 4, 3) := by decide +kernel
theorem dX8_isDigit_16 : decode cX8_isDigit 16 = .ok (.iconst 0, 1) := by decide +kernel
theorem dX8_isDigit_17 : decode cX8_isDigit 17 = .ok (.ireturn, 1) := by decide +kernel
theorem dX8_isWord_0 : decode cX8_isWord 0 = .ok (.aload_n 0, 1) := by decide +kernel
theorem dX8_isWord_1 : decode cX8_isWord 1 = .ok (.getfield 117, 3) := by decide +kernel
theorem dX8_isWord_4 : decode cX8_isWord 4 = .ok (.bipush 119, 2) := by decide +kernel
theorem dX8_isWord_6 : decode cX8_isWord 6 = .ok (.if_icmp .ne 19, 3) := by decide +kernel
theorem dX8_isWord_9 : decode cX8_isWord 9 = .ok (.aload_n 0, 1) := by decide +kernel
theorem dX8_isWord_10 : decode cX8_isWord 10 = .ok (.getfield 120, 3) := by decide +kernel
theorem dX8_isWord_13 : decode cX8_isWord 13 = .ok (.aload_n 0, 1) := by decide +kernel
theorem dX8_isWord_14 : decode cX8_isWord 14 = .ok (.getfield 123, 3) := by decide +kernel
theorem dX8_isWord_17 : decode cX8_isWord 17 = .ok (.isub, 1) := by decide +kernel
theorem dX8_isWord_18 : decode cX8_isWord 18 = .ok (.aload_n 1, 1) := by decide +kernel
theorem dX8_isWord_19 : decode cX8_isWord 19 = .ok (.invokevirtual 63, 3) := by decide +kernel
theorem dX8_isWord_22 : decode cX8_isWord 22 = .ok (.if_icmp .eq 5, 3) := by decide +kernel
theorem dX8_isWord_25 : decode cX8_isWord 25 = .ok (.iconst 0, 1) := by decide +kernel
theorem dX8_isWord_26 : decode cX8_isWord 26 = .ok (.ireturn, 1) := by decide +kernel
theorem dX8_isWord_27 : decode cX8_isWord 27 = .ok (.iconst 0, 1) := by decide +kernel
theorem dX8_isWord_28 : decode cX8_isWord 28 = .ok (.istore_n 2, 1) := by decide +kernel
theorem dX8_isWord_29 : decode cX8_isWord 29 = .ok (.iload_n 2, 1) := by decide +kernel
theorem dX8_isWord_30 : decode cX8_isWord 30 = .ok (.aload_n 1, 1) := by decide +kernel
theorem dX8_isWord_31 : decode cX8_isWord 31 = .ok (.invokevirtual 63, 3) := by decide +kernel
theorem dX8_isWord_34 : decode cX8_isWord 34 = .ok (.if_icmp .ge 30, 3) := by decide +kernel
theorem dX8_isWord_37 : decode cX8_isWord 37 = .ok (.aload_n 0, 1) := by decide +kernel
theorem dX8_isWord_38 : decode cX8_isWord 38 = .ok (.getfield 25, 3) := by decide +kernel
theorem dX8_isWord_41 : decode cX8_isWord 41 = .ok (.aload_n 0, 1) := by decide +kernel
theorem dX8_isWord_42 : decode cX8_isWord 42 = .ok (.getfield 123, 3) := by decide +kernel
theorem dX8_isWord_45 : decode cX8_isWord 45 = .ok (.iload_n 2, 1) := by decide +kernel
theorem dX8_isWord_46 : decode cX8_isWord 46 = .ok (.iadd, 1) := by decide +kernel
theorem dX8_isWord_47 : decode cX8_isWord 47 = .ok (.iaload, 1) := by decide +kernel
theorem dX8_isWord_48 : decode cX8_isWord 48 = .ok (.aload_n 1, 1) := by decide +kernel
theorem dX8_isWord_49 : decode cX8_isWord 49 = .ok (.iload_n 2, 1) := by decide +kernel
theorem dX8_isWord_50 : decode cX8_isWord 50 = .ok (.invokevirtual 68, 3) := by decide +kernel
theorem dX8_isWord_53 : decode cX8_isWord 53 = .ok (.if_icmp .eq 5, 3) := by decide +kernel
theorem dX8_isWord_56 : decode cX8_isWord 56 = .ok (.iconst 0, 1) := by decide +kernel
theorem dX8_isWord_57 : decode cX8_isWord 57 = .ok (.ireturn, 1) := by decide +kernel
theorem dX8_isWord_58 : decode cX8_isWord 58 = .ok (.iinc 2 1, 3) := by decide +kernel
theorem dX8_isWord_61 : decode cX8_isWord 61 = .ok (.goto (-32), 3) := by decide +kernel
theorem dX8_isWord_64 : decode cX8_isWord 64 = .ok (.iconst 1, 1) := by decide +kernel
theorem dX8_isWord_65 : decode cX8_isWord 65 = .ok (.ireturn, 1) := by decide +kernel
theorem dX8_name_0 : decode cX8_name 0 = .ok (.iload_n 0, 1) := by decide +kernel
theorem dX8_name_1 : decode cX8_name 1 = .ok (.ifCond .ne 8, 3) := by decide +kernel
theorem dX8_name_4 : decode cX8_name 4 = .ok (.ldc 126, 2) := by decide +kernel
theorem dX8_name_6 : decode cX8_name 6 = .ok (.goto 45, 3) := by decide +kernel
theorem dX8_name_9 : decode cX8_name 9 = .ok (.iload_n 0, 1) := by decide +kernel
theorem dX8_name_10 : decode cX8_name 10 = .ok (.iconst 1, 1) := by decide +kernel
theorem dX8_name_11 : decode cX8_name 11 = .ok (.if_icmp .ne 8, 3) := by decide +kernel
theorem dX8_name_14 : decode cX8_name 14 = .ok (.ldc 127, 2) := by decide +kernel
theorem dX8_name_16 : decode cX8_name 16 = .ok (.goto 35, 3) := by decide +kernel
theorem dX8_name_19 : decode cX8_name 19 = .ok (.iload_n 0, 1) := by decide +kernel
theorem dX8_name_20 : decode cX8_name 20 = .ok (.iconst 2, 1) := by decide +kernel
theorem dX8_name_21 : decode cX8_name 21 = .ok (.if_icmp .ne 8, 3) := by decide +kernel
theorem dX8_name_24 : decode cX8_name 24 = .ok (.ldc 128, 2) := by decide +kernel
theorem dX8_name_26 : decode cX8_name 26 = .ok (.goto 25, 3) := by decide +kernel
theorem dX8_name_29 : decode cX8_name 29 = .ok (.iload_n 0, 1) := by decide +kernel
theorem dX8_name_30 : decode cX8_name 30 = .ok (.iconst 3, 1) := by decide +kernel
theorem dX8_name_31 : decode cX8_name 31 = .ok (.if_icmp .ne 8, 3) := by decide +kernel
theorem dX8_name_34 : decode cX8_name 34 = .ok (.ldc 129, 2) := by decide +kernel
theorem dX8_name_36 : decode cX8_name 36 = .ok (.goto 15, 3) := by decide +kernel
theorem dX8_name_39 : decode cX8_name 39 = .ok (.iload_n 0, 1) := by decide +kernel
theorem dX8_name_40 : decode cX8_name 40 = .ok (.iconst 4, 1) := by decide +kernel
theorem dX8_name_41 : decode cX8_name 41 = .ok (.if_icmp .ne 8, 3) := by decide +kernel
theorem dX8_name_44 : decode cX8_name 44 = .ok (.ldc 130, 2) := by decide +kernel
theorem dX8_name_46 : decode cX8_name 46 = .ok (.goto 5, 3) := by decide +kernel
theorem dX8_name_49 : decode cX8_name 49 = .ok (.ldc 131, 2) := by decide +kernel
theorem dX8_name_51 : decode cX8_name 51 = .ok (.areturn, 1) := by decide +kernel
theorem dX8_named_0 : decode cX8_named 0 = .ok (.iconst 0, 1) := by decide +kernel
theorem dX8_named_1 : decode cX8_named 1 = .ok (.istore_n 1, 1) := by decide +kernel
theorem dX8_named_2 : decode cX8_named 2 = .ok (.iload_n 1, 1) := by decide +kernel
theorem dX8_named_3 : decode cX8_named 3 = .ok (.iconst 5, 1) := by decide +kernel
theorem dX8_named_4 : decode cX8_named 4 = .ok (.if_icmp .gt 22, 3) := by decide +kernel
theorem dX8_named_7 : decode cX8_named 7 = .ok (.aload_n 0, 1) := by decide +kernel
theorem dX8_named_8 : decode cX8_named 8 = .ok (.iload_n 1, 1) := by decide +kernel
theorem dX8_named_9 : decode cX8_named 9 = .ok (.invokestatic 132, 3) := by decide +kernel
theorem dX8_named_12 : decode cX8_named 12 = .ok (.invokevirtual 136, 3) := by decide +kernel
theorem dX8_named_15 : decode cX8_named 15 = .ok (.ifCond .eq 5, 3) := by decide +kernel
theorem dX8_named_18 : decode cX8_named 18 = .ok (.iload_n 1, 1) := by decide +kernel
theorem dX8_named_19 : decode cX8_named 19 = .ok (.ireturn, 1) := by decide +kernel
theorem dX8_named_20 : decode cX8_named 20 = .ok (.iinc 1 1, 3) := by decide +kernel
theorem dX8_named_23 : decode cX8_named 23 = .ok (.goto (-21), 3) := by decide +kernel
theorem dX8_named_26 : decode cX8_named 26 = .ok (.iconst (-1), 1) := by decide +kernel
theorem dX8_named_27 : decode cX8_named 27 = .ok (.ireturn, 1) := by decide +kernel
theorem dX8_next_0 : decode cX8_next 0 = .ok (.aload_n 0, 1) := by decide +kernel
theorem dX8_next_1 : decode cX8_next 1 = .ok (.aload_n 0, 1) := by decide +kernel
theorem dX8_next_2 : decode cX8_next 2 = .ok (.getfield 120, 3) := by decide +kernel
theorem dX8_next_5 : decode cX8_next 5 = .ok (.putfield 123, 3) := by decide +kernel
theorem dX8_next_8 : decode cX8_next 8 = .ok (.aload_n 0, 1) := by decide +kernel
theorem dX8_next_9 : decode cX8_next 9 = .ok (.getfield 123, 3) := by decide +kernel
theorem dX8_next_12 : decode cX8_next 12 = .ok (.aload_n 0, 1) := by decide +kernel
theorem dX8_next_13 : decode cX8_next 13 = .ok (.getfield 72, 3) := by decide +kernel
theorem dX8_next_16 : decode cX8_next 16 = .ok (.if_icmp .ge 44, 3) := by decide +kernel
theorem dX8_next_19 : decode cX8_next 19 = .ok (.aload_n 0, 1) := by decide +kernel
theorem dX8_next_20 : decode cX8_next 20 = .ok (.getfield 25, 3) := by decide +kernel
theorem dX8_next_23 : decode cX8_next 23 = .ok (.aload_n 0, 1) := by decide +kernel
theorem dX8_next_24 : decode cX8_next 24 = .ok (.getfield 123, 3) := by decide +kernel
theorem dX8_next_27 : decode cX8_next 27 = .ok (.iaload, 1) := by decide +kernel
theorem dX8_next_28 : decode cX8_next 28 = .ok (.bipush 32, 2) := by decide +kernel
theorem dX8_next_30 : decode cX8_next 30 = .ok (.if_icmp .eq 17, 3) := by decide +kernel
theorem dX8_next_33 : decode cX8_next 33 = .ok (.aload_n 0, 1) := by decide +kernel
theorem dX8_next_34 : decode cX8_next 34 = .ok (.getfield 25, 3) := by decide +kernel
theorem dX8_next_37 : decode cX8_next 37 = .ok (.aload_n 0, 1) := by decide +kernel
theorem dX8_next_38 : decode cX8_next 38 = .ok (.getfield 123, 3) := by decide +kernel
theorem dX8_next_41 : decode cX8_next 41 = .ok (.iaload, 1) := by decide +kernel
theorem dX8_next_42 : decode cX8_next 42 = .ok (.bipush 10, 2) := by decide +kernel
theorem dX8_next_44 : decode cX8_next 44 = .ok (.if_icmp .ne 16, 3) := by decide +kernel
theorem dX8_next_47 : decode cX8_next 47 = .ok (.aload_n 0, 1) := by decide +kernel
theorem dX8_next_48 : decode cX8_next 48 = .ok (.dup, 1) := by decide +kernel
theorem dX8_next_49 : decode cX8_next 49 = .ok (.getfield 123, 3) := by decide +kernel
theorem dX8_next_52 : decode cX8_next 52 = .ok (.iconst 1, 1) := by decide +kernel
theorem dX8_next_53 : decode cX8_next 53 = .ok (.iadd, 1) := by decide +kernel
theorem dX8_next_54 : decode cX8_next 54 = .ok (.putfield 123, 3) := by decide +kernel
theorem dX8_next_57 : decode cX8_next 57 = .ok (.goto (-49), 3) := by decide +kernel
theorem dX8_next_60 : decode cX8_next 60 = .ok (.aload_n 0, 1) := by decide +kernel
theorem dX8_next_61 : decode cX8_next 61 = .ok (.aload_n 0, 1) := by decide +kernel
theorem dX8_next_62 : decode cX8_next 62 = .ok (.getfield 123, 3) := by decide +kernel
theorem dX8_next_65 : decode cX8_next 65 = .ok (.putfield 120, 3) := by decide +kernel
theorem dX8_next_68 : decode cX8_next 68 = .ok (.aload_n 0, 1) := by decide +kernel
theorem dX8_next_69 : decode cX8_next 69 = .ok (.getfield 123, 3) := by decide +kernel
theorem dX8_next_72 : decode cX8_next 72 = .ok (.aload_n 0, 1) := by decide +kernel
theorem dX8_next_73 : decode cX8_next 73 = .ok (.getfield 72, 3) := by decide +kernel
theorem dX8_next_76 : decode cX8_next 76 = .ok (.if_icmp .ne 10, 3) := by decide +kernel
theorem dX8_next_79 : decode cX8_next 79 = .ok (.aload_n 0, 1) := by decide +kernel
theorem dX8_next_80 : decode cX8_next 80 = .ok (.bipush 101, 2) := by decide +kernel
theorem dX8_next_82 : decode cX8_next 82 = .ok (.putfield 117, 3) := by decide +kernel
theorem dX8_next_85 : decode cX8_next 85 = .ok (.return_, 1) := by decide +kernel
theorem dX8_next_86 : decode cX8_next 86 = .ok (.aload_n 0, 1) := by decide +kernel
theorem dX8_next_87 : decode cX8_next 87 = .ok (.getfield 25, 3) := by decide +kernel
theorem dX8_next_90 : decode cX8_next 90 = .ok (.aload_n 0, 1) := by decide +kernel
theorem dX8_next_91 : decode cX8_next 91 = .ok (.getfield 123, 3) := by decide +kernel
theorem dX8_next_94 : decode cX8_next 94 = .ok (.iaload, 1) := by decide +kernel
theorem dX8_next_95 : decode cX8_next 95 = .ok (.istore_n 1, 1) := by decide +kernel
theorem dX8_next_96 : decode cX8_next 96 = .ok (.iload_n 1, 1) := by decide +kernel
theorem dX8_next_97 : decode cX8_next 97 = .ok (.invokestatic 140, 3) := by decide +kernel
theorem dX8_next_100 : decode cX8_next 100 = .ok (.ifCond .eq 119, 3) := by decide +kernel
theorem dX8_next_103 : decode cX8_next 103 = .ok (.aload_n 0, 1) := by decide +kernel
theorem dX8_next_104 : decode cX8_next 104 = .ok (.getfield 120, 3) := by decide +kernel
theorem dX8_next_107 : decode cX8_next 107 = .ok (.aload_n 0, 1) := by decide +kernel
theorem dX8_next_108 : decode cX8_next 108 = .ok (.getfield 72, 3) := by decide +kernel
theorem dX8_next_111 : decode cX8_next 111 = .ok (.if_icmp .ge 31, 3) := by decide +kernel
theorem dX8_next_114 : decode cX8_next 114 = .ok (.aload_n 0, 1) := by decide +kernel
theorem dX8_next_115 : decode cX8_next 115 = .ok (.getfield 25, 3) := by decide +kernel
theorem dX8_next_118 : decode cX8_next 118 = .ok (.aload_n 0, 1) := by decide +kernel
theorem dX8_next_119 : decode cX8_next 119 = .ok (.getfield 120, 3) := by decide +kernel
theorem dX8_next_122 : decode cX8_next 122 = .ok (.iaload, 1) := by decide +kernel
theorem dX8_next_123 : decode cX8_next 123 = .ok (.invokestatic 140, 3) := by decide +kernel
theorem dX8_next_126 : decode cX8_next 126 = .ok (.ifCond .eq 16, 3) := by decide +kernel
theorem dX8_next_129 : decode cX8_next 129 = .ok (.aload_n 0, 1) := by decide +kernel
theorem dX8_next_130 : decode cX8_next 130 = .ok (.dup, 1) := by decide +kernel
theorem dX8_next_131 : decode cX8_next 131 = .ok (.getfield 120, 3) := by decide +kernel
theorem dX8_next_134 : decode cX8_next 134 = .ok (.iconst 1, 1) := by decide +kernel
theorem dX8_next_135 : decode cX8_next 135 = .ok (.iadd, 1) := by decide +kernel
theorem dX8_next_136 : decode cX8_next 136 = .ok (.putfield 120, 3) := by decide +kernel
theorem dX8_next_139 : decode cX8_next 139 = .ok (.goto (-36), 3) := by decide +kernel
theorem dX8_next_142 : decode cX8_next 142 = .ok (.aload_n 0, 1) := by decide +kernel
theorem dX8_next_143 : decode cX8_next 143 = .ok (.bipush 119, 2) := by decide +kernel
theorem dX8_next_145 : decode cX8_next 145 = .ok (.putfield 117, 3) := by decide +kernel
theorem dX8_next_148 : decode cX8_next 148 = .ok (.aload_n 0, 1) := by decide +kernel
theorem dX8_next_149 : decode cX8_next 149 = .ok (.invokevirtual 143, 3) := by decide +kernel
theorem dX8_next_152 : decode cX8_next 152 = .ok (.iconst (-1), 1) := by decide +kernel
theorem dX8_next_153 : decode cX8_next 153 = .ok (.if_icmp .ne 214, 3) := by decide +kernel
theorem dX8_next_156 : decode cX8_next 156 = .ok (.aload_n 0, 1) := by decide +kernel
theorem dX8_next_157 : decode cX8_next 157 = .ok (.ldc 146, 2) := by decide +kernel
theorem dX8_next_159 : decode cX8_next 159 = .ok (.invokevirtual 136, 3) := by decide +kernel
theorem dX8_next_162 : decode cX8_next 162 = .ok (.ifCond .ne 205, 3) := by decide +kernel
theorem dX8_next_165 : decode cX8_next 165 = .ok (.aload_n 0, 1) := by decide +kernel
theorem dX8_next_166 : decode cX8_next 166 = .ok (.ldc 148, 2) := by decide +kernel
theorem dX8_next_168 : decode cX8_next 168 = .ok (.invokevirtual 136, 3) := by decide +kernel
theorem dX8_next_171 : decode cX8_next 171 = .ok (.ifCond .ne 196, 3) := by decide +kernel
theorem dX8_next_174 : decode cX8_next 174 = .ok (.aload_n 0, 1) := by decide +kernel
theorem dX8_next_175 : decode cX8_next 175 = .ok (.ldc 150, 2) := by decide +kernel
theorem dX8_next_177 : decode cX8_next 177 = .ok (.invokevirtual 136, 3) := by decide +kernel
theorem dX8_next_180 : decode cX8_next 180 = .ok (.ifCond .ne 187, 3) := by decide +kernel
theorem dX8_next_183 : decode cX8_next 183 = .ok (.aload_n 0, 1) := by decide +kernel
theorem dX8_next_184 : decode cX8_next 184 = .ok (.ldc 152, 2) := by decide +kernel
theorem dX8_next_186 : decode cX8_next 186 = .ok (.invokevirtual 136, 3) := by decide +kernel
theorem dX8_next_189 : decode cX8_next 189 = .ok (.ifCond .ne 178, 3) := by decide +kernel
theorem dX8_next_192 : decode cX8_next 192 = .ok (.aload_n 0, 1) := by decide +kernel
theorem dX8_next_193 : decode cX8_next 193 = .ok (.ldc 154, 2) := by decide +kernel
theorem dX8_next_195 : decode cX8_next 195 = .ok (.invokevirtual 136, 3) := by decide +kernel
theorem dX8_next_198 : decode cX8_next 198 = .ok (.ifCond .ne 169, 3) := by decide +kernel
theorem dX8_next_201 : decode cX8_next 201 = .ok (.aload_n 0, 1) := by decide +kernel
theorem dX8_next_202 : decode cX8_next 202 = .ok (.ldc 156, 2) := by decide +kernel
theorem dX8_next_204 : decode cX8_next 204 = .ok (.invokevirtual 136, 3) := by decide +kernel
theorem dX8_next_207 : decode cX8_next 207 = .ok (.ifCond .ne 160, 3) := by decide +kernel
theorem dX8_next_210 : decode cX8_next 210 = .ok (.aload_n 0, 1) := by decide +kernel
theorem dX8_next_211 : decode cX8_next 211 = .ok (.bipush 120, 2) := by decide +kernel
theorem dX8_next_213 : decode cX8_next 213 = .ok (.putfield 117, 3) := by decide +kernel
theorem dX8_next_216 : decode cX8_next 216 = .ok (.goto 151, 3) := by decide +kernel
theorem dX8_next_219 : decode cX8_next 219 = .ok (.iload_n 1, 1) := by decide +kernel
theorem dX8_next_220 : decode cX8_next 220 = .ok (.invokestatic 158, 3) := by decide +kernel
theorem dX8_next_223 : decode cX8_next 223 = .ok (.ifCond .eq 111, 3) := by decide +kernel
theorem dX8_next_226 : decode cX8_next 226 = .ok (.aload_n 0, 1) := by decide +kernel
theorem dX8_next_227 : decode cX8_next 227 = .ok (.iconst 0, 1) := by decide +kernel
theorem dX8_next_228 : decode cX8_next 228 = .ok (.putfield 161, 3) := by decide +kernel
theorem dX8_next_231 : decode cX8_next 231 = .ok (.aload_n 0, 1) := by decide +kernel
theorem dX8_next_232 : decode cX8_next 232 = .ok (.getfield 120, 3) := by decide +kernel
theorem dX8_next_235 : decode cX8_next 235 = .ok (.aload_n 0, 1) := by decide +kernel
theorem dX8_next_236 : decode cX8_next 236 = .ok (.getfield 72, 3) := by decide +kernel
theorem dX8_next_239 : decode cX8_next 239 = .ok (.if_icmp .ge 68, 3) := by decide +kernel
theorem dX8_next_242 : decode cX8_next 242 = .ok (.aload_n 0, 1) := by decide +kernel
theorem dX8_next_243 : decode cX8_next 243 = .ok (.getfield 25, 3) := by decide +kernel
theorem dX8_next_246 : decode cX8_next 246 = .ok (.aload_n 0, 1) := by decide +kernel
theorem dX8_next_247 : decode cX8_next 247 = .ok (.getfield 120, 3) := by decide +kernel
theorem dX8_next_250 : decode cX8_next 250 = .ok (.iaload, 1) := by decide +kernel
theorem dX8_next_251 : decode cX8_next 251 = .ok (.invokestatic 158, 3) := by decide +kernel
theorem dX8_next_254 : decode cX8_next 254 = .ok (.ifCond .eq 53, 3) := by decide +kernel
theorem dX8_next_257 : decode cX8_next 257 = .ok (.aload_n 0, 1) := by decide +kernel
theorem dX8_next_258 : decode cX8_next 258 = .ok (.getfield 120, 3) := by decide +kernel
theorem dX8_next_261 : decode cX8_next 261 = .ok (.aload_n 0, 1) := by decide +kernel
theorem dX8_next_262 : decode cX8_next 262 = .ok (.getfield 123, 3) := by decide +kernel
theorem dX8_next_265 : decode cX8_next 265 = .ok (.isub, 1) := by decide +kernel
theorem dX8_next_266 : decode cX8_next 266 = .ok (.iconst 4, 1) := by decide +kernel
theorem dX8_next_267 : decode cX8_next 267 = .ok (.if_icmp .ge 27, 3) := by decide +kernel
theorem dX8_next_270 : decode cX8_next 270 = .ok (.aload_n 0, 1) := by decide +kernel
theorem dX8_next_271 : decode cX8_next 271 = .ok (.bipush 10, 2) := by decide +kernel
theorem dX8_next_273 : decode cX8_next 273 = .ok (.aload_n 0, 1) := by decide +kernel
theorem dX8_next_274 : decode cX8_next 274 = .ok (.getfield 161, 3) := by decide +kernel
theorem dX8_next_277 : decode cX8_next 277 = .ok (.imul, 1) := by decide +kernel
theorem dX8_next_278 : decode cX8_next 278 = .ok (.aload_n 0, 1) := by decide +kernel
theorem dX8_next_279 : decode cX8_next 279 = .ok (.getfield 25, 3) := by decide +kernel
theorem dX8_next_282 : decode cX8_next 282 = .ok (.aload_n 0, 1) := by decide +kernel
theorem dX8_next_283 : decode cX8_next 283 = .ok (.getfield 120, 3) := by decide +kernel
theorem dX8_next_286 : decode cX8_next 286 = .ok (.iaload, 1) := by decide +kernel
theorem dX8_next_287 : decode cX8_next 287 = .ok (.iadd, 1) := by decide +kernel
theorem dX8_next_288 : decode cX8_next 288 = .ok (.bipush 48, 2) := by decide +kernel
theorem dX8_next_290 : decode cX8_next 290 = .ok (.isub, 1) := by decide +kernel
theorem dX8_next_291 : decode cX8_next 291 = .ok (.putfield 161, 3) := by decide +kernel
theorem dX8_next_294 : decode cX8_next 294 = .ok (.aload_n 0, 1) := by decide +kernel
theorem dX8_next_295 : decode cX8_next 295 = .ok (.dup, 1) := by decide +kernel
theorem dX8_next_296 : decode cX8_next 296 = .ok (.getfield 120, 3) := by decide +kernel
theorem dX8_next_299 : decode cX8_next 299 = .ok (.iconst 1, 1) := by decide +kernel
theorem dX8_next_300 : decode cX8_next 300 = .ok (.iadd, 1) := by decide +kernel
theorem dX8_next_301 : decode cX8_next 301 = .ok (.putfield 120, 3) := by decide +kernel
theorem dX8_next_304 : decode cX8_next 304 = .ok (.goto (-73), 3) := by decide +kernel
theorem dX8_next_307 : decode cX8_next 307 = .ok (.aload_n 0, 1) := by decide +kernel
theorem dX8_next_308 : decode cX8_next 308 = .ok (.aload_n 0, 1) := by decide +kernel
theorem dX8_next_309 : decode cX8_next 309 = .ok (.getfield 120, 3) := by decide +kernel
theorem dX8_next_312 : decode cX8_next 312 = .ok (.aload_n 0, 1) := by decide +kernel
theorem dX8_next_313 : decode cX8_next 313 = .ok (.getfield 123, 3) := by decide +kernel
theorem dX8_next_316 : decode cX8_next 316 = .ok (.isub, 1) := by decide +kernel
theorem dX8_next_317 : decode cX8_next 317 = .ok (.iconst 4, 1) := by decide +kernel
theorem dX8_next_318 : decode cX8_next 318 = .ok (.if_icmp .le 8, 3) := by decide +kernel
theorem dX8_next_321 : decode cX8_next 321 = .ok (.bipush 120, 2) := by decide +kernel
theorem dX8_next_323 : decode cX8_next 323 = .ok (.goto 5, 3) := by decide +kernel
theorem dX8_next_326 : decode cX8_next 326 = .ok (.bipush 48, 2) := by decide +kernel
theorem dX8_next_328 : decode cX8_next 328 = .ok (.putfield 117, 3) := by decide +kernel
theorem dX8_next_331 : decode cX8_next 331 = .ok (.goto 36, 3) := by decide +kernel
theorem dX8_next_334 : decode cX8_next 334 = .ok (.aload_n 0, 1) := by decide +kernel
theorem dX8_next_335 : decode cX8_next 335 = .ok (.dup, 1) := by decide +kernel
theorem dX8_next_336 : decode cX8_next 336 = .ok (.getfield 120, 3) := by decide +kernel
theorem dX8_next_339 : decode cX8_next 339 = .ok (.iconst 1, 1) := by decide +kernel
theorem dX8_next_340 : decode cX8_next 340 = .ok (.iadd, 1) := by decide +kernel
theorem dX8_next_341 : decode cX8_next 341 = .ok (.putfield 120, 3) := by decide +kernel
theorem dX8_next_344 : decode cX8_next 344 = .ok (.aload_n 0, 1) := by decide +kernel
theorem dX8_next_345 : decode cX8_next 345 = .ok (.ldc 164, 2) := by decide +kernel
theorem dX8_next_347 : decode cX8_next 347 = .ok (.iload_n 1, 1) := by decide +kernel
theorem dX8_next_348 : decode cX8_next 348 = .ok (.invokevirtual 166, 3) := by decide +kernel
theorem dX8_next_351 : decode cX8_next 351 = .ok (.ifCond .lt 11, 3) := by decide +kernel
theorem dX8_next_354 : decode cX8_next 354 = .ok (.iload_n 1, 1) := by decide +kernel
theorem dX8_next_355 : decode cX8_next 355 = .ok (.ifCond .le 7, 3) := by decide +kernel
theorem dX8_next_358 : decode cX8_next 358 = .ok (.iload_n 1, 1) := by decide +kernel
theorem dX8_next_359 : decode cX8_next 359 = .ok (.goto 5, 3) := by decide +kernel
theorem dX8_next_362 : decode cX8_next 362 = .ok (.bipush 120, 2) := by decide +kernel
theorem dX8_next_364 : decode cX8_next 364 = .ok (.putfield 117, 3) := by decide +kernel
theorem dX8_next_367 : decode cX8_next 367 = .ok (.return_, 1) := by decide +kernel
theorem dX8_fails_0 : decode cX8_fails 0 = .ok (.aload_n 0, 1) := by decide +kernel
theorem dX8_fails_1 : decode cX8_fails 1 = .ok (.aload_n 0, 1) := by decide +kernel
theorem dX8_fails_2 : decode cX8_fails 2 = .ok (.getfield 123, 3) := by decide +kernel
theorem dX8_fails_5 : decode cX8_fails 5 = .ok (.putfield 169, 3) := by decide +kernel
theorem dX8_fails_8 : decode cX8_fails 8 = .ok (.iconst 0, 1) := by decide +kernel
theorem dX8_fails_9 : decode cX8_fails 9 = .ok (.ireturn, 1) := by decide +kernel
theorem dX8_takes_0 : decode cX8_takes 0 = .ok (.aload_n 0, 1) := by decide +kernel
theorem dX8_takes_1 : decode cX8_takes 1 = .ok (.getfield 117, 3) := by decide +kernel
theorem dX8_takes_4 : decode cX8_takes 4 = .ok (.iload_n 1, 1) := by decide +kernel
theorem dX8_takes_5 : decode cX8_takes 5 = .ok (.if_icmp .eq 8, 3) := by decide +kernel
theorem dX8_takes_8 : decode cX8_takes 8 = .ok (.aload_n 0, 1) := by decide +kernel
theorem dX8_takes_9 : decode cX8_takes 9 = .ok (.invokevirtual 172, 3) := by decide +kernel
theorem dX8_takes_12 : decode cX8_takes 12 = .ok (.ireturn, 1) := by decide +kernel
theorem dX8_takes_13 : decode cX8_takes 13 = .ok (.aload_n 0, 1) := by decide +kernel
theorem dX8_takes_14 : decode cX8_takes 14 = .ok (.invokevirtual 176, 3) := by decide +kernel
theorem dX8_takes_17 : decode cX8_takes 17 = .ok (.iconst 1, 1) := by decide +kernel
theorem dX8_takes_18 : decode cX8_takes 18 = .ok (.ireturn, 1) := by decide +kernel
theorem dX8_takes__0 : decode cX8_takes_ 0 = .ok (.aload_n 0, 1) := by decide +kernel
theorem dX8_takes__1 : decode cX8_takes_ 1 = .ok (.aload_n 1, 1) := by decide +kernel
theorem dX8_takes__2 : decode cX8_takes_ 2 = .ok (.invokevirtual 136, 3) := by decide +kernel
theorem dX8_takes__5 : decode cX8_takes_ 5 = .ok (.ifCond .ne 8, 3) := by decide +kernel
theorem dX8_takes__8 : decode cX8_takes_ 8 = .ok (.aload_n 0, 1) := by decide +kernel
theorem dX8_takes__9 : decode cX8_takes_ 9 = .ok (.invokevirtual 172, 3) := by decide +kernel
theorem dX8_takes__12 : decode cX8_takes_ 12 = .ok (.ireturn, 1) := by decide +kernel
theorem dX8_takes__13 : decode cX8_takes_ 13 = .ok (.aload_n 0, 1) := by decide +kernel
theorem dX8_takes__14 : decode cX8_takes_ 14 = .ok (.invokevirtual 176, 3) := by decide +kernel
theorem dX8_takes__17 : decode cX8_takes_ 17 = .ok (.iconst 1, 1) := by decide +kernel
theorem dX8_takes__18 : decode cX8_takes_ 18 = .ok (.ireturn, 1) := by decide +kernel
theorem dX8_codes_0 : decode cX8_codes 0 = .ok (.aload_n 0, 1) := by decide +kernel
theorem dX8_codes_1 : decode cX8_codes 1 = .ok (.getfield 34, 3) := by decide +kernel
theorem dX8_codes_4 : decode cX8_codes 4 = .ok (.aload_n 0, 1) := by decide +kernel
theorem dX8_codes_5 : decode cX8_codes 5 = .ok (.dup, 1) := by decide +kernel
theorem dX8_codes_6 : decode cX8_codes 6 = .ok (.getfield 179, 3) := by decide +kernel
theorem dX8_codes_9 : decode cX8_codes 9 = .ok (.dup_x1, 1) := by decide +kernel
theorem dX8_codes_10 : decode cX8_codes 10 = .ok (.iconst 1, 1) := by decide +kernel
theorem dX8_codes_11 : decode cX8_codes 11 = .ok (.iadd, 1) := by decide +kernel
theorem dX8_codes_12 : decode cX8_codes 12 = .ok (.putfield 179, 3) := by decide +kernel
theorem dX8_codes_15 : decode cX8_codes 15 = .ok (.iload_n 1, 1) := by decide +kernel
theorem dX8_codes_16 : decode cX8_codes 16 = .ok (.iastore, 1) := by decide +kernel
theorem dX8_codes_17 : decode cX8_codes 17 = .ok (.iconst 1, 1) := by decide +kernel
theorem dX8_codes_18 : decode cX8_codes 18 = .ok (.ireturn, 1) := by decide +kernel
theorem dX8_one_0 : decode cX8_one 0 = .ok (.aload_n 0, 1) := by decide +kernel
theorem dX8_one_1 : decode cX8_one 1 = .ok (.getfield 117, 3) := by decide +kernel
theorem dX8_one_4 : decode cX8_one 4 = .ok (.bipush 119, 2) := by decide +kernel
theorem dX8_one_6 : decode cX8_one 6 = .ok (.if_icmp .ne 10, 3) := by decide +kernel
theorem dX8_one_9 : decode cX8_one 9 = .ok (.aload_n 0, 1) := by decide +kernel
theorem dX8_one_10 : decode cX8_one 10 = .ok (.invokevirtual 143, 3) := by decide +kernel
theorem dX8_one_13 : decode cX8_one 13 = .ok (.goto 4, 3) := by decide +kernel
theorem dX8_one_16 : decode cX8_one 16 = .ok (.iconst (-1), 1) := by decide +kernel
theorem dX8_one_17 : decode cX8_one 17 = .ok (.istore_n 1, 1) := by decide +kernel
theorem dX8_one_18 : decode cX8_one 18 = .ok (.aload_n 0, 1) := by decide +kernel
theorem dX8_one_19 : decode cX8_one 19 = .ok (.getfield 117, 3) := by decide +kernel
theorem dX8_one_22 : decode cX8_one 22 = .ok (.bipush 48, 2) := by decide +kernel
theorem dX8_one_24 : decode cX8_one 24 = .ok (.if_icmp .ne 21, 3) := by decide +kernel
theorem dX8_one_27 : decode cX8_one 27 = .ok (.aload_n 0, 1) := by decide +kernel
theorem dX8_one_28 : decode cX8_one 28 = .ok (.bipush 15, 2) := by decide +kernel
theorem dX8_one_30 : decode cX8_one 30 = .ok (.aload_n 0, 1) := by decide +kernel
theorem dX8_one_31 : decode cX8_one 31 = .ok (.getfield 161, 3) := by decide +kernel
theorem dX8_one_34 : decode cX8_one 34 = .ok (.iadd, 1) := by decide +kernel
theorem dX8_one_35 : decode cX8_one 35 = .ok (.invokevirtual 182, 3) := by decide +kernel
theorem dX8_one_38 : decode cX8_one 38 = .ok (.pop, 1) := by decide +kernel
theorem dX8_one_39 : decode cX8_one 39 = .ok (.aload_n 0, 1) := by decide +kernel
theorem dX8_one_40 : decode cX8_one 40 = .ok (.invokevirtual 176, 3) := by decide +kernel
theorem dX8_one_43 : decode cX8_one 43 = .ok (.iconst 1, 1) := by decide +kernel
theorem dX8_one_44 : decode cX8_one 44 = .ok (.ireturn, 1) := by decide +kernel
theorem dX8_one_45 : decode cX8_one 45 = .ok (.iload_n 1, 1) := by decide +kernel
theorem dX8_one_46 : decode cX8_one 46 = .ok (.iconst (-1), 1) := by decide +kernel
theorem dX8_one_47 : decode cX8_one 47 = .ok (.if_icmp .eq 15, 3) := by decide +kernel
theorem dX8_one_50 : decode cX8_one 50 = .ok (.aload_n 0, 1) := by decide +kernel
theorem dX8_one_51 : decode cX8_one 51 = .ok (.iload_n 1, 1) := by decide +kernel
theorem dX8_one_52 : decode cX8_one 52 = .ok (.invokevirtual 182, 3) := by decide +kernel
theorem dX8_one_55 : decode cX8_one 55 = .ok (.pop, 1) := by decide +kernel
theorem dX8_one_56 : decode cX8_one 56 = .ok (.aload_n 0, 1) := by decide +kernel
theorem dX8_one_57 : decode cX8_one 57 = .ok (.invokevirtual 176, 3) := by decide +kernel
theorem dX8_one_60 : decode cX8_one 60 = .ok (.iconst 1, 1) := by decide +kernel
theorem dX8_one_61 : decode cX8_one 61 = .ok (.ireturn, 1) := by decide +kernel
theorem dX8_one_62 : decode cX8_one 62 = .ok (.aload_n 0, 1) := by decide +kernel
theorem dX8_one_63 : decode cX8_one 63 = .ok (.getfield 117, 3) := by decide +kernel
theorem dX8_one_66 : decode cX8_one 66 = .ok (.bipush 45, 2) := by decide +kernel
theorem dX8_one_68 : decode cX8_one 68 = .ok (.if_icmp .eq 12, 3) := by decide +kernel
theorem dX8_one_71 : decode cX8_one 71 = .ok (.aload_n 0, 1) := by decide +kernel
theorem dX8_one_72 : decode cX8_one 72 = .ok (.getfield 117, 3) := by decide +kernel
theorem dX8_one_75 : decode cX8_one 75 = .ok (.bipush 40, 2) := by decide +kernel
theorem dX8_one_77 : decode cX8_one 77 = .ok (.if_icmp .ne 11, 3) := by decide +kernel
theorem dX8_one_80 : decode cX8_one 80 = .ok (.aload_n 0, 1) := by decide +kernel
theorem dX8_one_81 : decode cX8_one 81 = .ok (.getfield 185, 3) := by decide +kernel
theorem dX8_one_84 : decode cX8_one 84 = .ok (.iconst 5, 1) := by decide +kernel
theorem dX8_one_85 : decode cX8_one 85 = .ok (.if_icmp .ne 8, 3) := by decide +kernel
theorem dX8_one_88 : decode cX8_one 88 = .ok (.aload_n 0, 1) := by decide +kernel
theorem dX8_one_89 : decode cX8_one 89 = .ok (.invokevirtual 172, 3) := by decide +kernel
theorem dX8_one_92 : decode cX8_one 92 = .ok (.ireturn, 1) := by decide +kernel
theorem dX8_one_93 : decode cX8_one 93 = .ok (.aload_n 0, 1) := by decide +kernel
theorem dX8_one_94 : decode cX8_one 94 = .ok (.dup, 1) := by decide +kernel
theorem dX8_one_95 : decode cX8_one 95 = .ok (.getfield 185, 3) := by decide +kernel
theorem dX8_one_98 : decode cX8_one 98 = .ok (.iconst 1, 1) := by decide +kernel
theorem dX8_one_99 : decode cX8_one 99 = .ok (.iadd, 1) := by decide +kernel
theorem dX8_one_100 : decode cX8_one 100 = .ok (.putfield 185, 3) := by decide +kernel
theorem dX8_one_103 : decode cX8_one 103 = .ok (.aload_n 0, 1) := by decide +kernel
theorem dX8_one_104 : decode cX8_one 104 = .ok (.getfield 117, 3) := by decide +kernel
theorem dX8_one_107 : decode cX8_one 107 = .ok (.bipush 45, 2) := by decide +kernel
theorem dX8_one_109 : decode cX8_one 109 = .ok (.if_icmp .ne 7, 3) := by decide +kernel
theorem dX8_one_112 : decode cX8_one 112 = .ok (.iconst 1, 1) := by decide +kernel
theorem dX8_one_113 : decode cX8_one 113 = .ok (.goto 4, 3) := by decide +kernel
theorem dX8_one_116 : decode cX8_one 116 = .ok (.iconst 0, 1) := by decide +kernel
theorem dX8_one_117 : decode cX8_one 117 = .ok (.istore_n 2, 1) := by decide +kernel
theorem dX8_one_118 : decode cX8_one 118 = .ok (.aload_n 0, 1) := by decide +kernel
theorem dX8_one_119 : decode cX8_one 119 = .ok (.invokevirtual 176, 3) := by decide +kernel
theorem dX8_one_122 : decode cX8_one 122 = .ok (.iload_n 2, 1) := by decide +kernel
theorem dX8_one_123 : decode cX8_one 123 = .ok (.ifCond .eq 27, 3) := by decide +kernel
theorem dX8_one_126 : decode cX8_one 126 = .ok (.aload_n 0, 1) := by decide +kernel
theorem dX8_one_127 : decode cX8_one 127 = .ok (.invokevirtual 188, 3) := by decide +kernel
theorem dX8_one_130 : decode cX8_one 130 = .ok (.ifCond .eq 16, 3) := by decide +kernel
theorem dX8_one_133 : decode cX8_one 133 = .ok (.aload_n 0, 1) := by decide +kernel
theorem dX8_one_134 : decode cX8_one 134 = .ok (.bipush 14, 2) := by decide +kernel
theorem dX8_one_136 : decode cX8_one 136 = .ok (.invokevirtual 182, 3) := by decide +kernel
theorem dX8_one_139 : decode cX8_one 139 = .ok (.ifCond .eq 7, 3) := by decide +kernel
theorem dX8_one_142 : decode cX8_one 142 = .ok (.iconst 1, 1) := by decide +kernel
theorem dX8_one_143 : decode cX8_one 143 = .ok (.goto 28, 3) := by decide +kernel
theorem dX8_one_146 : decode cX8_one 146 = .ok (.iconst 0, 1) := by decide +kernel
theorem dX8_one_147 : decode cX8_one 147 = .ok (.goto 24, 3) := by decide +kernel
theorem dX8_one_150 : decode cX8_one 150 = .ok (.aload_n 0, 1) := by decide +kernel
theorem dX8_one_151 : decode cX8_one 151 = .ok (.invokevirtual 191, 3) := by decide +kernel
theorem dX8_one_154 : decode cX8_one 154 = .ok (.ifCond .eq 16, 3) := by decide +kernel
theorem dX8_one_157 : decode cX8_one 157 = .ok (.aload_n 0, 1) := by decide +kernel
theorem dX8_one_158 : decode cX8_one 158 = .ok (.bipush 41, 2) := by decide +kernel
theorem dX8_one_160 : decode cX8_one 160 = .ok (.invokevirtual 194, 3) := by decide +kernel
theorem dX8_one_163 : decode cX8_one 163 = .ok (.ifCond .eq 7, 3) := by decide +kernel
theorem dX8_one_166 : decode cX8_one 166 = .ok (.iconst 1, 1) := by decide +kernel
theorem dX8_one_167 : decode cX8_one 167 = .ok (.goto 4, 3) := by decide +kernel
theorem dX8_one_170 : decode cX8_one 170 = .ok (.iconst 0, 1) := by decide +kernel
theorem dX8_one_171 : decode cX8_one 171 = .ok (.istore_n 3, 1) := by decide +kernel
theorem dX8_one_172 : decode cX8_one 172 = .ok (.aload_n 0, 1) := by decide +kernel
theorem dX8_one_173 : decode cX8_one 173 = .ok (.dup, 1) := by decide +kernel
theorem dX8_one_174 : decode cX8_one 174 = .ok (.getfield 185, 3) := by decide +kernel
theorem dX8_one_177 : decode cX8_one 177 = .ok (.iconst 1, 1) := by decide +kernel
theorem dX8_one_178 : decode cX8_one 178 = .ok (.isub, 1) := by decide +kernel
theorem dX8_one_179 : decode cX8_one 179 = .ok (.putfield 185, 3) := by decide +kernel
theorem dX8_one_182 : decode cX8_one 182 = .ok (.iload_n 3, 1) := by decide +kernel
theorem dX8_one_183 : decode cX8_one 183 = .ok (.ireturn, 1) := by decide +kernel
theorem dX8_term_0 : decode cX8_term 0 = .ok (.aload_n 0, 1) := by decide +kernel
theorem dX8_term_1 : decode cX8_term 1 = .ok (.invokevirtual 188, 3) := by decide +kernel
theorem dX8_term_4 : decode cX8_term 4 = .ok (.ifCond .ne 5, 3) := by decide +kernel
theorem dX8_term_7 : decode cX8_term 7 = .ok (.iconst 0, 1) := by decide +kernel
theorem dX8_term_8 : decode cX8_term 8 = .ok (.ireturn, 1) := by decide +kernel
theorem dX8_term_9 : decode cX8_term 9 = .ok (.aload_n 0, 1) := by decide +kernel
theorem dX8_term_10 : decode cX8_term 10 = .ok (.getfield 117, 3) := by decide +kernel
theorem dX8_term_13 : decode cX8_term 13 = .ok (.bipush 42, 2) := by decide +kernel
theorem dX8_term_15 : decode cX8_term 15 = .ok (.if_icmp .ne 26, 3) := by decide +kernel
theorem dX8_term_18 : decode cX8_term 18 = .ok (.aload_n 0, 1) := by decide +kernel
theorem dX8_term_19 : decode cX8_term 19 = .ok (.invokevirtual 176, 3) := by decide +kernel
theorem dX8_term_22 : decode cX8_term 22 = .ok (.aload_n 0, 1) := by decide +kernel
theorem dX8_term_23 : decode cX8_term 23 = .ok (.invokevirtual 188, 3) := by decide +kernel
theorem dX8_term_26 : decode cX8_term 26 = .ok (.ifCond .ne 5, 3) := by decide +kernel
theorem dX8_term_29 : decode cX8_term 29 = .ok (.iconst 0, 1) := by decide +kernel
theorem dX8_term_30 : decode cX8_term 30 = .ok (.ireturn, 1) := by decide +kernel
theorem dX8_term_31 : decode cX8_term 31 = .ok (.aload_n 0, 1) := by decide +kernel
theorem dX8_term_32 : decode cX8_term 32 = .ok (.bipush 8, 2) := by decide +kernel
theorem dX8_term_34 : decode cX8_term 34 = .ok (.invokevirtual 182, 3) := by decide +kernel
theorem dX8_term_37 : decode cX8_term 37 = .ok (.pop, 1) := by decide +kernel
theorem dX8_term_38 : decode cX8_term 38 = .ok (.goto (-29), 3) := by decide +kernel
theorem dX8_term_41 : decode cX8_term 41 = .ok (.iconst 1, 1) := by decide +kernel
theorem dX8_term_42 : decode cX8_term 42 = .ok (.ireturn, 1) := by decide +kernel
theorem dX8_sum_0 : decode cX8_sum 0 = .ok (.aload_n 0, 1) := by decide +kernel
theorem dX8_sum_1 : decode cX8_sum 1 = .ok (.invokevirtual 197, 3) := by decide +kernel
theorem dX8_sum_4 : decode cX8_sum 4 = .ok (.ifCond .ne 5, 3) := by decide +kernel
theorem dX8_sum_7 : decode cX8_sum 7 = .ok (.iconst 0, 1) := by decide +kernel
theorem dX8_sum_8 : decode cX8_sum 8 = .ok (.ireturn, 1) := by decide +kernel
theorem dX8_sum_9 : decode cX8_sum 9 = .ok (.aload_n 0, 1) := by decide +kernel
theorem dX8_sum_10 : decode cX8_sum 10 = .ok (.getfield 117, 3) := by decide +kernel
theorem dX8_sum_13 : decode cX8_sum 13 = .ok (.bipush 43, 2) := by decide +kernel
theorem dX8_sum_15 : decode cX8_sum 15 = .ok (.if_icmp .eq 12, 3) := by decide +kernel
theorem dX8_sum_18 : decode cX8_sum 18 = .ok (.aload_n 0, 1) := by decide +kernel
theorem dX8_sum_19 : decode cX8_sum 19 = .ok (.getfield 117, 3) := by decide +kernel
theorem dX8_sum_22 : decode cX8_sum 22 = .ok (.bipush 45, 2) := by decide +kernel
theorem dX8_sum_24 : decode cX8_sum 24 = .ok (.if_icmp .ne 42, 3) := by decide +kernel
theorem dX8_sum_27 : decode cX8_sum 27 = .ok (.aload_n 0, 1) := by decide +kernel
theorem dX8_sum_28 : decode cX8_sum 28 = .ok (.getfield 117, 3) := by decide +kernel
theorem dX8_sum_31 : decode cX8_sum 31 = .ok (.bipush 43, 2) := by decide +kernel
theorem dX8_sum_33 : decode cX8_sum 33 = .ok (.if_icmp .ne 8, 3) := by decide +kernel
theorem dX8_sum_36 : decode cX8_sum 36 = .ok (.bipush 6, 2) := by decide +kernel
theorem dX8_sum_38 : decode cX8_sum 38 = .ok (.goto 5, 3) := by decide +kernel
theorem dX8_sum_41 : decode cX8_sum 41 = .ok (.bipush 7, 2) := by decide +kernel
theorem dX8_sum_43 : decode cX8_sum 43 = .ok (.istore_n 1, 1) := by decide +kernel
theorem dX8_sum_44 : decode cX8_sum 44 = .ok (.aload_n 0, 1) := by decide +kernel
theorem dX8_sum_45 : decode cX8_sum 45 = .ok (.invokevirtual 176, 3) := by decide +kernel
theorem dX8_sum_48 : decode cX8_sum 48 = .ok (.aload_n 0, 1) := by decide +kernel
theorem dX8_sum_49 : decode cX8_sum 49 = .ok (.invokevirtual 197, 3) := by decide +kernel
theorem dX8_sum_52 : decode cX8_sum 52 = .ok (.ifCond .ne 5, 3) := by decide +kernel
theorem dX8_sum_55 : decode cX8_sum 55 = .ok (.iconst 0, 1) := by decide +kernel
theorem dX8_sum_56 : decode cX8_sum 56 = .ok (.ireturn, 1) := by decide +kernel
theorem dX8_sum_57 : decode cX8_sum 57 = .ok (.aload_n 0, 1) := by decide +kernel
theorem dX8_sum_58 : decode cX8_sum 58 = .ok (.iload_n 1, 1) := by decide +kernel
theorem dX8_sum_59 : decode cX8_sum 59 = .ok (.invokevirtual 182, 3) := by decide +kernel
theorem dX8_sum_62 : decode cX8_sum 62 = .ok (.pop, 1) := by decide +kernel
theorem dX8_sum_63 : decode cX8_sum 63 = .ok (.goto (-54), 3) := by decide +kernel
theorem dX8_sum_66 : decode cX8_sum 66 = .ok (.iconst 1, 1) := by decide +kernel
theorem dX8_sum_67 : decode cX8_sum 67 = .ok (.ireturn, 1) := by decide +kernel
theorem dX8_no_0 : decode cX8_no 0 = .ok (.aload_n 0, 1) := by decide +kernel
theorem dX8_no_1 : decode cX8_no 1 = .ok (.ldc 156, 2) := by decide +kernel
theorem dX8_no_3 : decode cX8_no 3 = .ok (.invokevirtual 136, 3) := by decide +kernel
theorem dX8_no_6 : decode cX8_no 6 = .ok (.ifCond .eq 64, 3) := by decide +kernel
theorem dX8_no_9 : decode cX8_no 9 = .ok (.aload_n 0, 1) := by decide +kernel
theorem dX8_no_10 : decode cX8_no 10 = .ok (.getfield 185, 3) := by decide +kernel
theorem dX8_no_13 : decode cX8_no 13 = .ok (.iconst 5, 1) := by decide +kernel
theorem dX8_no_14 : decode cX8_no 14 = .ok (.if_icmp .ne 8, 3) := by decide +kernel
theorem dX8_no_17 : decode cX8_no 17 = .ok (.aload_n 0, 1) := by decide +kernel
theorem dX8_no_18 : decode cX8_no 18 = .ok (.invokevirtual 172, 3) := by decide +kernel
theorem dX8_no_21 : decode cX8_no 21 = .ok (.ireturn, 1) := by decide +kernel
theorem dX8_no_22 : decode cX8_no 22 = .ok (.aload_n 0, 1) := by decide +kernel
theorem dX8_no_23 : decode cX8_no 23 = .ok (.dup, 1) := by decide +kernel
theorem dX8_no_24 : decode cX8_no 24 = .ok (.getfield 185, 3) := by decide +kernel
theorem dX8_no_27 : decode cX8_no 27 = .ok (.iconst 1, 1) := by decide +kernel
theorem dX8_no_28 : decode cX8_no 28 = .ok (.iadd, 1) := by decide +kernel
theorem dX8_no_29 : decode cX8_no 29 = .ok (.putfield 185, 3) := by decide +kernel
theorem dX8_no_32 : decode cX8_no 32 = .ok (.aload_n 0, 1) := by decide +kernel
theorem dX8_no_33 : decode cX8_no 33 = .ok (.invokevirtual 176, 3) := by decide +kernel
theorem dX8_no_36 : decode cX8_no 36 = .ok (.aload_n 0, 1) := by decide +kernel
theorem dX8_no_37 : decode cX8_no 37 = .ok (.invokevirtual 200, 3) := by decide +kernel
theorem dX8_no_40 : decode cX8_no 40 = .ok (.ifCond .eq 16, 3) := by decide +kernel
theorem dX8_no_43 : decode cX8_no 43 = .ok (.aload_n 0, 1) := by decide +kernel
theorem dX8_no_44 : decode cX8_no 44 = .ok (.bipush 13, 2) := by decide +kernel
theorem dX8_no_46 : decode cX8_no 46 = .ok (.invokevirtual 182, 3) := by decide +kernel
theorem dX8_no_49 : decode cX8_no 49 = .ok (.ifCond .eq 7, 3) := by decide +kernel
theorem dX8_no_52 : decode cX8_no 52 = .ok (.iconst 1, 1) := by decide +kernel
theorem dX8_no_53 : decode cX8_no 53 = .ok (.goto 4, 3) := by decide +kernel
theorem dX8_no_56 : decode cX8_no 56 = .ok (.iconst 0, 1) := by decide +kernel
theorem dX8_no_57 : decode cX8_no 57 = .ok (.istore_n 1, 1) := by decide +kernel
theorem dX8_no_58 : decode cX8_no 58 = .ok (.aload_n 0, 1) := by decide +kernel
theorem dX8_no_59 : decode cX8_no 59 = .ok (.dup, 1) := by decide +kernel
theorem dX8_no_60 : decode cX8_no 60 = .ok (.getfield 185, 3) := by decide +kernel
theorem dX8_no_63 : decode cX8_no 63 = .ok (.iconst 1, 1) := by decide +kernel
theorem dX8_no_64 : decode cX8_no 64 = .ok (.isub, 1) := by decide +kernel
theorem dX8_no_65 : decode cX8_no 65 = .ok (.putfield 185, 3) := by decide +kernel
theorem dX8_no_68 : decode cX8_no 68 = .ok (.iload_n 1, 1) := by decide +kernel
theorem dX8_no_69 : decode cX8_no 69 = .ok (.ireturn, 1) := by decide +kernel
theorem dX8_no_70 : decode cX8_no 70 = .ok (.aload_n 0, 1) := by decide +kernel
theorem dX8_no_71 : decode cX8_no 71 = .ok (.invokevirtual 203, 3) := by decide +kernel
theorem dX8_no_74 : decode cX8_no 74 = .ok (.ifCond .ne 5, 3) := by decide +kernel
theorem dX8_no_77 : decode cX8_no 77 = .ok (.iconst 0, 1) := by decide +kernel
theorem dX8_no_78 : decode cX8_no 78 = .ok (.ireturn, 1) := by decide +kernel
theorem dX8_no_79 : decode cX8_no 79 = .ok (.aload_n 0, 1) := by decide +kernel
theorem dX8_no_80 : decode cX8_no 80 = .ok (.getfield 117, 3) := by decide +kernel
theorem dX8_no_83 : decode cX8_no 83 = .ok (.bipush 60, 2) := by decide +kernel
theorem dX8_no_85 : decode cX8_no 85 = .ok (.if_icmp .eq 14, 3) := by decide +kernel
theorem dX8_no_88 : decode cX8_no 88 = .ok (.aload_n 0, 1) := by decide +kernel
theorem dX8_no_89 : decode cX8_no 89 = .ok (.getfield 117, 3) := by decide +kernel
theorem dX8_no_92 : decode cX8_no 92 = .ok (.bipush 61, 2) := by decide +kernel
theorem dX8_no_94 : decode cX8_no 94 = .ok (.if_icmp .eq 5, 3) := by decide +kernel
theorem dX8_no_97 : decode cX8_no 97 = .ok (.iconst 1, 1) := by decide +kernel
theorem dX8_no_98 : decode cX8_no 98 = .ok (.ireturn, 1) := by decide +kernel
theorem dX8_no_99 : decode cX8_no 99 = .ok (.aload_n 0, 1) := by decide +kernel
theorem dX8_no_100 : decode cX8_no 100 = .ok (.getfield 117, 3) := by decide +kernel
theorem dX8_no_103 : decode cX8_no 103 = .ok (.bipush 60, 2) := by decide +kernel
theorem dX8_no_105 : decode cX8_no 105 = .ok (.if_icmp .ne 8, 3) := by decide +kernel
theorem dX8_no_108 : decode cX8_no 108 = .ok (.bipush 9, 2) := by decide +kernel
theorem dX8_no_110 : decode cX8_no 110 = .ok (.goto 5, 3) := by decide +kernel
theorem dX8_no_113 : decode cX8_no 113 = .ok (.bipush 10, 2) := by decide +kernel
theorem dX8_no_115 : decode cX8_no 115 = .ok (.istore_n 1, 1) := by decide +kernel
theorem dX8_no_116 : decode cX8_no 116 = .ok (.aload_n 0, 1) := by decide +kernel
theorem dX8_no_117 : decode cX8_no 117 = .ok (.invokevirtual 176, 3) := by decide +kernel
theorem dX8_no_120 : decode cX8_no 120 = .ok (.aload_n 0, 1) := by decide +kernel
theorem dX8_no_121 : decode cX8_no 121 = .ok (.invokevirtual 203, 3) := by decide +kernel
theorem dX8_no_124 : decode cX8_no 124 = .ok (.ifCond .eq 15, 3) := by decide +kernel
theorem dX8_no_127 : decode cX8_no 127 = .ok (.aload_n 0, 1) := by decide +kernel
theorem dX8_no_128 : decode cX8_no 128 = .ok (.iload_n 1, 1) := by decide +kernel
theorem dX8_no_129 : decode cX8_no 129 = .ok (.invokevirtual 182, 3) := by decide +kernel
theorem dX8_no_132 : decode cX8_no 132 = .ok (.ifCond .eq 7, 3) := by decide +kernel
theorem dX8_no_135 : decode cX8_no 135 = .ok (.iconst 1, 1) := by decide +kernel
theorem dX8_no_136 : decode cX8_no 136 = .ok (.goto 4, 3) := by decide +kernel
theorem dX8_no_139 : decode cX8_no 139 = .ok (.iconst 0, 1) := by decide +kernel
theorem dX8_no_140 : decode cX8_no 140 = .ok (.ireturn, 1) := by decide +kernel
theorem dX8_all_0 : decode cX8_all 0 = .ok (.aload_n 0, 1) := by decide +kernel
theorem dX8_all_1 : decode cX8_all 1 = .ok (.invokevirtual 200, 3) := by decide +kernel
theorem dX8_all_4 : decode cX8_all 4 = .ok (.ifCond .ne 5, 3) := by decide +kernel
theorem dX8_all_7 : decode cX8_all 7 = .ok (.iconst 0, 1) := by decide +kernel
theorem dX8_all_8 : decode cX8_all 8 = .ok (.ireturn, 1) := by decide +kernel
theorem dX8_all_9 : decode cX8_all 9 = .ok (.aload_n 0, 1) := by decide +kernel
theorem dX8_all_10 : decode cX8_all 10 = .ok (.ldc 154, 2) := by decide +kernel
theorem dX8_all_12 : decode cX8_all 12 = .ok (.invokevirtual 136, 3) := by decide +kernel
theorem dX8_all_15 : decode cX8_all 15 = .ok (.ifCond .eq 26, 3) := by decide +kernel
theorem dX8_all_18 : decode cX8_all 18 = .ok (.aload_n 0, 1) := by decide +kernel
theorem dX8_all_19 : decode cX8_all 19 = .ok (.invokevirtual 176, 3) := by decide +kernel
theorem dX8_all_22 : decode cX8_all 22 = .ok (.aload_n 0, 1) := by decide +kernel
theorem dX8_all_23 : decode cX8_all 23 = .ok (.invokevirtual 200, 3) := by decide +kernel
theorem dX8_all_26 : decode cX8_all 26 = .ok (.ifCond .ne 5, 3) := by decide +kernel
theorem dX8_all_29 : decode cX8_all 29 = .ok (.iconst 0, 1) := by decide +kernel
theorem dX8_all_30 : decode cX8_all 30 = .ok (.ireturn, 1) := by decide +kernel
theorem dX8_all_31 : decode cX8_all 31 = .ok (.aload_n 0, 1) := by decide +kernel
theorem dX8_all_32 : decode cX8_all 32 = .ok (.bipush 11, 2) := by decide +kernel
theorem dX8_all_34 : decode cX8_all 34 = .ok (.invokevirtual 182, 3) := by decide +kernel
theorem dX8_all_37 : decode cX8_all 37 = .ok (.pop, 1) := by decide +kernel
theorem dX8_all_38 : decode cX8_all 38 = .ok (.goto (-29), 3) := by decide +kernel
theorem dX8_all_41 : decode cX8_all 41 = .ok (.iconst 1, 1) := by decide +kernel
theorem dX8_all_42 : decode cX8_all 42 = .ok (.ireturn, 1) := by decide +kernel
theorem dX8_any_0 : decode cX8_any 0 = .ok (.aload_n 0, 1) := by decide +kernel
theorem dX8_any_1 : decode cX8_any 1 = .ok (.invokevirtual 206, 3) := by decide +kernel
theorem dX8_any_4 : decode cX8_any 4 = .ok (.ifCond .ne 5, 3) := by decide +kernel
theorem dX8_any_7 : decode cX8_any 7 = .ok (.iconst 0, 1) := by decide +kernel
theorem dX8_any_8 : decode cX8_any 8 = .ok (.ireturn, 1) := by decide +kernel
theorem dX8_any_9 : decode cX8_any 9 = .ok (.aload_n 0, 1) := by decide +kernel
theorem dX8_any_10 : decode cX8_any 10 = .ok (.ldc 152, 2) := by decide +kernel
theorem dX8_any_12 : decode cX8_any 12 = .ok (.invokevirtual 136, 3) := by decide +kernel
theorem dX8_any_15 : decode cX8_any 15 = .ok (.ifCond .eq 26, 3) := by decide +kernel
theorem dX8_any_18 : decode cX8_any 18 = .ok (.aload_n 0, 1) := by decide +kernel
theorem dX8_any_19 : decode cX8_any 19 = .ok (.invokevirtual 176, 3) := by decide +kernel
theorem dX8_any_22 : decode cX8_any 22 = .ok (.aload_n 0, 1) := by decide +kernel
theorem dX8_any_23 : decode cX8_any 23 = .ok (.invokevirtual 206, 3) := by decide +kernel
theorem dX8_any_26 : decode cX8_any 26 = .ok (.ifCond .ne 5, 3) := by decide +kernel
theorem dX8_any_29 : decode cX8_any 29 = .ok (.iconst 0, 1) := by decide +kernel
theorem dX8_any_30 : decode cX8_any 30 = .ok (.ireturn, 1) := by decide +kernel
theorem dX8_any_31 : decode cX8_any 31 = .ok (.aload_n 0, 1) := by decide +kernel
theorem dX8_any_32 : decode cX8_any 32 = .ok (.bipush 12, 2) := by decide +kernel
theorem dX8_any_34 : decode cX8_any 34 = .ok (.invokevirtual 182, 3) := by decide +kernel
theorem dX8_any_37 : decode cX8_any 37 = .ok (.pop, 1) := by decide +kernel
theorem dX8_any_38 : decode cX8_any 38 = .ok (.goto (-29), 3) := by decide +kernel
theorem dX8_any_41 : decode cX8_any 41 = .ok (.iconst 1, 1) := by decide +kernel
theorem dX8_any_42 : decode cX8_any 42 = .ok (.ireturn, 1) := by decide +kernel
theorem dX8_part_0 : decode cX8_part 0 = .ok (.aload_n 0, 1) := by decide +kernel
theorem dX8_part_1 : decode cX8_part 1 = .ok (.aload_n 2, 1) := by decide +kernel
theorem dX8_part_2 : decode cX8_part 2 = .ok (.invokevirtual 209, 3) := by decide +kernel
theorem dX8_part_5 : decode cX8_part 5 = .ok (.ifCond .ne 5, 3) := by decide +kernel
theorem dX8_part_8 : decode cX8_part 8 = .ok (.iconst 0, 1) := by decide +kernel
theorem dX8_part_9 : decode cX8_part 9 = .ok (.ireturn, 1) := by decide +kernel
theorem dX8_part_10 : decode cX8_part 10 = .ok (.aload_n 0, 1) := by decide +kernel
theorem dX8_part_11 : decode cX8_part 11 = .ok (.getfield 28, 3) := by decide +kernel
theorem dX8_part_14 : decode cX8_part 14 = .ok (.iload_n 1, 1) := by decide +kernel
theorem dX8_part_15 : decode cX8_part 15 = .ok (.aload_n 0, 1) := by decide +kernel
theorem dX8_part_16 : decode cX8_part 16 = .ok (.getfield 179, 3) := by decide +kernel
theorem dX8_part_19 : decode cX8_part 19 = .ok (.iastore, 1) := by decide +kernel
theorem dX8_part_20 : decode cX8_part 20 = .ok (.aload_n 0, 1) := by decide +kernel
theorem dX8_part_21 : decode cX8_part 21 = .ok (.iconst 0, 1) := by decide +kernel
theorem dX8_part_22 : decode cX8_part 22 = .ok (.putfield 185, 3) := by decide +kernel
theorem dX8_part_25 : decode cX8_part 25 = .ok (.aload_n 0, 1) := by decide +kernel
theorem dX8_part_26 : decode cX8_part 26 = .ok (.invokevirtual 191, 3) := by decide +kernel
theorem dX8_part_29 : decode cX8_part 29 = .ok (.ifCond .ne 5, 3) := by decide +kernel
theorem dX8_part_32 : decode cX8_part 32 = .ok (.iconst 0, 1) := by decide +kernel
theorem dX8_part_33 : decode cX8_part 33 = .ok (.ireturn, 1) := by decide +kernel
theorem dX8_part_34 : decode cX8_part 34 = .ok (.aload_n 0, 1) := by decide +kernel
theorem dX8_part_35 : decode cX8_part 35 = .ok (.getfield 31, 3) := by decide +kernel
theorem dX8_part_38 : decode cX8_part 38 = .ok (.iload_n 1, 1) := by decide +kernel
theorem dX8_part_39 : decode cX8_part 39 = .ok (.aload_n 0, 1) := by decide +kernel
theorem dX8_part_40 : decode cX8_part 40 = .ok (.getfield 179, 3) := by decide +kernel
theorem dX8_part_43 : decode cX8_part 43 = .ok (.aload_n 0, 1) := by decide +kernel
theorem dX8_part_44 : decode cX8_part 44 = .ok (.getfield 28, 3) := by decide +kernel
theorem dX8_part_47 : decode cX8_part 47 = .ok (.iload_n 1, 1) := by decide +kernel
theorem dX8_part_48 : decode cX8_part 48 = .ok (.iaload, 1) := by decide +kernel
theorem dX8_part_49 : decode cX8_part 49 = .ok (.isub, 1) := by decide +kernel
theorem dX8_part_50 : decode cX8_part 50 = .ok (.iastore, 1) := by decide +kernel
theorem dX8_part_51 : decode cX8_part 51 = .ok (.aload_n 0, 1) := by decide +kernel
theorem dX8_part_52 : decode cX8_part 52 = .ok (.bipush 59, 2) := by decide +kernel
theorem dX8_part_54 : decode cX8_part 54 = .ok (.invokevirtual 194, 3) := by decide +kernel
theorem dX8_part_57 : decode cX8_part 57 = .ok (.ireturn, 1) := by decide +kernel
theorem dX8_text_0 : decode cX8_text 0 = .ok (.aload_n 0, 1) := by decide +kernel
theorem dX8_text_1 : decode cX8_text 1 = .ok (.getfield 211, 3) := by decide +kernel
theorem dX8_text_4 : decode cX8_text 4 = .ok (.bipush 6, 2) := by decide +kernel
theorem dX8_text_6 : decode cX8_text 6 = .ok (.if_icmp .ne 6, 3) := by decide +kernel
theorem dX8_text_9 : decode cX8_text 9 = .ok (.bipush (-4), 2) := by decide +kernel
theorem dX8_text_11 : decode cX8_text 11 = .ok (.ireturn, 1) := by decide +kernel
theorem dX8_text_12 : decode cX8_text 12 = .ok (.aload_n 0, 1) := by decide +kernel
theorem dX8_text_13 : decode cX8_text 13 = .ok (.getfield 179, 3) := by decide +kernel
theorem dX8_text_16 : decode cX8_text 16 = .ok (.istore_n 1, 1) := by decide +kernel
theorem dX8_text_17 : decode cX8_text 17 = .ok (.aload_n 0, 1) := by decide +kernel
theorem dX8_text_18 : decode cX8_text 18 = .ok (.iconst 0, 1) := by decide +kernel
theorem dX8_text_19 : decode cX8_text 19 = .ok (.putfield 120, 3) := by decide +kernel
theorem dX8_text_22 : decode cX8_text 22 = .ok (.aload_n 0, 1) := by decide +kernel
theorem dX8_text_23 : decode cX8_text 23 = .ok (.invokevirtual 176, 3) := by decide +kernel
theorem dX8_text_26 : decode cX8_text 26 = .ok (.aload_n 0, 1) := by decide +kernel
theorem dX8_text_27 : decode cX8_text 27 = .ok (.iconst 3, 1) := by decide +kernel
theorem dX8_text_28 : decode cX8_text 28 = .ok (.aload_n 0, 1) := by decide +kernel
theorem dX8_text_29 : decode cX8_text 29 = .ok (.getfield 211, 3) := by decide +kernel
theorem dX8_text_32 : decode cX8_text 32 = .ok (.imul, 1) := by decide +kernel
theorem dX8_text_33 : decode cX8_text 33 = .ok (.ldc 146, 2) := by decide +kernel
theorem dX8_text_35 : decode cX8_text 35 = .ok (.invokevirtual 214, 3) := by decide +kernel
theorem dX8_text_38 : decode cX8_text 38 = .ok (.ifCond .eq 41, 3) := by decide +kernel
theorem dX8_text_41 : decode cX8_text 41 = .ok (.aload_n 0, 1) := by decide +kernel
theorem dX8_text_42 : decode cX8_text 42 = .ok (.iconst 3, 1) := by decide +kernel
theorem dX8_text_43 : decode cX8_text 43 = .ok (.aload_n 0, 1) := by decide +kernel
theorem dX8_text_44 : decode cX8_text 44 = .ok (.getfield 211, 3) := by decide +kernel
theorem dX8_text_47 : decode cX8_text 47 = .ok (.imul, 1) := by decide +kernel
theorem dX8_text_48 : decode cX8_text 48 = .ok (.iconst 1, 1) := by decide +kernel
theorem dX8_text_49 : decode cX8_text 49 = .ok (.iadd, 1) := by decide +kernel
theorem dX8_text_50 : decode cX8_text 50 = .ok (.ldc 148, 2) := by decide +kernel
theorem dX8_text_52 : decode cX8_text 52 = .ok (.invokevirtual 214, 3) := by decide +kernel
theorem dX8_text_55 : decode cX8_text 55 = .ok (.ifCond .eq 24, 3) := by decide +kernel
theorem dX8_text_58 : decode cX8_text 58 = .ok (.aload_n 0, 1) := by decide +kernel
theorem dX8_text_59 : decode cX8_text 59 = .ok (.iconst 3, 1) := by decide +kernel
theorem dX8_text_60 : decode cX8_text 60 = .ok (.aload_n 0, 1) := by decide +kernel
theorem dX8_text_61 : decode cX8_text 61 = .ok (.getfield 211, 3) := by decide +kernel
theorem dX8_text_64 : decode cX8_text 64 = .ok (.imul, 1) := by decide +kernel
theorem dX8_text_65 : decode cX8_text 65 = .ok (.iconst 2, 1) := by decide +kernel
theorem dX8_text_66 : decode cX8_text 66 = .ok (.iadd, 1) := by decide +kernel
theorem dX8_text_67 : decode cX8_text 67 = .ok (.ldc 150, 2) := by decide +kernel
theorem dX8_text_69 : decode cX8_text 69 = .ok (.invokevirtual 214, 3) := by decide +kernel
theorem dX8_text_72 : decode cX8_text 72 = .ok (.ifCond .eq 7, 3) := by decide +kernel
theorem dX8_text_75 : decode cX8_text 75 = .ok (.iconst 1, 1) := by decide +kernel
theorem dX8_text_76 : decode cX8_text 76 = .ok (.goto 4, 3) := by decide +kernel
theorem dX8_text_79 : decode cX8_text 79 = .ok (.iconst 0, 1) := by decide +kernel
theorem dX8_text_80 : decode cX8_text 80 = .ok (.istore_n 2, 1) := by decide +kernel
theorem dX8_text_81 : decode cX8_text 81 = .ok (.iload_n 2, 1) := by decide +kernel
theorem dX8_text_82 : decode cX8_text 82 = .ok (.ifCond .eq 17, 3) := by decide +kernel
theorem dX8_text_85 : decode cX8_text 85 = .ok (.aload_n 0, 1) := by decide +kernel
theorem dX8_text_86 : decode cX8_text 86 = .ok (.getfield 117, 3) := by decide +kernel
theorem dX8_text_89 : decode cX8_text 89 = .ok (.bipush 101, 2) := by decide +kernel
theorem dX8_text_91 : decode cX8_text 91 = .ok (.if_icmp .eq 8, 3) := by decide +kernel
theorem dX8_text_94 : decode cX8_text 94 = .ok (.aload_n 0, 1) := by decide +kernel
theorem dX8_text_95 : decode cX8_text 95 = .ok (.invokevirtual 172, 3) := by decide +kernel
theorem dX8_text_98 : decode cX8_text 98 = .ok (.istore_n 2, 1) := by decide +kernel
theorem dX8_text_99 : decode cX8_text 99 = .ok (.aload_n 0, 1) := by decide +kernel
theorem dX8_text_100 : decode cX8_text 100 = .ok (.iconst 0, 1) := by decide +kernel
theorem dX8_text_101 : decode cX8_text 101 = .ok (.putfield 72, 3) := by decide +kernel
theorem dX8_text_104 : decode cX8_text 104 = .ok (.iload_n 2, 1) := by decide +kernel
theorem dX8_text_105 : decode cX8_text 105 = .ok (.ifCond .eq 15, 3) := by decide +kernel
theorem dX8_text_108 : decode cX8_text 108 = .ok (.aload_n 0, 1) := by decide +kernel
theorem dX8_text_109 : decode cX8_text 109 = .ok (.dup, 1) := by decide +kernel
theorem dX8_text_110 : decode cX8_text 110 = .ok (.getfield 211, 3) := by decide +kernel
theorem dX8_text_113 : decode cX8_text 113 = .ok (.dup_x1, 1) := by decide +kernel
theorem dX8_text_114 : decode cX8_text 114 = .ok (.iconst 1, 1) := by decide +kernel
theorem dX8_text_115 : decode cX8_text 115 = .ok (.iadd, 1) := by decide +kernel
theorem dX8_text_116 : decode cX8_text 116 = .ok (.putfield 211, 3) := by decide +kernel
theorem dX8_text_119 : decode cX8_text 119 = .ok (.ireturn, 1) := by decide +kernel
theorem dX8_text_120 : decode cX8_text 120 = .ok (.aload_n 0, 1) := by decide +kernel
theorem dX8_text_121 : decode cX8_text 121 = .ok (.iload_n 1, 1) := by decide +kernel
theorem dX8_text_122 : decode cX8_text 122 = .ok (.putfield 179, 3) := by decide +kernel
theorem dX8_text_125 : decode cX8_text 125 = .ok (.bipush (-100), 2) := by decide +kernel
theorem dX8_text_127 : decode cX8_text 127 = .ok (.aload_n 0, 1) := by decide +kernel
theorem dX8_text_128 : decode cX8_text 128 = .ok (.getfield 169, 3) := by decide +kernel
theorem dX8_text_131 : decode cX8_text 131 = .ok (.isub, 1) := by decide +kernel
theorem dX8_text_132 : decode cX8_text 132 = .ok (.ireturn, 1) := by decide +kernel
theorem dX8_force_0 : decode cX8_force 0 = .ok (.iload_n 1, 1) := by decide +kernel
theorem dX8_force_1 : decode cX8_force 1 = .ok (.iconst 0, 1) := by decide +kernel
theorem dX8_force_2 : decode cX8_force 2 = .ok (.aload_n 0, 1) := by decide +kernel
theorem dX8_force_3 : decode cX8_force 3 = .ok (.getfield 211, 3) := by decide +kernel
theorem dX8_force_6 : decode cX8_force 6 = .ok (.iconst 1, 1) := by decide +kernel
theorem dX8_force_7 : decode cX8_force 7 = .ok (.isub, 1) := by decide +kernel
theorem dX8_force_8 : decode cX8_force 8 = .ok (.invokestatic 82, 3) := by decide +kernel
theorem dX8_force_11 : decode cX8_force 11 = .ok (.ifCond .ne 6, 3) := by decide +kernel
theorem dX8_force_14 : decode cX8_force 14 = .ok (.bipush (-2), 2) := by decide +kernel
theorem dX8_force_16 : decode cX8_force 16 = .ok (.ireturn, 1) := by decide +kernel
theorem dX8_force_17 : decode cX8_force 17 = .ok (.aload_n 0, 1) := by decide +kernel
theorem dX8_force_18 : decode cX8_force 18 = .ok (.getfield 218, 3) := by decide +kernel
theorem dX8_force_21 : decode cX8_force 21 = .ok (.istore_n 2, 1) := by decide +kernel
theorem dX8_force_22 : decode cX8_force 22 = .ok (.aload_n 0, 1) := by decide +kernel
theorem dX8_force_23 : decode cX8_force 23 = .ok (.iload_n 1, 1) := by decide +kernel
theorem dX8_force_24 : decode cX8_force 24 = .ok (.putfield 218, 3) := by decide +kernel
theorem dX8_force_27 : decode cX8_force 27 = .ok (.iload_n 2, 1) := by decide +kernel
theorem dX8_force_28 : decode cX8_force 28 = .ok (.ireturn, 1) := by decide +kernel
theorem dX8_says_0 : decode cX8_says 0 = .ok (.iconst 0, 1) := by decide +kernel
theorem dX8_says_1 : decode cX8_says 1 = .ok (.istore 4, 2) := by decide +kernel
theorem dX8_says_3 : decode cX8_says 3 = .ok (.aload_n 0, 1) := by decide +kernel
theorem dX8_says_4 : decode cX8_says 4 = .ok (.getfield 28, 3) := by decide +kernel
theorem dX8_says_7 : decode cX8_says 7 = .ok (.iconst 3, 1) := by decide +kernel
theorem dX8_says_8 : decode cX8_says 8 = .ok (.aload_n 0, 1) := by decide +kernel
theorem dX8_says_9 : decode cX8_says 9 = .ok (.getfield 218, 3) := by decide +kernel
theorem dX8_says_12 : decode cX8_says 12 = .ok (.imul, 1) := by decide +kernel
theorem dX8_says_13 : decode cX8_says 13 = .ok (.iload_n 1, 1) := by decide +kernel
theorem dX8_says_14 : decode cX8_says 14 = .ok (.iadd, 1) := by decide +kernel
theorem dX8_says_15 : decode cX8_says 15 = .ok (.iaload, 1) := by decide +kernel
theorem dX8_says_16 : decode cX8_says 16 = .ok (.istore 5, 2) := by decide +kernel
theorem dX8_says_18 : decode cX8_says 18 = .ok (.iload 5, 2) := by decide +kernel
theorem dX8_says_20 : decode cX8_says 20 = .ok (.istore 6, 2) := by decide +kernel
theorem dX8_says_22 : decode cX8_says 22 = .ok (.iload 6, 2) := by decide +kernel
theorem dX8_says_24 : decode cX8_says 24 = .ok (.iload 5, 2) := by decide +kernel
theorem dX8_says_26 : decode cX8_says 26 = .ok (.aload_n 0, 1) := by decide +kernel
theorem dX8_says_27 : decode cX8_says 27 = .ok (.getfield 31, 3) := by decide +kernel
theorem dX8_says_30 : decode cX8_says 30 = .ok (.iconst 3, 1) := by decide +kernel
theorem dX8_says_31 : decode cX8_says 31 = .ok (.aload_n 0, 1) := by decide +kernel
theorem dX8_says_32 : decode cX8_says 32 = .ok (.getfield 218, 3) := by decide +kernel
theorem dX8_says_35 : decode cX8_says 35 = .ok (.imul, 1) := by decide +kernel
theorem dX8_says_36 : decode cX8_says 36 = .ok (.iload_n 1, 1) := by decide +kernel
theorem dX8_says_37 : decode cX8_says 37 = .ok (.iadd, 1) := by decide +kernel
theorem dX8_says_38 : decode cX8_says 38 = .ok (.iaload, 1) := by decide +kernel
theorem dX8_says_39 : decode cX8_says 39 = .ok (.iadd, 1) := by decide +kernel
theorem dX8_says_40 : decode cX8_says 40 = .ok (.if_icmp .ge 230, 3) := by decide +kernel
theorem dX8_says_43 : decode cX8_says 43 = .ok (.aload_n 0, 1) := by decide +kernel
theorem dX8_says_44 : decode cX8_says 44 = .ok (.getfield 34, 3) := by decide +kernel
theorem dX8_says_47 : decode cX8_says 47 = .ok (.iload 6, 2) := by decide +kernel
theorem dX8_says_49 : decode cX8_says 49 = .ok (.iaload, 1) := by decide +kernel
theorem dX8_says_50 : decode cX8_says 50 = .ok (.istore 7, 2) := by decide +kernel
theorem dX8_says_52 : decode cX8_says 52 = .ok (.iload 7, 2) := by decide +kernel
theorem dX8_says_54 : decode cX8_says 54 = .ok (.bipush 15, 2) := by decide +kernel
theorem dX8_says_56 : decode cX8_says 56 = .ok (.if_icmp .ge 9, 3) := by decide +kernel
theorem dX8_says_59 : decode cX8_says 59 = .ok (.iload 7, 2) := by decide +kernel
theorem dX8_says_61 : decode cX8_says 61 = .ok (.iconst 5, 1) := by decide +kernel
theorem dX8_says_62 : decode cX8_says 62 = .ok (.if_icmp .gt 106, 3) := by decide +kernel
theorem dX8_says_65 : decode cX8_says 65 = .ok (.aload_n 0, 1) := by decide +kernel
theorem dX8_says_66 : decode cX8_says 66 = .ok (.getfield 37, 3) := by decide +kernel
theorem dX8_says_69 : decode cX8_says 69 = .ok (.iload 4, 2) := by decide +kernel
theorem dX8_says_71 : decode cX8_says 71 = .ok (.iinc 4 1, 3) := by decide +kernel
theorem dX8_says_74 : decode cX8_says 74 = .ok (.iload 7, 2) := by decide +kernel
theorem dX8_says_76 : decode cX8_says 76 = .ok (.bipush 15, 2) := by decide +kernel
theorem dX8_says_78 : decode cX8_says 78 = .ok (.if_icmp .lt 11, 3) := by decide +kernel
theorem dX8_says_81 : decode cX8_says 81 = .ok (.iload 7, 2) := by decide +kernel
theorem dX8_says_83 : decode cX8_says 83 = .ok (.bipush 15, 2) := by decide +kernel
theorem dX8_says_85 : decode cX8_says 85 = .ok (.isub, 1) := by decide +kernel
theorem dX8_says_86 : decode cX8_says 86 = .ok (.goto 78, 3) := by decide +kernel
theorem dX8_says_89 : decode cX8_says 89 = .ok (.iload 7, 2) := by decide +kernel
theorem dX8_says_91 : decode cX8_says 91 = .ok (.ifCond .ne 10, 3) := by decide +kernel
theorem dX8_says_94 : decode cX8_says 94 = .ok (.aload_n 0, 1) := by decide +kernel
theorem dX8_says_95 : decode cX8_says 95 = .ok (.getfield 89, 3) := by decide +kernel
theorem dX8_says_98 : decode cX8_says 98 = .ok (.goto 66, 3) := by decide +kernel
theorem dX8_says_101 : decode cX8_says 101 = .ok (.iload 7, 2) := by decide +kernel
theorem dX8_says_103 : decode cX8_says 103 = .ok (.iconst 1, 1) := by decide +kernel
theorem dX8_says_104 : decode cX8_says 104 = .ok (.if_icmp .ne 10, 3) := by decide +kernel
theorem dX8_says_107 : decode cX8_says 107 = .ok (.aload_n 0, 1) := by decide +kernel
theorem dX8_says_108 : decode cX8_says 108 = .ok (.getfield 86, 3) := by decide +kernel
theorem dX8_says_111 : decode cX8_says 111 = .ok (.goto 53, 3) := by decide +kernel
theorem dX8_says_114 : decode cX8_says 114 = .ok (.iload 7, 2) := by decide +kernel
theorem dX8_says_116 : decode cX8_says 116 = .ok (.iconst 2, 1) := by decide +kernel
theorem dX8_says_117 : decode cX8_says 117 = .ok (.if_icmp .ne 12, 3) := by decide +kernel
theorem dX8_says_120 : decode cX8_says 120 = .ok (.aload_n 0, 1) := by decide +kernel
theorem dX8_says_121 : decode cX8_says 121 = .ok (.getfield 16, 3) := by decide +kernel
theorem dX8_says_124 : decode cX8_says 124 = .ok (.iload_n 2, 1) := by decide +kernel
theorem dX8_says_125 : decode cX8_says 125 = .ok (.iaload, 1) := by decide +kernel
theorem dX8_says_126 : decode cX8_says 126 = .ok (.goto 38, 3) := by decide +kernel
theorem dX8_says_129 : decode cX8_says 129 = .ok (.iload 7, 2) := by decide +kernel
theorem dX8_says_131 : decode cX8_says 131 = .ok (.iconst 3, 1) := by decide +kernel
theorem dX8_says_132 : decode cX8_says 132 = .ok (.if_icmp .ne 12, 3) := by decide +kernel
theorem dX8_says_135 : decode cX8_says 135 = .ok (.aload_n 0, 1) := by decide +kernel
theorem dX8_says_136 : decode cX8_says 136 = .ok (.getfield 13, 3) := by decide +kernel
theorem dX8_says_139 : decode cX8_says 139 = .ok (.iload_n 2, 1) := by decide +kernel
theorem dX8_says_140 : decode cX8_says 140 = .ok (.iaload, 1) := by decide +kernel
theorem dX8_says_141 : decode cX8_says 141 = .ok (.goto 23, 3) := by decide +kernel
theorem dX8_says_144 : decode cX8_says 144 = .ok (.iload 7, 2) := by decide +kernel
theorem dX8_says_146 : decode cX8_says 146 = .ok (.iconst 4, 1) := by decide +kernel
theorem dX8_says_147 : decode cX8_says 147 = .ok (.if_icmp .ne 12, 3) := by decide +kernel
theorem dX8_says_150 : decode cX8_says 150 = .ok (.aload_n 0, 1) := by decide +kernel
theorem dX8_says_151 : decode cX8_says 151 = .ok (.getfield 22, 3) := by decide +kernel
theorem dX8_says_154 : decode cX8_says 154 = .ok (.iload_n 2, 1) := by decide +kernel
theorem dX8_says_155 : decode cX8_says 155 = .ok (.iaload, 1) := by decide +kernel
theorem dX8_says_156 : decode cX8_says 156 = .ok (.goto 8, 3) := by decide +kernel
theorem dX8_says_159 : decode cX8_says 159 = .ok (.aload_n 0, 1) := by decide +kernel
theorem dX8_says_160 : decode cX8_says 160 = .ok (.iload_n 2, 1) := by decide +kernel
theorem dX8_says_161 : decode cX8_says 161 = .ok (.invokevirtual 99, 3) := by decide +kernel
theorem dX8_says_164 : decode cX8_says 164 = .ok (.iastore, 1) := by decide +kernel
theorem dX8_says_165 : decode cX8_says 165 = .ok (.goto 99, 3) := by decide +kernel
theorem dX8_says_168 : decode cX8_says 168 = .ok (.iload 7, 2) := by decide +kernel
theorem dX8_says_170 : decode cX8_says 170 = .ok (.bipush 13, 2) := by decide +kernel
theorem dX8_says_172 : decode cX8_says 172 = .ok (.if_icmp .eq 10, 3) := by decide +kernel
theorem dX8_says_175 : decode cX8_says 175 = .ok (.iload 7, 2) := by decide +kernel
theorem dX8_says_177 : decode cX8_says 177 = .ok (.bipush 14, 2) := by decide +kernel
theorem dX8_says_179 : decode cX8_says 179 = .ok (.if_icmp .ne 52, 3) := by decide +kernel
theorem dX8_says_182 : decode cX8_says 182 = .ok (.aload_n 0, 1) := by decide +kernel
theorem dX8_says_183 : decode cX8_says 183 = .ok (.getfield 37, 3) := by decide +kernel
theorem dX8_says_186 : decode cX8_says 186 = .ok (.iload 4, 2) := by decide +kernel
theorem dX8_says_188 : decode cX8_says 188 = .ok (.iconst 1, 1) := by decide +kernel
theorem dX8_says_189 : decode cX8_says 189 = .ok (.isub, 1) := by decide +kernel
theorem dX8_says_190 : decode cX8_says 190 = .ok (.iload 7, 2) := by decide +kernel
theorem dX8_says_192 : decode cX8_says 192 = .ok (.bipush 14, 2) := by decide +kernel
theorem dX8_says_194 : decode cX8_says 194 = .ok (.if_icmp .ne 16, 3) := by decide +kernel
theorem dX8_says_197 : decode cX8_says 197 = .ok (.aload_n 0, 1) := by decide +kernel
theorem dX8_says_198 : decode cX8_says 198 = .ok (.getfield 37, 3) := by decide +kernel
theorem dX8_says_201 : decode cX8_says 201 = .ok (.iload 4, 2) := by decide +kernel
theorem dX8_says_203 : decode cX8_says 203 = .ok (.iconst 1, 1) := by decide +kernel
theorem dX8_says_204 : decode cX8_says 204 = .ok (.isub, 1) := by decide +kernel
theorem dX8_says_205 : decode cX8_says 205 = .ok (.iaload, 1) := by decide +kernel
theorem dX8_says_206 : decode cX8_says 206 = .ok (.ineg, 1) := by decide +kernel
theorem dX8_says_207 : decode cX8_says 207 = .ok (.goto 20, 3) := by decide +kernel
theorem dX8_says_210 : decode cX8_says 210 = .ok (.aload_n 0, 1) := by decide +kernel
theorem dX8_says_211 : decode cX8_says 211 = .ok (.getfield 37, 3) := by decide +kernel
theorem dX8_says_214 : decode cX8_says 214 = .ok (.iload 4, 2) := by decide +kernel
theorem dX8_says_216 : decode cX8_says 216 = .ok (.iconst 1, 1) := by decide +kernel
theorem dX8_says_217 : decode cX8_says 217 = .ok (.isub, 1) := by decide +kernel
theorem dX8_says_218 : decode cX8_says 218 = .ok (.iaload, 1) := by decide +kernel
theorem dX8_says_219 : decode cX8_says 219 = .ok (.ifCond .ne 7, 3) := by decide +kernel
theorem dX8_says_222 : decode cX8_says 222 = .ok (.iconst 1, 1) := by decide +kernel
theorem dX8_says_223 : decode cX8_says 223 = .ok (.goto 4, 3) := by decide +kernel
theorem dX8_says_226 : decode cX8_says 226 = .ok (.iconst 0, 1) := by decide +kernel
theorem dX8_says_227 : decode cX8_says 227 = .ok (.iastore, 1) := by decide +kernel
theorem dX8_says_228 : decode cX8_says 228 = .ok (.goto 36, 3) := by decide +kernel
theorem dX8_says_231 : decode cX8_says 231 = .ok (.iinc 4 (-1), 3) := by decide +kernel
theorem dX8_says_234 : decode cX8_says 234 = .ok (.aload_n 0, 1) := by decide +kernel
theorem dX8_says_235 : decode cX8_says 235 = .ok (.getfield 37, 3) := by decide +kernel
theorem dX8_says_238 : decode cX8_says 238 = .ok (.iload 4, 2) := by decide +kernel
theorem dX8_says_240 : decode cX8_says 240 = .ok (.iconst 1, 1) := by decide +kernel
theorem dX8_says_241 : decode cX8_says 241 = .ok (.isub, 1) := by decide +kernel
theorem dX8_says_242 : decode cX8_says 242 = .ok (.iload 7, 2) := by decide +kernel
theorem dX8_says_244 : decode cX8_says 244 = .ok (.aload_n 0, 1) := by decide +kernel
theorem dX8_says_245 : decode cX8_says 245 = .ok (.getfield 37, 3) := by decide +kernel
theorem dX8_says_248 : decode cX8_says 248 = .ok (.iload 4, 2) := by decide +kernel
theorem dX8_says_250 : decode cX8_says 250 = .ok (.iconst 1, 1) := by decide +kernel
theorem dX8_says_251 : decode cX8_says 251 = .ok (.isub, 1) := by decide +kernel
theorem dX8_says_252 : decode cX8_says 252 = .ok (.iaload, 1) := by decide +kernel
theorem dX8_says_253 : decode cX8_says 253 = .ok (.aload_n 0, 1) := by decide +kernel
theorem dX8_says_254 : decode cX8_says 254 = .ok (.getfield 37, 3) := by decide +kernel
theorem dX8_says_257 : decode cX8_says 257 = .ok (.iload 4, 2) := by decide +kernel
theorem dX8_says_259 : decode cX8_says 259 = .ok (.iaload, 1) := by decide +kernel
theorem dX8_says_260 : decode cX8_says 260 = .ok (.invokestatic 221, 3) := by decide +kernel
theorem dX8_says_263 : decode cX8_says 263 = .ok (.iastore, 1) := by decide +kernel
theorem dX8_says_264 : decode cX8_says 264 = .ok (.iinc 6 1, 3) := by decide +kernel
theorem dX8_says_267 : decode cX8_says 267 = .ok (.goto (-245), 3) := by decide +kernel
theorem dX8_says_270 : decode cX8_says 270 = .ok (.iconst 0, 1) := by decide +kernel
theorem dX8_says_271 : decode cX8_says 271 = .ok (.iload_n 3, 1) := by decide +kernel
theorem dX8_says_272 : decode cX8_says 272 = .ok (.aload_n 0, 1) := by decide +kernel
theorem dX8_says_273 : decode cX8_says 273 = .ok (.getfield 37, 3) := by decide +kernel
theorem dX8_says_276 : decode cX8_says 276 = .ok (.iconst 0, 1) := by decide +kernel
theorem dX8_says_277 : decode cX8_says 277 = .ok (.iaload, 1) := by decide +kernel
theorem dX8_says_278 : decode cX8_says 278 = .ok (.invokestatic 225, 3) := by decide +kernel
theorem dX8_says_281 : decode cX8_says 281 = .ok (.invokestatic 230, 3) := by decide +kernel
theorem dX8_says_284 : decode cX8_says 284 = .ok (.ireturn, 1) := by decide +kernel
theorem dX8_both_0 : decode cX8_both 0 = .ok (.iload_n 0, 1) := by decide +kernel
theorem dX8_both_1 : decode cX8_both 1 = .ok (.tableswitch 87 6 11 #[39, 43, 47, 51, 62, 73], 39) := by decide +kernel
theorem dX8_both_40 : decode cX8_both 40 = .ok (.iload_n 1, 1) := by decide +kernel
theorem dX8_both_41 : decode cX8_both 41 = .ok (.iload_n 2, 1) := by decide +kernel
theorem dX8_both_42 : decode cX8_both 42 = .ok (.iadd, 1) := by decide +kernel
theorem dX8_both_43 : decode cX8_both 43 = .ok (.ireturn, 1) := by decide +kernel
theorem dX8_both_44 : decode cX8_both 44 = .ok (.iload_n 1, 1) := by decide +kernel
theorem dX8_both_45 : decode cX8_both 45 = .ok (.iload_n 2, 1) := by decide +kernel
theorem dX8_both_46 : decode cX8_both 46 = .ok (.isub, 1) := by decide +kernel
theorem dX8_both_47 : decode cX8_both 47 = .ok (.ireturn, 1) := by decide +kernel
theorem dX8_both_48 : decode cX8_both 48 = .ok (.iload_n 1, 1) := by decide +kernel
theorem dX8_both_49 : decode cX8_both 49 = .ok (.iload_n 2, 1) := by decide +kernel
theorem dX8_both_50 : decode cX8_both 50 = .ok (.imul, 1) := by decide +kernel
theorem dX8_both_51 : decode cX8_both 51 = .ok (.ireturn, 1) := by decide +kernel
theorem dX8_both_52 : decode cX8_both 52 = .ok (.iload_n 1, 1) := by decide +kernel
theorem dX8_both_53 : decode cX8_both 53 = .ok (.iload_n 2, 1) := by decide +kernel
theorem dX8_both_54 : decode cX8_both 54 = .ok (.if_icmp .ge 7, 3) := by decide +kernel
theorem dX8_both_57 : decode cX8_both 57 = .ok (.iconst 1, 1) := by decide +kernel
theorem dX8_both_58 : decode cX8_both 58 = .ok (.goto 4, 3) := by decide +kernel
theorem dX8_both_61 : decode cX8_both 61 = .ok (.iconst 0, 1) := by decide +kernel
theorem dX8_both_62 : decode cX8_both 62 = .ok (.ireturn, 1) := by decide +kernel
theorem dX8_both_63 : decode cX8_both 63 = .ok (.iload_n 1, 1) := by decide +kernel
theorem dX8_both_64 : decode cX8_both 64 = .ok (.iload_n 2, 1) := by decide +kernel
theorem dX8_both_65 : decode cX8_both 65 = .ok (.if_icmp .ne 7, 3) := by decide +kernel
theorem dX8_both_68 : decode cX8_both 68 = .ok (.iconst 1, 1) := by decide +kernel
theorem dX8_both_69 : decode cX8_both 69 = .ok (.goto 4, 3) := by decide +kernel
theorem dX8_both_72 : decode cX8_both 72 = .ok (.iconst 0, 1) := by decide +kernel
theorem dX8_both_73 : decode cX8_both 73 = .ok (.ireturn, 1) := by decide +kernel
theorem dX8_both_74 : decode cX8_both 74 = .ok (.iload_n 1, 1) := by decide +kernel
theorem dX8_both_75 : decode cX8_both 75 = .ok (.ifCond .eq 11, 3) := by decide +kernel
theorem dX8_both_78 : decode cX8_both 78 = .ok (.iload_n 2, 1) := by decide +kernel
theorem dX8_both_79 : decode cX8_both 79 = .ok (.ifCond .eq 7, 3) := by decide +kernel
theorem dX8_both_82 : decode cX8_both 82 = .ok (.iconst 1, 1) := by decide +kernel
theorem dX8_both_83 : decode cX8_both 83 = .ok (.goto 4, 3) := by decide +kernel
theorem dX8_both_86 : decode cX8_both 86 = .ok (.iconst 0, 1) := by decide +kernel
theorem dX8_both_87 : decode cX8_both 87 = .ok (.ireturn, 1) := by decide +kernel
theorem dX8_both_88 : decode cX8_both 88 = .ok (.iload_n 1, 1) := by decide +kernel
theorem dX8_both_89 : decode cX8_both 89 = .ok (.ifCond .ne 7, 3) := by decide +kernel
theorem dX8_both_92 : decode cX8_both 92 = .ok (.iload_n 2, 1) := by decide +kernel
theorem dX8_both_93 : decode cX8_both 93 = .ok (.ifCond .eq 7, 3) := by decide +kernel
theorem dX8_both_96 : decode cX8_both 96 = .ok (.iconst 1, 1) := by decide +kernel
theorem dX8_both_97 : decode cX8_both 97 = .ok (.goto 4, 3) := by decide +kernel
theorem dX8_both_100 : decode cX8_both 100 = .ok (.iconst 0, 1) := by decide +kernel
theorem dX8_both_101 : decode cX8_both 101 = .ok (.ireturn, 1) := by decide +kernel
theorem dX8_shelter_0 : decode cX8_shelter 0 = .ok (.iconst 0, 1) := by decide +kernel
theorem dX8_shelter_1 : decode cX8_shelter 1 = .ok (.istore_n 2, 1) := by decide +kernel
theorem dX8_shelter_2 : decode cX8_shelter 2 = .ok (.iconst 0, 1) := by decide +kernel
theorem dX8_shelter_3 : decode cX8_shelter 3 = .ok (.istore_n 3, 1) := by decide +kernel
theorem dX8_shelter_4 : decode cX8_shelter 4 = .ok (.iload_n 3, 1) := by decide +kernel
theorem dX8_shelter_5 : decode cX8_shelter 5 = .ok (.aload_n 0, 1) := by decide +kernel
theorem dX8_shelter_6 : decode cX8_shelter 6 = .ok (.getfield 79, 3) := by decide +kernel
theorem dX8_shelter_9 : decode cX8_shelter 9 = .ok (.if_icmp .ge 46, 3) := by decide +kernel
theorem dX8_shelter_12 : decode cX8_shelter 12 = .ok (.aload_n 0, 1) := by decide +kernel
theorem dX8_shelter_13 : decode cX8_shelter 13 = .ok (.getfield 22, 3) := by decide +kernel
theorem dX8_shelter_16 : decode cX8_shelter 16 = .ok (.iload_n 3, 1) := by decide +kernel
theorem dX8_shelter_17 : decode cX8_shelter 17 = .ok (.iaload, 1) := by decide +kernel
theorem dX8_shelter_18 : decode cX8_shelter 18 = .ok (.ifCond .le 31, 3) := by decide +kernel
theorem dX8_shelter_21 : decode cX8_shelter 21 = .ok (.aload_n 0, 1) := by decide +kernel
theorem dX8_shelter_22 : decode cX8_shelter 22 = .ok (.getfield 16, 3) := by decide +kernel
theorem dX8_shelter_25 : decode cX8_shelter 25 = .ok (.iload_n 3, 1) := by decide +kernel
theorem dX8_shelter_26 : decode cX8_shelter 26 = .ok (.iaload, 1) := by decide +kernel
theorem dX8_shelter_27 : decode cX8_shelter 27 = .ok (.aload_n 0, 1) := by decide +kernel
theorem dX8_shelter_28 : decode cX8_shelter 28 = .ok (.getfield 16, 3) := by decide +kernel
theorem dX8_shelter_31 : decode cX8_shelter 31 = .ok (.iload_n 1, 1) := by decide +kernel
theorem dX8_shelter_32 : decode cX8_shelter 32 = .ok (.iaload, 1) := by decide +kernel
theorem dX8_shelter_33 : decode cX8_shelter 33 = .ok (.if_icmp .ge 16, 3) := by decide +kernel
theorem dX8_shelter_36 : decode cX8_shelter 36 = .ok (.aload_n 0, 1) := by decide +kernel
theorem dX8_shelter_37 : decode cX8_shelter 37 = .ok (.getfield 7, 3) := by decide +kernel
theorem dX8_shelter_40 : decode cX8_shelter 40 = .ok (.iload_n 3, 1) := by decide +kernel
theorem dX8_shelter_41 : decode cX8_shelter 41 = .ok (.iaload, 1) := by decide +kernel
theorem dX8_shelter_42 : decode cX8_shelter 42 = .ok (.iconst 2, 1) := by decide +kernel
theorem dX8_shelter_43 : decode cX8_shelter 43 = .ok (.if_icmp .eq 6, 3) := by decide +kernel
theorem dX8_shelter_46 : decode cX8_shelter 46 = .ok (.iinc 2 1, 3) := by decide +kernel
theorem dX8_shelter_49 : decode cX8_shelter 49 = .ok (.iinc 3 1, 3) := by decide +kernel
theorem dX8_shelter_52 : decode cX8_shelter 52 = .ok (.goto (-48), 3) := by decide +kernel
theorem dX8_shelter_55 : decode cX8_shelter 55 = .ok (.iload_n 2, 1) := by decide +kernel
theorem dX8_shelter_56 : decode cX8_shelter 56 = .ok (.ireturn, 1) := by decide +kernel
theorem dX8_loses_0 : decode cX8_loses 0 = .ok (.aload_n 0, 1) := by decide +kernel
theorem dX8_loses_1 : decode cX8_loses 1 = .ok (.iconst 0, 1) := by decide +kernel
theorem dX8_loses_2 : decode cX8_loses 2 = .ok (.iload_n 1, 1) := by decide +kernel
theorem dX8_loses_3 : decode cX8_loses 3 = .ok (.bipush 99, 2) := by decide +kernel
theorem dX8_loses_5 : decode cX8_loses 5 = .ok (.invokevirtual 233, 3) := by decide +kernel
theorem dX8_loses_8 : decode cX8_loses 8 = .ok (.istore_n 2, 1) := by decide +kernel
theorem dX8_loses_9 : decode cX8_loses 9 = .ok (.aload_n 0, 1) := by decide +kernel
theorem dX8_loses_10 : decode cX8_loses 10 = .ok (.getfield 89, 3) := by decide +kernel
theorem dX8_loses_13 : decode cX8_loses 13 = .ok (.aload_n 0, 1) := by decide +kernel
theorem dX8_loses_14 : decode cX8_loses 14 = .ok (.getfield 13, 3) := by decide +kernel
theorem dX8_loses_17 : decode cX8_loses 17 = .ok (.iload_n 1, 1) := by decide +kernel
theorem dX8_loses_18 : decode cX8_loses 18 = .ok (.iaload, 1) := by decide +kernel
theorem dX8_loses_19 : decode cX8_loses 19 = .ok (.iconst 2, 1) := by decide +kernel
theorem dX8_loses_20 : decode cX8_loses 20 = .ok (.iadd, 1) := by decide +kernel
theorem dX8_loses_21 : decode cX8_loses 21 = .ok (.irem, 1) := by decide +kernel
theorem dX8_loses_22 : decode cX8_loses 22 = .ok (.ifCond .ne 7, 3) := by decide +kernel
theorem dX8_loses_25 : decode cX8_loses 25 = .ok (.iconst 0, 1) := by decide +kernel
theorem dX8_loses_26 : decode cX8_loses 26 = .ok (.goto 4, 3) := by decide +kernel
theorem dX8_loses_29 : decode cX8_loses 29 = .ok (.iload_n 2, 1) := by decide +kernel
theorem dX8_loses_30 : decode cX8_loses 30 = .ok (.istore_n 3, 1) := by decide +kernel
theorem dX8_loses_31 : decode cX8_loses 31 = .ok (.aload_n 0, 1) := by decide +kernel
theorem dX8_loses_32 : decode cX8_loses 32 = .ok (.getfield 7, 3) := by decide +kernel
theorem dX8_loses_35 : decode cX8_loses 35 = .ok (.iload_n 1, 1) := by decide +kernel
theorem dX8_loses_36 : decode cX8_loses 36 = .ok (.iaload, 1) := by decide +kernel
theorem dX8_loses_37 : decode cX8_loses 37 = .ok (.tableswitch 69 1 5 #[35, 39, 41, 52, 56], 35) := by decide +kernel
theorem dX8_loses_72 : decode cX8_loses 72 = .ok (.iload_n 2, 1) := by decide +kernel
theorem dX8_loses_73 : decode cX8_loses 73 = .ok (.iconst 2, 1) := by decide +kernel
theorem dX8_loses_74 : decode cX8_loses 74 = .ok (.idiv, 1) := by decide +kernel
theorem dX8_loses_75 : decode cX8_loses 75 = .ok (.ireturn, 1) := by decide +kernel
theorem dX8_loses_76 : decode cX8_loses 76 = .ok (.iload_n 3, 1) := by decide +kernel
theorem dX8_loses_77 : decode cX8_loses 77 = .ok (.ireturn, 1) := by decide +kernel
theorem dX8_loses_78 : decode cX8_loses 78 = .ok (.iload_n 2, 1) := by decide +kernel
theorem dX8_loses_79 : decode cX8_loses 79 = .ok (.iconst 2, 1) := by decide +kernel
theorem dX8_loses_80 : decode cX8_loses 80 = .ok (.idiv, 1) := by decide +kernel
theorem dX8_loses_81 : decode cX8_loses 81 = .ok (.aload_n 0, 1) := by decide +kernel
theorem dX8_loses_82 : decode cX8_loses 82 = .ok (.getfield 13, 3) := by decide +kernel
theorem dX8_loses_85 : decode cX8_loses 85 = .ok (.iload_n 1, 1) := by decide +kernel
theorem dX8_loses_86 : decode cX8_loses 86 = .ok (.iaload, 1) := by decide +kernel
theorem dX8_loses_87 : decode cX8_loses 87 = .ok (.iadd, 1) := by decide +kernel
theorem dX8_loses_88 : decode cX8_loses 88 = .ok (.ireturn, 1) := by decide +kernel
theorem dX8_loses_89 : decode cX8_loses 89 = .ok (.iconst 2, 1) := by decide +kernel
theorem dX8_loses_90 : decode cX8_loses 90 = .ok (.iload_n 3, 1) := by decide +kernel
theorem dX8_loses_91 : decode cX8_loses 91 = .ok (.imul, 1) := by decide +kernel
theorem dX8_loses_92 : decode cX8_loses 92 = .ok (.ireturn, 1) := by decide +kernel
theorem dX8_loses_93 : decode cX8_loses 93 = .ok (.iconst 0, 1) := by decide +kernel
theorem dX8_loses_94 : decode cX8_loses 94 = .ok (.iload_n 2, 1) := by decide +kernel
theorem dX8_loses_95 : decode cX8_loses 95 = .ok (.aload_n 0, 1) := by decide +kernel
theorem dX8_loses_96 : decode cX8_loses 96 = .ok (.getfield 13, 3) := by decide +kernel
theorem dX8_loses_99 : decode cX8_loses 99 = .ok (.iload_n 1, 1) := by decide +kernel
theorem dX8_loses_100 : decode cX8_loses 100 = .ok (.iaload, 1) := by decide +kernel
theorem dX8_loses_101 : decode cX8_loses 101 = .ok (.isub, 1) := by decide +kernel
theorem dX8_loses_102 : decode cX8_loses 102 = .ok (.invokestatic 230, 3) := by decide +kernel
theorem dX8_loses_105 : decode cX8_loses 105 = .ok (.ireturn, 1) := by decide +kernel
theorem dX8_loses_106 : decode cX8_loses 106 = .ok (.iload_n 2, 1) := by decide +kernel
theorem dX8_loses_107 : decode cX8_loses 107 = .ok (.ireturn, 1) := by decide +kernel
theorem dX8_rises_0 : decode cX8_rises 0 = .ok (.aload_n 0, 1) := by decide +kernel
theorem dX8_rises_1 : decode cX8_rises 1 = .ok (.iconst 1, 1) := by decide +kernel
theorem dX8_rises_2 : decode cX8_rises 2 = .ok (.iload_n 1, 1) := by decide +kernel
theorem dX8_rises_3 : decode cX8_rises 3 = .ok (.bipush 20, 2) := by decide +kernel
theorem dX8_rises_5 : decode cX8_rises 5 = .ok (.invokevirtual 233, 3) := by decide +kernel
theorem dX8_rises_8 : decode cX8_rises 8 = .ok (.istore_n 2, 1) := by decide +kernel
theorem dX8_rises_9 : decode cX8_rises 9 = .ok (.aload_n 0, 1) := by decide +kernel
theorem dX8_rises_10 : decode cX8_rises 10 = .ok (.getfield 7, 3) := by decide +kernel
theorem dX8_rises_13 : decode cX8_rises 13 = .ok (.iload_n 1, 1) := by decide +kernel
theorem dX8_rises_14 : decode cX8_rises 14 = .ok (.iaload, 1) := by decide +kernel
theorem dX8_rises_15 : decode cX8_rises 15 = .ok (.tableswitch 43 1 4 #[29, 33, 29, 37], 29) := by decide +kernel
theorem dX8_rises_44 : decode cX8_rises 44 = .ok (.iload_n 2, 1) := by decide +kernel
theorem dX8_rises_45 : decode cX8_rises 45 = .ok (.iconst 1, 1) := by decide +kernel
theorem dX8_rises_46 : decode cX8_rises 46 = .ok (.iadd, 1) := by decide +kernel
theorem dX8_rises_47 : decode cX8_rises 47 = .ok (.ireturn, 1) := by decide +kernel
theorem dX8_rises_48 : decode cX8_rises 48 = .ok (.iload_n 2, 1) := by decide +kernel
theorem dX8_rises_49 : decode cX8_rises 49 = .ok (.iconst 2, 1) := by decide +kernel
theorem dX8_rises_50 : decode cX8_rises 50 = .ok (.idiv, 1) := by decide +kernel
theorem dX8_rises_51 : decode cX8_rises 51 = .ok (.ireturn, 1) := by decide +kernel
theorem dX8_rises_52 : decode cX8_rises 52 = .ok (.iload_n 2, 1) := by decide +kernel
theorem dX8_rises_53 : decode cX8_rises 53 = .ok (.iconst 2, 1) := by decide +kernel
theorem dX8_rises_54 : decode cX8_rises 54 = .ok (.idiv, 1) := by decide +kernel
theorem dX8_rises_55 : decode cX8_rises 55 = .ok (.iconst 1, 1) := by decide +kernel
theorem dX8_rises_56 : decode cX8_rises 56 = .ok (.iadd, 1) := by decide +kernel
theorem dX8_rises_57 : decode cX8_rises 57 = .ok (.ireturn, 1) := by decide +kernel
theorem dX8_rises_58 : decode cX8_rises 58 = .ok (.iload_n 2, 1) := by decide +kernel
theorem dX8_rises_59 : decode cX8_rises 59 = .ok (.ireturn, 1) := by decide +kernel
theorem dX8_standing_0 : decode cX8_standing 0 = .ok (.iconst 0, 1) := by decide +kernel
theorem dX8_standing_1 : decode cX8_standing 1 = .ok (.istore_n 1, 1) := by decide +kernel
theorem dX8_standing_2 : decode cX8_standing 2 = .ok (.iconst 0, 1) := by decide +kernel
theorem dX8_standing_3 : decode cX8_standing 3 = .ok (.istore_n 2, 1) := by decide +kernel
theorem dX8_standing_4 : decode cX8_standing 4 = .ok (.iload_n 2, 1) := by decide +kernel
theorem dX8_standing_5 : decode cX8_standing 5 = .ok (.aload_n 0, 1) := by decide +kernel
theorem dX8_standing_6 : decode cX8_standing 6 = .ok (.getfield 79, 3) := by decide +kernel
theorem dX8_standing_9 : decode cX8_standing 9 = .ok (.if_icmp .ge 24, 3) := by decide +kernel
theorem dX8_standing_12 : decode cX8_standing 12 = .ok (.aload_n 0, 1) := by decide +kernel
theorem dX8_standing_13 : decode cX8_standing 13 = .ok (.getfield 22, 3) := by decide +kernel
theorem dX8_standing_16 : decode cX8_standing 16 = .ok (.iload_n 2, 1) := by decide +kernel
theorem dX8_standing_17 : decode cX8_standing 17 = .ok (.iaload, 1) := by decide +kernel
theorem dX8_standing_18 : decode cX8_standing 18 = .ok (.ifCond .le 9, 3) := by decide +kernel
theorem dX8_standing_21 : decode cX8_standing 21 = .ok (.iload_n 1, 1) := by decide +kernel
theorem dX8_standing_22 : decode cX8_standing 22 = .ok (.iconst 1, 1) := by decide +kernel
theorem dX8_standing_23 : decode cX8_standing 23 = .ok (.iload_n 2, 1) := by decide +kernel
theorem dX8_standing_24 : decode cX8_standing 24 = .ok (.ishl, 1) := by decide +kernel
theorem dX8_standing_25 : decode cX8_standing 25 = .ok (.ior, 1) := by decide +kernel
theorem dX8_standing_26 : decode cX8_standing 26 = .ok (.istore_n 1, 1) := by decide +kernel
theorem dX8_standing_27 : decode cX8_standing 27 = .ok (.iinc 2 1, 3) := by decide +kernel
theorem dX8_standing_30 : decode cX8_standing 30 = .ok (.goto (-26), 3) := by decide +kernel
theorem dX8_standing_33 : decode cX8_standing 33 = .ok (.iload_n 1, 1) := by decide +kernel
theorem dX8_standing_34 : decode cX8_standing 34 = .ok (.ireturn, 1) := by decide +kernel
theorem dX8_comes_0 : decode cX8_comes 0 = .ok (.iconst 0, 1) := by decide +kernel
theorem dX8_comes_1 : decode cX8_comes 1 = .ok (.istore_n 1, 1) := by decide +kernel
theorem dX8_comes_2 : decode cX8_comes 2 = .ok (.iload_n 1, 1) := by decide +kernel
theorem dX8_comes_3 : decode cX8_comes 3 = .ok (.aload_n 0, 1) := by decide +kernel
theorem dX8_comes_4 : decode cX8_comes 4 = .ok (.getfield 79, 3) := by decide +kernel
theorem dX8_comes_7 : decode cX8_comes 7 = .ok (.if_icmp .ge 33, 3) := by decide +kernel
theorem dX8_comes_10 : decode cX8_comes 10 = .ok (.aload_n 0, 1) := by decide +kernel
theorem dX8_comes_11 : decode cX8_comes 11 = .ok (.getfield 46, 3) := by decide +kernel
theorem dX8_comes_14 : decode cX8_comes 14 = .ok (.iload_n 1, 1) := by decide +kernel
theorem dX8_comes_15 : decode cX8_comes 15 = .ok (.aload_n 0, 1) := by decide +kernel
theorem dX8_comes_16 : decode cX8_comes 16 = .ok (.getfield 22, 3) := by decide +kernel
theorem dX8_comes_19 : decode cX8_comes 19 = .ok (.iload_n 1, 1) := by decide +kernel
theorem dX8_comes_20 : decode cX8_comes 20 = .ok (.iaload, 1) := by decide +kernel
theorem dX8_comes_21 : decode cX8_comes 21 = .ok (.ifCond .le 11, 3) := by decide +kernel
theorem dX8_comes_24 : decode cX8_comes 24 = .ok (.aload_n 0, 1) := by decide +kernel
theorem dX8_comes_25 : decode cX8_comes 25 = .ok (.iload_n 1, 1) := by decide +kernel
theorem dX8_comes_26 : decode cX8_comes 26 = .ok (.invokevirtual 92, 3) := by decide +kernel
theorem dX8_comes_29 : decode cX8_comes 29 = .ok (.goto 4, 3) := by decide +kernel
theorem dX8_comes_32 : decode cX8_comes 32 = .ok (.iconst 0, 1) := by decide +kernel
theorem dX8_comes_33 : decode cX8_comes 33 = .ok (.iastore, 1) := by decide +kernel
theorem dX8_comes_34 : decode cX8_comes 34 = .ok (.iinc 1 1, 3) := by decide +kernel
theorem dX8_comes_37 : decode cX8_comes 37 = .ok (.goto (-35), 3) := by decide +kernel
theorem dX8_comes_40 : decode cX8_comes 40 = .ok (.iconst 0, 1) := by decide +kernel
theorem dX8_comes_41 : decode cX8_comes 41 = .ok (.istore_n 1, 1) := by decide +kernel
theorem dX8_comes_42 : decode cX8_comes 42 = .ok (.iload_n 1, 1) := by decide +kernel
theorem dX8_comes_43 : decode cX8_comes 43 = .ok (.aload_n 0, 1) := by decide +kernel
theorem dX8_comes_44 : decode cX8_comes 44 = .ok (.getfield 79, 3) := by decide +kernel
theorem dX8_comes_47 : decode cX8_comes 47 = .ok (.if_icmp .ge 32, 3) := by decide +kernel
theorem dX8_comes_50 : decode cX8_comes 50 = .ok (.aload_n 0, 1) := by decide +kernel
theorem dX8_comes_51 : decode cX8_comes 51 = .ok (.getfield 22, 3) := by decide +kernel
theorem dX8_comes_54 : decode cX8_comes 54 = .ok (.iload_n 1, 1) := by decide +kernel
theorem dX8_comes_55 : decode cX8_comes 55 = .ok (.iconst 0, 1) := by decide +kernel
theorem dX8_comes_56 : decode cX8_comes 56 = .ok (.aload_n 0, 1) := by decide +kernel
theorem dX8_comes_57 : decode cX8_comes 57 = .ok (.getfield 22, 3) := by decide +kernel
theorem dX8_comes_60 : decode cX8_comes 60 = .ok (.iload_n 1, 1) := by decide +kernel
theorem dX8_comes_61 : decode cX8_comes 61 = .ok (.iaload, 1) := by decide +kernel
theorem dX8_comes_62 : decode cX8_comes 62 = .ok (.aload_n 0, 1) := by decide +kernel
theorem dX8_comes_63 : decode cX8_comes 63 = .ok (.getfield 46, 3) := by decide +kernel
theorem dX8_comes_66 : decode cX8_comes 66 = .ok (.iload_n 1, 1) := by decide +kernel
theorem dX8_comes_67 : decode cX8_comes 67 = .ok (.iaload, 1) := by decide +kernel
theorem dX8_comes_68 : decode cX8_comes 68 = .ok (.isub, 1) := by decide +kernel
theorem dX8_comes_69 : decode cX8_comes 69 = .ok (.invokestatic 230, 3) := by decide +kernel
theorem dX8_comes_72 : decode cX8_comes 72 = .ok (.iastore, 1) := by decide +kernel
theorem dX8_comes_73 : decode cX8_comes 73 = .ok (.iinc 1 1, 3) := by decide +kernel
theorem dX8_comes_76 : decode cX8_comes 76 = .ok (.goto (-34), 3) := by decide +kernel
theorem dX8_comes_79 : decode cX8_comes 79 = .ok (.aload_n 0, 1) := by decide +kernel
theorem dX8_comes_80 : decode cX8_comes 80 = .ok (.dup, 1) := by decide +kernel
theorem dX8_comes_81 : decode cX8_comes 81 = .ok (.getfield 89, 3) := by decide +kernel
theorem dX8_comes_84 : decode cX8_comes 84 = .ok (.iconst 1, 1) := by decide +kernel
theorem dX8_comes_85 : decode cX8_comes 85 = .ok (.iadd, 1) := by decide +kernel
theorem dX8_comes_86 : decode cX8_comes 86 = .ok (.putfield 89, 3) := by decide +kernel
theorem dX8_comes_89 : decode cX8_comes 89 = .ok (.return_, 1) := by decide +kernel
theorem dX8_raised_0 : decode cX8_raised 0 = .ok (.aload_n 0, 1) := by decide +kernel
theorem dX8_raised_1 : decode cX8_raised 1 = .ok (.getfield 22, 3) := by decide +kernel
theorem dX8_raised_4 : decode cX8_raised 4 = .ok (.iload_n 1, 1) := by decide +kernel
theorem dX8_raised_5 : decode cX8_raised 5 = .ok (.bipush 99, 2) := by decide +kernel
theorem dX8_raised_7 : decode cX8_raised 7 = .ok (.aload_n 0, 1) := by decide +kernel
theorem dX8_raised_8 : decode cX8_raised 8 = .ok (.getfield 22, 3) := by decide +kernel
theorem dX8_raised_11 : decode cX8_raised 11 = .ok (.iload_n 1, 1) := by decide +kernel
theorem dX8_raised_12 : decode cX8_raised 12 = .ok (.iaload, 1) := by decide +kernel
theorem dX8_raised_13 : decode cX8_raised 13 = .ok (.aload_n 0, 1) := by decide +kernel
theorem dX8_raised_14 : decode cX8_raised 14 = .ok (.iload_n 1, 1) := by decide +kernel
theorem dX8_raised_15 : decode cX8_raised 15 = .ok (.invokevirtual 96, 3) := by decide +kernel
theorem dX8_raised_18 : decode cX8_raised 18 = .ok (.iadd, 1) := by decide +kernel
theorem dX8_raised_19 : decode cX8_raised 19 = .ok (.invokestatic 225, 3) := by decide +kernel
theorem dX8_raised_22 : decode cX8_raised 22 = .ok (.iastore, 1) := by decide +kernel
theorem dX8_raised_23 : decode cX8_raised 23 = .ok (.return_, 1) := by decide +kernel
theorem dX8_wave_0 : decode cX8_wave 0 = .ok (.aload_n 0, 1) := by decide +kernel
theorem dX8_wave_1 : decode cX8_wave 1 = .ok (.getfield 89, 3) := by decide +kernel
theorem dX8_wave_4 : decode cX8_wave 4 = .ok (.sipush 999, 3) := by decide +kernel
theorem dX8_wave_7 : decode cX8_wave 7 = .ok (.if_icmp .ne 6, 3) := by decide +kernel
theorem dX8_wave_10 : decode cX8_wave 10 = .ok (.bipush (-3), 2) := by decide +kernel
theorem dX8_wave_12 : decode cX8_wave 12 = .ok (.ireturn, 1) := by decide +kernel
theorem dX8_wave_13 : decode cX8_wave 13 = .ok (.aload_n 0, 1) := by decide +kernel
theorem dX8_wave_14 : decode cX8_wave 14 = .ok (.invokevirtual 236, 3) := by decide +kernel
theorem dX8_wave_17 : decode cX8_wave 17 = .ok (.aload_n 0, 1) := by decide +kernel
theorem dX8_wave_18 : decode cX8_wave 18 = .ok (.invokevirtual 239, 3) := by decide +kernel
theorem dX8_wave_21 : decode cX8_wave 21 = .ok (.ireturn, 1) := by decide +kernel
theorem dX8_spade_0 : decode cX8_spade 0 = .ok (.aload_n 0, 1) := by decide +kernel
theorem dX8_spade_1 : decode cX8_spade 1 = .ok (.iload_n 1, 1) := by decide +kernel
theorem dX8_spade_2 : decode cX8_spade 2 = .ok (.invokevirtual 102, 3) := by decide +kernel
theorem dX8_spade_5 : decode cX8_spade 5 = .ok (.ifCond .ne 6, 3) := by decide +kernel
theorem dX8_spade_8 : decode cX8_spade 8 = .ok (.bipush (-2), 2) := by decide +kernel
theorem dX8_spade_10 : decode cX8_spade 10 = .ok (.ireturn, 1) := by decide +kernel
theorem dX8_spade_11 : decode cX8_spade 11 = .ok (.aload_n 0, 1) := by decide +kernel
theorem dX8_spade_12 : decode cX8_spade 12 = .ok (.iload_n 1, 1) := by decide +kernel
theorem dX8_spade_13 : decode cX8_spade 13 = .ok (.invokevirtual 242, 3) := by decide +kernel
theorem dX8_spade_16 : decode cX8_spade 16 = .ok (.aload_n 0, 1) := by decide +kernel
theorem dX8_spade_17 : decode cX8_spade 17 = .ok (.getfield 22, 3) := by decide +kernel
theorem dX8_spade_20 : decode cX8_spade 20 = .ok (.iload_n 1, 1) := by decide +kernel
theorem dX8_spade_21 : decode cX8_spade 21 = .ok (.iaload, 1) := by decide +kernel
theorem dX8_spade_22 : decode cX8_spade 22 = .ok (.ireturn, 1) := by decide +kernel
theorem dX8_keep_0 : decode cX8_keep 0 = .ok (.iconst 0, 1) := by decide +kernel
theorem dX8_keep_1 : decode cX8_keep 1 = .ok (.istore_n 1, 1) := by decide +kernel
theorem dX8_keep_2 : decode cX8_keep 2 = .ok (.iload_n 1, 1) := by decide +kernel
theorem dX8_keep_3 : decode cX8_keep 3 = .ok (.bipush 8, 2) := by decide +kernel
theorem dX8_keep_5 : decode cX8_keep 5 = .ok (.if_icmp .ge 21, 3) := by decide +kernel
theorem dX8_keep_8 : decode cX8_keep 8 = .ok (.aload_n 0, 1) := by decide +kernel
theorem dX8_keep_9 : decode cX8_keep 9 = .ok (.getfield 40, 3) := by decide +kernel
theorem dX8_keep_12 : decode cX8_keep 12 = .ok (.iload_n 1, 1) := by decide +kernel
theorem dX8_keep_13 : decode cX8_keep 13 = .ok (.aload_n 0, 1) := by decide +kernel
theorem dX8_keep_14 : decode cX8_keep 14 = .ok (.getfield 22, 3) := by decide +kernel
theorem dX8_keep_17 : decode cX8_keep 17 = .ok (.iload_n 1, 1) := by decide +kernel
theorem dX8_keep_18 : decode cX8_keep 18 = .ok (.iaload, 1) := by decide +kernel
theorem dX8_keep_19 : decode cX8_keep 19 = .ok (.iastore, 1) := by decide +kernel
theorem dX8_keep_20 : decode cX8_keep 20 = .ok (.iinc 1 1, 3) := by decide +kernel
theorem dX8_keep_23 : decode cX8_keep 23 = .ok (.goto (-21), 3) := by decide +kernel
theorem dX8_keep_26 : decode cX8_keep 26 = .ok (.aload_n 0, 1) := by decide +kernel
theorem dX8_keep_27 : decode cX8_keep 27 = .ok (.aload_n 0, 1) := by decide +kernel
theorem dX8_keep_28 : decode cX8_keep 28 = .ok (.getfield 89, 3) := by decide +kernel
theorem dX8_keep_31 : decode cX8_keep 31 = .ok (.putfield 246, 3) := by decide +kernel
theorem dX8_keep_34 : decode cX8_keep 34 = .ok (.aload_n 0, 1) := by decide +kernel
theorem dX8_keep_35 : decode cX8_keep 35 = .ok (.aload_n 0, 1) := by decide +kernel
theorem dX8_keep_36 : decode cX8_keep 36 = .ok (.getfield 86, 3) := by decide +kernel
theorem dX8_keep_39 : decode cX8_keep 39 = .ok (.putfield 249, 3) := by decide +kernel
theorem dX8_keep_42 : decode cX8_keep 42 = .ok (.return_, 1) := by decide +kernel
theorem dX8_again_0 : decode cX8_again 0 = .ok (.iconst 0, 1) := by decide +kernel
theorem dX8_again_1 : decode cX8_again 1 = .ok (.istore_n 1, 1) := by decide +kernel
theorem dX8_again_2 : decode cX8_again 2 = .ok (.iload_n 1, 1) := by decide +kernel
theorem dX8_again_3 : decode cX8_again 3 = .ok (.bipush 8, 2) := by decide +kernel
theorem dX8_again_5 : decode cX8_again 5 = .ok (.if_icmp .ge 21, 3) := by decide +kernel
theorem dX8_again_8 : decode cX8_again 8 = .ok (.aload_n 0, 1) := by decide +kernel
theorem dX8_again_9 : decode cX8_again 9 = .ok (.getfield 22, 3) := by decide +kernel
theorem dX8_again_12 : decode cX8_again 12 = .ok (.iload_n 1, 1) := by decide +kernel
theorem dX8_again_13 : decode cX8_again 13 = .ok (.aload_n 0, 1) := by decide +kernel
theorem dX8_again_14 : decode cX8_again 14 = .ok (.getfield 40, 3) := by decide +kernel
theorem dX8_again_17 : decode cX8_again 17 = .ok (.iload_n 1, 1) := by decide +kernel
theorem dX8_again_18 : decode cX8_again 18 = .ok (.iaload, 1) := by decide +kernel
theorem dX8_again_19 : decode cX8_again 19 = .ok (.iastore, 1) := by decide +kernel
theorem dX8_again_20 : decode cX8_again 20 = .ok (.iinc 1 1, 3) := by decide +kernel
theorem dX8_again_23 : decode cX8_again 23 = .ok (.goto (-21), 3) := by decide +kernel
theorem dX8_again_26 : decode cX8_again 26 = .ok (.aload_n 0, 1) := by decide +kernel
theorem dX8_again_27 : decode cX8_again 27 = .ok (.aload_n 0, 1) := by decide +kernel
theorem dX8_again_28 : decode cX8_again 28 = .ok (.getfield 246, 3) := by decide +kernel
theorem dX8_again_31 : decode cX8_again 31 = .ok (.putfield 89, 3) := by decide +kernel
theorem dX8_again_34 : decode cX8_again 34 = .ok (.aload_n 0, 1) := by decide +kernel
theorem dX8_again_35 : decode cX8_again 35 = .ok (.aload_n 0, 1) := by decide +kernel
theorem dX8_again_36 : decode cX8_again 36 = .ok (.getfield 249, 3) := by decide +kernel
theorem dX8_again_39 : decode cX8_again 39 = .ok (.putfield 86, 3) := by decide +kernel
theorem dX8_again_42 : decode cX8_again 42 = .ok (.return_, 1) := by decide +kernel
theorem dX8_waves_0 : decode cX8_waves 0 = .ok (.iconst 0, 1) := by decide +kernel
theorem dX8_waves_1 : decode cX8_waves 1 = .ok (.istore_n 2, 1) := by decide +kernel
theorem dX8_waves_2 : decode cX8_waves 2 = .ok (.iload_n 2, 1) := by decide +kernel
theorem dX8_waves_3 : decode cX8_waves 3 = .ok (.iload_n 1, 1) := by decide +kernel
theorem dX8_waves_4 : decode cX8_waves 4 = .ok (.if_icmp .ge 13, 3) := by decide +kernel
theorem dX8_waves_7 : decode cX8_waves 7 = .ok (.aload_n 0, 1) := by decide +kernel
theorem dX8_waves_8 : decode cX8_waves 8 = .ok (.invokevirtual 236, 3) := by decide +kernel
theorem dX8_waves_11 : decode cX8_waves 11 = .ok (.iinc 2 1, 3) := by decide +kernel
theorem dX8_waves_14 : decode cX8_waves 14 = .ok (.goto (-12), 3) := by decide +kernel
theorem dX8_waves_17 : decode cX8_waves 17 = .ok (.return_, 1) := by decide +kernel
theorem dX8_bay_0 : decode cX8_bay 0 = .ok (.iconst 0, 1) := by decide +kernel
theorem dX8_bay_1 : decode cX8_bay 1 = .ok (.istore_n 1, 1) := by decide +kernel
theorem dX8_bay_2 : decode cX8_bay 2 = .ok (.iconst 0, 1) := by decide +kernel
theorem dX8_bay_3 : decode cX8_bay 3 = .ok (.istore_n 2, 1) := by decide +kernel
theorem dX8_bay_4 : decode cX8_bay 4 = .ok (.iconst 0, 1) := by decide +kernel
theorem dX8_bay_5 : decode cX8_bay 5 = .ok (.istore_n 3, 1) := by decide +kernel
theorem dX8_bay_6 : decode cX8_bay 6 = .ok (.iload_n 3, 1) := by decide +kernel
theorem dX8_bay_7 : decode cX8_bay 7 = .ok (.aload_n 0, 1) := by decide +kernel
theorem dX8_bay_8 : decode cX8_bay 8 = .ok (.getfield 79, 3) := by decide +kernel
theorem dX8_bay_11 : decode cX8_bay 11 = .ok (.if_icmp .ge 51, 3) := by decide +kernel
theorem dX8_bay_14 : decode cX8_bay 14 = .ok (.aload_n 0, 1) := by decide +kernel
theorem dX8_bay_15 : decode cX8_bay 15 = .ok (.getfield 19, 3) := by decide +kernel
theorem dX8_bay_18 : decode cX8_bay 18 = .ok (.iload_n 3, 1) := by decide +kernel
theorem dX8_bay_19 : decode cX8_bay 19 = .ok (.iaload, 1) := by decide +kernel
theorem dX8_bay_20 : decode cX8_bay 20 = .ok (.ifCond .ne 7, 3) := by decide +kernel
theorem dX8_bay_23 : decode cX8_bay 23 = .ok (.iconst 1, 1) := by decide +kernel
theorem dX8_bay_24 : decode cX8_bay 24 = .ok (.goto 4, 3) := by decide +kernel
theorem dX8_bay_27 : decode cX8_bay 27 = .ok (.iconst (-1), 1) := by decide +kernel
theorem dX8_bay_28 : decode cX8_bay 28 = .ok (.istore 4, 2) := by decide +kernel
theorem dX8_bay_30 : decode cX8_bay 30 = .ok (.aload_n 0, 1) := by decide +kernel
theorem dX8_bay_31 : decode cX8_bay 31 = .ok (.getfield 22, 3) := by decide +kernel
theorem dX8_bay_34 : decode cX8_bay 34 = .ok (.iload_n 3, 1) := by decide +kernel
theorem dX8_bay_35 : decode cX8_bay 35 = .ok (.iaload, 1) := by decide +kernel
theorem dX8_bay_36 : decode cX8_bay 36 = .ok (.ifCond .le 8, 3) := by decide +kernel
theorem dX8_bay_39 : decode cX8_bay 39 = .ok (.iload_n 1, 1) := by decide +kernel
theorem dX8_bay_40 : decode cX8_bay 40 = .ok (.iload 4, 2) := by decide +kernel
theorem dX8_bay_42 : decode cX8_bay 42 = .ok (.iadd, 1) := by decide +kernel
theorem dX8_bay_43 : decode cX8_bay 43 = .ok (.istore_n 1, 1) := by decide +kernel
theorem dX8_bay_44 : decode cX8_bay 44 = .ok (.iload_n 2, 1) := by decide +kernel
theorem dX8_bay_45 : decode cX8_bay 45 = .ok (.iload 4, 2) := by decide +kernel
theorem dX8_bay_47 : decode cX8_bay 47 = .ok (.aload_n 0, 1) := by decide +kernel
theorem dX8_bay_48 : decode cX8_bay 48 = .ok (.getfield 22, 3) := by decide +kernel
theorem dX8_bay_51 : decode cX8_bay 51 = .ok (.iload_n 3, 1) := by decide +kernel
theorem dX8_bay_52 : decode cX8_bay 52 = .ok (.iaload, 1) := by decide +kernel
theorem dX8_bay_53 : decode cX8_bay 53 = .ok (.imul, 1) := by decide +kernel
theorem dX8_bay_54 : decode cX8_bay 54 = .ok (.iadd, 1) := by decide +kernel
theorem dX8_bay_55 : decode cX8_bay 55 = .ok (.istore_n 2, 1) := by decide +kernel
theorem dX8_bay_56 : decode cX8_bay 56 = .ok (.iinc 3 1, 3) := by decide +kernel
theorem dX8_bay_59 : decode cX8_bay 59 = .ok (.goto (-53), 3) := by decide +kernel
theorem dX8_bay_62 : decode cX8_bay 62 = .ok (.iload_n 1, 1) := by decide +kernel
theorem dX8_bay_63 : decode cX8_bay 63 = .ok (.ifCond .eq 7, 3) := by decide +kernel
theorem dX8_bay_66 : decode cX8_bay 66 = .ok (.iload_n 1, 1) := by decide +kernel
theorem dX8_bay_67 : decode cX8_bay 67 = .ok (.goto 4, 3) := by decide +kernel
theorem dX8_bay_70 : decode cX8_bay 70 = .ok (.iload_n 2, 1) := by decide +kernel
theorem dX8_bay_71 : decode cX8_bay 71 = .ok (.istore_n 3, 1) := by decide +kernel
theorem dX8_bay_72 : decode cX8_bay 72 = .ok (.iload_n 3, 1) := by decide +kernel
theorem dX8_bay_73 : decode cX8_bay 73 = .ok (.ifCond .le 7, 3) := by decide +kernel
theorem dX8_bay_76 : decode cX8_bay 76 = .ok (.iconst 0, 1) := by decide +kernel
theorem dX8_bay_77 : decode cX8_bay 77 = .ok (.goto 12, 3) := by decide +kernel
theorem dX8_bay_80 : decode cX8_bay 80 = .ok (.iload_n 3, 1) := by decide +kernel
theorem dX8_bay_81 : decode cX8_bay 81 = .ok (.ifCond .ge 7, 3) := by decide +kernel
theorem dX8_bay_84 : decode cX8_bay 84 = .ok (.iconst 1, 1) := by decide +kernel
theorem dX8_bay_85 : decode cX8_bay 85 = .ok (.goto 4, 3) := by decide +kernel
theorem dX8_bay_88 : decode cX8_bay 88 = .ok (.iconst (-1), 1) := by decide +kernel
theorem dX8_bay_89 : decode cX8_bay 89 = .ok (.ireturn, 1) := by decide +kernel
theorem dX8_valueOf_0 : decode cX8_valueOf 0 = .ok (.iconst 0, 1) := by decide +kernel
theorem dX8_valueOf_1 : decode cX8_valueOf 1 = .ok (.istore_n 2, 1) := by decide +kernel
theorem dX8_valueOf_2 : decode cX8_valueOf 2 = .ok (.iconst 0, 1) := by decide +kernel
theorem dX8_valueOf_3 : decode cX8_valueOf 3 = .ok (.istore_n 3, 1) := by decide +kernel
theorem dX8_valueOf_4 : decode cX8_valueOf 4 = .ok (.iload_n 3, 1) := by decide +kernel
theorem dX8_valueOf_5 : decode cX8_valueOf 5 = .ok (.aload_n 0, 1) := by decide +kernel
theorem dX8_valueOf_6 : decode cX8_valueOf 6 = .ok (.getfield 79, 3) := by decide +kernel
theorem dX8_valueOf_9 : decode cX8_valueOf 9 = .ok (.if_icmp .ge 45, 3) := by decide +kernel
theorem dX8_valueOf_12 : decode cX8_valueOf 12 = .ok (.aload_n 0, 1) := by decide +kernel
theorem dX8_valueOf_13 : decode cX8_valueOf 13 = .ok (.getfield 22, 3) := by decide +kernel
theorem dX8_valueOf_16 : decode cX8_valueOf 16 = .ok (.iload_n 3, 1) := by decide +kernel
theorem dX8_valueOf_17 : decode cX8_valueOf 17 = .ok (.iaload, 1) := by decide +kernel
theorem dX8_valueOf_18 : decode cX8_valueOf 18 = .ok (.ifCond .le 30, 3) := by decide +kernel
theorem dX8_valueOf_21 : decode cX8_valueOf 21 = .ok (.iload_n 2, 1) := by decide +kernel
theorem dX8_valueOf_22 : decode cX8_valueOf 22 = .ok (.aload_n 0, 1) := by decide +kernel
theorem dX8_valueOf_23 : decode cX8_valueOf 23 = .ok (.getfield 19, 3) := by decide +kernel
theorem dX8_valueOf_26 : decode cX8_valueOf 26 = .ok (.iload_n 3, 1) := by decide +kernel
theorem dX8_valueOf_27 : decode cX8_valueOf 27 = .ok (.iaload, 1) := by decide +kernel
theorem dX8_valueOf_28 : decode cX8_valueOf 28 = .ok (.iload_n 1, 1) := by decide +kernel
theorem dX8_valueOf_29 : decode cX8_valueOf 29 = .ok (.if_icmp .ne 7, 3) := by decide +kernel
theorem dX8_valueOf_32 : decode cX8_valueOf 32 = .ok (.iconst 1, 1) := by decide +kernel
theorem dX8_valueOf_33 : decode cX8_valueOf 33 = .ok (.goto 4, 3) := by decide +kernel
theorem dX8_valueOf_36 : decode cX8_valueOf 36 = .ok (.iconst (-1), 1) := by decide +kernel
theorem dX8_valueOf_37 : decode cX8_valueOf 37 = .ok (.aload_n 0, 1) := by decide +kernel
theorem dX8_valueOf_38 : decode cX8_valueOf 38 = .ok (.iconst 2, 1) := by decide +kernel
theorem dX8_valueOf_39 : decode cX8_valueOf 39 = .ok (.iload_n 3, 1) := by decide +kernel
theorem dX8_valueOf_40 : decode cX8_valueOf 40 = .ok (.bipush 99, 2) := by decide +kernel
theorem dX8_valueOf_42 : decode cX8_valueOf 42 = .ok (.invokevirtual 233, 3) := by decide +kernel
theorem dX8_valueOf_45 : decode cX8_valueOf 45 = .ok (.imul, 1) := by decide +kernel
theorem dX8_valueOf_46 : decode cX8_valueOf 46 = .ok (.iadd, 1) := by decide +kernel
theorem dX8_valueOf_47 : decode cX8_valueOf 47 = .ok (.istore_n 2, 1) := by decide +kernel
theorem dX8_valueOf_48 : decode cX8_valueOf 48 = .ok (.iinc 3 1, 3) := by decide +kernel
theorem dX8_valueOf_51 : decode cX8_valueOf 51 = .ok (.goto (-47), 3) := by decide +kernel
theorem dX8_valueOf_54 : decode cX8_valueOf 54 = .ok (.iload_n 2, 1) := by decide +kernel
theorem dX8_valueOf_55 : decode cX8_valueOf 55 = .ok (.ireturn, 1) := by decide +kernel
theorem dX8_isAsked_0 : decode cX8_isAsked 0 = .ok (.iload_n 1, 1) := by decide +kernel
theorem dX8_isAsked_1 : decode cX8_isAsked 1 = .ok (.iconst 0, 1) := by decide +kernel
theorem dX8_isAsked_2 : decode cX8_isAsked 2 = .ok (.iconst 2, 1) := by decide +kernel
theorem dX8_isAsked_3 : decode cX8_isAsked 3 = .ok (.invokestatic 82, 3) := by decide +kernel
theorem dX8_isAsked_6 : decode cX8_isAsked 6 = .ok (.ifCond .ne 14, 3) := by decide +kernel
theorem dX8_isAsked_9 : decode cX8_isAsked 9 = .ok (.aload_n 0, 1) := by decide +kernel
theorem dX8_isAsked_10 : decode cX8_isAsked 10 = .ok (.iload_n 1, 1) := by decide +kernel
theorem dX8_isAsked_11 : decode cX8_isAsked 11 = .ok (.bipush 10, 2) := by decide +kernel
theorem dX8_isAsked_13 : decode cX8_isAsked 13 = .ok (.isub, 1) := by decide +kernel
theorem dX8_isAsked_14 : decode cX8_isAsked 14 = .ok (.invokevirtual 102, 3) := by decide +kernel
theorem dX8_isAsked_17 : decode cX8_isAsked 17 = .ok (.ifCond .eq 7, 3) := by decide +kernel
theorem dX8_isAsked_20 : decode cX8_isAsked 20 = .ok (.iconst 1, 1) := by decide +kernel
theorem dX8_isAsked_21 : decode cX8_isAsked 21 = .ok (.goto 4, 3) := by decide +kernel
theorem dX8_isAsked_24 : decode cX8_isAsked 24 = .ok (.iconst 0, 1) := by decide +kernel
theorem dX8_isAsked_25 : decode cX8_isAsked 25 = .ok (.ireturn, 1) := by decide +kernel
theorem dX8_asked_0 : decode cX8_asked 0 = .ok (.iload_n 1, 1) := by decide +kernel
theorem dX8_asked_1 : decode cX8_asked 1 = .ok (.ifCond .ne 10, 3) := by decide +kernel
theorem dX8_asked_4 : decode cX8_asked 4 = .ok (.aload_n 0, 1) := by decide +kernel
theorem dX8_asked_5 : decode cX8_asked 5 = .ok (.invokevirtual 239, 3) := by decide +kernel
theorem dX8_asked_8 : decode cX8_asked 8 = .ok (.goto 37, 3) := by decide +kernel
theorem dX8_asked_11 : decode cX8_asked 11 = .ok (.iload_n 1, 1) := by decide +kernel
theorem dX8_asked_12 : decode cX8_asked 12 = .ok (.iconst 1, 1) := by decide +kernel
theorem dX8_asked_13 : decode cX8_asked 13 = .ok (.if_icmp .ne 10, 3) := by decide +kernel
theorem dX8_asked_16 : decode cX8_asked 16 = .ok (.aload_n 0, 1) := by decide +kernel
theorem dX8_asked_17 : decode cX8_asked 17 = .ok (.invokevirtual 252, 3) := by decide +kernel
theorem dX8_asked_20 : decode cX8_asked 20 = .ok (.goto 25, 3) := by decide +kernel
theorem dX8_asked_23 : decode cX8_asked 23 = .ok (.iload_n 1, 1) := by decide +kernel
theorem dX8_asked_24 : decode cX8_asked 24 = .ok (.iconst 2, 1) := by decide +kernel
theorem dX8_asked_25 : decode cX8_asked 25 = .ok (.if_icmp .ne 11, 3) := by decide +kernel
theorem dX8_asked_28 : decode cX8_asked 28 = .ok (.aload_n 0, 1) := by decide +kernel
theorem dX8_asked_29 : decode cX8_asked 29 = .ok (.iconst 0, 1) := by decide +kernel
theorem dX8_asked_30 : decode cX8_asked 30 = .ok (.invokevirtual 255, 3) := by decide +kernel
theorem dX8_asked_33 : decode cX8_asked 33 = .ok (.goto 12, 3) := by decide +kernel
theorem dX8_asked_36 : decode cX8_asked 36 = .ok (.aload_n 0, 1) := by decide +kernel
theorem dX8_asked_37 : decode cX8_asked 37 = .ok (.getfield 22, 3) := by decide +kernel
theorem dX8_asked_40 : decode cX8_asked 40 = .ok (.iload_n 1, 1) := by decide +kernel
theorem dX8_asked_41 : decode cX8_asked 41 = .ok (.bipush 10, 2) := by decide +kernel
theorem dX8_asked_43 : decode cX8_asked 43 = .ok (.isub, 1) := by decide +kernel
theorem dX8_asked_44 : decode cX8_asked 44 = .ok (.iaload, 1) := by decide +kernel
theorem dX8_asked_45 : decode cX8_asked 45 = .ok (.ireturn, 1) := by decide +kernel
theorem dX8_run_0 : decode cX8_run 0 = .ok (.iload_n 1, 1) := by decide +kernel
theorem dX8_run_1 : decode cX8_run 1 = .ok (.invokestatic 258, 3) := by decide +kernel
theorem dX8_run_4 : decode cX8_run 4 = .ok (.ifCond .eq 11, 3) := by decide +kernel
theorem dX8_run_7 : decode cX8_run 7 = .ok (.aload_n 0, 1) := by decide +kernel
theorem dX8_run_8 : decode cX8_run 8 = .ok (.iload_n 2, 1) := by decide +kernel
theorem dX8_run_9 : decode cX8_run 9 = .ok (.invokevirtual 261, 3) := by decide +kernel
theorem dX8_run_12 : decode cX8_run 12 = .ok (.ifCond .ne 7, 3) := by decide +kernel
theorem dX8_run_15 : decode cX8_run 15 = .ok (.ldc_w 264, 3) := by decide +kernel
theorem dX8_run_18 : decode cX8_run 18 = .ok (.ireturn, 1) := by decide +kernel
theorem dX8_run_19 : decode cX8_run 19 = .ok (.aload_n 0, 1) := by decide +kernel
theorem dX8_run_20 : decode cX8_run 20 = .ok (.invokevirtual 265, 3) := by decide +kernel
theorem dX8_run_23 : decode cX8_run 23 = .ok (.aload_n 0, 1) := by decide +kernel
theorem dX8_run_24 : decode cX8_run 24 = .ok (.iload_n 1, 1) := by decide +kernel
theorem dX8_run_25 : decode cX8_run 25 = .ok (.invokevirtual 268, 3) := by decide +kernel
theorem dX8_run_28 : decode cX8_run 28 = .ok (.aload_n 0, 1) := by decide +kernel
theorem dX8_run_29 : decode cX8_run 29 = .ok (.iload_n 2, 1) := by decide +kernel
theorem dX8_run_30 : decode cX8_run 30 = .ok (.invokevirtual 271, 3) := by decide +kernel
theorem dX8_run_33 : decode cX8_run 33 = .ok (.istore_n 3, 1) := by decide +kernel
theorem dX8_run_34 : decode cX8_run 34 = .ok (.aload_n 0, 1) := by decide +kernel
theorem dX8_run_35 : decode cX8_run 35 = .ok (.invokevirtual 274, 3) := by decide +kernel
theorem dX8_run_38 : decode cX8_run 38 = .ok (.iload_n 3, 1) := by decide +kernel
theorem dX8_run_39 : decode cX8_run 39 = .ok (.ireturn, 1) := by decide +kernel
theorem dX8_plan_0 : decode cX8_plan 0 = .ok (.iload_n 1, 1) := by decide +kernel
theorem dX8_plan_1 : decode cX8_plan 1 = .ok (.invokestatic 277, 3) := by decide +kernel
theorem dX8_plan_4 : decode cX8_plan 4 = .ok (.ifCond .eq 20, 3) := by decide +kernel
theorem dX8_plan_7 : decode cX8_plan 7 = .ok (.aload_n 0, 1) := by decide +kernel
theorem dX8_plan_8 : decode cX8_plan 8 = .ok (.iload_n 2, 1) := by decide +kernel
theorem dX8_plan_9 : decode cX8_plan 9 = .ok (.invokevirtual 261, 3) := by decide +kernel
theorem dX8_plan_12 : decode cX8_plan 12 = .ok (.ifCond .eq 12, 3) := by decide +kernel
theorem dX8_plan_15 : decode cX8_plan 15 = .ok (.aload_n 0, 1) := by decide +kernel
theorem dX8_plan_16 : decode cX8_plan 16 = .ok (.getfield 52, 3) := by decide +kernel
theorem dX8_plan_19 : decode cX8_plan 19 = .ok (.iload_n 1, 1) := by decide +kernel
theorem dX8_plan_20 : decode cX8_plan 20 = .ok (.iaload, 1) := by decide +kernel
theorem dX8_plan_21 : decode cX8_plan 21 = .ok (.ifCond .ge 7, 3) := by decide +kernel
theorem dX8_plan_24 : decode cX8_plan 24 = .ok (.ldc_w 264, 3) := by decide +kernel
theorem dX8_plan_27 : decode cX8_plan 27 = .ok (.ireturn, 1) := by decide +kernel
theorem dX8_plan_28 : decode cX8_plan 28 = .ok (.iconst 0, 1) := by decide +kernel
theorem dX8_plan_29 : decode cX8_plan 29 = .ok (.istore_n 3, 1) := by decide +kernel
theorem dX8_plan_30 : decode cX8_plan 30 = .ok (.iload_n 3, 1) := by decide +kernel
theorem dX8_plan_31 : decode cX8_plan 31 = .ok (.aload_n 0, 1) := by decide +kernel
theorem dX8_plan_32 : decode cX8_plan 32 = .ok (.getfield 55, 3) := by decide +kernel
theorem dX8_plan_35 : decode cX8_plan 35 = .ok (.iload_n 1, 1) := by decide +kernel
theorem dX8_plan_36 : decode cX8_plan 36 = .ok (.iaload, 1) := by decide +kernel
theorem dX8_plan_37 : decode cX8_plan 37 = .ok (.if_icmp .ge 37, 3) := by decide +kernel
theorem dX8_plan_40 : decode cX8_plan 40 = .ok (.aload_n 0, 1) := by decide +kernel
theorem dX8_plan_41 : decode cX8_plan 41 = .ok (.getfield 58, 3) := by decide +kernel
theorem dX8_plan_44 : decode cX8_plan 44 = .ok (.bipush 40, 2) := by decide +kernel
theorem dX8_plan_46 : decode cX8_plan 46 = .ok (.iload_n 1, 1) := by decide +kernel
theorem dX8_plan_47 : decode cX8_plan 47 = .ok (.imul, 1) := by decide +kernel
theorem dX8_plan_48 : decode cX8_plan 48 = .ok (.iload_n 3, 1) := by decide +kernel
theorem dX8_plan_49 : decode cX8_plan 49 = .ok (.iadd, 1) := by decide +kernel
theorem dX8_plan_50 : decode cX8_plan 50 = .ok (.iaload, 1) := by decide +kernel
theorem dX8_plan_51 : decode cX8_plan 51 = .ok (.iconst (-1), 1) := by decide +kernel
theorem dX8_plan_52 : decode cX8_plan 52 = .ok (.aload_n 0, 1) := by decide +kernel
theorem dX8_plan_53 : decode cX8_plan 53 = .ok (.getfield 79, 3) := by decide +kernel
theorem dX8_plan_56 : decode cX8_plan 56 = .ok (.iconst 1, 1) := by decide +kernel
theorem dX8_plan_57 : decode cX8_plan 57 = .ok (.isub, 1) := by decide +kernel
theorem dX8_plan_58 : decode cX8_plan 58 = .ok (.invokestatic 82, 3) := by decide +kernel
theorem dX8_plan_61 : decode cX8_plan 61 = .ok (.ifCond .ne 7, 3) := by decide +kernel
theorem dX8_plan_64 : decode cX8_plan 64 = .ok (.ldc_w 264, 3) := by decide +kernel
theorem dX8_plan_67 : decode cX8_plan 67 = .ok (.ireturn, 1) := by decide +kernel
theorem dX8_plan_68 : decode cX8_plan 68 = .ok (.iinc 3 1, 3) := by decide +kernel
theorem dX8_plan_71 : decode cX8_plan 71 = .ok (.goto (-41), 3) := by decide +kernel
theorem dX8_plan_74 : decode cX8_plan 74 = .ok (.aload_n 0, 1) := by decide +kernel
theorem dX8_plan_75 : decode cX8_plan 75 = .ok (.invokevirtual 265, 3) := by decide +kernel
theorem dX8_plan_78 : decode cX8_plan 78 = .ok (.iconst 0, 1) := by decide +kernel
theorem dX8_plan_79 : decode cX8_plan 79 = .ok (.istore_n 3, 1) := by decide +kernel
theorem dX8_plan_80 : decode cX8_plan 80 = .ok (.iload_n 3, 1) := by decide +kernel
theorem dX8_plan_81 : decode cX8_plan 81 = .ok (.aload_n 0, 1) := by decide +kernel
theorem dX8_plan_82 : decode cX8_plan 82 = .ok (.getfield 55, 3) := by decide +kernel
theorem dX8_plan_85 : decode cX8_plan 85 = .ok (.iload_n 1, 1) := by decide +kernel
theorem dX8_plan_86 : decode cX8_plan 86 = .ok (.iaload, 1) := by decide +kernel
theorem dX8_plan_87 : decode cX8_plan 87 = .ok (.if_icmp .ge 38, 3) := by decide +kernel
theorem dX8_plan_90 : decode cX8_plan 90 = .ok (.aload_n 0, 1) := by decide +kernel
theorem dX8_plan_91 : decode cX8_plan 91 = .ok (.getfield 58, 3) := by decide +kernel
theorem dX8_plan_94 : decode cX8_plan 94 = .ok (.bipush 40, 2) := by decide +kernel
theorem dX8_plan_96 : decode cX8_plan 96 = .ok (.iload_n 1, 1) := by decide +kernel
theorem dX8_plan_97 : decode cX8_plan 97 = .ok (.imul, 1) := by decide +kernel
theorem dX8_plan_98 : decode cX8_plan 98 = .ok (.iload_n 3, 1) := by decide +kernel
theorem dX8_plan_99 : decode cX8_plan 99 = .ok (.iadd, 1) := by decide +kernel
theorem dX8_plan_100 : decode cX8_plan 100 = .ok (.iaload, 1) := by decide +kernel
theorem dX8_plan_101 : decode cX8_plan 101 = .ok (.istore 4, 2) := by decide +kernel
theorem dX8_plan_103 : decode cX8_plan 103 = .ok (.iload 4, 2) := by decide +kernel
theorem dX8_plan_105 : decode cX8_plan 105 = .ok (.iconst (-1), 1) := by decide +kernel
theorem dX8_plan_106 : decode cX8_plan 106 = .ok (.if_icmp .eq 9, 3) := by decide +kernel
theorem dX8_plan_109 : decode cX8_plan 109 = .ok (.aload_n 0, 1) := by decide +kernel
theorem dX8_plan_110 : decode cX8_plan 110 = .ok (.iload 4, 2) := by decide +kernel
theorem dX8_plan_112 : decode cX8_plan 112 = .ok (.invokevirtual 242, 3) := by decide +kernel
theorem dX8_plan_115 : decode cX8_plan 115 = .ok (.aload_n 0, 1) := by decide +kernel
theorem dX8_plan_116 : decode cX8_plan 116 = .ok (.invokevirtual 236, 3) := by decide +kernel
theorem dX8_plan_119 : decode cX8_plan 119 = .ok (.iinc 3 1, 3) := by decide +kernel
theorem dX8_plan_122 : decode cX8_plan 122 = .ok (.goto (-42), 3) := by decide +kernel
theorem dX8_plan_125 : decode cX8_plan 125 = .ok (.aload_n 0, 1) := by decide +kernel
theorem dX8_plan_126 : decode cX8_plan 126 = .ok (.iload_n 2, 1) := by decide +kernel
theorem dX8_plan_127 : decode cX8_plan 127 = .ok (.invokevirtual 271, 3) := by decide +kernel
theorem dX8_plan_130 : decode cX8_plan 130 = .ok (.istore_n 3, 1) := by decide +kernel
theorem dX8_plan_131 : decode cX8_plan 131 = .ok (.aload_n 0, 1) := by decide +kernel
theorem dX8_plan_132 : decode cX8_plan 132 = .ok (.invokevirtual 274, 3) := by decide +kernel
theorem dX8_plan_135 : decode cX8_plan 135 = .ok (.iload_n 3, 1) := by decide +kernel
theorem dX8_plan_136 : decode cX8_plan 136 = .ok (.ireturn, 1) := by decide +kernel
theorem dX8_heightBehind_0 : decode cX8_heightBehind 0 = .ok (.aload_n 0, 1) := by decide +kernel
theorem dX8_heightBehind_1 : decode cX8_heightBehind 1 = .ok (.invokevirtual 265, 3) := by decide +kernel
theorem dX8_heightBehind_4 : decode cX8_heightBehind 4 = .ok (.aload_n 0, 1) := by decide +kernel
theorem dX8_heightBehind_5 : decode cX8_heightBehind 5 = .ok (.iload_n 2, 1) := by decide +kernel
theorem dX8_heightBehind_6 : decode cX8_heightBehind 6 = .ok (.invokevirtual 268, 3) := by decide +kernel
theorem dX8_heightBehind_9 : decode cX8_heightBehind 9 = .ok (.aload_n 0, 1) := by decide +kernel
theorem dX8_heightBehind_10 : decode cX8_heightBehind 10 = .ok (.getfield 22, 3) := by decide +kernel
theorem dX8_heightBehind_13 : decode cX8_heightBehind 13 = .ok (.iload_n 1, 1) := by decide +kernel
theorem dX8_heightBehind_14 : decode cX8_heightBehind 14 = .ok (.iaload, 1) := by decide +kernel
theorem dX8_heightBehind_15 : decode cX8_heightBehind 15 = .ok (.istore_n 3, 1) := by decide +kernel
theorem dX8_heightBehind_16 : decode cX8_heightBehind 16 = .ok (.aload_n 0, 1) := by decide +kernel
theorem dX8_heightBehind_17 : decode cX8_heightBehind 17 = .ok (.invokevirtual 274, 3) := by decide +kernel
theorem dX8_heightBehind_20 : decode cX8_heightBehind 20 = .ok (.iload_n 3, 1) := by decide +kernel
theorem dX8_heightBehind_21 : decode cX8_heightBehind 21 = .ok (.ireturn, 1) := by decide +kernel
theorem dX8_valueBehind_0 : decode cX8_valueBehind 0 = .ok (.aload_n 0, 1) := by decide +kernel
theorem dX8_valueBehind_1 : decode cX8_valueBehind 1 = .ok (.invokevirtual 265, 3) := by decide +kernel
theorem dX8_valueBehind_4 : decode cX8_valueBehind 4 = .ok (.aload_n 0, 1) := by decide +kernel
theorem dX8_valueBehind_5 : decode cX8_valueBehind 5 = .ok (.iload_n 2, 1) := by decide +kernel
theorem dX8_valueBehind_6 : decode cX8_valueBehind 6 = .ok (.invokevirtual 268, 3) := by decide +kernel
theorem dX8_valueBehind_9 : decode cX8_valueBehind 9 = .ok (.aload_n 0, 1) := by decide +kernel
theorem dX8_valueBehind_10 : decode cX8_valueBehind 10 = .ok (.iload_n 1, 1) := by decide +kernel
theorem dX8_valueBehind_11 : decode cX8_valueBehind 11 = .ok (.invokevirtual 255, 3) := by decide +kernel
theorem dX8_valueBehind_14 : decode cX8_valueBehind 14 = .ok (.istore_n 3, 1) := by decide +kernel
theorem dX8_valueBehind_15 : decode cX8_valueBehind 15 = .ok (.aload_n 0, 1) := by decide +kernel
theorem dX8_valueBehind_16 : decode cX8_valueBehind 16 = .ok (.invokevirtual 274, 3) := by decide +kernel
theorem dX8_valueBehind_19 : decode cX8_valueBehind 19 = .ok (.iload_n 3, 1) := by decide +kernel
theorem dX8_valueBehind_20 : decode cX8_valueBehind 20 = .ok (.ireturn, 1) := by decide +kernel
theorem dX8_keeps_0 : decode cX8_keeps 0 = .ok (.aload_n 0, 1) := by decide +kernel
theorem dX8_keeps_1 : decode cX8_keeps 1 = .ok (.iload_n 1, 1) := by decide +kernel
theorem dX8_keeps_2 : decode cX8_keeps 2 = .ok (.invokevirtual 102, 3) := by decide +kernel
theorem dX8_keeps_5 : decode cX8_keeps 5 = .ok (.ifCond .eq 10, 3) := by decide +kernel
theorem dX8_keeps_8 : decode cX8_keeps 8 = .ok (.iload_n 2, 1) := by decide +kernel
theorem dX8_keeps_9 : decode cX8_keeps 9 = .ok (.invokestatic 258, 3) := by decide +kernel
theorem dX8_keeps_12 : decode cX8_keeps 12 = .ok (.ifCond .ne 6, 3) := by decide +kernel
theorem dX8_keeps_15 : decode cX8_keeps 15 = .ok (.bipush (-2), 2) := by decide +kernel
theorem dX8_keeps_17 : decode cX8_keeps 17 = .ok (.ireturn, 1) := by decide +kernel
theorem dX8_keeps_18 : decode cX8_keeps 18 = .ok (.aload_n 0, 1) := by decide +kernel
theorem dX8_keeps_19 : decode cX8_keeps 19 = .ok (.getfield 22, 3) := by decide +kernel
theorem dX8_keeps_22 : decode cX8_keeps 22 = .ok (.iload_n 1, 1) := by decide +kernel
theorem dX8_keeps_23 : decode cX8_keeps 23 = .ok (.iaload, 1) := by decide +kernel
theorem dX8_keeps_24 : decode cX8_keeps 24 = .ok (.istore_n 3, 1) := by decide +kernel
theorem dX8_keeps_25 : decode cX8_keeps 25 = .ok (.iconst (-1), 1) := by decide +kernel
theorem dX8_keeps_26 : decode cX8_keeps 26 = .ok (.istore 4, 2) := by decide +kernel
theorem dX8_keeps_28 : decode cX8_keeps 28 = .ok (.bipush 99, 2) := by decide +kernel
theorem dX8_keeps_30 : decode cX8_keeps 30 = .ok (.iload_n 3, 1) := by decide +kernel
theorem dX8_keeps_31 : decode cX8_keeps 31 = .ok (.isub, 1) := by decide +kernel
theorem dX8_keeps_32 : decode cX8_keeps 32 = .ok (.istore 5, 2) := by decide +kernel
theorem dX8_keeps_34 : decode cX8_keeps 34 = .ok (.iload 5, 2) := by decide +kernel
theorem dX8_keeps_36 : decode cX8_keeps 36 = .ok (.ifCond .lt 32, 3) := by decide +kernel
theorem dX8_keeps_39 : decode cX8_keeps 39 = .ok (.aload_n 0, 1) := by decide +kernel
theorem dX8_keeps_40 : decode cX8_keeps 40 = .ok (.getfield 22, 3) := by decide +kernel
theorem dX8_keeps_43 : decode cX8_keeps 43 = .ok (.iload_n 1, 1) := by decide +kernel
theorem dX8_keeps_44 : decode cX8_keeps 44 = .ok (.iload_n 3, 1) := by decide +kernel
theorem dX8_keeps_45 : decode cX8_keeps 45 = .ok (.iload 5, 2) := by decide +kernel
theorem dX8_keeps_47 : decode cX8_keeps 47 = .ok (.iadd, 1) := by decide +kernel
theorem dX8_keeps_48 : decode cX8_keeps 48 = .ok (.iastore, 1) := by decide +kernel
theorem dX8_keeps_49 : decode cX8_keeps 49 = .ok (.aload_n 0, 1) := by decide +kernel
theorem dX8_keeps_50 : decode cX8_keeps 50 = .ok (.iload_n 1, 1) := by decide +kernel
theorem dX8_keeps_51 : decode cX8_keeps 51 = .ok (.iload_n 2, 1) := by decide +kernel
theorem dX8_keeps_52 : decode cX8_keeps 52 = .ok (.invokevirtual 280, 3) := by decide +kernel
theorem dX8_keeps_55 : decode cX8_keeps 55 = .ok (.ifCond .le 7, 3) := by decide +kernel
theorem dX8_keeps_58 : decode cX8_keeps 58 = .ok (.iload 5, 2) := by decide +kernel
theorem dX8_keeps_60 : decode cX8_keeps 60 = .ok (.istore 4, 2) := by decide +kernel
theorem dX8_keeps_62 : decode cX8_keeps 62 = .ok (.iinc 5 (-1), 3) := by decide +kernel
theorem dX8_keeps_65 : decode cX8_keeps 65 = .ok (.goto (-31), 3) := by decide +kernel
theorem dX8_keeps_68 : decode cX8_keeps 68 = .ok (.aload_n 0, 1) := by decide +kernel
theorem dX8_keeps_69 : decode cX8_keeps 69 = .ok (.getfield 22, 3) := by decide +kernel
theorem dX8_keeps_72 : decode cX8_keeps 72 = .ok (.iload_n 1, 1) := by decide +kernel
theorem dX8_keeps_73 : decode cX8_keeps 73 = .ok (.iload_n 3, 1) := by decide +kernel
theorem dX8_keeps_74 : decode cX8_keeps 74 = .ok (.iastore, 1) := by decide +kernel
theorem dX8_keeps_75 : decode cX8_keeps 75 = .ok (.iload 4, 2) := by decide +kernel
theorem dX8_keeps_77 : decode cX8_keeps 77 = .ok (.ireturn, 1) := by decide +kernel
theorem dX8_best_0 : decode cX8_best 0 = .ok (.aload_n 0, 1) := by decide +kernel
theorem dX8_best_1 : decode cX8_best 1 = .ok (.iload_n 1, 1) := by decide +kernel
theorem dX8_best_2 : decode cX8_best 2 = .ok (.invokevirtual 102, 3) := by decide +kernel
theorem dX8_best_5 : decode cX8_best 5 = .ok (.ifCond .eq 19, 3) := by decide +kernel
theorem dX8_best_8 : decode cX8_best 8 = .ok (.iload_n 2, 1) := by decide +kernel
theorem dX8_best_9 : decode cX8_best 9 = .ok (.invokestatic 258, 3) := by decide +kernel
theorem dX8_best_12 : decode cX8_best 12 = .ok (.ifCond .eq 12, 3) := by decide +kernel
theorem dX8_best_15 : decode cX8_best 15 = .ok (.iload_n 3, 1) := by decide +kernel
theorem dX8_best_16 : decode cX8_best 16 = .ok (.iconst 0, 1) := by decide +kernel
theorem dX8_best_17 : decode cX8_best 17 = .ok (.iconst 1, 1) := by decide +kernel
theorem dX8_best_18 : decode cX8_best 18 = .ok (.invokestatic 82, 3) := by decide +kernel
theorem dX8_best_21 : decode cX8_best 21 = .ok (.ifCond .ne 6, 3) := by decide +kernel
theorem dX8_best_24 : decode cX8_best 24 = .ok (.bipush (-2), 2) := by decide +kernel
theorem dX8_best_26 : decode cX8_best 26 = .ok (.ireturn, 1) := by decide +kernel
theorem dX8_best_27 : decode cX8_best 27 = .ok (.aload_n 0, 1) := by decide +kernel
theorem dX8_best_28 : decode cX8_best 28 = .ok (.getfield 16, 3) := by decide +kernel
theorem dX8_best_31 : decode cX8_best 31 = .ok (.iload_n 1, 1) := by decide +kernel
theorem dX8_best_32 : decode cX8_best 32 = .ok (.iaload, 1) := by decide +kernel
theorem dX8_best_33 : decode cX8_best 33 = .ok (.istore 4, 2) := by decide +kernel
theorem dX8_best_35 : decode cX8_best 35 = .ok (.iconst 0, 1) := by decide +kernel
theorem dX8_best_36 : decode cX8_best 36 = .ok (.istore 5, 2) := by decide +kernel
theorem dX8_best_38 : decode cX8_best 38 = .ok (.iconst (-1), 1) := by decide +kernel
theorem dX8_best_39 : decode cX8_best 39 = .ok (.istore 6, 2) := by decide +kernel
theorem dX8_best_41 : decode cX8_best 41 = .ok (.iconst 0, 1) := by decide +kernel
theorem dX8_best_42 : decode cX8_best 42 = .ok (.istore 7, 2) := by decide +kernel
theorem dX8_best_44 : decode cX8_best 44 = .ok (.iload 7, 2) := by decide +kernel
theorem dX8_best_46 : decode cX8_best 46 = .ok (.bipush 16, 2) := by decide +kernel
theorem dX8_best_48 : decode cX8_best 48 = .ok (.if_icmp .ge 43, 3) := by decide +kernel
theorem dX8_best_51 : decode cX8_best 51 = .ok (.aload_n 0, 1) := by decide +kernel
theorem dX8_best_52 : decode cX8_best 52 = .ok (.getfield 16, 3) := by decide +kernel
theorem dX8_best_55 : decode cX8_best 55 = .ok (.iload_n 1, 1) := by decide +kernel
theorem dX8_best_56 : decode cX8_best 56 = .ok (.iload 7, 2) := by decide +kernel
theorem dX8_best_58 : decode cX8_best 58 = .ok (.iastore, 1) := by decide +kernel
theorem dX8_best_59 : decode cX8_best 59 = .ok (.aload_n 0, 1) := by decide +kernel
theorem dX8_best_60 : decode cX8_best 60 = .ok (.iload_n 1, 1) := by decide +kernel
theorem dX8_best_61 : decode cX8_best 61 = .ok (.iload_n 2, 1) := by decide +kernel
theorem dX8_best_62 : decode cX8_best 62 = .ok (.invokevirtual 280, 3) := by decide +kernel
theorem dX8_best_65 : decode cX8_best 65 = .ok (.istore 8, 2) := by decide +kernel
theorem dX8_best_67 : decode cX8_best 67 = .ok (.iload 8, 2) := by decide +kernel
theorem dX8_best_69 : decode cX8_best 69 = .ok (.iload 6, 2) := by decide +kernel
theorem dX8_best_71 : decode cX8_best 71 = .ok (.if_icmp .gt 6, 3) := by decide +kernel
theorem dX8_best_74 : decode cX8_best 74 = .ok (.goto 11, 3) := by decide +kernel
theorem dX8_best_77 : decode cX8_best 77 = .ok (.iload 8, 2) := by decide +kernel
theorem dX8_best_79 : decode cX8_best 79 = .ok (.istore 6, 2) := by decide +kernel
theorem dX8_best_81 : decode cX8_best 81 = .ok (.iload 7, 2) := by decide +kernel
theorem dX8_best_83 : decode cX8_best 83 = .ok (.istore 5, 2) := by decide +kernel
theorem dX8_best_85 : decode cX8_best 85 = .ok (.iinc 7 1, 3) := by decide +kernel
theorem dX8_best_88 : decode cX8_best 88 = .ok (.goto (-44), 3) := by decide +kernel
theorem dX8_best_91 : decode cX8_best 91 = .ok (.aload_n 0, 1) := by decide +kernel
theorem dX8_best_92 : decode cX8_best 92 = .ok (.getfield 16, 3) := by decide +kernel
theorem dX8_best_95 : decode cX8_best 95 = .ok (.iload_n 1, 1) := by decide +kernel
theorem dX8_best_96 : decode cX8_best 96 = .ok (.iload 4, 2) := by decide +kernel
theorem dX8_best_98 : decode cX8_best 98 = .ok (.iastore, 1) := by decide +kernel
theorem dX8_best_99 : decode cX8_best 99 = .ok (.iload_n 3, 1) := by decide +kernel
theorem dX8_best_100 : decode cX8_best 100 = .ok (.ifCond .ne 8, 3) := by decide +kernel
theorem dX8_best_103 : decode cX8_best 103 = .ok (.iload 5, 2) := by decide +kernel
theorem dX8_best_105 : decode cX8_best 105 = .ok (.goto 5, 3) := by decide +kernel
theorem dX8_best_108 : decode cX8_best 108 = .ok (.iload 6, 2) := by decide +kernel
theorem dX8_best_110 : decode cX8_best 110 = .ok (.ireturn, 1) := by decide +kernel
theorem dX8_matters_0 : decode cX8_matters 0 = .ok (.aload_n 0, 1) := by decide +kernel
theorem dX8_matters_1 : decode cX8_matters 1 = .ok (.iload_n 1, 1) := by decide +kernel
theorem dX8_matters_2 : decode cX8_matters 2 = .ok (.invokevirtual 102, 3) := by decide +kernel
theorem dX8_matters_5 : decode cX8_matters 5 = .ok (.ifCond .eq 19, 3) := by decide +kernel
theorem dX8_matters_8 : decode cX8_matters 8 = .ok (.iload_n 2, 1) := by decide +kernel
theorem dX8_matters_9 : decode cX8_matters 9 = .ok (.invokestatic 258, 3) := by decide +kernel
theorem dX8_matters_12 : decode cX8_matters 12 = .ok (.ifCond .eq 12, 3) := by decide +kernel
theorem dX8_matters_15 : decode cX8_matters 15 = .ok (.iload_n 3, 1) := by decide +kernel
theorem dX8_matters_16 : decode cX8_matters 16 = .ok (.iconst 0, 1) := by decide +kernel
theorem dX8_matters_17 : decode cX8_matters 17 = .ok (.iconst 1, 1) := by decide +kernel
theorem dX8_matters_18 : decode cX8_matters 18 = .ok (.invokestatic 82, 3) := by decide +kernel
theorem dX8_matters_21 : decode cX8_matters 21 = .ok (.ifCond .ne 6, 3) := by decide +kernel
theorem dX8_matters_24 : decode cX8_matters 24 = .ok (.bipush (-2), 2) := by decide +kernel
theorem dX8_matters_26 : decode cX8_matters 26 = .ok (.ireturn, 1) := by decide +kernel
theorem dX8_matters_27 : decode cX8_matters 27 = .ok (.iconst (-1), 1) := by decide +kernel
theorem dX8_matters_28 : decode cX8_matters 28 = .ok (.istore 4, 2) := by decide +kernel
theorem dX8_matters_30 : decode cX8_matters 30 = .ok (.aload_n 0, 1) := by decide +kernel
theorem dX8_matters_31 : decode cX8_matters 31 = .ok (.iload_n 1, 1) := by decide +kernel
theorem dX8_matters_32 : decode cX8_matters 32 = .ok (.iload_n 2, 1) := by decide +kernel
theorem dX8_matters_33 : decode cX8_matters 33 = .ok (.invokevirtual 280, 3) := by decide +kernel
theorem dX8_matters_36 : decode cX8_matters 36 = .ok (.istore 5, 2) := by decide +kernel
theorem dX8_matters_38 : decode cX8_matters 38 = .ok (.iconst 0, 1) := by decide +kernel
theorem dX8_matters_39 : decode cX8_matters 39 = .ok (.istore 6, 2) := by decide +kernel
theorem dX8_matters_41 : decode cX8_matters 41 = .ok (.iload 6, 2) := by decide +kernel
theorem dX8_matters_43 : decode cX8_matters 43 = .ok (.aload_n 0, 1) := by decide +kernel
theorem dX8_matters_44 : decode cX8_matters 44 = .ok (.getfield 79, 3) := by decide +kernel
theorem dX8_matters_47 : decode cX8_matters 47 = .ok (.if_icmp .ge 86, 3) := by decide +kernel
theorem dX8_matters_50 : decode cX8_matters 50 = .ok (.iload 6, 2) := by decide +kernel
theorem dX8_matters_52 : decode cX8_matters 52 = .ok (.iload_n 1, 1) := by decide +kernel
theorem dX8_matters_53 : decode cX8_matters 53 = .ok (.if_icmp .eq 74, 3) := by decide +kernel
theorem dX8_matters_56 : decode cX8_matters 56 = .ok (.aload_n 0, 1) := by decide +kernel
theorem dX8_matters_57 : decode cX8_matters 57 = .ok (.getfield 19, 3) := by decide +kernel
theorem dX8_matters_60 : decode cX8_matters 60 = .ok (.iload 6, 2) := by decide +kernel
theorem dX8_matters_62 : decode cX8_matters 62 = .ok (.iaload, 1) := by decide +kernel
theorem dX8_matters_63 : decode cX8_matters 63 = .ok (.aload_n 0, 1) := by decide +kernel
theorem dX8_matters_64 : decode cX8_matters 64 = .ok (.getfield 19, 3) := by decide +kernel
theorem dX8_matters_67 : decode cX8_matters 67 = .ok (.iload_n 1, 1) := by decide +kernel
theorem dX8_matters_68 : decode cX8_matters 68 = .ok (.iaload, 1) := by decide +kernel
theorem dX8_matters_69 : decode cX8_matters 69 = .ok (.if_icmp .eq 6, 3) := by decide +kernel
theorem dX8_matters_72 : decode cX8_matters 72 = .ok (.goto 55, 3) := by decide +kernel
theorem dX8_matters_75 : decode cX8_matters 75 = .ok (.aload_n 0, 1) := by decide +kernel
theorem dX8_matters_76 : decode cX8_matters 76 = .ok (.getfield 22, 3) := by decide +kernel
theorem dX8_matters_79 : decode cX8_matters 79 = .ok (.iload 6, 2) := by decide +kernel
theorem dX8_matters_81 : decode cX8_matters 81 = .ok (.iaload, 1) := by decide +kernel
theorem dX8_matters_82 : decode cX8_matters 82 = .ok (.istore 7, 2) := by decide +kernel
theorem dX8_matters_84 : decode cX8_matters 84 = .ok (.aload_n 0, 1) := by decide +kernel
theorem dX8_matters_85 : decode cX8_matters 85 = .ok (.getfield 22, 3) := by decide +kernel
theorem dX8_matters_88 : decode cX8_matters 88 = .ok (.iload 6, 2) := by decide +kernel
theorem dX8_matters_90 : decode cX8_matters 90 = .ok (.iconst 0, 1) := by decide +kernel
theorem dX8_matters_91 : decode cX8_matters 91 = .ok (.iastore, 1) := by decide +kernel
theorem dX8_matters_92 : decode cX8_matters 92 = .ok (.aload_n 0, 1) := by decide +kernel
theorem dX8_matters_93 : decode cX8_matters 93 = .ok (.iload_n 1, 1) := by decide +kernel
theorem dX8_matters_94 : decode cX8_matters 94 = .ok (.iload_n 2, 1) := by decide +kernel
theorem dX8_matters_95 : decode cX8_matters 95 = .ok (.invokevirtual 280, 3) := by decide +kernel
theorem dX8_matters_98 : decode cX8_matters 98 = .ok (.istore 8, 2) := by decide +kernel
theorem dX8_matters_100 : decode cX8_matters 100 = .ok (.aload_n 0, 1) := by decide +kernel
theorem dX8_matters_101 : decode cX8_matters 101 = .ok (.getfield 22, 3) := by decide +kernel
theorem dX8_matters_104 : decode cX8_matters 104 = .ok (.iload 6, 2) := by decide +kernel
theorem dX8_matters_106 : decode cX8_matters 106 = .ok (.iload 7, 2) := by decide +kernel
theorem dX8_matters_108 : decode cX8_matters 108 = .ok (.iastore, 1) := by decide +kernel
theorem dX8_matters_109 : decode cX8_matters 109 = .ok (.iload 8, 2) := by decide +kernel
theorem dX8_matters_111 : decode cX8_matters 111 = .ok (.iload 5, 2) := by decide +kernel
theorem dX8_matters_113 : decode cX8_matters 113 = .ok (.if_icmp .lt 6, 3) := by decide +kernel
theorem dX8_matters_116 : decode cX8_matters 116 = .ok (.goto 11, 3) := by decide +kernel
theorem dX8_matters_119 : decode cX8_matters 119 = .ok (.iload 8, 2) := by decide +kernel
theorem dX8_matters_121 : decode cX8_matters 121 = .ok (.istore 5, 2) := by decide +kernel
theorem dX8_matters_123 : decode cX8_matters 123 = .ok (.iload 6, 2) := by decide +kernel
theorem dX8_matters_125 : decode cX8_matters 125 = .ok (.istore 4, 2) := by decide +kernel
theorem dX8_matters_127 : decode cX8_matters 127 = .ok (.iinc 6 1, 3) := by decide +kernel
theorem dX8_matters_130 : decode cX8_matters 130 = .ok (.goto (-89), 3) := by decide +kernel
theorem dX8_matters_133 : decode cX8_matters 133 = .ok (.iload_n 3, 1) := by decide +kernel
theorem dX8_matters_134 : decode cX8_matters 134 = .ok (.ifCond .ne 8, 3) := by decide +kernel
theorem dX8_matters_137 : decode cX8_matters 137 = .ok (.iload 4, 2) := by decide +kernel
theorem dX8_matters_139 : decode cX8_matters 139 = .ok (.goto 5, 3) := by decide +kernel
theorem dX8_matters_142 : decode cX8_matters 142 = .ok (.iload 5, 2) := by decide +kernel
theorem dX8_matters_144 : decode cX8_matters 144 = .ok (.ireturn, 1) := by decide +kernel
theorem dX8_wish_0 : decode cX8_wish 0 = .ok (.iload_n 1, 1) := by decide +kernel
theorem dX8_wish_1 : decode cX8_wish 1 = .ok (.iconst 0, 1) := by decide +kernel
theorem dX8_wish_2 : decode cX8_wish 2 = .ok (.iconst 1, 1) := by decide +kernel
theorem dX8_wish_3 : decode cX8_wish 3 = .ok (.invokestatic 82, 3) := by decide +kernel
theorem dX8_wish_6 : decode cX8_wish 6 = .ok (.ifCond .eq 19, 3) := by decide +kernel
theorem dX8_wish_9 : decode cX8_wish 9 = .ok (.iload_n 2, 1) := by decide +kernel
theorem dX8_wish_10 : decode cX8_wish 10 = .ok (.invokestatic 258, 3) := by decide +kernel
theorem dX8_wish_13 : decode cX8_wish 13 = .ok (.ifCond .eq 12, 3) := by decide +kernel
theorem dX8_wish_16 : decode cX8_wish 16 = .ok (.iload_n 3, 1) := by decide +kernel
theorem dX8_wish_17 : decode cX8_wish 17 = .ok (.iconst 0, 1) := by decide +kernel
theorem dX8_wish_18 : decode cX8_wish 18 = .ok (.iconst 1, 1) := by decide +kernel
theorem dX8_wish_19 : decode cX8_wish 19 = .ok (.invokestatic 82, 3) := by decide +kernel
theorem dX8_wish_22 : decode cX8_wish 22 = .ok (.ifCond .ne 7, 3) := by decide +kernel
theorem dX8_wish_25 : decode cX8_wish 25 = .ok (.ldc_w 264, 3) := by decide +kernel
theorem dX8_wish_28 : decode cX8_wish 28 = .ok (.ireturn, 1) := by decide +kernel
theorem dX8_wish_29 : decode cX8_wish 29 = .ok (.iconst (-1), 1) := by decide +kernel
theorem dX8_wish_30 : decode cX8_wish 30 = .ok (.istore 4, 2) := by decide +kernel
theorem dX8_wish_32 : decode cX8_wish 32 = .ok (.aload_n 0, 1) := by decide +kernel
theorem dX8_wish_33 : decode cX8_wish 33 = .ok (.iload_n 1, 1) := by decide +kernel
theorem dX8_wish_34 : decode cX8_wish 34 = .ok (.iload_n 2, 1) := by decide +kernel
theorem dX8_wish_35 : decode cX8_wish 35 = .ok (.invokevirtual 283, 3) := by decide +kernel
theorem dX8_wish_38 : decode cX8_wish 38 = .ok (.istore 5, 2) := by decide +kernel
theorem dX8_wish_40 : decode cX8_wish 40 = .ok (.iconst 0, 1) := by decide +kernel
theorem dX8_wish_41 : decode cX8_wish 41 = .ok (.istore 6, 2) := by decide +kernel
theorem dX8_wish_43 : decode cX8_wish 43 = .ok (.iload 6, 2) := by decide +kernel
theorem dX8_wish_45 : decode cX8_wish 45 = .ok (.aload_n 0, 1) := by decide +kernel
theorem dX8_wish_46 : decode cX8_wish 46 = .ok (.getfield 79, 3) := by decide +kernel
theorem dX8_wish_49 : decode cX8_wish 49 = .ok (.if_icmp .ge 75, 3) := by decide +kernel
theorem dX8_wish_52 : decode cX8_wish 52 = .ok (.aload_n 0, 1) := by decide +kernel
theorem dX8_wish_53 : decode cX8_wish 53 = .ok (.getfield 19, 3) := by decide +kernel
theorem dX8_wish_56 : decode cX8_wish 56 = .ok (.iload 6, 2) := by decide +kernel
theorem dX8_wish_58 : decode cX8_wish 58 = .ok (.iaload, 1) := by decide +kernel
theorem dX8_wish_59 : decode cX8_wish 59 = .ok (.iload_n 1, 1) := by decide +kernel
theorem dX8_wish_60 : decode cX8_wish 60 = .ok (.if_icmp .ne 6, 3) := by decide +kernel
theorem dX8_wish_63 : decode cX8_wish 63 = .ok (.goto 55, 3) := by decide +kernel
theorem dX8_wish_66 : decode cX8_wish 66 = .ok (.aload_n 0, 1) := by decide +kernel
theorem dX8_wish_67 : decode cX8_wish 67 = .ok (.getfield 22, 3) := by decide +kernel
theorem dX8_wish_70 : decode cX8_wish 70 = .ok (.iload 6, 2) := by decide +kernel
theorem dX8_wish_72 : decode cX8_wish 72 = .ok (.iaload, 1) := by decide +kernel
theorem dX8_wish_73 : decode cX8_wish 73 = .ok (.istore 7, 2) := by decide +kernel
theorem dX8_wish_75 : decode cX8_wish 75 = .ok (.aload_n 0, 1) := by decide +kernel
theorem dX8_wish_76 : decode cX8_wish 76 = .ok (.getfield 22, 3) := by decide +kernel
theorem dX8_wish_79 : decode cX8_wish 79 = .ok (.iload 6, 2) := by decide +kernel
theorem dX8_wish_81 : decode cX8_wish 81 = .ok (.iconst 0, 1) := by decide +kernel
theorem dX8_wish_82 : decode cX8_wish 82 = .ok (.iastore, 1) := by decide +kernel
theorem dX8_wish_83 : decode cX8_wish 83 = .ok (.aload_n 0, 1) := by decide +kernel
theorem dX8_wish_84 : decode cX8_wish 84 = .ok (.iload_n 1, 1) := by decide +kernel
theorem dX8_wish_85 : decode cX8_wish 85 = .ok (.iload_n 2, 1) := by decide +kernel
theorem dX8_wish_86 : decode cX8_wish 86 = .ok (.invokevirtual 283, 3) := by decide +kernel
theorem dX8_wish_89 : decode cX8_wish 89 = .ok (.istore 8, 2) := by decide +kernel
theorem dX8_wish_91 : decode cX8_wish 91 = .ok (.aload_n 0, 1) := by decide +kernel
theorem dX8_wish_92 : decode cX8_wish 92 = .ok (.getfield 22, 3) := by decide +kernel
theorem dX8_wish_95 : decode cX8_wish 95 = .ok (.iload 6, 2) := by decide +kernel
theorem dX8_wish_97 : decode cX8_wish 97 = .ok (.iload 7, 2) := by decide +kernel
theorem dX8_wish_99 : decode cX8_wish 99 = .ok (.iastore, 1) := by decide +kernel
theorem dX8_wish_100 : decode cX8_wish 100 = .ok (.iload 8, 2) := by decide +kernel
theorem dX8_wish_102 : decode cX8_wish 102 = .ok (.iload 5, 2) := by decide +kernel
theorem dX8_wish_104 : decode cX8_wish 104 = .ok (.if_icmp .gt 6, 3) := by decide +kernel
theorem dX8_wish_107 : decode cX8_wish 107 = .ok (.goto 11, 3) := by decide +kernel
theorem dX8_wish_110 : decode cX8_wish 110 = .ok (.iload 8, 2) := by decide +kernel
theorem dX8_wish_112 : decode cX8_wish 112 = .ok (.istore 5, 2) := by decide +kernel
theorem dX8_wish_114 : decode cX8_wish 114 = .ok (.iload 6, 2) := by decide +kernel
theorem dX8_wish_116 : decode cX8_wish 116 = .ok (.istore 4, 2) := by decide +kernel
theorem dX8_wish_118 : decode cX8_wish 118 = .ok (.iinc 6 1, 3) := by decide +kernel
theorem dX8_wish_121 : decode cX8_wish 121 = .ok (.goto (-78), 3) := by decide +kernel
theorem dX8_wish_124 : decode cX8_wish 124 = .ok (.iload_n 3, 1) := by decide +kernel
theorem dX8_wish_125 : decode cX8_wish 125 = .ok (.ifCond .ne 8, 3) := by decide +kernel
theorem dX8_wish_128 : decode cX8_wish 128 = .ok (.iload 4, 2) := by decide +kernel
theorem dX8_wish_130 : decode cX8_wish 130 = .ok (.goto 5, 3) := by decide +kernel
theorem dX8_wish_133 : decode cX8_wish 133 = .ok (.iload 5, 2) := by decide +kernel
theorem dX8_wish_135 : decode cX8_wish 135 = .ok (.ireturn, 1) := by decide +kernel
theorem dX8_search_0 : decode cX8_search 0 = .ok (.iload_n 1, 1) := by decide +kernel
theorem dX8_search_1 : decode cX8_search 1 = .ok (.ifCond .ne 9, 3) := by decide +kernel
theorem dX8_search_4 : decode cX8_search 4 = .ok (.aload_n 0, 1) := by decide +kernel
theorem dX8_search_5 : decode cX8_search 5 = .ok (.iconst 0, 1) := by decide +kernel
theorem dX8_search_6 : decode cX8_search 6 = .ok (.invokevirtual 255, 3) := by decide +kernel
theorem dX8_search_9 : decode cX8_search 9 = .ok (.ireturn, 1) := by decide +kernel
theorem dX8_search_10 : decode cX8_search 10 = .ok (.iload_n 1, 1) := by decide +kernel
theorem dX8_search_11 : decode cX8_search 11 = .ok (.iconst 2, 1) := by decide +kernel
theorem dX8_search_12 : decode cX8_search 12 = .ok (.irem, 1) := by decide +kernel
theorem dX8_search_13 : decode cX8_search 13 = .ok (.istore_n 2, 1) := by decide +kernel
theorem dX8_search_14 : decode cX8_search 14 = .ok (.iconst (-1), 1) := by decide +kernel
theorem dX8_search_15 : decode cX8_search 15 = .ok (.istore_n 3, 1) := by decide +kernel
theorem dX8_search_16 : decode cX8_search 16 = .ok (.iconst 0, 1) := by decide +kernel
theorem dX8_search_17 : decode cX8_search 17 = .ok (.istore 4, 2) := by decide +kernel
theorem dX8_search_19 : decode cX8_search 19 = .ok (.iconst (-1), 1) := by decide +kernel
theorem dX8_search_20 : decode cX8_search 20 = .ok (.istore 5, 2) := by decide +kernel
theorem dX8_search_22 : decode cX8_search 22 = .ok (.iload 5, 2) := by decide +kernel
theorem dX8_search_24 : decode cX8_search 24 = .ok (.aload_n 0, 1) := by decide +kernel
theorem dX8_search_25 : decode cX8_search 25 = .ok (.getfield 79, 3) := by decide +kernel
theorem dX8_search_28 : decode cX8_search 28 = .ok (.if_icmp .ge 187, 3) := by decide +kernel
theorem dX8_search_31 : decode cX8_search 31 = .ok (.iload 5, 2) := by decide +kernel
theorem dX8_search_33 : decode cX8_search 33 = .ok (.iconst (-1), 1) := by decide +kernel
theorem dX8_search_34 : decode cX8_search 34 = .ok (.if_icmp .eq 17, 3) := by decide +kernel
theorem dX8_search_37 : decode cX8_search 37 = .ok (.aload_n 0, 1) := by decide +kernel
theorem dX8_search_38 : decode cX8_search 38 = .ok (.getfield 19, 3) := by decide +kernel
theorem dX8_search_41 : decode cX8_search 41 = .ok (.iload 5, 2) := by decide +kernel
theorem dX8_search_43 : decode cX8_search 43 = .ok (.iaload, 1) := by decide +kernel
theorem dX8_search_44 : decode cX8_search 44 = .ok (.iload_n 2, 1) := by decide +kernel
theorem dX8_search_45 : decode cX8_search 45 = .ok (.if_icmp .eq 6, 3) := by decide +kernel
theorem dX8_search_48 : decode cX8_search 48 = .ok (.goto 161, 3) := by decide +kernel
theorem dX8_search_51 : decode cX8_search 51 = .ok (.iconst 0, 1) := by decide +kernel
theorem dX8_search_52 : decode cX8_search 52 = .ok (.istore 6, 2) := by decide +kernel
theorem dX8_search_54 : decode cX8_search 54 = .ok (.iload 6, 2) := by decide +kernel
theorem dX8_search_56 : decode cX8_search 56 = .ok (.bipush 8, 2) := by decide +kernel
theorem dX8_search_58 : decode cX8_search 58 = .ok (.if_icmp .ge 31, 3) := by decide +kernel
theorem dX8_search_61 : decode cX8_search 61 = .ok (.aload_n 0, 1) := by decide +kernel
theorem dX8_search_62 : decode cX8_search 62 = .ok (.getfield 43, 3) := by decide +kernel
theorem dX8_search_65 : decode cX8_search 65 = .ok (.bipush 8, 2) := by decide +kernel
theorem dX8_search_67 : decode cX8_search 67 = .ok (.iload_n 1, 1) := by decide +kernel
theorem dX8_search_68 : decode cX8_search 68 = .ok (.imul, 1) := by decide +kernel
theorem dX8_search_69 : decode cX8_search 69 = .ok (.iload 6, 2) := by decide +kernel
theorem dX8_search_71 : decode cX8_search 71 = .ok (.iadd, 1) := by decide +kernel
theorem dX8_search_72 : decode cX8_search 72 = .ok (.bipush 8, 2) := by decide +kernel
theorem dX8_search_74 : decode cX8_search 74 = .ok (.isub, 1) := by decide +kernel
theorem dX8_search_75 : decode cX8_search 75 = .ok (.aload_n 0, 1) := by decide +kernel
theorem dX8_search_76 : decode cX8_search 76 = .ok (.getfield 22, 3) := by decide +kernel
theorem dX8_search_79 : decode cX8_search 79 = .ok (.iload 6, 2) := by decide +kernel
theorem dX8_search_81 : decode cX8_search 81 = .ok (.iaload, 1) := by decide +kernel
theorem dX8_search_82 : decode cX8_search 82 = .ok (.iastore, 1) := by decide +kernel
theorem dX8_search_83 : decode cX8_search 83 = .ok (.iinc 6 1, 3) := by decide +kernel
theorem dX8_search_86 : decode cX8_search 86 = .ok (.goto (-32), 3) := by decide +kernel
theorem dX8_search_89 : decode cX8_search 89 = .ok (.iload 5, 2) := by decide +kernel
theorem dX8_search_91 : decode cX8_search 91 = .ok (.iconst (-1), 1) := by decide +kernel
theorem dX8_search_92 : decode cX8_search 92 = .ok (.if_icmp .eq 9, 3) := by decide +kernel
theorem dX8_search_95 : decode cX8_search 95 = .ok (.aload_n 0, 1) := by decide +kernel
theorem dX8_search_96 : decode cX8_search 96 = .ok (.iload 5, 2) := by decide +kernel
theorem dX8_search_98 : decode cX8_search 98 = .ok (.invokevirtual 242, 3) := by decide +kernel
theorem dX8_search_101 : decode cX8_search 101 = .ok (.iload_n 2, 1) := by decide +kernel
theorem dX8_search_102 : decode cX8_search 102 = .ok (.iconst 1, 1) := by decide +kernel
theorem dX8_search_103 : decode cX8_search 103 = .ok (.if_icmp .ne 7, 3) := by decide +kernel
theorem dX8_search_106 : decode cX8_search 106 = .ok (.aload_n 0, 1) := by decide +kernel
theorem dX8_search_107 : decode cX8_search 107 = .ok (.invokevirtual 236, 3) := by decide +kernel
theorem dX8_search_110 : decode cX8_search 110 = .ok (.aload_n 0, 1) := by decide +kernel
theorem dX8_search_111 : decode cX8_search 111 = .ok (.iload_n 1, 1) := by decide +kernel
theorem dX8_search_112 : decode cX8_search 112 = .ok (.iconst 1, 1) := by decide +kernel
theorem dX8_search_113 : decode cX8_search 113 = .ok (.isub, 1) := by decide +kernel
theorem dX8_search_114 : decode cX8_search 114 = .ok (.invokevirtual 286, 3) := by decide +kernel
theorem dX8_search_117 : decode cX8_search 117 = .ok (.istore 6, 2) := by decide +kernel
theorem dX8_search_119 : decode cX8_search 119 = .ok (.iload_n 2, 1) := by decide +kernel
theorem dX8_search_120 : decode cX8_search 120 = .ok (.iconst 1, 1) := by decide +kernel
theorem dX8_search_121 : decode cX8_search 121 = .ok (.if_icmp .ne 13, 3) := by decide +kernel
theorem dX8_search_124 : decode cX8_search 124 = .ok (.aload_n 0, 1) := by decide +kernel
theorem dX8_search_125 : decode cX8_search 125 = .ok (.dup, 1) := by decide +kernel
theorem dX8_search_126 : decode cX8_search 126 = .ok (.getfield 89, 3) := by decide +kernel
theorem dX8_search_129 : decode cX8_search 129 = .ok (.iconst 1, 1) := by decide +kernel
theorem dX8_search_130 : decode cX8_search 130 = .ok (.isub, 1) := by decide +kernel
theorem dX8_search_131 : decode cX8_search 131 = .ok (.putfield 89, 3) := by decide +kernel
theorem dX8_search_134 : decode cX8_search 134 = .ok (.iconst 0, 1) := by decide +kernel
theorem dX8_search_135 : decode cX8_search 135 = .ok (.istore 7, 2) := by decide +kernel
theorem dX8_search_137 : decode cX8_search 137 = .ok (.iload 7, 2) := by decide +kernel
theorem dX8_search_139 : decode cX8_search 139 = .ok (.bipush 8, 2) := by decide +kernel
theorem dX8_search_141 : decode cX8_search 141 = .ok (.if_icmp .ge 31, 3) := by decide +kernel
theorem dX8_search_144 : decode cX8_search 144 = .ok (.aload_n 0, 1) := by decide +kernel
theorem dX8_search_145 : decode cX8_search 145 = .ok (.getfield 22, 3) := by decide +kernel
theorem dX8_search_148 : decode cX8_search 148 = .ok (.iload 7, 2) := by decide +kernel
theorem dX8_search_150 : decode cX8_search 150 = .ok (.aload_n 0, 1) := by decide +kernel
theorem dX8_search_151 : decode cX8_search 151 = .ok (.getfield 43, 3) := by decide +kernel
theorem dX8_search_154 : decode cX8_search 154 = .ok (.bipush 8, 2) := by decide +kernel
theorem dX8_search_156 : decode cX8_search 156 = .ok (.iload_n 1, 1) := by decide +kernel
theorem dX8_search_157 : decode cX8_search 157 = .ok (.imul, 1) := by decide +kernel
theorem dX8_search_158 : decode cX8_search 158 = .ok (.iload 7, 2) := by decide +kernel
theorem dX8_search_160 : decode cX8_search 160 = .ok (.iadd, 1) := by decide +kernel
theorem dX8_search_161 : decode cX8_search 161 = .ok (.bipush 8, 2) := by decide +kernel
theorem dX8_search_163 : decode cX8_search 163 = .ok (.isub, 1) := by decide +kernel
theorem dX8_search_164 : decode cX8_search 164 = .ok (.iaload, 1) := by decide +kernel
theorem dX8_search_165 : decode cX8_search 165 = .ok (.iastore, 1) := by decide +kernel
theorem dX8_search_166 : decode cX8_search 166 = .ok (.iinc 7 1, 3) := by decide +kernel
theorem dX8_search_169 : decode cX8_search 169 = .ok (.goto (-32), 3) := by decide +kernel
theorem dX8_search_172 : decode cX8_search 172 = .ok (.iload 5, 2) := by decide +kernel
theorem dX8_search_174 : decode cX8_search 174 = .ok (.iconst (-1), 1) := by decide +kernel
theorem dX8_search_175 : decode cX8_search 175 = .ok (.if_icmp .eq 27, 3) := by decide +kernel
theorem dX8_search_178 : decode cX8_search 178 = .ok (.iload_n 2, 1) := by decide +kernel
theorem dX8_search_179 : decode cX8_search 179 = .ok (.ifCond .ne 13, 3) := by decide +kernel
theorem dX8_search_182 : decode cX8_search 182 = .ok (.iload 6, 2) := by decide +kernel
theorem dX8_search_184 : decode cX8_search 184 = .ok (.iload 4, 2) := by decide +kernel
theorem dX8_search_186 : decode cX8_search 186 = .ok (.if_icmp .gt 16, 3) := by decide +kernel
theorem dX8_search_189 : decode cX8_search 189 = .ok (.goto 20, 3) := by decide +kernel
theorem dX8_search_192 : decode cX8_search 192 = .ok (.iload 6, 2) := by decide +kernel
theorem dX8_search_194 : decode cX8_search 194 = .ok (.iload 4, 2) := by decide +kernel
theorem dX8_search_196 : decode cX8_search 196 = .ok (.if_icmp .lt 6, 3) := by decide +kernel
theorem dX8_search_199 : decode cX8_search 199 = .ok (.goto 10, 3) := by decide +kernel
theorem dX8_search_202 : decode cX8_search 202 = .ok (.iload 6, 2) := by decide +kernel
theorem dX8_search_204 : decode cX8_search 204 = .ok (.istore 4, 2) := by decide +kernel
theorem dX8_search_206 : decode cX8_search 206 = .ok (.iload 5, 2) := by decide +kernel
theorem dX8_search_208 : decode cX8_search 208 = .ok (.istore_n 3, 1) := by decide +kernel
theorem dX8_search_209 : decode cX8_search 209 = .ok (.iinc 5 1, 3) := by decide +kernel
theorem dX8_search_212 : decode cX8_search 212 = .ok (.goto (-190), 3) := by decide +kernel
theorem dX8_search_215 : decode cX8_search 215 = .ok (.aload_n 0, 1) := by decide +kernel
theorem dX8_search_216 : decode cX8_search 216 = .ok (.iload_n 3, 1) := by decide +kernel
theorem dX8_search_217 : decode cX8_search 217 = .ok (.putfield 289, 3) := by decide +kernel
theorem dX8_search_220 : decode cX8_search 220 = .ok (.iload 4, 2) := by decide +kernel
theorem dX8_search_222 : decode cX8_search 222 = .ok (.ireturn, 1) := by decide +kernel
theorem dX8_game_0 : decode cX8_game 0 = .ok (.iload_n 1, 1) := by decide +kernel
theorem dX8_game_1 : decode cX8_game 1 = .ok (.iconst 1, 1) := by decide +kernel
theorem dX8_game_2 : decode cX8_game 2 = .ok (.iconst 3, 1) := by decide +kernel
theorem dX8_game_3 : decode cX8_game 3 = .ok (.invokestatic 82, 3) := by decide +kernel
theorem dX8_game_6 : decode cX8_game 6 = .ok (.ifCond .eq 12, 3) := by decide +kernel
theorem dX8_game_9 : decode cX8_game 9 = .ok (.iload_n 2, 1) := by decide +kernel
theorem dX8_game_10 : decode cX8_game 10 = .ok (.iconst 0, 1) := by decide +kernel
theorem dX8_game_11 : decode cX8_game 11 = .ok (.iconst 1, 1) := by decide +kernel
theorem dX8_game_12 : decode cX8_game 12 = .ok (.invokestatic 82, 3) := by decide +kernel
theorem dX8_game_15 : decode cX8_game 15 = .ok (.ifCond .ne 7, 3) := by decide +kernel
theorem dX8_game_18 : decode cX8_game 18 = .ok (.ldc_w 264, 3) := by decide +kernel
theorem dX8_game_21 : decode cX8_game 21 = .ok (.ireturn, 1) := by decide +kernel
theorem dX8_game_22 : decode cX8_game 22 = .ok (.aload_n 0, 1) := by decide +kernel
theorem dX8_game_23 : decode cX8_game 23 = .ok (.iconst 2, 1) := by decide +kernel
theorem dX8_game_24 : decode cX8_game 24 = .ok (.iload_n 1, 1) := by decide +kernel
theorem dX8_game_25 : decode cX8_game 25 = .ok (.imul, 1) := by decide +kernel
theorem dX8_game_26 : decode cX8_game 26 = .ok (.invokevirtual 286, 3) := by decide +kernel
theorem dX8_game_29 : decode cX8_game 29 = .ok (.istore_n 3, 1) := by decide +kernel
theorem dX8_game_30 : decode cX8_game 30 = .ok (.iload_n 2, 1) := by decide +kernel
theorem dX8_game_31 : decode cX8_game 31 = .ok (.ifCond .ne 7, 3) := by decide +kernel
theorem dX8_game_34 : decode cX8_game 34 = .ok (.iload_n 3, 1) := by decide +kernel
theorem dX8_game_35 : decode cX8_game 35 = .ok (.goto 7, 3) := by decide +kernel
theorem dX8_game_38 : decode cX8_game 38 = .ok (.aload_n 0, 1) := by decide +kernel
theorem dX8_game_39 : decode cX8_game 39 = .ok (.getfield 289, 3) := by decide +kernel
theorem dX8_game_42 : decode cX8_game 42 = .ok (.ireturn, 1) := by decide +kernel
theorem dX8_otherwise_0 : decode cX8_otherwise 0 = .ok (.aload_n 0, 1) := by decide +kernel
theorem dX8_otherwise_1 : decode cX8_otherwise 1 = .ok (.invokevirtual 265, 3) := by decide +kernel
theorem dX8_otherwise_4 : decode cX8_otherwise 4 = .ok (.iconst (-1), 1) := by decide +kernel
theorem dX8_otherwise_5 : decode cX8_otherwise 5 = .ok (.istore_n 3, 1) := by decide +kernel
theorem dX8_otherwise_6 : decode cX8_otherwise 6 = .ok (.iconst 0, 1) := by decide +kernel
theorem dX8_otherwise_7 : decode cX8_otherwise 7 = .ok (.istore 4, 2) := by decide +kernel
theorem dX8_otherwise_9 : decode cX8_otherwise 9 = .ok (.iload 4, 2) := by decide +kernel
theorem dX8_otherwise_11 : decode cX8_otherwise 11 = .ok (.aload_n 0, 1) := by decide +kernel
theorem dX8_otherwise_12 : decode cX8_otherwise 12 = .ok (.getfield 55, 3) := by decide +kernel
theorem dX8_otherwise_15 : decode cX8_otherwise 15 = .ok (.iload_n 1, 1) := by decide +kernel
theorem dX8_otherwise_16 : decode cX8_otherwise 16 = .ok (.iaload, 1) := by decide +kernel
theorem dX8_otherwise_17 : decode cX8_otherwise 17 = .ok (.if_icmp .ge 42, 3) := by decide +kernel
theorem dX8_otherwise_20 : decode cX8_otherwise 20 = .ok (.iload_n 3, 1) := by decide +kernel
theorem dX8_otherwise_21 : decode cX8_otherwise 21 = .ok (.iconst (-1), 1) := by decide +kernel
theorem dX8_otherwise_22 : decode cX8_otherwise 22 = .ok (.if_icmp .ne 37, 3) := by decide +kernel
theorem dX8_otherwise_25 : decode cX8_otherwise 25 = .ok (.aload_n 0, 1) := by decide +kernel
theorem dX8_otherwise_26 : decode cX8_otherwise 26 = .ok (.invokevirtual 236, 3) := by decide +kernel
theorem dX8_otherwise_29 : decode cX8_otherwise 29 = .ok (.aload_n 0, 1) := by decide +kernel
theorem dX8_otherwise_30 : decode cX8_otherwise 30 = .ok (.getfield 22, 3) := by decide +kernel
theorem dX8_otherwise_33 : decode cX8_otherwise 33 = .ok (.iload_n 2, 1) := by decide +kernel
theorem dX8_otherwise_34 : decode cX8_otherwise 34 = .ok (.iaload, 1) := by decide +kernel
theorem dX8_otherwise_35 : decode cX8_otherwise 35 = .ok (.aload_n 0, 1) := by decide +kernel
theorem dX8_otherwise_36 : decode cX8_otherwise 36 = .ok (.getfield 58, 3) := by decide +kernel
theorem dX8_otherwise_39 : decode cX8_otherwise 39 = .ok (.bipush 40, 2) := by decide +kernel
theorem dX8_otherwise_41 : decode cX8_otherwise 41 = .ok (.iload_n 1, 1) := by decide +kernel
theorem dX8_otherwise_42 : decode cX8_otherwise 42 = .ok (.imul, 1) := by decide +kernel
theorem dX8_otherwise_43 : decode cX8_otherwise 43 = .ok (.iload 4, 2) := by decide +kernel
theorem dX8_otherwise_45 : decode cX8_otherwise 45 = .ok (.iadd, 1) := by decide +kernel
theorem dX8_otherwise_46 : decode cX8_otherwise 46 = .ok (.iaload, 1) := by decide +kernel
theorem dX8_otherwise_47 : decode cX8_otherwise 47 = .ok (.if_icmp .eq 6, 3) := by decide +kernel
theorem dX8_otherwise_50 : decode cX8_otherwise 50 = .ok (.iload 4, 2) := by decide +kernel
theorem dX8_otherwise_52 : decode cX8_otherwise 52 = .ok (.istore_n 3, 1) := by decide +kernel
theorem dX8_otherwise_53 : decode cX8_otherwise 53 = .ok (.iinc 4 1, 3) := by decide +kernel
theorem dX8_otherwise_56 : decode cX8_otherwise 56 = .ok (.goto (-47), 3) := by decide +kernel
theorem dX8_otherwise_59 : decode cX8_otherwise 59 = .ok (.aload_n 0, 1) := by decide +kernel
theorem dX8_otherwise_60 : decode cX8_otherwise 60 = .ok (.invokevirtual 274, 3) := by decide +kernel
theorem dX8_otherwise_63 : decode cX8_otherwise 63 = .ok (.iload_n 3, 1) := by decide +kernel
theorem dX8_otherwise_64 : decode cX8_otherwise 64 = .ok (.ireturn, 1) := by decide +kernel
theorem dX8_isSo_0 : decode cX8_isSo 0 = .ok (.aload_n 0, 1) := by decide +kernel
theorem dX8_isSo_1 : decode cX8_isSo 1 = .ok (.iload_n 1, 1) := by decide +kernel
theorem dX8_isSo_2 : decode cX8_isSo 2 = .ok (.iload_n 2, 1) := by decide +kernel
theorem dX8_isSo_3 : decode cX8_isSo 3 = .ok (.invokevirtual 292, 3) := by decide +kernel
theorem dX8_isSo_6 : decode cX8_isSo 6 = .ok (.iconst (-1), 1) := by decide +kernel
theorem dX8_isSo_7 : decode cX8_isSo 7 = .ok (.if_icmp .ne 7, 3) := by decide +kernel
theorem dX8_isSo_10 : decode cX8_isSo 10 = .ok (.iconst 1, 1) := by decide +kernel
theorem dX8_isSo_11 : decode cX8_isSo 11 = .ok (.goto 4, 3) := by decide +kernel
theorem dX8_isSo_14 : decode cX8_isSo 14 = .ok (.iconst 0, 1) := by decide +kernel
theorem dX8_isSo_15 : decode cX8_isSo 15 = .ok (.ireturn, 1) := by decide +kernel
theorem dX8_tells_0 : decode cX8_tells 0 = .ok (.iload_n 1, 1) := by decide +kernel
theorem dX8_tells_1 : decode cX8_tells 1 = .ok (.invokestatic 277, 3) := by decide +kernel
theorem dX8_tells_4 : decode cX8_tells 4 = .ok (.ifCond .eq 20, 3) := by decide +kernel
theorem dX8_tells_7 : decode cX8_tells 7 = .ok (.aload_n 0, 1) := by decide +kernel
theorem dX8_tells_8 : decode cX8_tells 8 = .ok (.iload_n 2, 1) := by decide +kernel
theorem dX8_tells_9 : decode cX8_tells 9 = .ok (.invokevirtual 102, 3) := by decide +kernel
theorem dX8_tells_12 : decode cX8_tells 12 = .ok (.ifCond .eq 12, 3) := by decide +kernel
theorem dX8_tells_15 : decode cX8_tells 15 = .ok (.iload_n 3, 1) := by decide +kernel
theorem dX8_tells_16 : decode cX8_tells 16 = .ok (.iconst 0, 1) := by decide +kernel
theorem dX8_tells_17 : decode cX8_tells 17 = .ok (.iconst 5, 1) := by decide +kernel
theorem dX8_tells_18 : decode cX8_tells 18 = .ok (.invokestatic 82, 3) := by decide +kernel
theorem dX8_tells_21 : decode cX8_tells 21 = .ok (.ifCond .ne 6, 3) := by decide +kernel
theorem dX8_tells_24 : decode cX8_tells 24 = .ok (.bipush (-2), 2) := by decide +kernel
theorem dX8_tells_26 : decode cX8_tells 26 = .ok (.ireturn, 1) := by decide +kernel
theorem dX8_tells_27 : decode cX8_tells 27 = .ok (.aload_n 0, 1) := by decide +kernel
theorem dX8_tells_28 : decode cX8_tells 28 = .ok (.getfield 52, 3) := by decide +kernel
theorem dX8_tells_31 : decode cX8_tells 31 = .ok (.iload_n 1, 1) := by decide +kernel
theorem dX8_tells_32 : decode cX8_tells 32 = .ok (.iaload, 1) := by decide +kernel
theorem dX8_tells_33 : decode cX8_tells 33 = .ok (.ifCond .ge 6, 3) := by decide +kernel
theorem dX8_tells_36 : decode cX8_tells 36 = .ok (.bipush (-11), 2) := by decide +kernel
theorem dX8_tells_38 : decode cX8_tells 38 = .ok (.ireturn, 1) := by decide +kernel
theorem dX8_tells_39 : decode cX8_tells 39 = .ok (.iload_n 3, 1) := by decide +kernel
theorem dX8_tells_40 : decode cX8_tells 40 = .ok (.ifCond .ne 7, 3) := by decide +kernel
theorem dX8_tells_43 : decode cX8_tells 43 = .ok (.iconst 0, 1) := by decide +kernel
theorem dX8_tells_44 : decode cX8_tells 44 = .ok (.goto 53, 3) := by decide +kernel
theorem dX8_tells_47 : decode cX8_tells 47 = .ok (.iload_n 3, 1) := by decide +kernel
theorem dX8_tells_48 : decode cX8_tells 48 = .ok (.iconst 1, 1) := by decide +kernel
theorem dX8_tells_49 : decode cX8_tells 49 = .ok (.if_icmp .ne 12, 3) := by decide +kernel
theorem dX8_tells_52 : decode cX8_tells 52 = .ok (.aload_n 0, 1) := by decide +kernel
theorem dX8_tells_53 : decode cX8_tells 53 = .ok (.getfield 7, 3) := by decide +kernel
theorem dX8_tells_56 : decode cX8_tells 56 = .ok (.iload_n 2, 1) := by decide +kernel
theorem dX8_tells_57 : decode cX8_tells 57 = .ok (.iaload, 1) := by decide +kernel
theorem dX8_tells_58 : decode cX8_tells 58 = .ok (.goto 39, 3) := by decide +kernel
theorem dX8_tells_61 : decode cX8_tells 61 = .ok (.iload_n 3, 1) := by decide +kernel
theorem dX8_tells_62 : decode cX8_tells 62 = .ok (.iconst 5, 1) := by decide +kernel
theorem dX8_tells_63 : decode cX8_tells 63 = .ok (.if_icmp .ne 10, 3) := by decide +kernel
theorem dX8_tells_66 : decode cX8_tells 66 = .ok (.aload_n 0, 1) := by decide +kernel
theorem dX8_tells_67 : decode cX8_tells 67 = .ok (.getfield 218, 3) := by decide +kernel
theorem dX8_tells_70 : decode cX8_tells 70 = .ok (.goto 27, 3) := by decide +kernel
theorem dX8_tells_73 : decode cX8_tells 73 = .ok (.aload_n 0, 1) := by decide +kernel
theorem dX8_tells_74 : decode cX8_tells 74 = .ok (.iload_n 2, 1) := by decide +kernel
theorem dX8_tells_75 : decode cX8_tells 75 = .ok (.iload_n 3, 1) := by decide +kernel
theorem dX8_tells_76 : decode cX8_tells 76 = .ok (.iconst 2, 1) := by decide +kernel
theorem dX8_tells_77 : decode cX8_tells 77 = .ok (.if_icmp .ne 7, 3) := by decide +kernel
theorem dX8_tells_80 : decode cX8_tells 80 = .ok (.iconst 2, 1) := by decide +kernel
theorem dX8_tells_81 : decode cX8_tells 81 = .ok (.goto 13, 3) := by decide +kernel
theorem dX8_tells_84 : decode cX8_tells 84 = .ok (.iload_n 3, 1) := by decide +kernel
theorem dX8_tells_85 : decode cX8_tells 85 = .ok (.iconst 3, 1) := by decide +kernel
theorem dX8_tells_86 : decode cX8_tells 86 = .ok (.if_icmp .ne 7, 3) := by decide +kernel
theorem dX8_tells_89 : decode cX8_tells 89 = .ok (.iconst 0, 1) := by decide +kernel
theorem dX8_tells_90 : decode cX8_tells 90 = .ok (.goto 4, 3) := by decide +kernel
theorem dX8_tells_93 : decode cX8_tells 93 = .ok (.iconst 3, 1) := by decide +kernel
theorem dX8_tells_94 : decode cX8_tells 94 = .ok (.invokevirtual 109, 3) := by decide +kernel
theorem dX8_tells_97 : decode cX8_tells 97 = .ok (.istore 4, 2) := by decide +kernel
theorem dX8_tells_99 : decode cX8_tells 99 = .ok (.iload_n 3, 1) := by decide +kernel
theorem dX8_tells_100 : decode cX8_tells 100 = .ok (.iconst 1, 1) := by decide +kernel
theorem dX8_tells_101 : decode cX8_tells 101 = .ok (.if_icmp .ne 8, 3) := by decide +kernel
theorem dX8_tells_104 : decode cX8_tells 104 = .ok (.bipush 6, 2) := by decide +kernel
theorem dX8_tells_106 : decode cX8_tells 106 = .ok (.goto 27, 3) := by decide +kernel
theorem dX8_tells_109 : decode cX8_tells 109 = .ok (.iload_n 3, 1) := by decide +kernel
theorem dX8_tells_110 : decode cX8_tells 110 = .ok (.iconst 4, 1) := by decide +kernel
theorem dX8_tells_111 : decode cX8_tells 111 = .ok (.if_icmp .ne 8, 3) := by decide +kernel
theorem dX8_tells_114 : decode cX8_tells 114 = .ok (.bipush 16, 2) := by decide +kernel
theorem dX8_tells_116 : decode cX8_tells 116 = .ok (.goto 17, 3) := by decide +kernel
theorem dX8_tells_119 : decode cX8_tells 119 = .ok (.iload_n 3, 1) := by decide +kernel
theorem dX8_tells_120 : decode cX8_tells 120 = .ok (.iconst 5, 1) := by decide +kernel
theorem dX8_tells_121 : decode cX8_tells 121 = .ok (.if_icmp .ne 10, 3) := by decide +kernel
theorem dX8_tells_124 : decode cX8_tells 124 = .ok (.aload_n 0, 1) := by decide +kernel
theorem dX8_tells_125 : decode cX8_tells 125 = .ok (.getfield 211, 3) := by decide +kernel
theorem dX8_tells_128 : decode cX8_tells 128 = .ok (.goto 5, 3) := by decide +kernel
theorem dX8_tells_131 : decode cX8_tells 131 = .ok (.bipush 10, 2) := by decide +kernel
theorem dX8_tells_133 : decode cX8_tells 133 = .ok (.istore 5, 2) := by decide +kernel
theorem dX8_tells_135 : decode cX8_tells 135 = .ok (.iconst 0, 1) := by decide +kernel
theorem dX8_tells_136 : decode cX8_tells 136 = .ok (.istore 6, 2) := by decide +kernel
theorem dX8_tells_138 : decode cX8_tells 138 = .ok (.iload_n 3, 1) := by decide +kernel
theorem dX8_tells_139 : decode cX8_tells 139 = .ok (.ifCond .ne 10, 3) := by decide +kernel
theorem dX8_tells_142 : decode cX8_tells 142 = .ok (.aload_n 0, 1) := by decide +kernel
theorem dX8_tells_143 : decode cX8_tells 143 = .ok (.iload_n 1, 1) := by decide +kernel
theorem dX8_tells_144 : decode cX8_tells 144 = .ok (.iload_n 2, 1) := by decide +kernel
theorem dX8_tells_145 : decode cX8_tells 145 = .ok (.invokevirtual 292, 3) := by decide +kernel
theorem dX8_tells_148 : decode cX8_tells 148 = .ok (.ireturn, 1) := by decide +kernel
theorem dX8_tells_149 : decode cX8_tells 149 = .ok (.iconst 0, 1) := by decide +kernel
theorem dX8_tells_150 : decode cX8_tells 150 = .ok (.istore 7, 2) := by decide +kernel
theorem dX8_tells_152 : decode cX8_tells 152 = .ok (.iload 7, 2) := by decide +kernel
theorem dX8_tells_154 : decode cX8_tells 154 = .ok (.iload 5, 2) := by decide +kernel
theorem dX8_tells_156 : decode cX8_tells 156 = .ok (.if_icmp .ge 35, 3) := by decide +kernel
theorem dX8_tells_159 : decode cX8_tells 159 = .ok (.aload_n 0, 1) := by decide +kernel
theorem dX8_tells_160 : decode cX8_tells 160 = .ok (.iload_n 2, 1) := by decide +kernel
theorem dX8_tells_161 : decode cX8_tells 161 = .ok (.iload_n 3, 1) := by decide +kernel
theorem dX8_tells_162 : decode cX8_tells 162 = .ok (.iload 7, 2) := by decide +kernel
theorem dX8_tells_164 : decode cX8_tells 164 = .ok (.invokevirtual 295, 3) := by decide +kernel
theorem dX8_tells_167 : decode cX8_tells 167 = .ok (.aload_n 0, 1) := by decide +kernel
theorem dX8_tells_168 : decode cX8_tells 168 = .ok (.iload_n 1, 1) := by decide +kernel
theorem dX8_tells_169 : decode cX8_tells 169 = .ok (.iload_n 2, 1) := by decide +kernel
theorem dX8_tells_170 : decode cX8_tells 170 = .ok (.invokevirtual 298, 3) := by decide +kernel
theorem dX8_tells_173 : decode cX8_tells 173 = .ok (.ifCond .eq 12, 3) := by decide +kernel
theorem dX8_tells_176 : decode cX8_tells 176 = .ok (.iload 6, 2) := by decide +kernel
theorem dX8_tells_178 : decode cX8_tells 178 = .ok (.iconst 1, 1) := by decide +kernel
theorem dX8_tells_179 : decode cX8_tells 179 = .ok (.iload 7, 2) := by decide +kernel
theorem dX8_tells_181 : decode cX8_tells 181 = .ok (.ishl, 1) := by decide +kernel
theorem dX8_tells_182 : decode cX8_tells 182 = .ok (.ior, 1) := by decide +kernel
theorem dX8_tells_183 : decode cX8_tells 183 = .ok (.istore 6, 2) := by decide +kernel
theorem dX8_tells_185 : decode cX8_tells 185 = .ok (.iinc 7 1, 3) := by decide +kernel
theorem dX8_tells_188 : decode cX8_tells 188 = .ok (.goto (-36), 3) := by decide +kernel
theorem dX8_tells_191 : decode cX8_tells 191 = .ok (.aload_n 0, 1) := by decide +kernel
theorem dX8_tells_192 : decode cX8_tells 192 = .ok (.iload_n 2, 1) := by decide +kernel
theorem dX8_tells_193 : decode cX8_tells 193 = .ok (.iload_n 3, 1) := by decide +kernel
theorem dX8_tells_194 : decode cX8_tells 194 = .ok (.iload 4, 2) := by decide +kernel
theorem dX8_tells_196 : decode cX8_tells 196 = .ok (.invokevirtual 295, 3) := by decide +kernel
theorem dX8_tells_199 : decode cX8_tells 199 = .ok (.iload 6, 2) := by decide +kernel
theorem dX8_tells_201 : decode cX8_tells 201 = .ok (.ireturn, 1) := by decide +kernel
theorem dX8_becomes_0 : decode cX8_becomes 0 = .ok (.iload_n 2, 1) := by decide +kernel
theorem dX8_becomes_1 : decode cX8_becomes 1 = .ok (.tableswitch 61 1 4 #[31, 39, 47, 53], 31) := by decide +kernel
theorem dX8_becomes_32 : decode cX8_becomes 32 = .ok (.aload_n 0, 1) := by decide +kernel
theorem dX8_becomes_33 : decode cX8_becomes 33 = .ok (.getfield 7, 3) := by decide +kernel
theorem dX8_becomes_36 : decode cX8_becomes 36 = .ok (.iload_n 1, 1) := by decide +kernel
theorem dX8_becomes_37 : decode cX8_becomes 37 = .ok (.iload_n 3, 1) := by decide +kernel
theorem dX8_becomes_38 : decode cX8_becomes 38 = .ok (.iastore, 1) := by decide +kernel
theorem dX8_becomes_39 : decode cX8_becomes 39 = .ok (.return_, 1) := by decide +kernel
theorem dX8_becomes_40 : decode cX8_becomes 40 = .ok (.aload_n 0, 1) := by decide +kernel
theorem dX8_becomes_41 : decode cX8_becomes 41 = .ok (.getfield 13, 3) := by decide +kernel
theorem dX8_becomes_44 : decode cX8_becomes 44 = .ok (.iload_n 1, 1) := by decide +kernel
theorem dX8_becomes_45 : decode cX8_becomes 45 = .ok (.iload_n 3, 1) := by decide +kernel
theorem dX8_becomes_46 : decode cX8_becomes 46 = .ok (.iastore, 1) := by decide +kernel
theorem dX8_becomes_47 : decode cX8_becomes 47 = .ok (.return_, 1) := by decide +kernel
theorem dX8_becomes_48 : decode cX8_becomes 48 = .ok (.aload_n 0, 1) := by decide +kernel
theorem dX8_becomes_49 : decode cX8_becomes 49 = .ok (.iload_n 3, 1) := by decide +kernel
theorem dX8_becomes_50 : decode cX8_becomes 50 = .ok (.putfield 86, 3) := by decide +kernel
theorem dX8_becomes_53 : decode cX8_becomes 53 = .ok (.return_, 1) := by decide +kernel
theorem dX8_becomes_54 : decode cX8_becomes 54 = .ok (.aload_n 0, 1) := by decide +kernel
theorem dX8_becomes_55 : decode cX8_becomes 55 = .ok (.getfield 16, 3) := by decide +kernel
theorem dX8_becomes_58 : decode cX8_becomes 58 = .ok (.iload_n 1, 1) := by decide +kernel
theorem dX8_becomes_59 : decode cX8_becomes 59 = .ok (.iload_n 3, 1) := by decide +kernel
theorem dX8_becomes_60 : decode cX8_becomes 60 = .ok (.iastore, 1) := by decide +kernel
theorem dX8_becomes_61 : decode cX8_becomes 61 = .ok (.return_, 1) := by decide +kernel
theorem dX8_becomes_62 : decode cX8_becomes 62 = .ok (.aload_n 0, 1) := by decide +kernel
theorem dX8_becomes_63 : decode cX8_becomes 63 = .ok (.iload_n 3, 1) := by decide +kernel
theorem dX8_becomes_64 : decode cX8_becomes 64 = .ok (.putfield 218, 3) := by decide +kernel
theorem dX8_becomes_67 : decode cX8_becomes 67 = .ok (.return_, 1) := by decide +kernel
theorem dX8_film_0 : decode cX8_film 0 = .ok (.iload_n 1, 1) := by decide +kernel
theorem dX8_film_1 : decode cX8_film 1 = .ok (.invokestatic 277, 3) := by decide +kernel
theorem dX8_film_4 : decode cX8_film 4 = .ok (.ifCond .eq 18, 3) := by decide +kernel
theorem dX8_film_7 : decode cX8_film 7 = .ok (.aload_n 0, 1) := by decide +kernel
theorem dX8_film_8 : decode cX8_film 8 = .ok (.iload_n 2, 1) := by decide +kernel
theorem dX8_film_9 : decode cX8_film 9 = .ok (.invokevirtual 102, 3) := by decide +kernel
theorem dX8_film_12 : decode cX8_film 12 = .ok (.ifCond .eq 10, 3) := by decide +kernel
theorem dX8_film_15 : decode cX8_film 15 = .ok (.iload_n 3, 1) := by decide +kernel
theorem dX8_film_16 : decode cX8_film 16 = .ok (.invokestatic 258, 3) := by decide +kernel
theorem dX8_film_19 : decode cX8_film 19 = .ok (.ifCond .ne 6, 3) := by decide +kernel
theorem dX8_film_22 : decode cX8_film 22 = .ok (.bipush (-2), 2) := by decide +kernel
theorem dX8_film_24 : decode cX8_film 24 = .ok (.ireturn, 1) := by decide +kernel
theorem dX8_film_25 : decode cX8_film 25 = .ok (.aload_n 0, 1) := by decide +kernel
theorem dX8_film_26 : decode cX8_film 26 = .ok (.iload_n 1, 1) := by decide +kernel
theorem dX8_film_27 : decode cX8_film 27 = .ok (.iconst 0, 1) := by decide +kernel
theorem dX8_film_28 : decode cX8_film 28 = .ok (.iload_n 3, 1) := by decide +kernel
theorem dX8_film_29 : decode cX8_film 29 = .ok (.invokevirtual 302, 3) := by decide +kernel
theorem dX8_film_32 : decode cX8_film 32 = .ok (.pop, 1) := by decide +kernel
theorem dX8_film_33 : decode cX8_film 33 = .ok (.aload_n 0, 1) := by decide +kernel
theorem dX8_film_34 : decode cX8_film 34 = .ok (.invokevirtual 265, 3) := by decide +kernel
theorem dX8_film_37 : decode cX8_film 37 = .ok (.iconst 0, 1) := by decide +kernel
theorem dX8_film_38 : decode cX8_film 38 = .ok (.istore 4, 2) := by decide +kernel
theorem dX8_film_40 : decode cX8_film 40 = .ok (.iload 4, 2) := by decide +kernel
theorem dX8_film_42 : decode cX8_film 42 = .ok (.iload_n 3, 1) := by decide +kernel
theorem dX8_film_43 : decode cX8_film 43 = .ok (.if_icmp .ge 31, 3) := by decide +kernel
theorem dX8_film_46 : decode cX8_film 46 = .ok (.aload_n 0, 1) := by decide +kernel
theorem dX8_film_47 : decode cX8_film 47 = .ok (.invokevirtual 236, 3) := by decide +kernel
theorem dX8_film_50 : decode cX8_film 50 = .ok (.aload_n 0, 1) := by decide +kernel
theorem dX8_film_51 : decode cX8_film 51 = .ok (.getfield 58, 3) := by decide +kernel
theorem dX8_film_54 : decode cX8_film 54 = .ok (.bipush 40, 2) := by decide +kernel
theorem dX8_film_56 : decode cX8_film 56 = .ok (.iload_n 1, 1) := by decide +kernel
theorem dX8_film_57 : decode cX8_film 57 = .ok (.imul, 1) := by decide +kernel
theorem dX8_film_58 : decode cX8_film 58 = .ok (.iload 4, 2) := by decide +kernel
theorem dX8_film_60 : decode cX8_film 60 = .ok (.iadd, 1) := by decide +kernel
theorem dX8_film_61 : decode cX8_film 61 = .ok (.aload_n 0, 1) := by decide +kernel
theorem dX8_film_62 : decode cX8_film 62 = .ok (.getfield 22, 3) := by decide +kernel
theorem dX8_film_65 : decode cX8_film 65 = .ok (.iload_n 2, 1) := by decide +kernel
theorem dX8_film_66 : decode cX8_film 66 = .ok (.iaload, 1) := by decide +kernel
theorem dX8_film_67 : decode cX8_film 67 = .ok (.iastore, 1) := by decide +kernel
theorem dX8_film_68 : decode cX8_film 68 = .ok (.iinc 4 1, 3) := by decide +kernel
theorem dX8_film_71 : decode cX8_film 71 = .ok (.goto (-31), 3) := by decide +kernel
theorem dX8_film_74 : decode cX8_film 74 = .ok (.aload_n 0, 1) := by decide +kernel
theorem dX8_film_75 : decode cX8_film 75 = .ok (.invokevirtual 274, 3) := by decide +kernel
theorem dX8_film_78 : decode cX8_film 78 = .ok (.iload_n 3, 1) := by decide +kernel
theorem dX8_film_79 : decode cX8_film 79 = .ok (.ireturn, 1) := by decide +kernel
theorem dX8_draws_0 : decode cX8_draws 0 = .ok (.iload_n 1, 1) := by decide +kernel
theorem dX8_draws_1 : decode cX8_draws 1 = .ok (.istore_n 3, 1) := by decide +kernel
theorem dX8_draws_2 : decode cX8_draws 2 = .ok (.iconst 0, 1) := by decide +kernel
theorem dX8_draws_3 : decode cX8_draws 3 = .ok (.istore 4, 2) := by decide +kernel
theorem dX8_draws_5 : decode cX8_draws 5 = .ok (.iload 4, 2) := by decide +kernel
theorem dX8_draws_7 : decode cX8_draws 7 = .ok (.iload_n 2, 1) := by decide +kernel
theorem dX8_draws_8 : decode cX8_draws 8 = .ok (.if_icmp .ge 34, 3) := by decide +kernel
theorem dX8_draws_11 : decode cX8_draws 11 = .ok (.iload_n 3, 1) := by decide +kernel
theorem dX8_draws_12 : decode cX8_draws 12 = .ok (.ldc_w 305, 3) := by decide +kernel
theorem dX8_draws_15 : decode cX8_draws 15 = .ok (.imul, 1) := by decide +kernel
theorem dX8_draws_16 : decode cX8_draws 16 = .ok (.sipush 12345, 3) := by decide +kernel
theorem dX8_draws_19 : decode cX8_draws 19 = .ok (.iadd, 1) := by decide +kernel
theorem dX8_draws_20 : decode cX8_draws 20 = .ok (.istore_n 3, 1) := by decide +kernel
theorem dX8_draws_21 : decode cX8_draws 21 = .ok (.aload_n 0, 1) := by decide +kernel
theorem dX8_draws_22 : decode cX8_draws 22 = .ok (.iload_n 3, 1) := by decide +kernel
theorem dX8_draws_23 : decode cX8_draws 23 = .ok (.bipush 9, 2) := by decide +kernel
theorem dX8_draws_25 : decode cX8_draws 25 = .ok (.iushr, 1) := by decide +kernel
theorem dX8_draws_26 : decode cX8_draws 26 = .ok (.bipush 10, 2) := by decide +kernel
theorem dX8_draws_28 : decode cX8_draws 28 = .ok (.irem, 1) := by decide +kernel
theorem dX8_draws_29 : decode cX8_draws 29 = .ok (.putfield 86, 3) := by decide +kernel
theorem dX8_draws_32 : decode cX8_draws 32 = .ok (.aload_n 0, 1) := by decide +kernel
theorem dX8_draws_33 : decode cX8_draws 33 = .ok (.invokevirtual 236, 3) := by decide +kernel
theorem dX8_draws_36 : decode cX8_draws 36 = .ok (.iinc 4 1, 3) := by decide +kernel
theorem dX8_draws_39 : decode cX8_draws 39 = .ok (.goto (-34), 3) := by decide +kernel
theorem dX8_draws_42 : decode cX8_draws 42 = .ok (.return_, 1) := by decide +kernel
theorem dX8_drawn_0 : decode cX8_drawn 0 = .ok (.iload_n 2, 1) := by decide +kernel
theorem dX8_drawn_1 : decode cX8_drawn 1 = .ok (.invokestatic 258, 3) := by decide +kernel
theorem dX8_drawn_4 : decode cX8_drawn 4 = .ok (.ifCond .ne 6, 3) := by decide +kernel
theorem dX8_drawn_7 : decode cX8_drawn 7 = .ok (.bipush (-2), 2) := by decide +kernel
theorem dX8_drawn_9 : decode cX8_drawn 9 = .ok (.ireturn, 1) := by decide +kernel
theorem dX8_drawn_10 : decode cX8_drawn 10 = .ok (.aload_n 0, 1) := by decide +kernel
theorem dX8_drawn_11 : decode cX8_drawn 11 = .ok (.invokevirtual 265, 3) := by decide +kernel
theorem dX8_drawn_14 : decode cX8_drawn 14 = .ok (.aload_n 0, 1) := by decide +kernel
theorem dX8_drawn_15 : decode cX8_drawn 15 = .ok (.iload_n 1, 1) := by decide +kernel
theorem dX8_drawn_16 : decode cX8_drawn 16 = .ok (.iload_n 2, 1) := by decide +kernel
theorem dX8_drawn_17 : decode cX8_drawn 17 = .ok (.invokevirtual 306, 3) := by decide +kernel
theorem dX8_drawn_20 : decode cX8_drawn 20 = .ok (.aload_n 0, 1) := by decide +kernel
theorem dX8_drawn_21 : decode cX8_drawn 21 = .ok (.invokevirtual 239, 3) := by decide +kernel
theorem dX8_drawn_24 : decode cX8_drawn 24 = .ok (.istore_n 3, 1) := by decide +kernel
theorem dX8_drawn_25 : decode cX8_drawn 25 = .ok (.aload_n 0, 1) := by decide +kernel
theorem dX8_drawn_26 : decode cX8_drawn 26 = .ok (.invokevirtual 274, 3) := by decide +kernel
theorem dX8_drawn_29 : decode cX8_drawn 29 = .ok (.iload_n 3, 1) := by decide +kernel
theorem dX8_drawn_30 : decode cX8_drawn 30 = .ok (.ireturn, 1) := by decide +kernel
theorem dX8_chance_0 : decode cX8_chance 0 = .ok (.iload_n 2, 1) := by decide +kernel
theorem dX8_chance_1 : decode cX8_chance 1 = .ok (.iconst 1, 1) := by decide +kernel
theorem dX8_chance_2 : decode cX8_chance 2 = .ok (.bipush 20, 2) := by decide +kernel
theorem dX8_chance_4 : decode cX8_chance 4 = .ok (.invokestatic 82, 3) := by decide +kernel
theorem dX8_chance_7 : decode cX8_chance 7 = .ok (.ifCond .eq 20, 3) := by decide +kernel
theorem dX8_chance_10 : decode cX8_chance 10 = .ok (.iload_n 3, 1) := by decide +kernel
theorem dX8_chance_11 : decode cX8_chance 11 = .ok (.invokestatic 258, 3) := by decide +kernel
theorem dX8_chance_14 : decode cX8_chance 14 = .ok (.ifCond .eq 13, 3) := by decide +kernel
theorem dX8_chance_17 : decode cX8_chance 17 = .ok (.iload 4, 2) := by decide +kernel
theorem dX8_chance_19 : decode cX8_chance 19 = .ok (.iconst 0, 1) := by decide +kernel
theorem dX8_chance_20 : decode cX8_chance 20 = .ok (.iconst 1, 1) := by decide +kernel
theorem dX8_chance_21 : decode cX8_chance 21 = .ok (.invokestatic 82, 3) := by decide +kernel
theorem dX8_chance_24 : decode cX8_chance 24 = .ok (.ifCond .ne 7, 3) := by decide +kernel
theorem dX8_chance_27 : decode cX8_chance 27 = .ok (.ldc2_w 310, 3) := by decide +kernel
theorem dX8_chance_30 : decode cX8_chance 30 = .ok (.lreturn, 1) := by decide +kernel
theorem dX8_chance_31 : decode cX8_chance 31 = .ok (.iconst 0, 1) := by decide +kernel
theorem dX8_chance_32 : decode cX8_chance 32 = .ok (.istore 5, 2) := by decide +kernel
theorem dX8_chance_34 : decode cX8_chance 34 = .ok (.iconst 0, 1) := by decide +kernel
theorem dX8_chance_35 : decode cX8_chance 35 = .ok (.istore 6, 2) := by decide +kernel
theorem dX8_chance_37 : decode cX8_chance 37 = .ok (.iload 6, 2) := by decide +kernel
theorem dX8_chance_39 : decode cX8_chance 39 = .ok (.iload_n 2, 1) := by decide +kernel
theorem dX8_chance_40 : decode cX8_chance 40 = .ok (.if_icmp .ge 36, 3) := by decide +kernel
theorem dX8_chance_43 : decode cX8_chance 43 = .ok (.aload_n 0, 1) := by decide +kernel
theorem dX8_chance_44 : decode cX8_chance 44 = .ok (.invokevirtual 265, 3) := by decide +kernel
theorem dX8_chance_47 : decode cX8_chance 47 = .ok (.aload_n 0, 1) := by decide +kernel
theorem dX8_chance_48 : decode cX8_chance 48 = .ok (.iload_n 1, 1) := by decide +kernel
theorem dX8_chance_49 : decode cX8_chance 49 = .ok (.iload 6, 2) := by decide +kernel
theorem dX8_chance_51 : decode cX8_chance 51 = .ok (.iadd, 1) := by decide +kernel
theorem dX8_chance_52 : decode cX8_chance 52 = .ok (.iload_n 3, 1) := by decide +kernel
theorem dX8_chance_53 : decode cX8_chance 53 = .ok (.invokevirtual 306, 3) := by decide +kernel
theorem dX8_chance_56 : decode cX8_chance 56 = .ok (.aload_n 0, 1) := by decide +kernel
theorem dX8_chance_57 : decode cX8_chance 57 = .ok (.invokevirtual 252, 3) := by decide +kernel
theorem dX8_chance_60 : decode cX8_chance 60 = .ok (.ifCond .ne 6, 3) := by decide +kernel
theorem dX8_chance_63 : decode cX8_chance 63 = .ok (.iinc 5 1, 3) := by decide +kernel
theorem dX8_chance_66 : decode cX8_chance 66 = .ok (.aload_n 0, 1) := by decide +kernel
theorem dX8_chance_67 : decode cX8_chance 67 = .ok (.invokevirtual 274, 3) := by decide +kernel
theorem dX8_chance_70 : decode cX8_chance 70 = .ok (.iinc 6 1, 3) := by decide +kernel
theorem dX8_chance_73 : decode cX8_chance 73 = .ok (.goto (-36), 3) := by decide +kernel
theorem dX8_chance_76 : decode cX8_chance 76 = .ok (.iload 5, 2) := by decide +kernel
theorem dX8_chance_78 : decode cX8_chance 78 = .ok (.istore 6, 2) := by decide +kernel
theorem dX8_chance_80 : decode cX8_chance 80 = .ok (.iload_n 2, 1) := by decide +kernel
theorem dX8_chance_81 : decode cX8_chance 81 = .ok (.istore 7, 2) := by decide +kernel
theorem dX8_chance_83 : decode cX8_chance 83 = .ok (.iload 7, 2) := by decide +kernel
theorem dX8_chance_85 : decode cX8_chance 85 = .ok (.ifCond .eq 21, 3) := by decide +kernel
theorem dX8_chance_88 : decode cX8_chance 88 = .ok (.iload 6, 2) := by decide +kernel
theorem dX8_chance_90 : decode cX8_chance 90 = .ok (.iload 7, 2) := by decide +kernel
theorem dX8_chance_92 : decode cX8_chance 92 = .ok (.irem, 1) := by decide +kernel
theorem dX8_chance_93 : decode cX8_chance 93 = .ok (.istore 8, 2) := by decide +kernel
theorem dX8_chance_95 : decode cX8_chance 95 = .ok (.iload 7, 2) := by decide +kernel
theorem dX8_chance_97 : decode cX8_chance 97 = .ok (.istore 6, 2) := by decide +kernel
theorem dX8_chance_99 : decode cX8_chance 99 = .ok (.iload 8, 2) := by decide +kernel
theorem dX8_chance_101 : decode cX8_chance 101 = .ok (.istore 7, 2) := by decide +kernel
theorem dX8_chance_103 : decode cX8_chance 103 = .ok (.goto (-20), 3) := by decide +kernel
theorem dX8_chance_106 : decode cX8_chance 106 = .ok (.iload 4, 2) := by decide +kernel
theorem dX8_chance_108 : decode cX8_chance 108 = .ok (.ifCond .ne 12, 3) := by decide +kernel
theorem dX8_chance_111 : decode cX8_chance 111 = .ok (.iload 5, 2) := by decide +kernel
theorem dX8_chance_113 : decode cX8_chance 113 = .ok (.iload 6, 2) := by decide +kernel
theorem dX8_chance_115 : decode cX8_chance 115 = .ok (.idiv, 1) := by decide +kernel
theorem dX8_chance_116 : decode cX8_chance 116 = .ok (.i2l, 1) := by decide +kernel
theorem dX8_chance_117 : decode cX8_chance 117 = .ok (.goto 8, 3) := by decide +kernel
theorem dX8_chance_120 : decode cX8_chance 120 = .ok (.iload_n 2, 1) := by decide +kernel
theorem dX8_chance_121 : decode cX8_chance 121 = .ok (.iload 6, 2) := by decide +kernel
theorem dX8_chance_123 : decode cX8_chance 123 = .ok (.idiv, 1) := by decide +kernel
theorem dX8_chance_124 : decode cX8_chance 124 = .ok (.i2l, 1) := by decide +kernel
theorem dX8_chance_125 : decode cX8_chance 125 = .ok (.lreturn, 1) := by decide +kernel
theorem dX8_image_0 : decode cX8_image 0 = .ok (.aload_n 0, 1) := by decide +kernel
theorem dX8_image_1 : decode cX8_image 1 = .ok (.iconst 1, 1) := by decide +kernel
theorem dX8_image_2 : decode cX8_image 2 = .ok (.putfield 312, 3) := by decide +kernel
theorem dX8_image_5 : decode cX8_image 5 = .ok (.aload_n 0, 1) := by decide +kernel
theorem dX8_image_6 : decode cX8_image 6 = .ok (.aload_n 0, 1) := by decide +kernel
theorem dX8_image_7 : decode cX8_image 7 = .ok (.getfield 79, 3) := by decide +kernel
theorem dX8_image_10 : decode cX8_image 10 = .ok (.putfield 316, 3) := by decide +kernel
theorem dX8_image_13 : decode cX8_image 13 = .ok (.iconst 0, 1) := by decide +kernel
theorem dX8_image_14 : decode cX8_image 14 = .ok (.istore_n 1, 1) := by decide +kernel
theorem dX8_image_15 : decode cX8_image 15 = .ok (.iload_n 1, 1) := by decide +kernel
theorem dX8_image_16 : decode cX8_image 16 = .ok (.bipush 8, 2) := by decide +kernel
theorem dX8_image_18 : decode cX8_image 18 = .ok (.if_icmp .ge 66, 3) := by decide +kernel
theorem dX8_image_21 : decode cX8_image 21 = .ok (.aload_n 0, 1) := by decide +kernel
theorem dX8_image_22 : decode cX8_image 22 = .ok (.getfield 49, 3) := by decide +kernel
theorem dX8_image_25 : decode cX8_image 25 = .ok (.iload_n 1, 1) := by decide +kernel
theorem dX8_image_26 : decode cX8_image 26 = .ok (.aload_n 0, 1) := by decide +kernel
theorem dX8_image_27 : decode cX8_image 27 = .ok (.getfield 13, 3) := by decide +kernel
theorem dX8_image_30 : decode cX8_image 30 = .ok (.iload_n 1, 1) := by decide +kernel
theorem dX8_image_31 : decode cX8_image 31 = .ok (.iaload, 1) := by decide +kernel
theorem dX8_image_32 : decode cX8_image 32 = .ok (.iastore, 1) := by decide +kernel
theorem dX8_image_33 : decode cX8_image 33 = .ok (.aload_n 0, 1) := by decide +kernel
theorem dX8_image_34 : decode cX8_image 34 = .ok (.getfield 49, 3) := by decide +kernel
theorem dX8_image_37 : decode cX8_image 37 = .ok (.bipush 8, 2) := by decide +kernel
theorem dX8_image_39 : decode cX8_image 39 = .ok (.iload_n 1, 1) := by decide +kernel
theorem dX8_image_40 : decode cX8_image 40 = .ok (.iadd, 1) := by decide +kernel
theorem dX8_image_41 : decode cX8_image 41 = .ok (.aload_n 0, 1) := by decide +kernel
theorem dX8_image_42 : decode cX8_image 42 = .ok (.getfield 16, 3) := by decide +kernel
theorem dX8_image_45 : decode cX8_image 45 = .ok (.iload_n 1, 1) := by decide +kernel
theorem dX8_image_46 : decode cX8_image 46 = .ok (.iaload, 1) := by decide +kernel
theorem dX8_image_47 : decode cX8_image 47 = .ok (.iastore, 1) := by decide +kernel
theorem dX8_image_48 : decode cX8_image 48 = .ok (.aload_n 0, 1) := by decide +kernel
theorem dX8_image_49 : decode cX8_image 49 = .ok (.getfield 49, 3) := by decide +kernel
theorem dX8_image_52 : decode cX8_image 52 = .ok (.bipush 16, 2) := by decide +kernel
theorem dX8_image_54 : decode cX8_image 54 = .ok (.iload_n 1, 1) := by decide +kernel
theorem dX8_image_55 : decode cX8_image 55 = .ok (.iadd, 1) := by decide +kernel
theorem dX8_image_56 : decode cX8_image 56 = .ok (.aload_n 0, 1) := by decide +kernel
theorem dX8_image_57 : decode cX8_image 57 = .ok (.getfield 19, 3) := by decide +kernel
theorem dX8_image_60 : decode cX8_image 60 = .ok (.iload_n 1, 1) := by decide +kernel
theorem dX8_image_61 : decode cX8_image 61 = .ok (.iaload, 1) := by decide +kernel
theorem dX8_image_62 : decode cX8_image 62 = .ok (.iastore, 1) := by decide +kernel
theorem dX8_image_63 : decode cX8_image 63 = .ok (.aload_n 0, 1) := by decide +kernel
theorem dX8_image_64 : decode cX8_image 64 = .ok (.getfield 49, 3) := by decide +kernel
theorem dX8_image_67 : decode cX8_image 67 = .ok (.bipush 24, 2) := by decide +kernel
theorem dX8_image_69 : decode cX8_image 69 = .ok (.iload_n 1, 1) := by decide +kernel
theorem dX8_image_70 : decode cX8_image 70 = .ok (.iadd, 1) := by decide +kernel
theorem dX8_image_71 : decode cX8_image 71 = .ok (.aload_n 0, 1) := by decide +kernel
theorem dX8_image_72 : decode cX8_image 72 = .ok (.getfield 22, 3) := by decide +kernel
theorem dX8_image_75 : decode cX8_image 75 = .ok (.iload_n 1, 1) := by decide +kernel
theorem dX8_image_76 : decode cX8_image 76 = .ok (.iaload, 1) := by decide +kernel
theorem dX8_image_77 : decode cX8_image 77 = .ok (.iastore, 1) := by decide +kernel
theorem dX8_image_78 : decode cX8_image 78 = .ok (.iinc 1 1, 3) := by decide +kernel
theorem dX8_image_81 : decode cX8_image 81 = .ok (.goto (-66), 3) := by decide +kernel
theorem dX8_image_84 : decode cX8_image 84 = .ok (.aload_n 0, 1) := by decide +kernel
theorem dX8_image_85 : decode cX8_image 85 = .ok (.getfield 49, 3) := by decide +kernel
theorem dX8_image_88 : decode cX8_image 88 = .ok (.bipush 32, 2) := by decide +kernel
theorem dX8_image_90 : decode cX8_image 90 = .ok (.aload_n 0, 1) := by decide +kernel
theorem dX8_image_91 : decode cX8_image 91 = .ok (.getfield 86, 3) := by decide +kernel
theorem dX8_image_94 : decode cX8_image 94 = .ok (.iastore, 1) := by decide +kernel
theorem dX8_image_95 : decode cX8_image 95 = .ok (.aload_n 0, 1) := by decide +kernel
theorem dX8_image_96 : decode cX8_image 96 = .ok (.getfield 49, 3) := by decide +kernel
theorem dX8_image_99 : decode cX8_image 99 = .ok (.bipush 33, 2) := by decide +kernel
theorem dX8_image_101 : decode cX8_image 101 = .ok (.aload_n 0, 1) := by decide +kernel
theorem dX8_image_102 : decode cX8_image 102 = .ok (.getfield 89, 3) := by decide +kernel
theorem dX8_image_105 : decode cX8_image 105 = .ok (.iastore, 1) := by decide +kernel
theorem dX8_image_106 : decode cX8_image 106 = .ok (.aload_n 0, 1) := by decide +kernel
theorem dX8_image_107 : decode cX8_image 107 = .ok (.getfield 49, 3) := by decide +kernel
theorem dX8_image_110 : decode cX8_image 110 = .ok (.bipush 34, 2) := by decide +kernel
theorem dX8_image_112 : decode cX8_image 112 = .ok (.aload_n 0, 1) := by decide +kernel
theorem dX8_image_113 : decode cX8_image 113 = .ok (.getfield 218, 3) := by decide +kernel
theorem dX8_image_116 : decode cX8_image 116 = .ok (.iastore, 1) := by decide +kernel
theorem dX8_image_117 : decode cX8_image 117 = .ok (.aload_n 0, 1) := by decide +kernel
theorem dX8_image_118 : decode cX8_image 118 = .ok (.getfield 79, 3) := by decide +kernel
theorem dX8_image_121 : decode cX8_image 121 = .ok (.ireturn, 1) := by decide +kernel
theorem dX8_back_0 : decode cX8_back 0 = .ok (.aload_n 0, 1) := by decide +kernel
theorem dX8_back_1 : decode cX8_back 1 = .ok (.getfield 312, 3) := by decide +kernel
theorem dX8_back_4 : decode cX8_back 4 = .ok (.ifCond .ne 6, 3) := by decide +kernel
theorem dX8_back_7 : decode cX8_back 7 = .ok (.bipush (-3), 2) := by decide +kernel
theorem dX8_back_9 : decode cX8_back 9 = .ok (.ireturn, 1) := by decide +kernel
theorem dX8_back_10 : decode cX8_back 10 = .ok (.aload_n 0, 1) := by decide +kernel
theorem dX8_back_11 : decode cX8_back 11 = .ok (.aload_n 0, 1) := by decide +kernel
theorem dX8_back_12 : decode cX8_back 12 = .ok (.getfield 316, 3) := by decide +kernel
theorem dX8_back_15 : decode cX8_back 15 = .ok (.putfield 79, 3) := by decide +kernel
theorem dX8_back_18 : decode cX8_back 18 = .ok (.iconst 0, 1) := by decide +kernel
theorem dX8_back_19 : decode cX8_back 19 = .ok (.istore_n 1, 1) := by decide +kernel
theorem dX8_back_20 : decode cX8_back 20 = .ok (.iload_n 1, 1) := by decide +kernel
theorem dX8_back_21 : decode cX8_back 21 = .ok (.bipush 8, 2) := by decide +kernel
theorem dX8_back_23 : decode cX8_back 23 = .ok (.if_icmp .ge 66, 3) := by decide +kernel
theorem dX8_back_26 : decode cX8_back 26 = .ok (.aload_n 0, 1) := by decide +kernel
theorem dX8_back_27 : decode cX8_back 27 = .ok (.getfield 13, 3) := by decide +kernel
theorem dX8_back_30 : decode cX8_back 30 = .ok (.iload_n 1, 1) := by decide +kernel
theorem dX8_back_31 : decode cX8_back 31 = .ok (.aload_n 0, 1) := by decide +kernel
theorem dX8_back_32 : decode cX8_back 32 = .ok (.getfield 49, 3) := by decide +kernel
theorem dX8_back_35 : decode cX8_back 35 = .ok (.iload_n 1, 1) := by decide +kernel
theorem dX8_back_36 : decode cX8_back 36 = .ok (.iaload, 1) := by decide +kernel
theorem dX8_back_37 : decode cX8_back 37 = .ok (.iastore, 1) := by decide +kernel
theorem dX8_back_38 : decode cX8_back 38 = .ok (.aload_n 0, 1) := by decide +kernel
theorem dX8_back_39 : decode cX8_back 39 = .ok (.getfield 16, 3) := by decide +kernel
theorem dX8_back_42 : decode cX8_back 42 = .ok (.iload_n 1, 1) := by decide +kernel
theorem dX8_back_43 : decode cX8_back 43 = .ok (.aload_n 0, 1) := by decide +kernel
theorem dX8_back_44 : decode cX8_back 44 = .ok (.getfield 49, 3) := by decide +kernel
theorem dX8_back_47 : decode cX8_back 47 = .ok (.bipush 8, 2) := by decide +kernel
theorem dX8_back_49 : decode cX8_back 49 = .ok (.iload_n 1, 1) := by decide +kernel
theorem dX8_back_50 : decode cX8_back 50 = .ok (.iadd, 1) := by decide +kernel
theorem dX8_back_51 : decode cX8_back 51 = .ok (.iaload, 1) := by decide +kernel
theorem dX8_back_52 : decode cX8_back 52 = .ok (.iastore, 1) := by decide +kernel
theorem dX8_back_53 : decode cX8_back 53 = .ok (.aload_n 0, 1) := by decide +kernel
theorem dX8_back_54 : decode cX8_back 54 = .ok (.getfield 19, 3) := by decide +kernel
theorem dX8_back_57 : decode cX8_back 57 = .ok (.iload_n 1, 1) := by decide +kernel
theorem dX8_back_58 : decode cX8_back 58 = .ok (.aload_n 0, 1) := by decide +kernel
theorem dX8_back_59 : decode cX8_back 59 = .ok (.getfield 49, 3) := by decide +kernel
theorem dX8_back_62 : decode cX8_back 62 = .ok (.bipush 16, 2) := by decide +kernel
theorem dX8_back_64 : decode cX8_back 64 = .ok (.iload_n 1, 1) := by decide +kernel
theorem dX8_back_65 : decode cX8_back 65 = .ok (.iadd, 1) := by decide +kernel
theorem dX8_back_66 : decode cX8_back 66 = .ok (.iaload, 1) := by decide +kernel
theorem dX8_back_67 : decode cX8_back 67 = .ok (.iastore, 1) := by decide +kernel
theorem dX8_back_68 : decode cX8_back 68 = .ok (.aload_n 0, 1) := by decide +kernel
theorem dX8_back_69 : decode cX8_back 69 = .ok (.getfield 22, 3) := by decide +kernel
theorem dX8_back_72 : decode cX8_back 72 = .ok (.iload_n 1, 1) := by decide +kernel
theorem dX8_back_73 : decode cX8_back 73 = .ok (.aload_n 0, 1) := by decide +kernel
theorem dX8_back_74 : decode cX8_back 74 = .ok (.getfield 49, 3) := by decide +kernel
theorem dX8_back_77 : decode cX8_back 77 = .ok (.bipush 24, 2) := by decide +kernel
theorem dX8_back_79 : decode cX8_back 79 = .ok (.iload_n 1, 1) := by decide +kernel
theorem dX8_back_80 : decode cX8_back 80 = .ok (.iadd, 1) := by decide +kernel
theorem dX8_back_81 : decode cX8_back 81 = .ok (.iaload, 1) := by decide +kernel
theorem dX8_back_82 : decode cX8_back 82 = .ok (.iastore, 1) := by decide +kernel
theorem dX8_back_83 : decode cX8_back 83 = .ok (.iinc 1 1, 3) := by decide +kernel
theorem dX8_back_86 : decode cX8_back 86 = .ok (.goto (-66), 3) := by decide +kernel
theorem dX8_back_89 : decode cX8_back 89 = .ok (.aload_n 0, 1) := by decide +kernel
theorem dX8_back_90 : decode cX8_back 90 = .ok (.aload_n 0, 1) := by decide +kernel
theorem dX8_back_91 : decode cX8_back 91 = .ok (.getfield 49, 3) := by decide +kernel
theorem dX8_back_94 : decode cX8_back 94 = .ok (.bipush 32, 2) := by decide +kernel
theorem dX8_back_96 : decode cX8_back 96 = .ok (.iaload, 1) := by decide +kernel
theorem dX8_back_97 : decode cX8_back 97 = .ok (.putfield 86, 3) := by decide +kernel
theorem dX8_back_100 : decode cX8_back 100 = .ok (.aload_n 0, 1) := by decide +kernel
theorem dX8_back_101 : decode cX8_back 101 = .ok (.aload_n 0, 1) := by decide +kernel
theorem dX8_back_102 : decode cX8_back 102 = .ok (.getfield 49, 3) := by decide +kernel
theorem dX8_back_105 : decode cX8_back 105 = .ok (.bipush 33, 2) := by decide +kernel
theorem dX8_back_107 : decode cX8_back 107 = .ok (.iaload, 1) := by decide +kernel
theorem dX8_back_108 : decode cX8_back 108 = .ok (.putfield 89, 3) := by decide +kernel
theorem dX8_back_111 : decode cX8_back 111 = .ok (.aload_n 0, 1) := by decide +kernel
theorem dX8_back_112 : decode cX8_back 112 = .ok (.aload_n 0, 1) := by decide +kernel
theorem dX8_back_113 : decode cX8_back 113 = .ok (.getfield 49, 3) := by decide +kernel
theorem dX8_back_116 : decode cX8_back 116 = .ok (.bipush 34, 2) := by decide +kernel
theorem dX8_back_118 : decode cX8_back 118 = .ok (.iaload, 1) := by decide +kernel
theorem dX8_back_119 : decode cX8_back 119 = .ok (.putfield 218, 3) := by decide +kernel
theorem dX8_back_122 : decode cX8_back 122 = .ok (.aload_n 0, 1) := by decide +kernel
theorem dX8_back_123 : decode cX8_back 123 = .ok (.getfield 79, 3) := by decide +kernel
theorem dX8_back_126 : decode cX8_back 126 = .ok (.ireturn, 1) := by decide +kernel
theorem dX8_count_0 : decode cX8_count 0 = .ok (.iload_n 1, 1) := by decide +kernel
theorem dX8_count_1 : decode cX8_count 1 = .ok (.tableswitch 72 0 5 #[39, 44, 52, 57, 62, 67], 39) := by decide +kernel
theorem dX8_count_40 : decode cX8_count 40 = .ok (.aload_n 0, 1) := by decide +kernel
theorem dX8_count_41 : decode cX8_count 41 = .ok (.getfield 79, 3) := by decide +kernel
theorem dX8_count_44 : decode cX8_count 44 = .ok (.ireturn, 1) := by decide +kernel
theorem dX8_count_45 : decode cX8_count 45 = .ok (.aload_n 0, 1) := by decide +kernel
theorem dX8_count_46 : decode cX8_count 46 = .ok (.invokevirtual 239, 3) := by decide +kernel
theorem dX8_count_49 : decode cX8_count 49 = .ok (.invokestatic 319, 3) := by decide +kernel
theorem dX8_count_52 : decode cX8_count 52 = .ok (.ireturn, 1) := by decide +kernel
theorem dX8_count_53 : decode cX8_count 53 = .ok (.aload_n 0, 1) := by decide +kernel
theorem dX8_count_54 : decode cX8_count 54 = .ok (.getfield 89, 3) := by decide +kernel
theorem dX8_count_57 : decode cX8_count 57 = .ok (.ireturn, 1) := by decide +kernel
theorem dX8_count_58 : decode cX8_count 58 = .ok (.aload_n 0, 1) := by decide +kernel
theorem dX8_count_59 : decode cX8_count 59 = .ok (.getfield 211, 3) := by decide +kernel
theorem dX8_count_62 : decode cX8_count 62 = .ok (.ireturn, 1) := by decide +kernel
theorem dX8_count_63 : decode cX8_count 63 = .ok (.aload_n 0, 1) := by decide +kernel
theorem dX8_count_64 : decode cX8_count 64 = .ok (.getfield 72, 3) := by decide +kernel
theorem dX8_count_67 : decode cX8_count 67 = .ok (.ireturn, 1) := by decide +kernel
theorem dX8_count_68 : decode cX8_count 68 = .ok (.aload_n 0, 1) := by decide +kernel
theorem dX8_count_69 : decode cX8_count 69 = .ok (.getfield 218, 3) := by decide +kernel
theorem dX8_count_72 : decode cX8_count 72 = .ok (.ireturn, 1) := by decide +kernel
theorem dX8_count_73 : decode cX8_count 73 = .ok (.bipush (-2), 2) := by decide +kernel
theorem dX8_count_75 : decode cX8_count 75 = .ok (.ireturn, 1) := by decide +kernel
theorem dX8_sheet_0 : decode cX8_sheet 0 = .ok (.iload_n 1, 1) := by decide +kernel
theorem dX8_sheet_1 : decode cX8_sheet 1 = .ok (.invokestatic 277, 3) := by decide +kernel
theorem dX8_sheet_4 : decode cX8_sheet 4 = .ok (.ifCond .eq 12, 3) := by decide +kernel
theorem dX8_sheet_7 : decode cX8_sheet 7 = .ok (.iload_n 2, 1) := by decide +kernel
theorem dX8_sheet_8 : decode cX8_sheet 8 = .ok (.iconst (-1), 1) := by decide +kernel
theorem dX8_sheet_9 : decode cX8_sheet 9 = .ok (.iconst 2, 1) := by decide +kernel
theorem dX8_sheet_10 : decode cX8_sheet 10 = .ok (.invokestatic 82, 3) := by decide +kernel
theorem dX8_sheet_13 : decode cX8_sheet 13 = .ok (.ifCond .ne 6, 3) := by decide +kernel
theorem dX8_sheet_16 : decode cX8_sheet 16 = .ok (.bipush (-2), 2) := by decide +kernel
theorem dX8_sheet_18 : decode cX8_sheet 18 = .ok (.ireturn, 1) := by decide +kernel
theorem dX8_sheet_19 : decode cX8_sheet 19 = .ok (.iload_n 2, 1) := by decide +kernel
theorem dX8_sheet_20 : decode cX8_sheet 20 = .ok (.ifCond .lt 10, 3) := by decide +kernel
theorem dX8_sheet_23 : decode cX8_sheet 23 = .ok (.iload_n 3, 1) := by decide +kernel
theorem dX8_sheet_24 : decode cX8_sheet 24 = .ok (.ifCond .ge 6, 3) := by decide +kernel
theorem dX8_sheet_27 : decode cX8_sheet 27 = .ok (.bipush (-14), 2) := by decide +kernel
theorem dX8_sheet_29 : decode cX8_sheet 29 = .ok (.ireturn, 1) := by decide +kernel
theorem dX8_sheet_30 : decode cX8_sheet 30 = .ok (.iload_n 2, 1) := by decide +kernel
theorem dX8_sheet_31 : decode cX8_sheet 31 = .ok (.ifCond .lt 12, 3) := by decide +kernel
theorem dX8_sheet_34 : decode cX8_sheet 34 = .ok (.iload_n 3, 1) := by decide +kernel
theorem dX8_sheet_35 : decode cX8_sheet 35 = .ok (.bipush 40, 2) := by decide +kernel
theorem dX8_sheet_37 : decode cX8_sheet 37 = .ok (.if_icmp .le 6, 3) := by decide +kernel
theorem dX8_sheet_40 : decode cX8_sheet 40 = .ok (.bipush (-2), 2) := by decide +kernel
theorem dX8_sheet_42 : decode cX8_sheet 42 = .ok (.ireturn, 1) := by decide +kernel
theorem dX8_sheet_43 : decode cX8_sheet 43 = .ok (.aload_n 0, 1) := by decide +kernel
theorem dX8_sheet_44 : decode cX8_sheet 44 = .ok (.getfield 52, 3) := by decide +kernel
theorem dX8_sheet_47 : decode cX8_sheet 47 = .ok (.iload_n 1, 1) := by decide +kernel
theorem dX8_sheet_48 : decode cX8_sheet 48 = .ok (.iload_n 2, 1) := by decide +kernel
theorem dX8_sheet_49 : decode cX8_sheet 49 = .ok (.iastore, 1) := by decide +kernel
theorem dX8_sheet_50 : decode cX8_sheet 50 = .ok (.aload_n 0, 1) := by decide +kernel
theorem dX8_sheet_51 : decode cX8_sheet 51 = .ok (.getfield 55, 3) := by decide +kernel
theorem dX8_sheet_54 : decode cX8_sheet 54 = .ok (.iload_n 1, 1) := by decide +kernel
theorem dX8_sheet_55 : decode cX8_sheet 55 = .ok (.iload_n 2, 1) := by decide +kernel
theorem dX8_sheet_56 : decode cX8_sheet 56 = .ok (.ifCond .ge 7, 3) := by decide +kernel
theorem dX8_sheet_59 : decode cX8_sheet 59 = .ok (.iconst 0, 1) := by decide +kernel
theorem dX8_sheet_60 : decode cX8_sheet 60 = .ok (.goto 4, 3) := by decide +kernel
theorem dX8_sheet_63 : decode cX8_sheet 63 = .ok (.iload_n 3, 1) := by decide +kernel
theorem dX8_sheet_64 : decode cX8_sheet 64 = .ok (.iastore, 1) := by decide +kernel
theorem dX8_sheet_65 : decode cX8_sheet 65 = .ok (.iconst 0, 1) := by decide +kernel
theorem dX8_sheet_66 : decode cX8_sheet 66 = .ok (.istore 4, 2) := by decide +kernel
theorem dX8_sheet_68 : decode cX8_sheet 68 = .ok (.iload 4, 2) := by decide +kernel
theorem dX8_sheet_70 : decode cX8_sheet 70 = .ok (.bipush 40, 2) := by decide +kernel
theorem dX8_sheet_72 : decode cX8_sheet 72 = .ok (.if_icmp .ge 22, 3) := by decide +kernel
theorem dX8_sheet_75 : decode cX8_sheet 75 = .ok (.aload_n 0, 1) := by decide +kernel
theorem dX8_sheet_76 : decode cX8_sheet 76 = .ok (.getfield 58, 3) := by decide +kernel
theorem dX8_sheet_79 : decode cX8_sheet 79 = .ok (.bipush 40, 2) := by decide +kernel
theorem dX8_sheet_81 : decode cX8_sheet 81 = .ok (.iload_n 1, 1) := by decide +kernel
theorem dX8_sheet_82 : decode cX8_sheet 82 = .ok (.imul, 1) := by decide +kernel
theorem dX8_sheet_83 : decode cX8_sheet 83 = .ok (.iload 4, 2) := by decide +kernel
theorem dX8_sheet_85 : decode cX8_sheet 85 = .ok (.iadd, 1) := by decide +kernel
theorem dX8_sheet_86 : decode cX8_sheet 86 = .ok (.iconst 0, 1) := by decide +kernel
theorem dX8_sheet_87 : decode cX8_sheet 87 = .ok (.iastore, 1) := by decide +kernel
theorem dX8_sheet_88 : decode cX8_sheet 88 = .ok (.iinc 4 1, 3) := by decide +kernel
theorem dX8_sheet_91 : decode cX8_sheet 91 = .ok (.goto (-23), 3) := by decide +kernel
theorem dX8_sheet_94 : decode cX8_sheet 94 = .ok (.iconst 1, 1) := by decide +kernel
theorem dX8_sheet_95 : decode cX8_sheet 95 = .ok (.ireturn, 1) := by decide +kernel
theorem dX8_cell_0 : decode cX8_cell 0 = .ok (.iload_n 1, 1) := by decide +kernel
theorem dX8_cell_1 : decode cX8_cell 1 = .ok (.invokestatic 277, 3) := by decide +kernel
theorem dX8_cell_4 : decode cX8_cell 4 = .ok (.ifCond .ne 6, 3) := by decide +kernel
theorem dX8_cell_7 : decode cX8_cell 7 = .ok (.bipush (-2), 2) := by decide +kernel
theorem dX8_cell_9 : decode cX8_cell 9 = .ok (.ireturn, 1) := by decide +kernel
theorem dX8_cell_10 : decode cX8_cell 10 = .ok (.aload_n 0, 1) := by decide +kernel
theorem dX8_cell_11 : decode cX8_cell 11 = .ok (.getfield 52, 3) := by decide +kernel
theorem dX8_cell_14 : decode cX8_cell 14 = .ok (.iload_n 1, 1) := by decide +kernel
theorem dX8_cell_15 : decode cX8_cell 15 = .ok (.iaload, 1) := by decide +kernel
theorem dX8_cell_16 : decode cX8_cell 16 = .ok (.ifCond .ge 6, 3) := by decide +kernel
theorem dX8_cell_19 : decode cX8_cell 19 = .ok (.bipush (-11), 2) := by decide +kernel
theorem dX8_cell_21 : decode cX8_cell 21 = .ok (.ireturn, 1) := by decide +kernel
theorem dX8_cell_22 : decode cX8_cell 22 = .ok (.iload_n 2, 1) := by decide +kernel
theorem dX8_cell_23 : decode cX8_cell 23 = .ok (.iconst 0, 1) := by decide +kernel
theorem dX8_cell_24 : decode cX8_cell 24 = .ok (.aload_n 0, 1) := by decide +kernel
theorem dX8_cell_25 : decode cX8_cell 25 = .ok (.getfield 55, 3) := by decide +kernel
theorem dX8_cell_28 : decode cX8_cell 28 = .ok (.iload_n 1, 1) := by decide +kernel
theorem dX8_cell_29 : decode cX8_cell 29 = .ok (.iaload, 1) := by decide +kernel
theorem dX8_cell_30 : decode cX8_cell 30 = .ok (.iconst 1, 1) := by decide +kernel
theorem dX8_cell_31 : decode cX8_cell 31 = .ok (.isub, 1) := by decide +kernel
theorem dX8_cell_32 : decode cX8_cell 32 = .ok (.invokestatic 82, 3) := by decide +kernel
theorem dX8_cell_35 : decode cX8_cell 35 = .ok (.ifCond .ne 6, 3) := by decide +kernel
theorem dX8_cell_38 : decode cX8_cell 38 = .ok (.bipush (-12), 2) := by decide +kernel
theorem dX8_cell_40 : decode cX8_cell 40 = .ok (.ireturn, 1) := by decide +kernel
theorem dX8_cell_41 : decode cX8_cell 41 = .ok (.aload_n 0, 1) := by decide +kernel
theorem dX8_cell_42 : decode cX8_cell 42 = .ok (.getfield 58, 3) := by decide +kernel
theorem dX8_cell_45 : decode cX8_cell 45 = .ok (.bipush 40, 2) := by decide +kernel
theorem dX8_cell_47 : decode cX8_cell 47 = .ok (.iload_n 1, 1) := by decide +kernel
theorem dX8_cell_48 : decode cX8_cell 48 = .ok (.imul, 1) := by decide +kernel
theorem dX8_cell_49 : decode cX8_cell 49 = .ok (.iload_n 2, 1) := by decide +kernel
theorem dX8_cell_50 : decode cX8_cell 50 = .ok (.iadd, 1) := by decide +kernel
theorem dX8_cell_51 : decode cX8_cell 51 = .ok (.aload_n 0, 1) := by decide +kernel
theorem dX8_cell_52 : decode cX8_cell 52 = .ok (.getfield 52, 3) := by decide +kernel
theorem dX8_cell_55 : decode cX8_cell 55 = .ok (.iload_n 1, 1) := by decide +kernel
theorem dX8_cell_56 : decode cX8_cell 56 = .ok (.iaload, 1) := by decide +kernel
theorem dX8_cell_57 : decode cX8_cell 57 = .ok (.ifCond .ne 8, 3) := by decide +kernel
theorem dX8_cell_60 : decode cX8_cell 60 = .ok (.iload_n 3, 1) := by decide +kernel
theorem dX8_cell_61 : decode cX8_cell 61 = .ok (.i2b, 1) := by decide +kernel
theorem dX8_cell_62 : decode cX8_cell 62 = .ok (.goto 19, 3) := by decide +kernel
theorem dX8_cell_65 : decode cX8_cell 65 = .ok (.aload_n 0, 1) := by decide +kernel
theorem dX8_cell_66 : decode cX8_cell 66 = .ok (.getfield 52, 3) := by decide +kernel
theorem dX8_cell_69 : decode cX8_cell 69 = .ok (.iload_n 1, 1) := by decide +kernel
theorem dX8_cell_70 : decode cX8_cell 70 = .ok (.iaload, 1) := by decide +kernel
theorem dX8_cell_71 : decode cX8_cell 71 = .ok (.iconst 1, 1) := by decide +kernel
theorem dX8_cell_72 : decode cX8_cell 72 = .ok (.if_icmp .ne 8, 3) := by decide +kernel
theorem dX8_cell_75 : decode cX8_cell 75 = .ok (.iload_n 3, 1) := by decide +kernel
theorem dX8_cell_76 : decode cX8_cell 76 = .ok (.i2s, 1) := by decide +kernel
theorem dX8_cell_77 : decode cX8_cell 77 = .ok (.goto 4, 3) := by decide +kernel
theorem dX8_cell_80 : decode cX8_cell 80 = .ok (.iload_n 3, 1) := by decide +kernel
theorem dX8_cell_81 : decode cX8_cell 81 = .ok (.iastore, 1) := by decide +kernel
theorem dX8_cell_82 : decode cX8_cell 82 = .ok (.iconst 1, 1) := by decide +kernel
theorem dX8_cell_83 : decode cX8_cell 83 = .ok (.ireturn, 1) := by decide +kernel
theorem dX8_copy_0 : decode cX8_copy 0 = .ok (.iload_n 1, 1) := by decide +kernel
theorem dX8_copy_1 : decode cX8_copy 1 = .ok (.invokestatic 277, 3) := by decide +kernel
theorem dX8_copy_4 : decode cX8_copy 4 = .ok (.ifCond .eq 10, 3) := by decide +kernel
theorem dX8_copy_7 : decode cX8_copy 7 = .ok (.iload_n 3, 1) := by decide +kernel
theorem dX8_copy_8 : decode cX8_copy 8 = .ok (.invokestatic 277, 3) := by decide +kernel
theorem dX8_copy_11 : decode cX8_copy 11 = .ok (.ifCond .ne 6, 3) := by decide +kernel
theorem dX8_copy_14 : decode cX8_copy 14 = .ok (.bipush (-2), 2) := by decide +kernel
theorem dX8_copy_16 : decode cX8_copy 16 = .ok (.ireturn, 1) := by decide +kernel
theorem dX8_copy_17 : decode cX8_copy 17 = .ok (.aload_n 0, 1) := by decide +kernel
theorem dX8_copy_18 : decode cX8_copy 18 = .ok (.getfield 52, 3) := by decide +kernel
theorem dX8_copy_21 : decode cX8_copy 21 = .ok (.iload_n 1, 1) := by decide +kernel
theorem dX8_copy_22 : decode cX8_copy 22 = .ok (.iaload, 1) := by decide +kernel
theorem dX8_copy_23 : decode cX8_copy 23 = .ok (.ifCond .lt 12, 3) := by decide +kernel
theorem dX8_copy_26 : decode cX8_copy 26 = .ok (.aload_n 0, 1) := by decide +kernel
theorem dX8_copy_27 : decode cX8_copy 27 = .ok (.getfield 52, 3) := by decide +kernel
theorem dX8_copy_30 : decode cX8_copy 30 = .ok (.iload_n 3, 1) := by decide +kernel
theorem dX8_copy_31 : decode cX8_copy 31 = .ok (.iaload, 1) := by decide +kernel
theorem dX8_copy_32 : decode cX8_copy 32 = .ok (.ifCond .ge 6, 3) := by decide +kernel
theorem dX8_copy_35 : decode cX8_copy 35 = .ok (.bipush (-11), 2) := by decide +kernel
theorem dX8_copy_37 : decode cX8_copy 37 = .ok (.ireturn, 1) := by decide +kernel
theorem dX8_copy_38 : decode cX8_copy 38 = .ok (.aload_n 0, 1) := by decide +kernel
theorem dX8_copy_39 : decode cX8_copy 39 = .ok (.getfield 52, 3) := by decide +kernel
theorem dX8_copy_42 : decode cX8_copy 42 = .ok (.iload_n 1, 1) := by decide +kernel
theorem dX8_copy_43 : decode cX8_copy 43 = .ok (.iaload, 1) := by decide +kernel
theorem dX8_copy_44 : decode cX8_copy 44 = .ok (.aload_n 0, 1) := by decide +kernel
theorem dX8_copy_45 : decode cX8_copy 45 = .ok (.getfield 52, 3) := by decide +kernel
theorem dX8_copy_48 : decode cX8_copy 48 = .ok (.iload_n 3, 1) := by decide +kernel
theorem dX8_copy_49 : decode cX8_copy 49 = .ok (.iaload, 1) := by decide +kernel
theorem dX8_copy_50 : decode cX8_copy 50 = .ok (.if_icmp .eq 6, 3) := by decide +kernel
theorem dX8_copy_53 : decode cX8_copy 53 = .ok (.bipush (-13), 2) := by decide +kernel
theorem dX8_copy_55 : decode cX8_copy 55 = .ok (.ireturn, 1) := by decide +kernel
theorem dX8_copy_56 : decode cX8_copy 56 = .ok (.iload 5, 2) := by decide +kernel
theorem dX8_copy_58 : decode cX8_copy 58 = .ok (.ifCond .lt 47, 3) := by decide +kernel
theorem dX8_copy_61 : decode cX8_copy 61 = .ok (.iload_n 2, 1) := by decide +kernel
theorem dX8_copy_62 : decode cX8_copy 62 = .ok (.ifCond .lt 43, 3) := by decide +kernel
theorem dX8_copy_65 : decode cX8_copy 65 = .ok (.iload 4, 2) := by decide +kernel
theorem dX8_copy_67 : decode cX8_copy 67 = .ok (.ifCond .lt 38, 3) := by decide +kernel
theorem dX8_copy_70 : decode cX8_copy 70 = .ok (.iload_n 2, 1) := by decide +kernel
theorem dX8_copy_71 : decode cX8_copy 71 = .ok (.i2l, 1) := by decide +kernel
theorem dX8_copy_72 : decode cX8_copy 72 = .ok (.iload 5, 2) := by decide +kernel
theorem dX8_copy_74 : decode cX8_copy 74 = .ok (.i2l, 1) := by decide +kernel
theorem dX8_copy_75 : decode cX8_copy 75 = .ok (.ladd, 1) := by decide +kernel
theorem dX8_copy_76 : decode cX8_copy 76 = .ok (.aload_n 0, 1) := by decide +kernel
theorem dX8_copy_77 : decode cX8_copy 77 = .ok (.getfield 55, 3) := by decide +kernel
theorem dX8_copy_80 : decode cX8_copy 80 = .ok (.iload_n 1, 1) := by decide +kernel
theorem dX8_copy_81 : decode cX8_copy 81 = .ok (.iaload, 1) := by decide +kernel
theorem dX8_copy_82 : decode cX8_copy 82 = .ok (.i2l, 1) := by decide +kernel
theorem dX8_copy_83 : decode cX8_copy 83 = .ok (.lcmp, 1) := by decide +kernel
theorem dX8_copy_84 : decode cX8_copy 84 = .ok (.ifCond .gt 21, 3) := by decide +kernel
theorem dX8_copy_87 : decode cX8_copy 87 = .ok (.iload 4, 2) := by decide +kernel
theorem dX8_copy_89 : decode cX8_copy 89 = .ok (.i2l, 1) := by decide +kernel
theorem dX8_copy_90 : decode cX8_copy 90 = .ok (.iload 5, 2) := by decide +kernel
theorem dX8_copy_92 : decode cX8_copy 92 = .ok (.i2l, 1) := by decide +kernel
theorem dX8_copy_93 : decode cX8_copy 93 = .ok (.ladd, 1) := by decide +kernel
theorem dX8_copy_94 : decode cX8_copy 94 = .ok (.aload_n 0, 1) := by decide +kernel
theorem dX8_copy_95 : decode cX8_copy 95 = .ok (.getfield 55, 3) := by decide +kernel
theorem dX8_copy_98 : decode cX8_copy 98 = .ok (.iload_n 3, 1) := by decide +kernel
theorem dX8_copy_99 : decode cX8_copy 99 = .ok (.iaload, 1) := by decide +kernel
theorem dX8_copy_100 : decode cX8_copy 100 = .ok (.i2l, 1) := by decide +kernel
theorem dX8_copy_101 : decode cX8_copy 101 = .ok (.lcmp, 1) := by decide +kernel
theorem dX8_copy_102 : decode cX8_copy 102 = .ok (.ifCond .le 6, 3) := by decide +kernel
theorem dX8_copy_105 : decode cX8_copy 105 = .ok (.bipush (-12), 2) := by decide +kernel
theorem dX8_copy_107 : decode cX8_copy 107 = .ok (.ireturn, 1) := by decide +kernel
theorem dX8_copy_108 : decode cX8_copy 108 = .ok (.iload_n 1, 1) := by decide +kernel
theorem dX8_copy_109 : decode cX8_copy 109 = .ok (.iload_n 3, 1) := by decide +kernel
theorem dX8_copy_110 : decode cX8_copy 110 = .ok (.if_icmp .ne 58, 3) := by decide +kernel
theorem dX8_copy_113 : decode cX8_copy 113 = .ok (.iload_n 2, 1) := by decide +kernel
theorem dX8_copy_114 : decode cX8_copy 114 = .ok (.iload 4, 2) := by decide +kernel
theorem dX8_copy_116 : decode cX8_copy 116 = .ok (.if_icmp .ge 52, 3) := by decide +kernel
theorem dX8_copy_119 : decode cX8_copy 119 = .ok (.iload 5, 2) := by decide +kernel
theorem dX8_copy_121 : decode cX8_copy 121 = .ok (.iconst 1, 1) := by decide +kernel
theorem dX8_copy_122 : decode cX8_copy 122 = .ok (.isub, 1) := by decide +kernel
theorem dX8_copy_123 : decode cX8_copy 123 = .ok (.istore 6, 2) := by decide +kernel
theorem dX8_copy_125 : decode cX8_copy 125 = .ok (.iload 6, 2) := by decide +kernel
theorem dX8_copy_127 : decode cX8_copy 127 = .ok (.ifCond .lt 38, 3) := by decide +kernel
theorem dX8_copy_130 : decode cX8_copy 130 = .ok (.aload_n 0, 1) := by decide +kernel
theorem dX8_copy_131 : decode cX8_copy 131 = .ok (.getfield 58, 3) := by decide +kernel
theorem dX8_copy_134 : decode cX8_copy 134 = .ok (.bipush 40, 2) := by decide +kernel
theorem dX8_copy_136 : decode cX8_copy 136 = .ok (.iload_n 3, 1) := by decide +kernel
theorem dX8_copy_137 : decode cX8_copy 137 = .ok (.imul, 1) := by decide +kernel
theorem dX8_copy_138 : decode cX8_copy 138 = .ok (.iload 4, 2) := by decide +kernel
theorem dX8_copy_140 : decode cX8_copy 140 = .ok (.iadd, 1) := by decide +kernel
theorem dX8_copy_141 : decode cX8_copy 141 = .ok (.iload 6, 2) := by decide +kernel
theorem dX8_copy_143 : decode cX8_copy 143 = .ok (.iadd, 1) := by decide +kernel
theorem dX8_copy_144 : decode cX8_copy 144 = .ok (.aload_n 0, 1) := by decide +kernel
theorem dX8_copy_145 : decode cX8_copy 145 = .ok (.getfield 58, 3) := by decide +kernel
theorem dX8_copy_148 : decode cX8_copy 148 = .ok (.bipush 40, 2) := by decide +kernel
theorem dX8_copy_150 : decode cX8_copy 150 = .ok (.iload_n 1, 1) := by decide +kernel
theorem dX8_copy_151 : decode cX8_copy 151 = .ok (.imul, 1) := by decide +kernel
theorem dX8_copy_152 : decode cX8_copy 152 = .ok (.iload_n 2, 1) := by decide +kernel
theorem dX8_copy_153 : decode cX8_copy 153 = .ok (.iadd, 1) := by decide +kernel
theorem dX8_copy_154 : decode cX8_copy 154 = .ok (.iload 6, 2) := by decide +kernel
theorem dX8_copy_156 : decode cX8_copy 156 = .ok (.iadd, 1) := by decide +kernel
theorem dX8_copy_157 : decode cX8_copy 157 = .ok (.iaload, 1) := by decide +kernel
theorem dX8_copy_158 : decode cX8_copy 158 = .ok (.iastore, 1) := by decide +kernel
theorem dX8_copy_159 : decode cX8_copy 159 = .ok (.iinc 6 (-1), 3) := by decide +kernel
theorem dX8_copy_162 : decode cX8_copy 162 = .ok (.goto (-37), 3) := by decide +kernel
theorem dX8_copy_165 : decode cX8_copy 165 = .ok (.goto 48, 3) := by decide +kernel
theorem dX8_copy_168 : decode cX8_copy 168 = .ok (.iconst 0, 1) := by decide +kernel
theorem dX8_copy_169 : decode cX8_copy 169 = .ok (.istore 6, 2) := by decide +kernel
theorem dX8_copy_171 : decode cX8_copy 171 = .ok (.iload 6, 2) := by decide +kernel
theorem dX8_copy_173 : decode cX8_copy 173 = .ok (.iload 5, 2) := by decide +kernel
theorem dX8_copy_175 : decode cX8_copy 175 = .ok (.if_icmp .ge 38, 3) := by decide +kernel
theorem dX8_copy_178 : decode cX8_copy 178 = .ok (.aload_n 0, 1) := by decide +kernel
theorem dX8_copy_179 : decode cX8_copy 179 = .ok (.getfield 58, 3) := by decide +kernel
theorem dX8_copy_182 : decode cX8_copy 182 = .ok (.bipush 40, 2) := by decide +kernel
theorem dX8_copy_184 : decode cX8_copy 184 = .ok (.iload_n 3, 1) := by decide +kernel
theorem dX8_copy_185 : decode cX8_copy 185 = .ok (.imul, 1) := by decide +kernel
theorem dX8_copy_186 : decode cX8_copy 186 = .ok (.iload 4, 2) := by decide +kernel
theorem dX8_copy_188 : decode cX8_copy 188 = .ok (.iadd, 1) := by decide +kernel
theorem dX8_copy_189 : decode cX8_copy 189 = .ok (.iload 6, 2) := by decide +kernel
theorem dX8_copy_191 : decode cX8_copy 191 = .ok (.iadd, 1) := by decide +kernel
theorem dX8_copy_192 : decode cX8_copy 192 = .ok (.aload_n 0, 1) := by decide +kernel
theorem dX8_copy_193 : decode cX8_copy 193 = .ok (.getfield 58, 3) := by decide +kernel
theorem dX8_copy_196 : decode cX8_copy 196 = .ok (.bipush 40, 2) := by decide +kernel
theorem dX8_copy_198 : decode cX8_copy 198 = .ok (.iload_n 1, 1) := by decide +kernel
theorem dX8_copy_199 : decode cX8_copy 199 = .ok (.imul, 1) := by decide +kernel
theorem dX8_copy_200 : decode cX8_copy 200 = .ok (.iload_n 2, 1) := by decide +kernel
theorem dX8_copy_201 : decode cX8_copy 201 = .ok (.iadd, 1) := by decide +kernel
theorem dX8_copy_202 : decode cX8_copy 202 = .ok (.iload 6, 2) := by decide +kernel
theorem dX8_copy_204 : decode cX8_copy 204 = .ok (.iadd, 1) := by decide +kernel
theorem dX8_copy_205 : decode cX8_copy 205 = .ok (.iaload, 1) := by decide +kernel
theorem dX8_copy_206 : decode cX8_copy 206 = .ok (.iastore, 1) := by decide +kernel
theorem dX8_copy_207 : decode cX8_copy 207 = .ok (.iinc 6 1, 3) := by decide +kernel
theorem dX8_copy_210 : decode cX8_copy 210 = .ok (.goto (-39), 3) := by decide +kernel
theorem dX8_copy_213 : decode cX8_copy 213 = .ok (.iload 5, 2) := by decide +kernel
theorem dX8_copy_215 : decode cX8_copy 215 = .ok (.ireturn, 1) := by decide +kernel
theorem dX8_forts_0 : decode cX8_forts 0 = .ok (.iload_n 1, 1) := by decide +kernel
theorem dX8_forts_1 : decode cX8_forts 1 = .ok (.invokestatic 277, 3) := by decide +kernel
theorem dX8_forts_4 : decode cX8_forts 4 = .ok (.ifCond .eq 23, 3) := by decide +kernel
theorem dX8_forts_7 : decode cX8_forts 7 = .ok (.iload_n 2, 1) := by decide +kernel
theorem dX8_forts_8 : decode cX8_forts 8 = .ok (.iconst 0, 1) := by decide +kernel
theorem dX8_forts_9 : decode cX8_forts 9 = .ok (.iconst 2, 1) := by decide +kernel
theorem dX8_forts_10 : decode cX8_forts 10 = .ok (.invokestatic 82, 3) := by decide +kernel
theorem dX8_forts_13 : decode cX8_forts 13 = .ok (.ifCond .eq 14, 3) := by decide +kernel
theorem dX8_forts_16 : decode cX8_forts 16 = .ok (.iload 4, 2) := by decide +kernel
theorem dX8_forts_18 : decode cX8_forts 18 = .ok (.iconst 0, 1) := by decide +kernel
theorem dX8_forts_19 : decode cX8_forts 19 = .ok (.bipush 8, 2) := by decide +kernel
theorem dX8_forts_21 : decode cX8_forts 21 = .ok (.invokestatic 82, 3) := by decide +kernel
theorem dX8_forts_24 : decode cX8_forts 24 = .ok (.ifCond .ne 6, 3) := by decide +kernel
theorem dX8_forts_27 : decode cX8_forts 27 = .ok (.bipush (-2), 2) := by decide +kernel
theorem dX8_forts_29 : decode cX8_forts 29 = .ok (.ireturn, 1) := by decide +kernel
theorem dX8_forts_30 : decode cX8_forts 30 = .ok (.aload_n 0, 1) := by decide +kernel
theorem dX8_forts_31 : decode cX8_forts 31 = .ok (.getfield 52, 3) := by decide +kernel
theorem dX8_forts_34 : decode cX8_forts 34 = .ok (.iload_n 1, 1) := by decide +kernel
theorem dX8_forts_35 : decode cX8_forts 35 = .ok (.iaload, 1) := by decide +kernel
theorem dX8_forts_36 : decode cX8_forts 36 = .ok (.ifCond .ge 6, 3) := by decide +kernel
theorem dX8_forts_39 : decode cX8_forts 39 = .ok (.bipush (-11), 2) := by decide +kernel
theorem dX8_forts_41 : decode cX8_forts 41 = .ok (.ireturn, 1) := by decide +kernel
theorem dX8_forts_42 : decode cX8_forts 42 = .ok (.aload_n 0, 1) := by decide +kernel
theorem dX8_forts_43 : decode cX8_forts 43 = .ok (.getfield 52, 3) := by decide +kernel
theorem dX8_forts_46 : decode cX8_forts 46 = .ok (.iload_n 1, 1) := by decide +kernel
theorem dX8_forts_47 : decode cX8_forts 47 = .ok (.iaload, 1) := by decide +kernel
theorem dX8_forts_48 : decode cX8_forts 48 = .ok (.iload_n 2, 1) := by decide +kernel
theorem dX8_forts_49 : decode cX8_forts 49 = .ok (.if_icmp .eq 6, 3) := by decide +kernel
theorem dX8_forts_52 : decode cX8_forts 52 = .ok (.bipush (-13), 2) := by decide +kernel
theorem dX8_forts_54 : decode cX8_forts 54 = .ok (.ireturn, 1) := by decide +kernel
theorem dX8_forts_55 : decode cX8_forts 55 = .ok (.iconst 0, 1) := by decide +kernel
theorem dX8_forts_56 : decode cX8_forts 56 = .ok (.istore 5, 2) := by decide +kernel
theorem dX8_forts_58 : decode cX8_forts 58 = .ok (.iconst 0, 1) := by decide +kernel
theorem dX8_forts_59 : decode cX8_forts 59 = .ok (.istore 6, 2) := by decide +kernel
theorem dX8_forts_61 : decode cX8_forts 61 = .ok (.iload 6, 2) := by decide +kernel
theorem dX8_forts_63 : decode cX8_forts 63 = .ok (.iload 4, 2) := by decide +kernel
theorem dX8_forts_65 : decode cX8_forts 65 = .ok (.if_icmp .ge 93, 3) := by decide +kernel
theorem dX8_forts_68 : decode cX8_forts 68 = .ok (.iload_n 3, 1) := by decide +kernel
theorem dX8_forts_69 : decode cX8_forts 69 = .ok (.i2l, 1) := by decide +kernel
theorem dX8_forts_70 : decode cX8_forts 70 = .ok (.ldc2_w 324, 3) := by decide +kernel
theorem dX8_forts_73 : decode cX8_forts 73 = .ok (.iload 6, 2) := by decide +kernel
theorem dX8_forts_75 : decode cX8_forts 75 = .ok (.i2l, 1) := by decide +kernel
theorem dX8_forts_76 : decode cX8_forts 76 = .ok (.lmul, 1) := by decide +kernel
theorem dX8_forts_77 : decode cX8_forts 77 = .ok (.ladd, 1) := by decide +kernel
theorem dX8_forts_78 : decode cX8_forts 78 = .ok (.lstore 7, 2) := by decide +kernel
theorem dX8_forts_80 : decode cX8_forts 80 = .ok (.lload 7, 2) := by decide +kernel
theorem dX8_forts_82 : decode cX8_forts 82 = .ok (.lconst 0, 1) := by decide +kernel
theorem dX8_forts_83 : decode cX8_forts 83 = .ok (.lcmp, 1) := by decide +kernel
theorem dX8_forts_84 : decode cX8_forts 84 = .ok (.ifCond .lt 20, 3) := by decide +kernel
theorem dX8_forts_87 : decode cX8_forts 87 = .ok (.lload 7, 2) := by decide +kernel
theorem dX8_forts_89 : decode cX8_forts 89 = .ok (.ldc2_w 326, 3) := by decide +kernel
theorem dX8_forts_92 : decode cX8_forts 92 = .ok (.ladd, 1) := by decide +kernel
theorem dX8_forts_93 : decode cX8_forts 93 = .ok (.aload_n 0, 1) := by decide +kernel
theorem dX8_forts_94 : decode cX8_forts 94 = .ok (.getfield 55, 3) := by decide +kernel
theorem dX8_forts_97 : decode cX8_forts 97 = .ok (.iload_n 1, 1) := by decide +kernel
theorem dX8_forts_98 : decode cX8_forts 98 = .ok (.iaload, 1) := by decide +kernel
theorem dX8_forts_99 : decode cX8_forts 99 = .ok (.i2l, 1) := by decide +kernel
theorem dX8_forts_100 : decode cX8_forts 100 = .ok (.lcmp, 1) := by decide +kernel
theorem dX8_forts_101 : decode cX8_forts 101 = .ok (.ifCond .lt 6, 3) := by decide +kernel
theorem dX8_forts_104 : decode cX8_forts 104 = .ok (.bipush (-12), 2) := by decide +kernel
theorem dX8_forts_106 : decode cX8_forts 106 = .ok (.ireturn, 1) := by decide +kernel
theorem dX8_forts_107 : decode cX8_forts 107 = .ok (.bipush 40, 2) := by decide +kernel
theorem dX8_forts_109 : decode cX8_forts 109 = .ok (.iload_n 1, 1) := by decide +kernel
theorem dX8_forts_110 : decode cX8_forts 110 = .ok (.imul, 1) := by decide +kernel
theorem dX8_forts_111 : decode cX8_forts 111 = .ok (.lload 7, 2) := by decide +kernel
theorem dX8_forts_113 : decode cX8_forts 113 = .ok (.l2i, 1) := by decide +kernel
theorem dX8_forts_114 : decode cX8_forts 114 = .ok (.iadd, 1) := by decide +kernel
theorem dX8_forts_115 : decode cX8_forts 115 = .ok (.istore 9, 2) := by decide +kernel
theorem dX8_forts_117 : decode cX8_forts 117 = .ok (.aload_n 0, 1) := by decide +kernel
theorem dX8_forts_118 : decode cX8_forts 118 = .ok (.aload_n 0, 1) := by decide +kernel
theorem dX8_forts_119 : decode cX8_forts 119 = .ok (.getfield 58, 3) := by decide +kernel
theorem dX8_forts_122 : decode cX8_forts 122 = .ok (.iload 9, 2) := by decide +kernel
theorem dX8_forts_124 : decode cX8_forts 124 = .ok (.iaload, 1) := by decide +kernel
theorem dX8_forts_125 : decode cX8_forts 125 = .ok (.aload_n 0, 1) := by decide +kernel
theorem dX8_forts_126 : decode cX8_forts 126 = .ok (.getfield 58, 3) := by decide +kernel
theorem dX8_forts_129 : decode cX8_forts 129 = .ok (.iload 9, 2) := by decide +kernel
theorem dX8_forts_131 : decode cX8_forts 131 = .ok (.iconst 1, 1) := by decide +kernel
theorem dX8_forts_132 : decode cX8_forts 132 = .ok (.iadd, 1) := by decide +kernel
theorem dX8_forts_133 : decode cX8_forts 133 = .ok (.iaload, 1) := by decide +kernel
theorem dX8_forts_134 : decode cX8_forts 134 = .ok (.aload_n 0, 1) := by decide +kernel
theorem dX8_forts_135 : decode cX8_forts 135 = .ok (.getfield 58, 3) := by decide +kernel
theorem dX8_forts_138 : decode cX8_forts 138 = .ok (.iload 9, 2) := by decide +kernel
theorem dX8_forts_140 : decode cX8_forts 140 = .ok (.iconst 2, 1) := by decide +kernel
theorem dX8_forts_141 : decode cX8_forts 141 = .ok (.iadd, 1) := by decide +kernel
theorem dX8_forts_142 : decode cX8_forts 142 = .ok (.iaload, 1) := by decide +kernel
theorem dX8_forts_143 : decode cX8_forts 143 = .ok (.invokevirtual 328, 3) := by decide +kernel
theorem dX8_forts_146 : decode cX8_forts 146 = .ok (.ifCond .lt 6, 3) := by decide +kernel
theorem dX8_forts_149 : decode cX8_forts 149 = .ok (.iinc 5 1, 3) := by decide +kernel
theorem dX8_forts_152 : decode cX8_forts 152 = .ok (.iinc 6 1, 3) := by decide +kernel
theorem dX8_forts_155 : decode cX8_forts 155 = .ok (.goto (-94), 3) := by decide +kernel
theorem dX8_forts_158 : decode cX8_forts 158 = .ok (.iload 5, 2) := by decide +kernel
theorem dX8_forts_160 : decode cX8_forts 160 = .ok (.ireturn, 1) := by decide +kernel
theorem dX8_taken_0 : decode cX8_taken 0 = .ok (.iload_n 2, 1) := by decide +kernel
theorem dX8_taken_1 : decode cX8_taken 1 = .ok (.iconst 0, 1) := by decide +kernel
theorem dX8_taken_2 : decode cX8_taken 2 = .ok (.iconst 5, 1) := by decide +kernel
theorem dX8_taken_3 : decode cX8_taken 3 = .ok (.invokestatic 82, 3) := by decide +kernel
theorem dX8_taken_6 : decode cX8_taken 6 = .ok (.ifCond .ne 6, 3) := by decide +kernel
theorem dX8_taken_9 : decode cX8_taken 9 = .ok (.bipush (-2), 2) := by decide +kernel
theorem dX8_taken_11 : decode cX8_taken 11 = .ok (.ireturn, 1) := by decide +kernel
theorem dX8_taken_12 : decode cX8_taken 12 = .ok (.aload_n 0, 1) := by decide +kernel
theorem dX8_taken_13 : decode cX8_taken 13 = .ok (.iload_n 1, 1) := by decide +kernel
theorem dX8_taken_14 : decode cX8_taken 14 = .ok (.invokevirtual 102, 3) := by decide +kernel
theorem dX8_taken_17 : decode cX8_taken 17 = .ok (.ifCond .ne 6, 3) := by decide +kernel
theorem dX8_taken_20 : decode cX8_taken 20 = .ok (.bipush (-11), 2) := by decide +kernel
theorem dX8_taken_22 : decode cX8_taken 22 = .ok (.ireturn, 1) := by decide +kernel
theorem dX8_taken_23 : decode cX8_taken 23 = .ok (.aload_n 0, 1) := by decide +kernel
theorem dX8_taken_24 : decode cX8_taken 24 = .ok (.getfield 7, 3) := by decide +kernel
theorem dX8_taken_27 : decode cX8_taken 27 = .ok (.iload_n 1, 1) := by decide +kernel
theorem dX8_taken_28 : decode cX8_taken 28 = .ok (.iaload, 1) := by decide +kernel
theorem dX8_taken_29 : decode cX8_taken 29 = .ok (.istore_n 3, 1) := by decide +kernel
theorem dX8_taken_30 : decode cX8_taken 30 = .ok (.iload_n 3, 1) := by decide +kernel
theorem dX8_taken_31 : decode cX8_taken 31 = .ok (.iload_n 2, 1) := by decide +kernel
theorem dX8_taken_32 : decode cX8_taken 32 = .ok (.if_icmp .eq 30, 3) := by decide +kernel
theorem dX8_taken_35 : decode cX8_taken 35 = .ok (.iload_n 3, 1) := by decide +kernel
theorem dX8_taken_36 : decode cX8_taken 36 = .ok (.ifCond .le 26, 3) := by decide +kernel
theorem dX8_taken_39 : decode cX8_taken 39 = .ok (.iload_n 3, 1) := by decide +kernel
theorem dX8_taken_40 : decode cX8_taken 40 = .ok (.iconst 3, 1) := by decide +kernel
theorem dX8_taken_41 : decode cX8_taken 41 = .ok (.if_icmp .ne 7, 3) := by decide +kernel
theorem dX8_taken_44 : decode cX8_taken 44 = .ok (.iconst 1, 1) := by decide +kernel
theorem dX8_taken_45 : decode cX8_taken 45 = .ok (.goto 13, 3) := by decide +kernel
theorem dX8_taken_48 : decode cX8_taken 48 = .ok (.iload_n 3, 1) := by decide +kernel
theorem dX8_taken_49 : decode cX8_taken 49 = .ok (.iconst 4, 1) := by decide +kernel
theorem dX8_taken_50 : decode cX8_taken 50 = .ok (.if_icmp .ne 7, 3) := by decide +kernel
theorem dX8_taken_53 : decode cX8_taken 53 = .ok (.iconst 2, 1) := by decide +kernel
theorem dX8_taken_54 : decode cX8_taken 54 = .ok (.goto 4, 3) := by decide +kernel
theorem dX8_taken_57 : decode cX8_taken 57 = .ok (.iconst 0, 1) := by decide +kernel
theorem dX8_taken_58 : decode cX8_taken 58 = .ok (.istore_n 3, 1) := by decide +kernel
theorem dX8_taken_59 : decode cX8_taken 59 = .ok (.goto (-29), 3) := by decide +kernel
theorem dX8_taken_62 : decode cX8_taken 62 = .ok (.iload_n 3, 1) := by decide +kernel
theorem dX8_taken_63 : decode cX8_taken 63 = .ok (.iload_n 2, 1) := by decide +kernel
theorem dX8_taken_64 : decode cX8_taken 64 = .ok (.if_icmp .ne 12, 3) := by decide +kernel
theorem dX8_taken_67 : decode cX8_taken 67 = .ok (.aload_n 0, 1) := by decide +kernel
theorem dX8_taken_68 : decode cX8_taken 68 = .ok (.getfield 13, 3) := by decide +kernel
theorem dX8_taken_71 : decode cX8_taken 71 = .ok (.iload_n 1, 1) := by decide +kernel
theorem dX8_taken_72 : decode cX8_taken 72 = .ok (.iaload, 1) := by decide +kernel
theorem dX8_taken_73 : decode cX8_taken 73 = .ok (.goto 5, 3) := by decide +kernel
theorem dX8_taken_76 : decode cX8_taken 76 = .ok (.bipush (-13), 2) := by decide +kernel
theorem dX8_taken_78 : decode cX8_taken 78 = .ok (.ireturn, 1) := by decide +kernel
end
section
theorem tw_at {w : Cond} (i : Nat) (h : lw_tbl[i]? = some w) (g : goodWord w = true) : tw w := ⟨List.mem_of_getElem? h, g⟩
theorem FR.at {own : String} {idx ci k : Nat} {r : vw_C} (i : Nat) (hr : vwCl[ci]? = some r) (hk : decide (k < r.2.2) = true) (hn : (r.2.1 k).1 = r.1) (h : lw_tbl[i]? = some (Cond.fieldLink own idx r.1 (r.2.1 k).2.1 (r.2.1 k).2.2.1)) : FR own idx ci k := ⟨r, hr, of_decide_eq_true hk, hn, Or.inl (tw_at i h rfl)⟩
theorem FR.atN {own : String} {idx ci k : Nat} {r : vw_C} (i : Nat) (hr : vwCl[ci]? = some r) (hk : decide (k < r.2.2) = true) (hn : (r.2.1 k).1 = r.1) (h : lw_tbl[i]? = some (Cond.fieldLinkNest own idx r.1 (r.2.1 k).2.1 (r.2.1 k).2.2.1 "Sandcastles")) : FR own idx ci k := ⟨r, hr, of_decide_eq_true hk, hn, Or.inr (List.mem_of_getElem? h)⟩
theorem CRc.at {y' : MethodName} {cc' : ByteArray} {L' : Nat} {ret' : Option FieldType} {n : Nat} (i j : Nat) (h1 : lw_tbl[i]? = some (Cond.code y' cc' L' ret')) (h2 : lw_tbl[j]? = some (Cond.initialized y'.cls)) (h3 : (!decide (y'.cls = "java/lang/invoke/MethodHandle") && !decide (y'.cls = "java/lang/invoke/VarHandle") && decide ((parseMethodDescriptor y'.desc).map (fun d => d.parameters.length) = some n)) = true) : CRc y' cc' L' ret' n := by
  simp only [Bool.and_eq_true, decide_eq_true_eq, Bool.not_eq_true', decide_eq_false_iff_not] at h3
  exact ⟨tw_at i h1 rfl, tw_at j h2 rfl, h3.1.1, h3.1.2, h3.2⟩
theorem VC.at {own : String} {idx : Nat} {y' : MethodName} (i j k : Nat) (h1 : lw_tbl[i]? = some (Cond.methodLink own idx y')) (h2 : lw_tbl[j]? = some (Cond.instanceMethod y')) (h3 : lw_tbl[k]? = some (Cond.selects y'.cls y' y')) : VC own idx y' := ⟨Or.inl (tw_at i h1 rfl), tw_at j h2 rfl, tw_at k h3 rfl⟩
theorem VC.atN {own : String} {idx : Nat} {y' : MethodName} (i j k : Nat) (h1 : lw_tbl[i]? = some (Cond.methodLinkNest own idx y' "Sandcastles")) (h2 : lw_tbl[j]? = some (Cond.instanceMethod y')) (h3 : lw_tbl[k]? = some (Cond.selects y'.cls y' y')) : VC own idx y' := ⟨Or.inr (List.mem_of_getElem? h1), tw_at j h2 rfl, tw_at k h3 rfl⟩
theorem SC.at {own : String} {idx : Nat} {y' : MethodName} (i j : Nat) (h1 : lw_tbl[i]? = some (Cond.methodLink own idx y')) (h2 : lw_tbl[j]? = some (Cond.static y')) : SC own idx y' := ⟨tw_at i h1 rfl, tw_at j h2 rfl⟩
theorem IC.at {own : String} {idx : Nat} {y' : MethodName} (i j : Nat) (h1 : lw_tbl[i]? = some (Cond.methodLink own idx y')) (h2 : lw_tbl[j]? = some (Cond.instanceMethod y')) (h3 : y'.name = "<init>") : IC own idx y' := ⟨Or.inl (tw_at i h1 rfl), tw_at j h2 rfl, h3⟩
theorem IC.atN {own : String} {idx : Nat} {y' : MethodName} (i j : Nat) (h1 : lw_tbl[i]? = some (Cond.methodLinkNest own idx y' "Sandcastles")) (h2 : lw_tbl[j]? = some (Cond.instanceMethod y')) (h3 : y'.name = "<init>") : IC own idx y' := ⟨Or.inr (List.mem_of_getElem? h1), tw_at j h2 rfl, h3⟩
theorem crc_X5_init : CRc yX5_init cX5_init 1 none 0 := CRc.at 102 74 (by decide +kernel) (by decide +kernel) (by decide +kernel)
theorem ic_7_9 : IC RX7 9 yX5_init := IC.atN 100 101 (by decide +kernel) (by decide +kernel) rfl
theorem fl_7_10 : FR RX7 10 7 0 := FR.at 451 rfl (by decide +kernel) (by decide +kernel) (by decide +kernel)
theorem crc_X2_init : CRc yX2_init cX2_init 2 none 1 := CRc.at 125 75 (by decide +kernel) (by decide +kernel) (by decide +kernel)
theorem ic_7_18 : IC RX7 18 yX2_init := IC.at 123 124 (by decide +kernel) (by decide +kernel) rfl
theorem fl_7_21 : FR RX7 21 7 1 := FR.at 452 rfl (by decide +kernel) (by decide +kernel) (by decide +kernel)
theorem fl_7_27 : FR RX7 27 7 2 := FR.at 453 rfl (by decide +kernel) (by decide +kernel) (by decide +kernel)
theorem fl_7_33 : FR RX7 33 7 9 := FR.at 460 rfl (by decide +kernel) (by decide +kernel) (by decide +kernel)
theorem crc_X6_init : CRc yX6_init cX6_init 2 none 1 := CRc.at 150 76 (by decide +kernel) (by decide +kernel) (by decide +kernel)
theorem ic_7_37 : IC RX7 37 yX6_init := IC.at 148 149 (by decide +kernel) (by decide +kernel) rfl
theorem crc_X3_init : CRc yX3_init cX3_init 1 none 0 := CRc.at 178 77 (by decide +kernel) (by decide +kernel) (by decide +kernel)
theorem ic_7_40 : IC RX7 40 yX3_init := IC.atN 176 177 (by decide +kernel) (by decide +kernel) rfl
theorem crc_J0_length_8abf5 : CRc yJ0_length_8abf5 cJ0_length_8abf5 1 (some .int) 0 := CRc.at 197 78 (by decide +kernel) (by decide +kernel) (by decide +kernel)
theorem vc_7_43 : VC RX7 43 yJ0_length_8abf5 := VC.at 194 195 196 (by decide +kernel) (by decide +kernel) (by decide +kernel)
theorem crc_J0_charAt_5068e : CRc yJ0_charAt_5068e cJ0_charAt_5068e 2 (some .char) 1 := CRc.at 207 78 (by decide +kernel) (by decide +kernel) (by decide +kernel)
theorem vc_7_49 : VC RX7 49 yJ0_charAt_5068e := VC.at 204 205 206 (by decide +kernel) (by decide +kernel) (by decide +kernel)
theorem crc_X5_add : CRc yX5_add cX5_add 2 (some .boolean) 1 := CRc.at 245 74 (by decide +kernel) (by decide +kernel) (by decide +kernel)
theorem vc_7_53 : VC RX7 53 yX5_add := VC.at 242 243 244 (by decide +kernel) (by decide +kernel) (by decide +kernel)
theorem crc_X2_readInto : CRc yX2_readInto cX2_readInto 2 (some .int) 1 := CRc.at 249 75 (by decide +kernel) (by decide +kernel) (by decide +kernel)
theorem vc_7_57 : VC RX7 57 yX2_readInto := VC.at 246 247 248 (by decide +kernel) (by decide +kernel) (by decide +kernel)
theorem crc_X5_clear : CRc yX5_clear cX5_clear 1 none 0 := CRc.at 359 74 (by decide +kernel) (by decide +kernel) (by decide +kernel)
theorem vc_7_61 : VC RX7 61 yX5_clear := VC.at 356 357 358 (by decide +kernel) (by decide +kernel) (by decide +kernel)
theorem fl_7_64 : FR RX7 64 7 3 := FR.at 454 rfl (by decide +kernel) (by decide +kernel) (by decide +kernel)
theorem crc_X4_init : CRc yX4_init cX4_init 3 none 1 := CRc.at 364 82 (by decide +kernel) (by decide +kernel) (by decide +kernel)
theorem ic_7_70 : IC RX7 70 yX4_init := IC.at 362 363 (by decide +kernel) (by decide +kernel) rfl
theorem fl_7_73 : FR RX7 73 7 4 := FR.at 455 rfl (by decide +kernel) (by decide +kernel) (by decide +kernel)
theorem fl_7_77 : FR RX7 77 7 5 := FR.at 456 rfl (by decide +kernel) (by decide +kernel) (by decide +kernel)
theorem fl_7_80 : FR RX7 80 7 6 := FR.at 457 rfl (by decide +kernel) (by decide +kernel) (by decide +kernel)
theorem crc_X1_init : CRc yX1_init cX1_init 2 none 1 := CRc.at 436 84 (by decide +kernel) (by decide +kernel) (by decide +kernel)
theorem ic_7_85 : IC RX7 85 yX1_init := IC.at 434 435 (by decide +kernel) (by decide +kernel) rfl
theorem fl_7_88 : FR RX7 88 7 8 := FR.at 459 rfl (by decide +kernel) (by decide +kernel) (by decide +kernel)
theorem crc_X7_bound : CRc yX7_bound cX7_bound 1 (some .int) 1 := CRc.at 488 73 (by decide +kernel) (by decide +kernel) (by decide +kernel)
theorem sc_7_92 : SC RX7 92 yX7_bound := SC.at 486 487 (by decide +kernel) (by decide +kernel)
theorem crc_X7_told : CRc yX7_told cX7_told 4 (some .int) 2 := CRc.at 492 73 (by decide +kernel) (by decide +kernel) (by decide +kernel)
theorem vc_7_96 : VC RX7 96 yX7_told := VC.at 489 490 491 (by decide +kernel) (by decide +kernel) (by decide +kernel)
theorem fl_7_100 : FR RX7 100 4 2 := FR.atN 412 rfl (by decide +kernel) (by decide +kernel) (by decide +kernel)
theorem fl_7_103 : FR RX7 103 4 3 := FR.atN 415 rfl (by decide +kernel) (by decide +kernel) (by decide +kernel)
theorem crc_X4_at : CRc yX4_at cX4_at 2 (some (.object "Sandcastles$Fort")) 1 := CRc.at 496 82 (by decide +kernel) (by decide +kernel) (by decide +kernel)
theorem vc_7_106 : VC RX7 106 yX4_at := VC.at 493 494 495 (by decide +kernel) (by decide +kernel) (by decide +kernel)
theorem crc_X7_change : CRc yX7_change cX7_change 3 none 3 := CRc.at 560 73 (by decide +kernel) (by decide +kernel) (by decide +kernel)
theorem sc_7_110 : SC RX7 110 yX7_change := SC.at 558 559 (by decide +kernel) (by decide +kernel)
theorem crc_X4_isFort : CRc yX4_isFort cX4_isFort 3 (some .boolean) 3 := CRc.at 567 82 (by decide +kernel) (by decide +kernel) (by decide +kernel)
theorem sc_7_114 : SC RX7 114 yX4_isFort := SC.at 565 566 (by decide +kernel) (by decide +kernel)
theorem crc_X4_add : CRc yX4_add cX4_add 4 (some .int) 3 := CRc.at 571 82 (by decide +kernel) (by decide +kernel) (by decide +kernel)
theorem vc_7_118 : VC RX7 118 yX4_add := VC.at 568 569 570 (by decide +kernel) (by decide +kernel) (by decide +kernel)
theorem fl_7_121 : FR RX7 121 0 1 := FR.atN 377 rfl (by decide +kernel) (by decide +kernel) (by decide +kernel)
theorem fl_7_126 : FR RX7 126 0 2 := FR.atN 380 rfl (by decide +kernel) (by decide +kernel) (by decide +kernel)
theorem fl_7_129 : FR RX7 129 0 3 := FR.atN 385 rfl (by decide +kernel) (by decide +kernel) (by decide +kernel)
theorem fl_7_132 : FR RX7 132 0 4 := FR.atN 389 rfl (by decide +kernel) (by decide +kernel) (by decide +kernel)
theorem fl_7_135 : FR RX7 135 0 0 := FR.atN 374 rfl (by decide +kernel) (by decide +kernel) (by decide +kernel)
theorem crc_X4_losesOf : CRc yX4_losesOf cX4_losesOf 2 (some .int) 1 := CRc.at 500 82 (by decide +kernel) (by decide +kernel) (by decide +kernel)
theorem vc_7_138 : VC RX7 138 yX4_losesOf := VC.at 497 498 499 (by decide +kernel) (by decide +kernel) (by decide +kernel)
theorem crc_X4_risesOf : CRc yX4_risesOf cX4_risesOf 2 (some .int) 1 := CRc.at 548 82 (by decide +kernel) (by decide +kernel) (by decide +kernel)
theorem vc_7_142 : VC RX7 142 yX4_risesOf := VC.at 545 546 547 (by decide +kernel) (by decide +kernel) (by decide +kernel)
theorem crc_X4_shelterOf : CRc yX4_shelterOf cX4_shelterOf 5 (some .int) 1 := CRc.at 519 82 (by decide +kernel) (by decide +kernel) (by decide +kernel)
theorem vc_7_145 : VC RX7 145 yX4_shelterOf := VC.at 557 517 518 (by decide +kernel) (by decide +kernel) (by decide +kernel)
theorem fl_7_148 : FR RX7 148 5 1 := FR.atN 106 rfl (by decide +kernel) (by decide +kernel) (by decide +kernel)
theorem fl_7_151 : FR RX7 151 4 4 := FR.atN 420 rfl (by decide +kernel) (by decide +kernel) (by decide +kernel)
theorem fl_7_155 : FR RX7 155 6 0 := FR.atN 153 rfl (by decide +kernel) (by decide +kernel) (by decide +kernel)
theorem crc_X4_beat : CRc yX4_beat cX4_beat 3 none 0 := CRc.at 596 82 (by decide +kernel) (by decide +kernel) (by decide +kernel)
theorem vc_7_158 : VC RX7 158 yX4_beat := VC.at 593 594 595 (by decide +kernel) (by decide +kernel) (by decide +kernel)
theorem crc_X4_standing : CRc yX4_standing cX4_standing 3 (some .int) 0 := CRc.at 605 82 (by decide +kernel) (by decide +kernel) (by decide +kernel)
theorem vc_7_161 : VC RX7 161 yX4_standing := VC.at 602 603 604 (by decide +kernel) (by decide +kernel) (by decide +kernel)
theorem crc_X4_raise : CRc yX4_raise cX4_raise 2 none 1 := CRc.at 613 82 (by decide +kernel) (by decide +kernel) (by decide +kernel)
theorem vc_7_164 : VC RX7 164 yX4_raise := VC.at 610 611 612 (by decide +kernel) (by decide +kernel) (by decide +kernel)
theorem crc_X7_isAhead : CRc yX7_isAhead cX7_isAhead 1 (some .boolean) 1 := CRc.at 622 73 (by decide +kernel) (by decide +kernel) (by decide +kernel)
theorem sc_7_168 : SC RX7 168 yX7_isAhead := SC.at 620 621 (by decide +kernel) (by decide +kernel)
theorem crc_X7_isView : CRc yX7_isView cX7_isView 2 (some .boolean) 1 := CRc.at 626 73 (by decide +kernel) (by decide +kernel) (by decide +kernel)
theorem vc_7_171 : VC RX7 171 yX7_isView := VC.at 623 625 22 (by decide +kernel) (by decide +kernel) (by decide +kernel)
theorem crc_X7_think : CRc yX7_think cX7_think 1 (some (.object "Sandcastles$Strand")) 0 := CRc.at 631 73 (by decide +kernel) (by decide +kernel) (by decide +kernel)
theorem vc_7_175 : VC RX7 175 yX7_think := VC.at 628 630 23 (by decide +kernel) (by decide +kernel) (by decide +kernel)
theorem crc_X4_pass : CRc yX4_pass cX4_pass 3 none 1 := CRc.at 643 82 (by decide +kernel) (by decide +kernel) (by decide +kernel)
theorem vc_7_179 : VC RX7 179 yX4_pass := VC.at 640 641 642 (by decide +kernel) (by decide +kernel) (by decide +kernel)
theorem crc_X7_view : CRc yX7_view cX7_view 3 (some .int) 1 := CRc.at 648 73 (by decide +kernel) (by decide +kernel) (by decide +kernel)
theorem vc_7_182 : VC RX7 182 yX7_view := VC.at 645 647 24 (by decide +kernel) (by decide +kernel) (by decide +kernel)
theorem crc_X7_sheetAt : CRc yX7_sheetAt cX7_sheetAt 2 (some (.object "Sandcastles$Sheet")) 1 := CRc.at 668 73 (by decide +kernel) (by decide +kernel) (by decide +kernel)
theorem vc_7_185 : VC RX7 185 yX7_sheetAt := VC.at 665 667 25 (by decide +kernel) (by decide +kernel) (by decide +kernel)
theorem crc_X3_isMissing : CRc yX3_isMissing cX3_isMissing 1 (some .boolean) 0 := CRc.at 672 77 (by decide +kernel) (by decide +kernel) (by decide +kernel)
theorem vc_7_189 : VC RX7 189 yX3_isMissing := VC.at 669 670 671 (by decide +kernel) (by decide +kernel) (by decide +kernel)
theorem crc_X7_isPlan : CRc yX7_isPlan cX7_isPlan 4 (some .boolean) 1 := CRc.at 676 73 (by decide +kernel) (by decide +kernel) (by decide +kernel)
theorem vc_7_193 : VC RX7 193 yX7_isPlan := VC.at 673 675 26 (by decide +kernel) (by decide +kernel) (by decide +kernel)
theorem fl_7_197 : FR RX7 197 3 2 := FR.atN 185 rfl (by decide +kernel) (by decide +kernel) (by decide +kernel)
theorem crc_X3_item : CRc yX3_item cX3_item 2 (some .int) 1 := CRc.at 680 77 (by decide +kernel) (by decide +kernel) (by decide +kernel)
theorem vc_7_198 : VC RX7 198 yX3_item := VC.at 677 678 679 (by decide +kernel) (by decide +kernel) (by decide +kernel)
theorem crc_X4_bay : CRc yX4_bay cX4_bay 6 (some .int) 0 := CRc.at 652 82 (by decide +kernel) (by decide +kernel) (by decide +kernel)
theorem vc_7_201 : VC RX7 201 yX4_bay := VC.at 649 650 651 (by decide +kernel) (by decide +kernel) (by decide +kernel)
theorem crc_X4_valueOf : CRc yX4_valueOf cX4_valueOf 6 (some .int) 1 := CRc.at 656 82 (by decide +kernel) (by decide +kernel) (by decide +kernel)
theorem vc_7_204 : VC RX7 204 yX4_valueOf := VC.at 653 654 655 (by decide +kernel) (by decide +kernel) (by decide +kernel)
theorem crc_X4_take : CRc yX4_take cX4_take 3 none 1 := CRc.at 635 82 (by decide +kernel) (by decide +kernel) (by decide +kernel)
theorem vc_7_207 : VC RX7 207 yX4_take := VC.at 632 633 634 (by decide +kernel) (by decide +kernel) (by decide +kernel)
theorem crc_X0_stands : CRc yX0_stands cX0_stands 1 (some .boolean) 0 := CRc.at 600 83 (by decide +kernel) (by decide +kernel) (by decide +kernel)
theorem vc_7_210 : VC RX7 210 yX0_stands := VC.at 685 598 599 (by decide +kernel) (by decide +kernel) (by decide +kernel)
theorem crc_X7_isAnswer : CRc yX7_isAnswer cX7_isAnswer 1 (some .boolean) 1 := CRc.at 692 73 (by decide +kernel) (by decide +kernel) (by decide +kernel)
theorem sc_7_213 : SC RX7 213 yX7_isAnswer := SC.at 690 691 (by decide +kernel) (by decide +kernel)
theorem fl_7_216 : FR RX7 216 4 1 := FR.atN 411 rfl (by decide +kernel) (by decide +kernel) (by decide +kernel)
theorem crc_X1_most : CRc yX1_most cX1_most 10 (some .int) 3 := CRc.at 710 84 (by decide +kernel) (by decide +kernel) (by decide +kernel)
theorem vc_7_221 : VC RX7 221 yX1_most := VC.atN 707 709 27 (by decide +kernel) (by decide +kernel) (by decide +kernel)
theorem fl_7_224 : FR RX7 224 1 2 := FR.atN 443 rfl (by decide +kernel) (by decide +kernel) (by decide +kernel)
theorem crc_X7_firstOther : CRc yX7_firstOther cX7_firstOther 4 (some .int) 2 := CRc.at 733 73 (by decide +kernel) (by decide +kernel) (by decide +kernel)
theorem vc_7_227 : VC RX7 227 yX7_firstOther := VC.at 730 732 30 (by decide +kernel) (by decide +kernel) (by decide +kernel)
theorem crc_X7_choicesOf : CRc yX7_choicesOf cX7_choicesOf 2 (some .int) 1 := CRc.at 737 73 (by decide +kernel) (by decide +kernel) (by decide +kernel)
theorem vc_7_231 : VC RX7 231 yX7_choicesOf := VC.at 734 736 31 (by decide +kernel) (by decide +kernel) (by decide +kernel)
theorem crc_X7_suppose : CRc yX7_suppose cX7_suppose 4 none 3 := CRc.at 741 73 (by decide +kernel) (by decide +kernel) (by decide +kernel)
theorem vc_7_234 : VC RX7 234 yX7_suppose := VC.at 738 740 32 (by decide +kernel) (by decide +kernel) (by decide +kernel)
theorem crc_X3_become : CRc yX3_become cX3_become 4 none 2 := CRc.at 749 77 (by decide +kernel) (by decide +kernel) (by decide +kernel)
theorem vc_7_237 : VC RX7 237 yX3_become := VC.at 746 747 748 (by decide +kernel) (by decide +kernel) (by decide +kernel)
theorem crc_X3_put : CRc yX3_put cX3_put 3 (some .boolean) 2 := CRc.at 755 77 (by decide +kernel) (by decide +kernel) (by decide +kernel)
theorem vc_7_241 : VC RX7 241 yX3_put := VC.at 752 753 754 (by decide +kernel) (by decide +kernel) (by decide +kernel)
theorem crc_X7_passDrawn : CRc yX7_passDrawn cX7_passDrawn 5 none 2 := CRc.at 763 73 (by decide +kernel) (by decide +kernel) (by decide +kernel)
theorem vc_7_245 : VC RX7 245 yX7_passDrawn := VC.at 760 762 33 (by decide +kernel) (by decide +kernel) (by decide +kernel)
theorem crc_X7_commonDivisor : CRc yX7_commonDivisor cX7_commonDivisor 3 (some .int) 2 := CRc.at 772 73 (by decide +kernel) (by decide +kernel) (by decide +kernel)
theorem sc_7_250 : SC RX7 250 yX7_commonDivisor := SC.at 770 771 (by decide +kernel) (by decide +kernel)
theorem fl_7_254 : FR RX7 254 7 7 := FR.at 458 rfl (by decide +kernel) (by decide +kernel) (by decide +kernel)
theorem crc_J6_bitCount_0f7a4 : CRc yJ6_bitCount_0f7a4 cJ6_bitCount_0f7a4 1 (some .int) 1 := CRc.at 787 88 (by decide +kernel) (by decide +kernel) (by decide +kernel)
theorem sc_7_258 : SC RX7 258 yJ6_bitCount_0f7a4 := SC.at 785 786 (by decide +kernel) (by decide +kernel)
theorem fl_7_261 : FR RX7 261 3 1 := FR.atN 183 rfl (by decide +kernel) (by decide +kernel) (by decide +kernel)
theorem crc_X3_spans : CRc yX3_spans cX3_spans 3 (some .boolean) 2 := CRc.at 806 77 (by decide +kernel) (by decide +kernel) (by decide +kernel)
theorem vc_7_264 : VC RX7 264 yX3_spans := VC.at 803 804 805 (by decide +kernel) (by decide +kernel) (by decide +kernel)
theorem fl_7_267 : FR RX7 267 3 0 := FR.atN 181 rfl (by decide +kernel) (by decide +kernel) (by decide +kernel)
theorem crc_X7_fort : CRc yX7_fort cX7_fort 4 (some .int) 3 := CRc.at 564 73 (by decide +kernel) (by decide +kernel) (by decide +kernel)
theorem vc_7_277 : VC RX7 277 yX7_fort := VC.at 814 562 563 (by decide +kernel) (by decide +kernel) (by decide +kernel)
theorem crc_X0_isUnder : CRc yX0_isUnder cX0_isUnder 2 (some .boolean) 1 := CRc.at 822 83 (by decide +kernel) (by decide +kernel) (by decide +kernel)
theorem vc_7_280 : VC RX7 280 yX0_isUnder := VC.at 819 820 821 (by decide +kernel) (by decide +kernel) (by decide +kernel)
theorem fl_0_9 : FR RX0 9 0 0 := FR.at 373 rfl (by decide +kernel) (by decide +kernel) (by decide +kernel)
theorem fl_0_15 : FR RX0 15 0 1 := FR.at 376 rfl (by decide +kernel) (by decide +kernel) (by decide +kernel)
theorem fl_0_18 : FR RX0 18 0 2 := FR.at 379 rfl (by decide +kernel) (by decide +kernel) (by decide +kernel)
theorem fl_0_21 : FR RX0 21 0 3 := FR.at 383 rfl (by decide +kernel) (by decide +kernel) (by decide +kernel)
theorem fl_0_24 : FR RX0 24 0 4 := FR.at 387 rfl (by decide +kernel) (by decide +kernel) (by decide +kernel)
theorem crc_X0_isDry : CRc yX0_isDry cX0_isDry 3 (some .boolean) 1 := CRc.at 543 83 (by decide +kernel) (by decide +kernel) (by decide +kernel)
theorem vc_0_27 : VC RX0 27 yX0_isDry := VC.at 540 542 21 (by decide +kernel) (by decide +kernel) (by decide +kernel)
theorem crc_J9_max_7cf53 : CRc yJ9_max_7cf53 cJ9_max_7cf53 2 (some .int) 2 := CRc.at 532 86 (by decide +kernel) (by decide +kernel) (by decide +kernel)
theorem sc_0_31 : SC RX0 31 yJ9_max_7cf53 := SC.at 544 531 (by decide +kernel) (by decide +kernel)
theorem fl_1_11 : FR RX1 11 1 1 := FR.at 441 rfl (by decide +kernel) (by decide +kernel) (by decide +kernel)
theorem fl_1_16 : FR RX1 16 1 0 := FR.at 440 rfl (by decide +kernel) (by decide +kernel) (by decide +kernel)
theorem vc_1_20 : VC RX1 20 yX4_valueOf := VC.at 711 654 655 (by decide +kernel) (by decide +kernel) (by decide +kernel)
theorem crc_X1_least : CRc yX1_least cX1_least 9 (some .int) 3 := CRc.at 715 84 (by decide +kernel) (by decide +kernel) (by decide +kernel)
theorem vc_1_26 : VC RX1 26 yX1_least := VC.at 712 714 28 (by decide +kernel) (by decide +kernel) (by decide +kernel)
theorem fl_1_30 : FR RX1 30 4 1 := FR.atN 409 rfl (by decide +kernel) (by decide +kernel) (by decide +kernel)
theorem vc_1_34 : VC RX1 34 yX4_at := VC.at 722 494 495 (by decide +kernel) (by decide +kernel) (by decide +kernel)
theorem fl_1_38 : FR RX1 38 0 3 := FR.atN 384 rfl (by decide +kernel) (by decide +kernel) (by decide +kernel)
theorem fl_1_43 : FR RX1 43 0 4 := FR.atN 388 rfl (by decide +kernel) (by decide +kernel) (by decide +kernel)
theorem vc_1_46 : VC RX1 46 yX4_raise := VC.at 723 611 612 (by decide +kernel) (by decide +kernel) (by decide +kernel)
theorem sc_1_50 : SC RX1 50 yJ9_max_7cf53 := SC.at 725 531 (by decide +kernel) (by decide +kernel)
theorem fl_1_56 : FR RX1 56 1 2 := FR.at 442 rfl (by decide +kernel) (by decide +kernel) (by decide +kernel)
theorem crc_X1_behindWave : CRc yX1_behindWave cX1_behindWave 7 (some .int) 3 := CRc.at 719 84 (by decide +kernel) (by decide +kernel) (by decide +kernel)
theorem vc_1_59 : VC RX1 59 yX1_behindWave := VC.at 716 718 29 (by decide +kernel) (by decide +kernel) (by decide +kernel)
theorem crc_J9_min_7cf53 : CRc yJ9_min_7cf53 cJ9_min_7cf53 2 (some .int) 2 := CRc.at 535 86 (by decide +kernel) (by decide +kernel) (by decide +kernel)
theorem sc_1_62 : SC RX1 62 yJ9_min_7cf53 := SC.at 724 534 (by decide +kernel) (by decide +kernel)
theorem fl_1_65 : FR RX1 65 4 0 := FR.atN 408 rfl (by decide +kernel) (by decide +kernel) (by decide +kernel)
theorem vc_1_69 : VC RX1 69 yX4_beat := VC.at 720 594 595 (by decide +kernel) (by decide +kernel) (by decide +kernel)
theorem vc_1_72 : VC RX1 72 yX1_most := VC.at 721 709 27 (by decide +kernel) (by decide +kernel) (by decide +kernel)
theorem fl_1_75 : FR RX1 75 4 3 := FR.atN 416 rfl (by decide +kernel) (by decide +kernel) (by decide +kernel)
theorem fl_2_9 : FR RX2 9 2 0 := FR.at 127 rfl (by decide +kernel) (by decide +kernel) (by decide +kernel)
theorem crc_X5_cut : CRc yX5_cut cX5_cut 5 none 0 := CRc.at 253 74 (by decide +kernel) (by decide +kernel) (by decide +kernel)
theorem vc_2_15 : VC RX2 15 yX5_cut := VC.at 250 251 252 (by decide +kernel) (by decide +kernel) (by decide +kernel)
theorem crc_X6_clear : CRc yX6_clear cX6_clear 1 none 0 := CRc.at 295 76 (by decide +kernel) (by decide +kernel) (by decide +kernel)
theorem vc_2_20 : VC RX2 20 yX6_clear := VC.at 292 293 294 (by decide +kernel) (by decide +kernel) (by decide +kernel)
theorem fl_2_25 : FR RX2 25 2 3 := FR.at 130 rfl (by decide +kernel) (by decide +kernel) (by decide +kernel)
theorem fl_2_29 : FR RX2 29 2 4 := FR.at 131 rfl (by decide +kernel) (by decide +kernel) (by decide +kernel)
theorem crc_X2_goTo : CRc yX2_goTo cX2_goTo 2 none 1 := CRc.at 299 75 (by decide +kernel) (by decide +kernel) (by decide +kernel)
theorem vc_2_32 : VC RX2 32 yX2_goTo := VC.at 296 298 6 (by decide +kernel) (by decide +kernel) (by decide +kernel)
theorem crc_X2_readPart : CRc yX2_readPart cX2_readPart 3 none 2 := CRc.at 303 75 (by decide +kernel) (by decide +kernel) (by decide +kernel)
theorem vc_2_36 : VC RX2 36 yX2_readPart := VC.at 300 302 7 (by decide +kernel) (by decide +kernel) (by decide +kernel)
theorem crc_X6_startRaises : CRc yX6_startRaises cX6_startRaises 1 none 0 := CRc.at 351 76 (by decide +kernel) (by decide +kernel) (by decide +kernel)
theorem vc_2_40 : VC RX2 40 yX6_startRaises := VC.at 348 349 350 (by decide +kernel) (by decide +kernel) (by decide +kernel)
theorem crc_X6_startWorth : CRc yX6_startWorth cX6_startWorth 1 none 0 := CRc.at 355 76 (by decide +kernel) (by decide +kernel) (by decide +kernel)
theorem vc_2_43 : VC RX2 43 yX6_startWorth := VC.at 352 353 354 (by decide +kernel) (by decide +kernel) (by decide +kernel)
theorem fl_2_46 : FR RX2 46 2 2 := FR.at 129 rfl (by decide +kernel) (by decide +kernel) (by decide +kernel)
theorem crc_X2_fail : CRc yX2_fail cX2_fail 1 none 0 := CRc.at 311 75 (by decide +kernel) (by decide +kernel) (by decide +kernel)
theorem vc_2_49 : VC RX2 49 yX2_fail := VC.at 308 310 9 (by decide +kernel) (by decide +kernel) (by decide +kernel)
theorem crc_X2_expect : CRc yX2_expect cX2_expect 2 none 1 := CRc.at 307 75 (by decide +kernel) (by decide +kernel) (by decide +kernel)
theorem vc_2_52 : VC RX2 52 yX2_expect := VC.at 304 306 8 (by decide +kernel) (by decide +kernel) (by decide +kernel)
theorem crc_X2_readE : CRc yX2_readE cX2_readE 3 none 1 := CRc.at 315 75 (by decide +kernel) (by decide +kernel) (by decide +kernel)
theorem vc_2_55 : VC RX2 55 yX2_readE := VC.at 312 314 10 (by decide +kernel) (by decide +kernel) (by decide +kernel)
theorem crc_X2_readAnd : CRc yX2_readAnd cX2_readAnd 3 none 1 := CRc.at 319 75 (by decide +kernel) (by decide +kernel) (by decide +kernel)
theorem vc_2_59 : VC RX2 59 yX2_readAnd := VC.at 316 318 11 (by decide +kernel) (by decide +kernel) (by decide +kernel)
theorem fl_2_62 : FR RX2 62 2 1 := FR.at 128 rfl (by decide +kernel) (by decide +kernel) (by decide +kernel)
theorem crc_X6_add : CRc yX6_add cX6_add 2 none 1 := CRc.at 343 76 (by decide +kernel) (by decide +kernel) (by decide +kernel)
theorem vc_2_65 : VC RX2 65 yX6_add := VC.at 340 341 342 (by decide +kernel) (by decide +kernel) (by decide +kernel)
theorem crc_X2_readNot : CRc yX2_readNot cX2_readNot 4 none 1 := CRc.at 323 75 (by decide +kernel) (by decide +kernel) (by decide +kernel)
theorem vc_2_68 : VC RX2 68 yX2_readNot := VC.at 320 322 12 (by decide +kernel) (by decide +kernel) (by decide +kernel)
theorem crc_X2_openAll : CRc yX2_openAll cX2_openAll 4 (some .int) 1 := CRc.at 327 75 (by decide +kernel) (by decide +kernel) (by decide +kernel)
theorem vc_2_71 : VC RX2 71 yX2_openAll := VC.at 324 326 13 (by decide +kernel) (by decide +kernel) (by decide +kernel)
theorem crc_X2_readSum : CRc yX2_readSum cX2_readSum 4 none 1 := CRc.at 331 75 (by decide +kernel) (by decide +kernel) (by decide +kernel)
theorem vc_2_75 : VC RX2 75 yX2_readSum := VC.at 328 330 14 (by decide +kernel) (by decide +kernel) (by decide +kernel)
theorem crc_X2_closeAll : CRc yX2_closeAll cX2_closeAll 5 none 3 := CRc.at 347 75 (by decide +kernel) (by decide +kernel) (by decide +kernel)
theorem vc_2_78 : VC RX2 78 yX2_closeAll := VC.at 344 346 17 (by decide +kernel) (by decide +kernel) (by decide +kernel)
theorem crc_X2_readTerm : CRc yX2_readTerm cX2_readTerm 3 none 1 := CRc.at 335 75 (by decide +kernel) (by decide +kernel) (by decide +kernel)
theorem vc_2_82 : VC RX2 82 yX2_readTerm := VC.at 332 334 15 (by decide +kernel) (by decide +kernel) (by decide +kernel)
theorem crc_X2_readOne : CRc yX2_readOne cX2_readOne 3 none 1 := CRc.at 339 75 (by decide +kernel) (by decide +kernel) (by decide +kernel)
theorem vc_2_85 : VC RX2 85 yX2_readOne := VC.at 336 338 16 (by decide +kernel) (by decide +kernel) (by decide +kernel)
theorem fl_2_88 : FR RX2 88 5 2 := FR.atN 108 rfl (by decide +kernel) (by decide +kernel) (by decide +kernel)
theorem fl_2_92 : FR RX2 92 5 3 := FR.atN 110 rfl (by decide +kernel) (by decide +kernel) (by decide +kernel)
theorem fl_3_9 : FR RX3 9 3 0 := FR.at 180 rfl (by decide +kernel) (by decide +kernel) (by decide +kernel)
theorem fl_3_15 : FR RX3 15 3 1 := FR.at 182 rfl (by decide +kernel) (by decide +kernel) (by decide +kernel)
theorem sc_3_19 : SC RX3 19 yJ9_min_7cf53 := SC.at 750 534 (by decide +kernel) (by decide +kernel)
theorem sc_3_25 : SC RX3 25 yJ9_max_7cf53 := SC.at 751 531 (by decide +kernel) (by decide +kernel)
theorem fl_3_28 : FR RX3 28 3 2 := FR.at 184 rfl (by decide +kernel) (by decide +kernel) (by decide +kernel)
theorem fl_4_11 : FR RX4 11 4 0 := FR.at 407 rfl (by decide +kernel) (by decide +kernel) (by decide +kernel)
theorem fl_4_17 : FR RX4 17 4 4 := FR.at 419 rfl (by decide +kernel) (by decide +kernel) (by decide +kernel)
theorem crc_X0_init : CRc yX0_init cX0_init 1 none 0 := CRc.at 371 83 (by decide +kernel) (by decide +kernel) (by decide +kernel)
theorem ic_4_21 : IC RX4 21 yX0_init := IC.atN 369 370 (by decide +kernel) (by decide +kernel) rfl
theorem fl_4_22 : FR RX4 22 4 1 := FR.at 410 rfl (by decide +kernel) (by decide +kernel) (by decide +kernel)
theorem crc_X0_begin : CRc yX0_begin cX0_begin 4 none 3 := CRc.at 575 83 (by decide +kernel) (by decide +kernel) (by decide +kernel)
theorem vc_4_26 : VC RX4 26 yX0_begin := VC.at 572 573 574 (by decide +kernel) (by decide +kernel) (by decide +kernel)
theorem crc_X0_take : CRc yX0_take cX0_take 2 none 1 := CRc.at 639 83 (by decide +kernel) (by decide +kernel) (by decide +kernel)
theorem vc_4_30 : VC RX4 30 yX0_take := VC.at 636 637 638 (by decide +kernel) (by decide +kernel) (by decide +kernel)
theorem fl_4_34 : FR RX4 34 4 2 := FR.at 413 rfl (by decide +kernel) (by decide +kernel) (by decide +kernel)
theorem fl_4_37 : FR RX4 37 4 3 := FR.at 417 rfl (by decide +kernel) (by decide +kernel) (by decide +kernel)
theorem crc_X6_strikeOn : CRc yX6_strikeOn cX6_strikeOn 3 (some .int) 2 := CRc.at 504 76 (by decide +kernel) (by decide +kernel) (by decide +kernel)
theorem vc_4_40 : VC RX4 40 yX6_strikeOn := VC.at 501 502 503 (by decide +kernel) (by decide +kernel) (by decide +kernel)
theorem crc_X0_lossBy : CRc yX0_lossBy cX0_lossBy 3 (some .int) 2 := CRc.at 539 83 (by decide +kernel) (by decide +kernel) (by decide +kernel)
theorem vc_4_46 : VC RX4 46 yX0_lossBy := VC.at 536 537 538 (by decide +kernel) (by decide +kernel) (by decide +kernel)
theorem crc_X6_raiseOf : CRc yX6_raiseOf cX6_raiseOf 3 (some .int) 2 := CRc.at 552 76 (by decide +kernel) (by decide +kernel) (by decide +kernel)
theorem vc_4_50 : VC RX4 50 yX6_raiseOf := VC.at 549 550 551 (by decide +kernel) (by decide +kernel) (by decide +kernel)
theorem crc_X0_riseBy : CRc yX0_riseBy cX0_riseBy 2 (some .int) 1 := CRc.at 556 83 (by decide +kernel) (by decide +kernel) (by decide +kernel)
theorem vc_4_53 : VC RX4 53 yX0_riseBy := VC.at 553 554 555 (by decide +kernel) (by decide +kernel) (by decide +kernel)
theorem fl_4_57 : FR RX4 57 0 2 := FR.atN 381 rfl (by decide +kernel) (by decide +kernel) (by decide +kernel)
theorem fl_4_60 : FR RX4 60 0 4 := FR.atN 390 rfl (by decide +kernel) (by decide +kernel) (by decide +kernel)
theorem fl_4_63 : FR RX4 63 0 0 := FR.atN 375 rfl (by decide +kernel) (by decide +kernel) (by decide +kernel)
theorem vc_4_66 : VC RX4 66 yX0_stands := VC.at 597 598 599 (by decide +kernel) (by decide +kernel) (by decide +kernel)
theorem fl_4_70 : FR RX4 70 0 5 := FR.atN 392 rfl (by decide +kernel) (by decide +kernel) (by decide +kernel)
theorem sc_4_73 : SC RX4 73 yJ9_max_7cf53 := SC.at 601 531 (by decide +kernel) (by decide +kernel)
theorem vc_4_78 : VC RX4 78 yX4_beat := VC.at 644 594 595 (by decide +kernel) (by decide +kernel) (by decide +kernel)
theorem vc_4_81 : VC RX4 81 yX4_risesOf := VC.at 614 546 547 (by decide +kernel) (by decide +kernel) (by decide +kernel)
theorem sc_4_85 : SC RX4 85 yJ9_min_7cf53 := SC.at 615 534 (by decide +kernel) (by decide +kernel)
theorem fl_4_88 : FR RX4 88 0 3 := FR.atN 386 rfl (by decide +kernel) (by decide +kernel) (by decide +kernel)
theorem crc_X6_worthOf : CRc yX6_worthOf cX6_worthOf 3 (some .int) 2 := CRc.at 660 76 (by decide +kernel) (by decide +kernel) (by decide +kernel)
theorem vc_4_91 : VC RX4 91 yX6_worthOf := VC.at 657 658 659 (by decide +kernel) (by decide +kernel) (by decide +kernel)
theorem fl_5_9 : FR RX5 9 5 0 := FR.at 104 rfl (by decide +kernel) (by decide +kernel) (by decide +kernel)
theorem fl_5_15 : FR RX5 15 5 2 := FR.at 107 rfl (by decide +kernel) (by decide +kernel) (by decide +kernel)
theorem fl_5_18 : FR RX5 18 5 3 := FR.at 109 rfl (by decide +kernel) (by decide +kernel) (by decide +kernel)
theorem fl_5_21 : FR RX5 21 5 1 := FR.at 105 rfl (by decide +kernel) (by decide +kernel) (by decide +kernel)
theorem crc_X5_behind : CRc yX5_behind cX5_behind 4 (some .int) 2 := CRc.at 257 74 (by decide +kernel) (by decide +kernel) (by decide +kernel)
theorem vc_5_25 : VC RX5 25 yX5_behind := VC.at 254 256 0 (by decide +kernel) (by decide +kernel) (by decide +kernel)
theorem crc_X5_sortAt : CRc yX5_sortAt cX5_sortAt 3 (some .int) 1 := CRc.at 261 74 (by decide +kernel) (by decide +kernel) (by decide +kernel)
theorem vc_5_29 : VC RX5 29 yX5_sortAt := VC.at 258 260 1 (by decide +kernel) (by decide +kernel) (by decide +kernel)
theorem crc_X5_numberToken : CRc yX5_numberToken cX5_numberToken 5 (some .int) 2 := CRc.at 269 74 (by decide +kernel) (by decide +kernel) (by decide +kernel)
theorem vc_5_33 : VC RX5 33 yX5_numberToken := VC.at 266 268 3 (by decide +kernel) (by decide +kernel) (by decide +kernel)
theorem crc_X5_wordToken : CRc yX5_wordToken cX5_wordToken 3 (some .int) 2 := CRc.at 273 74 (by decide +kernel) (by decide +kernel) (by decide +kernel)
theorem vc_5_36 : VC RX5 36 yX5_wordToken := VC.at 270 272 4 (by decide +kernel) (by decide +kernel) (by decide +kernel)
theorem crc_X5_byteAt : CRc yX5_byteAt cX5_byteAt 2 (some .int) 1 := CRc.at 265 74 (by decide +kernel) (by decide +kernel) (by decide +kernel)
theorem vc_5_39 : VC RX5 39 yX5_byteAt := VC.at 262 264 2 (by decide +kernel) (by decide +kernel) (by decide +kernel)
theorem crc_X5_isWord : CRc yX5_isWord cX5_isWord 5 (some .boolean) 3 := CRc.at 278 74 (by decide +kernel) (by decide +kernel) (by decide +kernel)
theorem vc_5_44 : VC RX5 44 yX5_isWord := VC.at 275 277 5 (by decide +kernel) (by decide +kernel) (by decide +kernel)
theorem vc_5_72 : VC RX5 72 yJ0_length_8abf5 := VC.at 279 195 196 (by decide +kernel) (by decide +kernel) (by decide +kernel)
theorem vc_5_78 : VC RX5 78 yJ0_charAt_5068e := VC.at 280 205 206 (by decide +kernel) (by decide +kernel) (by decide +kernel)
theorem fl_6_9 : FR RX6 9 6 1 := FR.at 154 rfl (by decide +kernel) (by decide +kernel) (by decide +kernel)
theorem fl_6_15 : FR RX6 15 6 5 := FR.at 158 rfl (by decide +kernel) (by decide +kernel) (by decide +kernel)
theorem fl_6_18 : FR RX6 18 6 0 := FR.at 152 rfl (by decide +kernel) (by decide +kernel) (by decide +kernel)
theorem fl_6_22 : FR RX6 22 6 2 := FR.at 155 rfl (by decide +kernel) (by decide +kernel) (by decide +kernel)
theorem fl_6_25 : FR RX6 25 6 3 := FR.at 156 rfl (by decide +kernel) (by decide +kernel) (by decide +kernel)
theorem fl_6_28 : FR RX6 28 6 4 := FR.at 157 rfl (by decide +kernel) (by decide +kernel) (by decide +kernel)
theorem crc_X6_tell : CRc yX6_tell cX6_tell 8 (some .int) 4 := CRc.at 508 76 (by decide +kernel) (by decide +kernel) (by decide +kernel)
theorem vc_6_31 : VC RX6 31 yX6_tell := VC.at 505 507 18 (by decide +kernel) (by decide +kernel) (by decide +kernel)
theorem sc_6_35 : SC RX6 35 yJ9_min_7cf53 := SC.at 533 534 (by decide +kernel) (by decide +kernel)
theorem fl_6_41 : FR RX6 41 6 6 := FR.at 159 rfl (by decide +kernel) (by decide +kernel) (by decide +kernel)
theorem crc_X6_push : CRc yX6_push cX6_push 2 none 1 := CRc.at 512 76 (by decide +kernel) (by decide +kernel) (by decide +kernel)
theorem vc_6_44 : VC RX6 44 yX6_push := VC.at 509 511 19 (by decide +kernel) (by decide +kernel) (by decide +kernel)
theorem crc_X6_named : CRc yX6_named cX6_named 3 (some .int) 3 := CRc.at 515 76 (by decide +kernel) (by decide +kernel) (by decide +kernel)
theorem sc_6_48 : SC RX6 48 yX6_named := SC.at 513 514 (by decide +kernel) (by decide +kernel)
theorem crc_X6_pop : CRc yX6_pop cX6_pop 1 (some .int) 0 := CRc.at 523 76 (by decide +kernel) (by decide +kernel) (by decide +kernel)
theorem vc_6_52 : VC RX6 52 yX6_pop := VC.at 520 522 20 (by decide +kernel) (by decide +kernel) (by decide +kernel)
theorem crc_X6_truth : CRc yX6_truth cX6_truth 1 (some .int) 1 := CRc.at 526 76 (by decide +kernel) (by decide +kernel) (by decide +kernel)
theorem sc_6_56 : SC RX6 56 yX6_truth := SC.at 524 525 (by decide +kernel) (by decide +kernel)
theorem crc_X6_joined : CRc yX6_joined cX6_joined 3 (some .int) 3 := CRc.at 529 76 (by decide +kernel) (by decide +kernel) (by decide +kernel)
theorem sc_6_60 : SC RX6 60 yX6_joined := SC.at 527 528 (by decide +kernel) (by decide +kernel)
theorem sc_6_64 : SC RX6 64 yJ9_max_7cf53 := SC.at 530 531 (by decide +kernel) (by decide +kernel)
theorem fl_6_67 : FR RX6 67 4 3 := FR.atN 418 rfl (by decide +kernel) (by decide +kernel) (by decide +kernel)
theorem fl_6_72 : FR RX6 72 4 2 := FR.atN 414 rfl (by decide +kernel) (by decide +kernel) (by decide +kernel)
theorem fl_6_75 : FR RX6 75 0 2 := FR.atN 382 rfl (by decide +kernel) (by decide +kernel) (by decide +kernel)
theorem fl_6_80 : FR RX6 80 0 1 := FR.atN 378 rfl (by decide +kernel) (by decide +kernel) (by decide +kernel)
theorem fl_6_83 : FR RX6 83 0 4 := FR.atN 391 rfl (by decide +kernel) (by decide +kernel) (by decide +kernel)
theorem vc_6_86 : VC RX6 86 yX4_shelterOf := VC.at 516 517 518 (by decide +kernel) (by decide +kernel) (by decide +kernel)
theorem crc_X7_init : CRc yX7_init cX7_init 2 none 0 := CRc.at 94 73 (by decide +kernel) (by decide +kernel) (by decide +kernel)
theorem ic_L_9 : IC RL 9 yX7_init := IC.at 92 93 (by decide +kernel) (by decide +kernel) rfl
theorem crc_X8_init : CRc yX8_init cX8_init 3 none 0 := CRc.at 827 85 (by decide +kernel) (by decide +kernel) (by decide +kernel)
theorem ic_L_12 : IC RL 12 yX8_init := IC.at 825 826 (by decide +kernel) (by decide +kernel) rfl
theorem crc_X7_set : CRc yX7_set cX7_set 5 (some .int) 3 := CRc.at 485 73 (by decide +kernel) (by decide +kernel) (by decide +kernel)
theorem vc_L_13 : VC RL 13 yX7_set := VC.at 482 483 484 (by decide +kernel) (by decide +kernel) (by decide +kernel)
theorem crc_X8_set : CRc yX8_set cX8_set 5 (some .int) 3 := CRc.at 1078 85 (by decide +kernel) (by decide +kernel) (by decide +kernel)
theorem vc_L_17 : VC RL 17 yX8_set := VC.at 1075 1076 1077 (by decide +kernel) (by decide +kernel) (by decide +kernel)
theorem vc_L_18 : VC RL 18 yX7_fort := VC.at 561 562 563 (by decide +kernel) (by decide +kernel) (by decide +kernel)
theorem crc_X8_fort : CRc yX8_fort cX8_fort 4 (some .int) 3 := CRc.at 1121 85 (by decide +kernel) (by decide +kernel) (by decide +kernel)
theorem vc_L_21 : VC RL 21 yX8_fort := VC.at 1118 1119 1120 (by decide +kernel) (by decide +kernel) (by decide +kernel)
theorem vc_L_22 : VC RL 22 yX7_told := VC.at 576 490 491 (by decide +kernel) (by decide +kernel) (by decide +kernel)
theorem crc_X8_told : CRc yX8_told cX8_told 3 (some .int) 2 := CRc.at 1125 85 (by decide +kernel) (by decide +kernel) (by decide +kernel)
theorem vc_L_26 : VC RL 26 yX8_told := VC.at 1122 1123 1124 (by decide +kernel) (by decide +kernel) (by decide +kernel)
theorem crc_X7_feed : CRc yX7_feed cX7_feed 2 (some .int) 1 := CRc.at 580 73 (by decide +kernel) (by decide +kernel) (by decide +kernel)
theorem vc_L_27 : VC RL 27 yX7_feed := VC.at 577 578 579 (by decide +kernel) (by decide +kernel) (by decide +kernel)
theorem crc_X8_feed : CRc yX8_feed cX8_feed 2 (some .int) 1 := CRc.at 1129 85 (by decide +kernel) (by decide +kernel) (by decide +kernel)
theorem vc_L_31 : VC RL 31 yX8_feed := VC.at 1126 1127 1128 (by decide +kernel) (by decide +kernel) (by decide +kernel)
theorem crc_X7_text : CRc yX7_text cX7_text 2 (some .int) 0 := CRc.at 584 73 (by decide +kernel) (by decide +kernel) (by decide +kernel)
theorem vc_L_32 : VC RL 32 yX7_text := VC.at 581 582 583 (by decide +kernel) (by decide +kernel) (by decide +kernel)
theorem crc_X8_text : CRc yX8_text cX8_text 3 (some .int) 0 := CRc.at 835 85 (by decide +kernel) (by decide +kernel) (by decide +kernel)
theorem vc_L_36 : VC RL 36 yX8_text := VC.at 1130 833 834 (by decide +kernel) (by decide +kernel) (by decide +kernel)
theorem crc_X7_force : CRc yX7_force cX7_force 3 (some .int) 1 := CRc.at 588 73 (by decide +kernel) (by decide +kernel) (by decide +kernel)
theorem vc_L_37 : VC RL 37 yX7_force := VC.at 585 586 587 (by decide +kernel) (by decide +kernel) (by decide +kernel)
theorem crc_X8_force : CRc yX8_force cX8_force 3 (some .int) 1 := CRc.at 1134 85 (by decide +kernel) (by decide +kernel) (by decide +kernel)
theorem vc_L_40 : VC RL 40 yX8_force := VC.at 1131 1132 1133 (by decide +kernel) (by decide +kernel) (by decide +kernel)
theorem crc_X7_wave : CRc yX7_wave cX7_wave 1 (some .int) 0 := CRc.at 592 73 (by decide +kernel) (by decide +kernel) (by decide +kernel)
theorem vc_L_41 : VC RL 41 yX7_wave := VC.at 589 590 591 (by decide +kernel) (by decide +kernel) (by decide +kernel)
theorem crc_X8_wave : CRc yX8_wave cX8_wave 1 (some .int) 0 := CRc.at 1138 85 (by decide +kernel) (by decide +kernel) (by decide +kernel)
theorem vc_L_44 : VC RL 44 yX8_wave := VC.at 1135 1136 1137 (by decide +kernel) (by decide +kernel) (by decide +kernel)
theorem crc_X7_spade : CRc yX7_spade cX7_spade 3 (some .int) 1 := CRc.at 609 73 (by decide +kernel) (by decide +kernel) (by decide +kernel)
theorem vc_L_45 : VC RL 45 yX7_spade := VC.at 606 607 608 (by decide +kernel) (by decide +kernel) (by decide +kernel)
theorem crc_X8_spade : CRc yX8_spade cX8_spade 2 (some .int) 1 := CRc.at 1150 85 (by decide +kernel) (by decide +kernel) (by decide +kernel)
theorem vc_L_48 : VC RL 48 yX8_spade := VC.at 1147 1148 1149 (by decide +kernel) (by decide +kernel) (by decide +kernel)
theorem crc_X7_run : CRc yX7_run cX7_run 3 (some .int) 2 := CRc.at 619 73 (by decide +kernel) (by decide +kernel) (by decide +kernel)
theorem vc_L_49 : VC RL 49 yX7_run := VC.at 616 617 618 (by decide +kernel) (by decide +kernel) (by decide +kernel)
theorem crc_X8_run : CRc yX8_run cX8_run 4 (some .int) 2 := CRc.at 1158 85 (by decide +kernel) (by decide +kernel) (by decide +kernel)
theorem vc_L_52 : VC RL 52 yX8_run := VC.at 1155 1156 1157 (by decide +kernel) (by decide +kernel) (by decide +kernel)
theorem crc_X7_plan : CRc yX7_plan cX7_plan 6 (some .int) 2 := CRc.at 664 73 (by decide +kernel) (by decide +kernel) (by decide +kernel)
theorem vc_L_53 : VC RL 53 yX7_plan := VC.at 661 662 663 (by decide +kernel) (by decide +kernel) (by decide +kernel)
theorem crc_X8_plan : CRc yX8_plan cX8_plan 5 (some .int) 2 := CRc.at 1194 85 (by decide +kernel) (by decide +kernel) (by decide +kernel)
theorem vc_L_56 : VC RL 56 yX8_plan := VC.at 1191 1192 1193 (by decide +kernel) (by decide +kernel) (by decide +kernel)
theorem crc_X7_keeps : CRc yX7_keeps cX7_keeps 6 (some .int) 2 := CRc.at 684 73 (by decide +kernel) (by decide +kernel) (by decide +kernel)
theorem vc_L_57 : VC RL 57 yX7_keeps := VC.at 681 682 683 (by decide +kernel) (by decide +kernel) (by decide +kernel)
theorem crc_X8_keeps : CRc yX8_keeps cX8_keeps 6 (some .int) 2 := CRc.at 1201 85 (by decide +kernel) (by decide +kernel) (by decide +kernel)
theorem vc_L_60 : VC RL 60 yX8_keeps := VC.at 1198 1199 1200 (by decide +kernel) (by decide +kernel) (by decide +kernel)
theorem crc_X7_best : CRc yX7_best cX7_best 8 (some .int) 3 := CRc.at 689 73 (by decide +kernel) (by decide +kernel) (by decide +kernel)
theorem vc_L_61 : VC RL 61 yX7_best := VC.at 686 687 688 (by decide +kernel) (by decide +kernel) (by decide +kernel)
theorem crc_X8_best : CRc yX8_best cX8_best 9 (some .int) 3 := CRc.at 1209 85 (by decide +kernel) (by decide +kernel) (by decide +kernel)
theorem vc_L_64 : VC RL 64 yX8_best := VC.at 1206 1207 1208 (by decide +kernel) (by decide +kernel) (by decide +kernel)
theorem crc_X7_matters : CRc yX7_matters cX7_matters 9 (some .int) 3 := CRc.at 696 73 (by decide +kernel) (by decide +kernel) (by decide +kernel)
theorem vc_L_65 : VC RL 65 yX7_matters := VC.at 693 694 695 (by decide +kernel) (by decide +kernel) (by decide +kernel)
theorem crc_X8_matters : CRc yX8_matters cX8_matters 9 (some .int) 3 := CRc.at 1213 85 (by decide +kernel) (by decide +kernel) (by decide +kernel)
theorem vc_L_68 : VC RL 68 yX8_matters := VC.at 1210 1211 1212 (by decide +kernel) (by decide +kernel) (by decide +kernel)
theorem crc_X7_wish : CRc yX7_wish cX7_wish 9 (some .int) 3 := CRc.at 700 73 (by decide +kernel) (by decide +kernel) (by decide +kernel)
theorem vc_L_69 : VC RL 69 yX7_wish := VC.at 697 698 699 (by decide +kernel) (by decide +kernel) (by decide +kernel)
theorem crc_X8_wish : CRc yX8_wish cX8_wish 9 (some .int) 3 := CRc.at 1217 85 (by decide +kernel) (by decide +kernel) (by decide +kernel)
theorem vc_L_72 : VC RL 72 yX8_wish := VC.at 1214 1215 1216 (by decide +kernel) (by decide +kernel) (by decide +kernel)
theorem crc_X7_game : CRc yX7_game cX7_game 4 (some .int) 2 := CRc.at 704 73 (by decide +kernel) (by decide +kernel) (by decide +kernel)
theorem vc_L_73 : VC RL 73 yX7_game := VC.at 701 702 703 (by decide +kernel) (by decide +kernel) (by decide +kernel)
theorem crc_X8_game : CRc yX8_game cX8_game 4 (some .int) 2 := CRc.at 1225 85 (by decide +kernel) (by decide +kernel) (by decide +kernel)
theorem vc_L_76 : VC RL 76 yX8_game := VC.at 1222 1223 1224 (by decide +kernel) (by decide +kernel) (by decide +kernel)
theorem crc_X7_tells : CRc yX7_tells cX7_tells 9 (some .int) 3 := CRc.at 729 73 (by decide +kernel) (by decide +kernel) (by decide +kernel)
theorem vc_L_77 : VC RL 77 yX7_tells := VC.at 726 727 728 (by decide +kernel) (by decide +kernel) (by decide +kernel)
theorem crc_X8_tells : CRc yX8_tells cX8_tells 8 (some .int) 3 := CRc.at 1233 85 (by decide +kernel) (by decide +kernel) (by decide +kernel)
theorem vc_L_80 : VC RL 80 yX8_tells := VC.at 1230 1231 1232 (by decide +kernel) (by decide +kernel) (by decide +kernel)
theorem crc_X7_film : CRc yX7_film cX7_film 7 (some .int) 3 := CRc.at 745 73 (by decide +kernel) (by decide +kernel) (by decide +kernel)
theorem vc_L_81 : VC RL 81 yX7_film := VC.at 742 743 744 (by decide +kernel) (by decide +kernel) (by decide +kernel)
theorem crc_X8_film : CRc yX8_film cX8_film 5 (some .int) 3 := CRc.at 1249 85 (by decide +kernel) (by decide +kernel) (by decide +kernel)
theorem vc_L_84 : VC RL 84 yX8_film := VC.at 1246 1247 1248 (by decide +kernel) (by decide +kernel) (by decide +kernel)
theorem crc_X7_drawn : CRc yX7_drawn cX7_drawn 3 (some .int) 2 := CRc.at 759 73 (by decide +kernel) (by decide +kernel) (by decide +kernel)
theorem vc_L_85 : VC RL 85 yX7_drawn := VC.at 756 757 758 (by decide +kernel) (by decide +kernel) (by decide +kernel)
theorem crc_X8_drawn : CRc yX8_drawn cX8_drawn 4 (some .int) 2 := CRc.at 1257 85 (by decide +kernel) (by decide +kernel) (by decide +kernel)
theorem vc_L_88 : VC RL 88 yX8_drawn := VC.at 1254 1255 1256 (by decide +kernel) (by decide +kernel) (by decide +kernel)
theorem crc_X7_chance : CRc yX7_chance cX7_chance 7 (some .long) 4 := CRc.at 768 73 (by decide +kernel) (by decide +kernel) (by decide +kernel)
theorem vc_L_89 : VC RL 89 yX7_chance := VC.at 765 766 767 (by decide +kernel) (by decide +kernel) (by decide +kernel)
theorem crc_X8_chance : CRc yX8_chance cX8_chance 9 (some .long) 4 := CRc.at 1266 85 (by decide +kernel) (by decide +kernel) (by decide +kernel)
theorem vc_L_93 : VC RL 93 yX8_chance := VC.at 1263 1264 1265 (by decide +kernel) (by decide +kernel) (by decide +kernel)
theorem crc_X7_image : CRc yX7_image cX7_image 1 (some .int) 0 := CRc.at 776 73 (by decide +kernel) (by decide +kernel) (by decide +kernel)
theorem vc_L_94 : VC RL 94 yX7_image := VC.at 773 774 775 (by decide +kernel) (by decide +kernel) (by decide +kernel)
theorem crc_X8_image : CRc yX8_image cX8_image 2 (some .int) 0 := CRc.at 1271 85 (by decide +kernel) (by decide +kernel) (by decide +kernel)
theorem vc_L_97 : VC RL 97 yX8_image := VC.at 1268 1269 1270 (by decide +kernel) (by decide +kernel) (by decide +kernel)
theorem crc_X7_back : CRc yX7_back cX7_back 1 (some .int) 0 := CRc.at 780 73 (by decide +kernel) (by decide +kernel) (by decide +kernel)
theorem vc_L_98 : VC RL 98 yX7_back := VC.at 777 778 779 (by decide +kernel) (by decide +kernel) (by decide +kernel)
theorem crc_X8_back : CRc yX8_back cX8_back 2 (some .int) 0 := CRc.at 1275 85 (by decide +kernel) (by decide +kernel) (by decide +kernel)
theorem vc_L_101 : VC RL 101 yX8_back := VC.at 1272 1273 1274 (by decide +kernel) (by decide +kernel) (by decide +kernel)
theorem crc_X7_count : CRc yX7_count cX7_count 2 (some .int) 1 := CRc.at 784 73 (by decide +kernel) (by decide +kernel) (by decide +kernel)
theorem vc_L_102 : VC RL 102 yX7_count := VC.at 781 782 783 (by decide +kernel) (by decide +kernel) (by decide +kernel)
theorem crc_X8_count : CRc yX8_count cX8_count 2 (some .int) 1 := CRc.at 1279 85 (by decide +kernel) (by decide +kernel) (by decide +kernel)
theorem vc_L_105 : VC RL 105 yX8_count := VC.at 1276 1277 1278 (by decide +kernel) (by decide +kernel) (by decide +kernel)
theorem crc_X7_sheet : CRc yX7_sheet cX7_sheet 5 (some .int) 3 := CRc.at 794 73 (by decide +kernel) (by decide +kernel) (by decide +kernel)
theorem vc_L_106 : VC RL 106 yX7_sheet := VC.at 791 792 793 (by decide +kernel) (by decide +kernel) (by decide +kernel)
theorem crc_X8_sheet : CRc yX8_sheet cX8_sheet 5 (some .int) 3 := CRc.at 1253 85 (by decide +kernel) (by decide +kernel) (by decide +kernel)
theorem vc_L_109 : VC RL 109 yX8_sheet := VC.at 1281 1251 1252 (by decide +kernel) (by decide +kernel) (by decide +kernel)
theorem crc_X7_cell : CRc yX7_cell cX7_cell 5 (some .int) 3 := CRc.at 798 73 (by decide +kernel) (by decide +kernel) (by decide +kernel)
theorem vc_L_110 : VC RL 110 yX7_cell := VC.at 795 796 797 (by decide +kernel) (by decide +kernel) (by decide +kernel)
theorem crc_X8_cell : CRc yX8_cell cX8_cell 4 (some .int) 3 := CRc.at 1285 85 (by decide +kernel) (by decide +kernel) (by decide +kernel)
theorem vc_L_113 : VC RL 113 yX8_cell := VC.at 1282 1283 1284 (by decide +kernel) (by decide +kernel) (by decide +kernel)
theorem crc_X7_copy : CRc yX7_copy cX7_copy 8 (some .int) 5 := CRc.at 802 73 (by decide +kernel) (by decide +kernel) (by decide +kernel)
theorem vc_L_114 : VC RL 114 yX7_copy := VC.at 799 800 801 (by decide +kernel) (by decide +kernel) (by decide +kernel)
theorem crc_X8_copy : CRc yX8_copy cX8_copy 7 (some .int) 5 := CRc.at 1289 85 (by decide +kernel) (by decide +kernel) (by decide +kernel)
theorem vc_L_118 : VC RL 118 yX8_copy := VC.at 1286 1287 1288 (by decide +kernel) (by decide +kernel) (by decide +kernel)
theorem crc_X7_forts : CRc yX7_forts cX7_forts 9 (some .int) 4 := CRc.at 813 73 (by decide +kernel) (by decide +kernel) (by decide +kernel)
theorem vc_L_119 : VC RL 119 yX7_forts := VC.at 810 811 812 (by decide +kernel) (by decide +kernel) (by decide +kernel)
theorem crc_X8_forts : CRc yX8_forts cX8_forts 10 (some .int) 4 := CRc.at 1293 85 (by decide +kernel) (by decide +kernel) (by decide +kernel)
theorem vc_L_123 : VC RL 123 yX8_forts := VC.at 1290 1291 1292 (by decide +kernel) (by decide +kernel) (by decide +kernel)
theorem crc_X7_taken : CRc yX7_taken cX7_taken 4 (some .int) 2 := CRc.at 818 73 (by decide +kernel) (by decide +kernel) (by decide +kernel)
theorem vc_L_124 : VC RL 124 yX7_taken := VC.at 815 816 817 (by decide +kernel) (by decide +kernel) (by decide +kernel)
theorem crc_X8_taken : CRc yX8_taken cX8_taken 4 (some .int) 2 := CRc.at 1300 85 (by decide +kernel) (by decide +kernel) (by decide +kernel)
theorem vc_L_127 : VC RL 127 yX8_taken := VC.at 1297 1298 1299 (by decide +kernel) (by decide +kernel) (by decide +kernel)
theorem fl_8_7 : FR RX8 7 8 3 := FR.at 972 rfl (by decide +kernel) (by decide +kernel) (by decide +kernel)
theorem fl_8_13 : FR RX8 13 8 4 := FR.at 973 rfl (by decide +kernel) (by decide +kernel) (by decide +kernel)
theorem fl_8_16 : FR RX8 16 8 5 := FR.at 974 rfl (by decide +kernel) (by decide +kernel) (by decide +kernel)
theorem fl_8_19 : FR RX8 19 8 6 := FR.at 975 rfl (by decide +kernel) (by decide +kernel) (by decide +kernel)
theorem fl_8_22 : FR RX8 22 8 7 := FR.at 976 rfl (by decide +kernel) (by decide +kernel) (by decide +kernel)
theorem fl_8_25 : FR RX8 25 8 10 := FR.at 979 rfl (by decide +kernel) (by decide +kernel) (by decide +kernel)
theorem fl_8_28 : FR RX8 28 8 12 := FR.at 981 rfl (by decide +kernel) (by decide +kernel) (by decide +kernel)
theorem fl_8_31 : FR RX8 31 8 13 := FR.at 982 rfl (by decide +kernel) (by decide +kernel) (by decide +kernel)
theorem fl_8_34 : FR RX8 34 8 14 := FR.at 983 rfl (by decide +kernel) (by decide +kernel) (by decide +kernel)
theorem fl_8_37 : FR RX8 37 8 22 := FR.at 991 rfl (by decide +kernel) (by decide +kernel) (by decide +kernel)
theorem fl_8_40 : FR RX8 40 8 23 := FR.at 992 rfl (by decide +kernel) (by decide +kernel) (by decide +kernel)
theorem fl_8_43 : FR RX8 43 8 26 := FR.at 995 rfl (by decide +kernel) (by decide +kernel) (by decide +kernel)
theorem fl_8_46 : FR RX8 46 8 28 := FR.at 997 rfl (by decide +kernel) (by decide +kernel) (by decide +kernel)
theorem fl_8_49 : FR RX8 49 8 31 := FR.at 1000 rfl (by decide +kernel) (by decide +kernel) (by decide +kernel)
theorem fl_8_52 : FR RX8 52 8 32 := FR.at 1001 rfl (by decide +kernel) (by decide +kernel) (by decide +kernel)
theorem fl_8_55 : FR RX8 55 8 33 := FR.at 1002 rfl (by decide +kernel) (by decide +kernel) (by decide +kernel)
theorem fl_8_58 : FR RX8 58 8 34 := FR.at 1003 rfl (by decide +kernel) (by decide +kernel) (by decide +kernel)
theorem vc_8_63 : VC RX8 63 yJ0_length_8abf5 := VC.at 830 195 196 (by decide +kernel) (by decide +kernel) (by decide +kernel)
theorem vc_8_68 : VC RX8 68 yJ0_charAt_5068e := VC.at 831 205 206 (by decide +kernel) (by decide +kernel) (by decide +kernel)
theorem fl_8_72 : FR RX8 72 8 9 := FR.at 978 rfl (by decide +kernel) (by decide +kernel) (by decide +kernel)
theorem vc_8_76 : VC RX8 76 yX8_text := VC.at 832 833 834 (by decide +kernel) (by decide +kernel) (by decide +kernel)
theorem fl_8_79 : FR RX8 79 8 2 := FR.at 971 rfl (by decide +kernel) (by decide +kernel) (by decide +kernel)
theorem crc_X8_within : CRc yX8_within cX8_within 3 (some .boolean) 3 := CRc.at 1081 85 (by decide +kernel) (by decide +kernel) (by decide +kernel)
theorem sc_8_82 : SC RX8 82 yX8_within := SC.at 1079 1080 (by decide +kernel) (by decide +kernel)
theorem fl_8_86 : FR RX8 86 8 0 := FR.at 969 rfl (by decide +kernel) (by decide +kernel) (by decide +kernel)
theorem fl_8_89 : FR RX8 89 8 1 := FR.at 970 rfl (by decide +kernel) (by decide +kernel) (by decide +kernel)
theorem crc_X8_loses : CRc yX8_loses cX8_loses 4 (some .int) 1 := CRc.at 1096 85 (by decide +kernel) (by decide +kernel) (by decide +kernel)
theorem vc_8_92 : VC RX8 92 yX8_loses := VC.at 1093 1095 50 (by decide +kernel) (by decide +kernel) (by decide +kernel)
theorem crc_X8_rises : CRc yX8_rises cX8_rises 3 (some .int) 1 := CRc.at 1113 85 (by decide +kernel) (by decide +kernel) (by decide +kernel)
theorem vc_8_96 : VC RX8 96 yX8_rises := VC.at 1110 1112 53 (by decide +kernel) (by decide +kernel) (by decide +kernel)
theorem crc_X8_shelter : CRc yX8_shelter cX8_shelter 4 (some .int) 1 := CRc.at 1104 85 (by decide +kernel) (by decide +kernel) (by decide +kernel)
theorem vc_8_99 : VC RX8 99 yX8_shelter := VC.at 1101 1103 52 (by decide +kernel) (by decide +kernel) (by decide +kernel)
theorem crc_X8_isFort : CRc yX8_isFort cX8_isFort 2 (some .boolean) 1 := CRc.at 1085 85 (by decide +kernel) (by decide +kernel) (by decide +kernel)
theorem vc_8_102 : VC RX8 102 yX8_isFort := VC.at 1082 1084 48 (by decide +kernel) (by decide +kernel) (by decide +kernel)
theorem crc_X8_most : CRc yX8_most cX8_most 1 (some .int) 1 := CRc.at 1088 85 (by decide +kernel) (by decide +kernel) (by decide +kernel)
theorem sc_8_106 : SC RX8 106 yX8_most := SC.at 1086 1087 (by decide +kernel) (by decide +kernel)
theorem crc_X8_get : CRc yX8_get cX8_get 3 (some .int) 2 := CRc.at 1092 85 (by decide +kernel) (by decide +kernel) (by decide +kernel)
theorem vc_8_109 : VC RX8 109 yX8_get := VC.at 1089 1091 49 (by decide +kernel) (by decide +kernel) (by decide +kernel)
theorem crc_X8_put : CRc yX8_put cX8_put 4 none 3 := CRc.at 1117 85 (by decide +kernel) (by decide +kernel) (by decide +kernel)
theorem vc_8_113 : VC RX8 113 yX8_put := VC.at 1114 1116 54 (by decide +kernel) (by decide +kernel) (by decide +kernel)
theorem fl_8_117 : FR RX8 117 8 18 := FR.at 987 rfl (by decide +kernel) (by decide +kernel) (by decide +kernel)
theorem fl_8_120 : FR RX8 120 8 17 := FR.at 986 rfl (by decide +kernel) (by decide +kernel) (by decide +kernel)
theorem fl_8_123 : FR RX8 123 8 16 := FR.at 985 rfl (by decide +kernel) (by decide +kernel) (by decide +kernel)
theorem crc_X8_name : CRc yX8_name cX8_name 1 (some (.object "java/lang/String")) 1 := CRc.at 849 85 (by decide +kernel) (by decide +kernel) (by decide +kernel)
theorem sc_8_132 : SC RX8 132 yX8_name := SC.at 847 848 (by decide +kernel) (by decide +kernel)
theorem crc_X8_isWord : CRc yX8_isWord cX8_isWord 3 (some .boolean) 1 := CRc.at 859 85 (by decide +kernel) (by decide +kernel) (by decide +kernel)
theorem vc_8_136 : VC RX8 136 yX8_isWord := VC.at 856 858 36 (by decide +kernel) (by decide +kernel) (by decide +kernel)
theorem crc_X8_isLetter : CRc yX8_isLetter cX8_isLetter 1 (some .boolean) 1 := CRc.at 842 85 (by decide +kernel) (by decide +kernel) (by decide +kernel)
theorem sc_8_140 : SC RX8 140 yX8_isLetter := SC.at 840 841 (by decide +kernel) (by decide +kernel)
theorem crc_X8_named : CRc yX8_named cX8_named 2 (some .int) 0 := CRc.at 846 85 (by decide +kernel) (by decide +kernel) (by decide +kernel)
theorem vc_8_143 : VC RX8 143 yX8_named := VC.at 843 845 35 (by decide +kernel) (by decide +kernel) (by decide +kernel)
theorem crc_X8_isDigit : CRc yX8_isDigit cX8_isDigit 1 (some .boolean) 1 := CRc.at 868 85 (by decide +kernel) (by decide +kernel) (by decide +kernel)
theorem sc_8_158 : SC RX8 158 yX8_isDigit := SC.at 866 867 (by decide +kernel) (by decide +kernel)
theorem fl_8_161 : FR RX8 161 8 19 := FR.at 988 rfl (by decide +kernel) (by decide +kernel) (by decide +kernel)
theorem crc_J0_indexOf_0f7a4 : CRc yJ0_indexOf_0f7a4 cJ0_indexOf_0f7a4 2 (some .int) 1 := CRc.at 873 78 (by decide +kernel) (by decide +kernel) (by decide +kernel)
theorem vc_8_166 : VC RX8 166 yJ0_indexOf_0f7a4 := VC.at 870 871 872 (by decide +kernel) (by decide +kernel) (by decide +kernel)
theorem fl_8_169 : FR RX8 169 8 20 := FR.at 989 rfl (by decide +kernel) (by decide +kernel) (by decide +kernel)
theorem crc_X8_fails : CRc yX8_fails cX8_fails 1 (some .boolean) 0 := CRc.at 936 85 (by decide +kernel) (by decide +kernel) (by decide +kernel)
theorem vc_8_172 : VC RX8 172 yX8_fails := VC.at 933 935 39 (by decide +kernel) (by decide +kernel) (by decide +kernel)
theorem crc_X8_next : CRc yX8_next cX8_next 2 none 0 := CRc.at 839 85 (by decide +kernel) (by decide +kernel) (by decide +kernel)
theorem vc_8_176 : VC RX8 176 yX8_next := VC.at 836 838 34 (by decide +kernel) (by decide +kernel) (by decide +kernel)
theorem fl_8_179 : FR RX8 179 8 15 := FR.at 984 rfl (by decide +kernel) (by decide +kernel) (by decide +kernel)
theorem crc_X8_codes : CRc yX8_codes cX8_codes 2 (some .boolean) 1 := CRc.at 952 85 (by decide +kernel) (by decide +kernel) (by decide +kernel)
theorem vc_8_182 : VC RX8 182 yX8_codes := VC.at 949 951 43 (by decide +kernel) (by decide +kernel) (by decide +kernel)
theorem fl_8_185 : FR RX8 185 8 21 := FR.at 990 rfl (by decide +kernel) (by decide +kernel) (by decide +kernel)
theorem crc_X8_one : CRc yX8_one cX8_one 4 (some .boolean) 0 := CRc.at 964 85 (by decide +kernel) (by decide +kernel) (by decide +kernel)
theorem vc_8_188 : VC RX8 188 yX8_one := VC.at 961 963 46 (by decide +kernel) (by decide +kernel) (by decide +kernel)
theorem crc_X8_any : CRc yX8_any cX8_any 1 (some .boolean) 0 := CRc.at 940 85 (by decide +kernel) (by decide +kernel) (by decide +kernel)
theorem vc_8_191 : VC RX8 191 yX8_any := VC.at 937 939 40 (by decide +kernel) (by decide +kernel) (by decide +kernel)
theorem crc_X8_takes : CRc yX8_takes cX8_takes 2 (some .boolean) 1 := CRc.at 968 85 (by decide +kernel) (by decide +kernel) (by decide +kernel)
theorem vc_8_194 : VC RX8 194 yX8_takes := VC.at 965 967 47 (by decide +kernel) (by decide +kernel) (by decide +kernel)
theorem crc_X8_term : CRc yX8_term cX8_term 1 (some .boolean) 0 := CRc.at 960 85 (by decide +kernel) (by decide +kernel) (by decide +kernel)
theorem vc_8_197 : VC RX8 197 yX8_term := VC.at 957 959 45 (by decide +kernel) (by decide +kernel) (by decide +kernel)
theorem crc_X8_no : CRc yX8_no cX8_no 2 (some .boolean) 0 := CRc.at 948 85 (by decide +kernel) (by decide +kernel) (by decide +kernel)
theorem vc_8_200 : VC RX8 200 yX8_no := VC.at 945 947 42 (by decide +kernel) (by decide +kernel) (by decide +kernel)
theorem crc_X8_sum : CRc yX8_sum cX8_sum 2 (some .boolean) 0 := CRc.at 956 85 (by decide +kernel) (by decide +kernel) (by decide +kernel)
theorem vc_8_203 : VC RX8 203 yX8_sum := VC.at 953 955 44 (by decide +kernel) (by decide +kernel) (by decide +kernel)
theorem crc_X8_all : CRc yX8_all cX8_all 1 (some .boolean) 0 := CRc.at 944 85 (by decide +kernel) (by decide +kernel) (by decide +kernel)
theorem vc_8_206 : VC RX8 206 yX8_all := VC.at 941 943 41 (by decide +kernel) (by decide +kernel) (by decide +kernel)
theorem crc_X8_takes_ : CRc yX8_takes_ cX8_takes_ 2 (some .boolean) 1 := CRc.at 932 85 (by decide +kernel) (by decide +kernel) (by decide +kernel)
theorem vc_8_209 : VC RX8 209 yX8_takes_ := VC.at 929 931 38 (by decide +kernel) (by decide +kernel) (by decide +kernel)
theorem fl_8_211 : FR RX8 211 8 11 := FR.at 980 rfl (by decide +kernel) (by decide +kernel) (by decide +kernel)
theorem crc_X8_part : CRc yX8_part cX8_part 3 (some .boolean) 2 := CRc.at 928 85 (by decide +kernel) (by decide +kernel) (by decide +kernel)
theorem vc_8_214 : VC RX8 214 yX8_part := VC.at 925 927 37 (by decide +kernel) (by decide +kernel) (by decide +kernel)
theorem fl_8_218 : FR RX8 218 8 8 := FR.at 977 rfl (by decide +kernel) (by decide +kernel) (by decide +kernel)
theorem crc_X8_both : CRc yX8_both cX8_both 3 (some .int) 3 := CRc.at 1107 85 (by decide +kernel) (by decide +kernel) (by decide +kernel)
theorem sc_8_221 : SC RX8 221 yX8_both := SC.at 1105 1106 (by decide +kernel) (by decide +kernel)
theorem sc_8_225 : SC RX8 225 yJ9_min_7cf53 := SC.at 1108 534 (by decide +kernel) (by decide +kernel)
theorem sc_8_230 : SC RX8 230 yJ9_max_7cf53 := SC.at 1109 531 (by decide +kernel) (by decide +kernel)
theorem crc_X8_says : CRc yX8_says cX8_says 8 (some .int) 3 := CRc.at 1100 85 (by decide +kernel) (by decide +kernel) (by decide +kernel)
theorem vc_8_233 : VC RX8 233 yX8_says := VC.at 1097 1099 51 (by decide +kernel) (by decide +kernel) (by decide +kernel)
theorem crc_X8_comes : CRc yX8_comes cX8_comes 2 none 0 := CRc.at 1142 85 (by decide +kernel) (by decide +kernel) (by decide +kernel)
theorem vc_8_236 : VC RX8 236 yX8_comes := VC.at 1139 1141 55 (by decide +kernel) (by decide +kernel) (by decide +kernel)
theorem crc_X8_standing : CRc yX8_standing cX8_standing 3 (some .int) 0 := CRc.at 1146 85 (by decide +kernel) (by decide +kernel) (by decide +kernel)
theorem vc_8_239 : VC RX8 239 yX8_standing := VC.at 1143 1145 56 (by decide +kernel) (by decide +kernel) (by decide +kernel)
theorem crc_X8_raised : CRc yX8_raised cX8_raised 2 none 1 := CRc.at 1154 85 (by decide +kernel) (by decide +kernel) (by decide +kernel)
theorem vc_8_242 : VC RX8 242 yX8_raised := VC.at 1151 1153 57 (by decide +kernel) (by decide +kernel) (by decide +kernel)
theorem fl_8_246 : FR RX8 246 8 24 := FR.at 993 rfl (by decide +kernel) (by decide +kernel) (by decide +kernel)
theorem fl_8_249 : FR RX8 249 8 25 := FR.at 994 rfl (by decide +kernel) (by decide +kernel) (by decide +kernel)
theorem crc_X8_bay : CRc yX8_bay cX8_bay 5 (some .int) 0 := CRc.at 1182 85 (by decide +kernel) (by decide +kernel) (by decide +kernel)
theorem vc_8_252 : VC RX8 252 yX8_bay := VC.at 1179 1181 62 (by decide +kernel) (by decide +kernel) (by decide +kernel)
theorem crc_X8_valueOf : CRc yX8_valueOf cX8_valueOf 4 (some .int) 1 := CRc.at 1186 85 (by decide +kernel) (by decide +kernel) (by decide +kernel)
theorem vc_8_255 : VC RX8 255 yX8_valueOf := VC.at 1183 1185 63 (by decide +kernel) (by decide +kernel) (by decide +kernel)
theorem crc_X8_isWaves : CRc yX8_isWaves cX8_isWaves 1 (some .boolean) 1 := CRc.at 1161 85 (by decide +kernel) (by decide +kernel) (by decide +kernel)
theorem sc_8_258 : SC RX8 258 yX8_isWaves := SC.at 1159 1160 (by decide +kernel) (by decide +kernel)
theorem crc_X8_isAsked : CRc yX8_isAsked cX8_isAsked 2 (some .boolean) 1 := CRc.at 1165 85 (by decide +kernel) (by decide +kernel) (by decide +kernel)
theorem vc_8_261 : VC RX8 261 yX8_isAsked := VC.at 1162 1164 58 (by decide +kernel) (by decide +kernel) (by decide +kernel)
theorem crc_X8_keep : CRc yX8_keep cX8_keep 2 none 0 := CRc.at 1170 85 (by decide +kernel) (by decide +kernel) (by decide +kernel)
theorem vc_8_265 : VC RX8 265 yX8_keep := VC.at 1167 1169 59 (by decide +kernel) (by decide +kernel) (by decide +kernel)
theorem crc_X8_waves : CRc yX8_waves cX8_waves 3 none 1 := CRc.at 1174 85 (by decide +kernel) (by decide +kernel) (by decide +kernel)
theorem vc_8_268 : VC RX8 268 yX8_waves := VC.at 1171 1173 60 (by decide +kernel) (by decide +kernel) (by decide +kernel)
theorem crc_X8_asked : CRc yX8_asked cX8_asked 2 (some .int) 1 := CRc.at 1178 85 (by decide +kernel) (by decide +kernel) (by decide +kernel)
theorem vc_8_271 : VC RX8 271 yX8_asked := VC.at 1175 1177 61 (by decide +kernel) (by decide +kernel) (by decide +kernel)
theorem crc_X8_again : CRc yX8_again cX8_again 2 none 0 := CRc.at 1190 85 (by decide +kernel) (by decide +kernel) (by decide +kernel)
theorem vc_8_274 : VC RX8 274 yX8_again := VC.at 1187 1189 64 (by decide +kernel) (by decide +kernel) (by decide +kernel)
theorem crc_X8_isSheet : CRc yX8_isSheet cX8_isSheet 1 (some .boolean) 1 := CRc.at 1197 85 (by decide +kernel) (by decide +kernel) (by decide +kernel)
theorem sc_8_277 : SC RX8 277 yX8_isSheet := SC.at 1195 1196 (by decide +kernel) (by decide +kernel)
theorem crc_X8_heightBehind : CRc yX8_heightBehind cX8_heightBehind 4 (some .int) 2 := CRc.at 1205 85 (by decide +kernel) (by decide +kernel) (by decide +kernel)
theorem vc_8_280 : VC RX8 280 yX8_heightBehind := VC.at 1202 1204 65 (by decide +kernel) (by decide +kernel) (by decide +kernel)
theorem crc_X8_valueBehind : CRc yX8_valueBehind cX8_valueBehind 4 (some .int) 2 := CRc.at 1221 85 (by decide +kernel) (by decide +kernel) (by decide +kernel)
theorem vc_8_283 : VC RX8 283 yX8_valueBehind := VC.at 1218 1220 66 (by decide +kernel) (by decide +kernel) (by decide +kernel)
theorem crc_X8_search : CRc yX8_search cX8_search 8 (some .int) 1 := CRc.at 1229 85 (by decide +kernel) (by decide +kernel) (by decide +kernel)
theorem vc_8_286 : VC RX8 286 yX8_search := VC.at 1226 1228 67 (by decide +kernel) (by decide +kernel) (by decide +kernel)
theorem fl_8_289 : FR RX8 289 8 27 := FR.at 996 rfl (by decide +kernel) (by decide +kernel) (by decide +kernel)
theorem crc_X8_otherwise : CRc yX8_otherwise cX8_otherwise 5 (some .int) 2 := CRc.at 1237 85 (by decide +kernel) (by decide +kernel) (by decide +kernel)
theorem vc_8_292 : VC RX8 292 yX8_otherwise := VC.at 1234 1236 68 (by decide +kernel) (by decide +kernel) (by decide +kernel)
theorem crc_X8_becomes : CRc yX8_becomes cX8_becomes 4 none 3 := CRc.at 1241 85 (by decide +kernel) (by decide +kernel) (by decide +kernel)
theorem vc_8_295 : VC RX8 295 yX8_becomes := VC.at 1238 1240 69 (by decide +kernel) (by decide +kernel) (by decide +kernel)
theorem crc_X8_isSo : CRc yX8_isSo cX8_isSo 3 (some .boolean) 2 := CRc.at 1245 85 (by decide +kernel) (by decide +kernel) (by decide +kernel)
theorem vc_8_298 : VC RX8 298 yX8_isSo := VC.at 1242 1244 70 (by decide +kernel) (by decide +kernel) (by decide +kernel)
theorem vc_8_302 : VC RX8 302 yX8_sheet := VC.at 1250 1251 1252 (by decide +kernel) (by decide +kernel) (by decide +kernel)
theorem crc_X8_draws : CRc yX8_draws cX8_draws 5 none 2 := CRc.at 1261 85 (by decide +kernel) (by decide +kernel) (by decide +kernel)
theorem vc_8_306 : VC RX8 306 yX8_draws := VC.at 1258 1260 71 (by decide +kernel) (by decide +kernel) (by decide +kernel)
theorem fl_8_312 : FR RX8 312 8 29 := FR.at 998 rfl (by decide +kernel) (by decide +kernel) (by decide +kernel)
theorem fl_8_316 : FR RX8 316 8 30 := FR.at 999 rfl (by decide +kernel) (by decide +kernel) (by decide +kernel)
theorem sc_8_319 : SC RX8 319 yJ6_bitCount_0f7a4 := SC.at 1280 786 (by decide +kernel) (by decide +kernel)
theorem vc_8_328 : VC RX8 328 yX8_fort := VC.at 1296 1119 1120 (by decide +kernel) (by decide +kernel) (by decide +kernel)
end
section
/-! THE RULES OVER A WORLD IN THREE PARTS: shapes, ints, references -/
abbrev HS : Type := Nat × (Nat → Nat × Nat)
abbrev HI : Type := Nat → Nat → Int32
abbrev HR : Type := Nat → Nat → Option Nat
section
variable {G : GG} {K : XK} {y : MethodName} {cc : ByteArray} {L : Nat} {ret : Option FieldType} {cs sl pc : Nat} {lv : List (Nat × Value)} {st : List Value} {h : AH} {Sh : HS} {I : HI} {R : HR}
theorem x_vali {x z : Int32} (e : x = z) (k : X G K y cc L ret cs sl pc lv (.int z :: st) h) : X G K y cc L ret cs sl pc lv (.int x :: st) h := e ▸ k
theorem x_if_eqB {P : Prop} {off : Int} {tgt : Nat} (hd : decode cc pc = .ok (.ifCond .eq off, 3)) (ht : (pc : Int) + off = (tgt : Int)) (kt : ¬ P → X G K y cc L ret cs sl tgt lv st h) (kf : P → X G K y cc L ret cs sl (pc + 3) lv st h) : X G K y cc L ret cs sl pc lv (.int (bI P) :: st) h := by
  refine x_if_eq hd ht (fun q => kt (bI_0.mp q)) (fun q => kf ?_)
  by_cases hp : P
  · exact hp
  · exact absurd (bI_0.mpr hp) q
theorem x_if_neB {P : Prop} {off : Int} {tgt : Nat} (hd : decode cc pc = .ok (.ifCond .ne off, 3)) (ht : (pc : Int) + off = (tgt : Int)) (kt : P → X G K y cc L ret cs sl tgt lv st h) (kf : ¬ P → X G K y cc L ret cs sl (pc + 3) lv st h) : X G K y cc L ret cs sl pc lv (.int (bI P) :: st) h := by
  refine x_if_ne hd ht (fun q => kt ?_) (fun q => kf (bI_0.mp q))
  by_cases hp : P
  · exact hp
  · exact absurd (bI_0.mpr hp) q
theorem x_gI {ci k a idx n : Nat} {v : Int32} (hd : decode cc pc = .ok (.getfield idx, 3)) (f : FR y.cls idx ci k) (hi : slInt ci k = true) (hs : Sh.2 a = (ci, n)) (hv : I a k = v) (kk : X G K y cc L ret cs sl (pc + 3) lv (.int v :: st) (Sh, I, R)) : X G K y cc L ret cs sl pc lv (.ref a :: st) (Sh, I, R) := by
  subst hv
  exact x_getI (h := (Sh, I, R)) hd f hi hs kk
theorem x_gR {ci k a idx n b : Nat} (hd : decode cc pc = .ok (.getfield idx, 3)) (f : FR y.cls idx ci k) (hi : slInt ci k = false) (hs : Sh.2 a = (ci, n)) (hv : R a k = some b) (kk : X G K y cc L ret cs sl (pc + 3) lv (.ref b :: st) (Sh, I, R)) : X G K y cc L ret cs sl pc lv (.ref a :: st) (Sh, I, R) :=
  x_getR (h := (Sh, I, R)) hd f hi hs hv kk
theorem x_pI {ci k a idx n : Nat} {v : Int32} (hd : decode cc pc = .ok (.putfield idx, 3)) (f : FR y.cls idx ci k) (hi : slInt ci k = true) (ht : tyAt ci k = .int) (hf : nfB ci k = true) (hs : Sh.2 a = (ci, n)) (kk : ∀ I' : HI, I' = u2 I a k v → X G K y cc L ret cs sl (pc + 3) lv st (Sh, I', R)) : X G K y cc L ret cs sl pc lv (.int v :: .ref a :: st) (Sh, I, R) :=
  x_putI (h := (Sh, I, R)) hd f hi ht hf hs (kk _ rfl)
theorem x_pZ {ci k a idx n : Nat} (hd : decode cc pc = .ok (.putfield idx, 3)) (f : FR y.cls idx ci k) (hi : slInt ci k = true) (ht : tyAt ci k = .boolean) (hf : nfB ci k = true) (hs : Sh.2 a = (ci, n)) (kk : ∀ I' : HI, I' = u2 I a k 1 → X G K y cc L ret cs sl (pc + 3) lv st (Sh, I', R)) : X G K y cc L ret cs sl pc lv (.int 1 :: .ref a :: st) (Sh, I, R) :=
  x_putZ (h := (Sh, I, R)) hd f hi ht hf hs (kk _ rfl)
theorem x_pR {ci k a idx n v : Nat} (hd : decode cc pc = .ok (.putfield idx, 3)) (f : FR y.cls idx ci k) (hi : slInt ci k = false) (hn : narrow (tyAt ci k) (.ref v) = .ref v) (hfit : fits (tyAt ci k) (.ref v) = true) (hf : nfB ci k = true) (hs : Sh.2 a = (ci, n)) (kk : ∀ R' : HR, R' = u2 R a k (some v) → X G K y cc L ret cs sl (pc + 3) lv st (Sh, I, R')) : X G K y cc L ret cs sl pc lv (.ref v :: .ref a :: st) (Sh, I, R) :=
  x_putR (h := (Sh, I, R)) hd f hi hn hfit hf hs (kk _ rfl)
theorem x_ia {a n j : Nat} {i v : Int32} (hd : decode cc pc = .ok (.iaload, 1)) (hs : Sh.2 a = (9, n)) (hi : i = nI j) (hj : j < n) (hn : n < 2147483648) (hv : I a j = v) (kk : X G K y cc L ret cs sl (pc + 1) lv (.int v :: st) (Sh, I, R)) : X G K y cc L ret cs sl pc lv (.int i :: .ref a :: st) (Sh, I, R) := by
  subst hi
  subst hv
  refine x_iald (h := (Sh, I, R)) hd hs (vp_in_nI hj hn) ?_
  rw [nI_clamp (Nat.lt_trans hj hn)]
  exact kk
theorem x_is {a n j : Nat} {i x : Int32} (hd : decode cc pc = .ok (.iastore, 1)) (hs : Sh.2 a = (9, n)) (hi : i = nI j) (hj : j < n) (hn : n < 2147483648) (kk : ∀ I' : HI, I' = u2 I a j x → X G K y cc L ret cs sl (pc + 1) lv st (Sh, I', R)) : X G K y cc L ret cs sl pc lv (.int x :: .int i :: .ref a :: st) (Sh, I, R) := by
  subst hi
  refine x_iast (h := (Sh, I, R)) hd hs (vp_in_nI hj hn) ?_
  rw [nI_clamp (Nat.lt_trans hj hn)]
  exact kk _ rfl
theorem x_aa {a n j b kd : Nat} {i : Int32} (hd : decode cc pc = .ok (.aaload, 1)) (hs : Sh.2 a = (kd, n)) (hk : 10 ≤ kd) (hk2 : kd ≤ 13) (hi : i = nI j) (hj : j < n) (hn : n < 2147483648) (hv : R a j = some b) (kk : X G K y cc L ret cs sl (pc + 1) lv (.ref b :: st) (Sh, I, R)) : X G K y cc L ret cs sl pc lv (.int i :: .ref a :: st) (Sh, I, R) := by
  subst hi
  refine x_aald (h := (Sh, I, R)) hd hs hk hk2 (vp_in_nI hj hn) ?_ kk
  rw [nI_clamp (Nat.lt_trans hj hn)]
  exact hv
end
/-- f over 0 .. n-1, from the first on -/
def fd {α : Type} (f : Nat → α → α) (a : α) : Nat → α := fun n => Nat.rec a (fun i r => f i r) n
theorem fd_0 {α : Type} {f : Nat → α → α} {a : α} : fd f a 0 = a := rfl
theorem fd_s {α : Type} {f : Nat → α → α} {a : α} {n : Nat} : fd f a (n + 1) = f n (fd f a n) := rfl
theorem fd_congr {α : Type} {f g : Nat → α → α} {a : α} {n : Nat} (h : ∀ i r, i < n → f i r = g i r) : fd f a n = fd g a n := by
  induction n with
  | zero => rfl
  | succ n ih =>
    rw [fd_s, fd_s, ih (fun i r hi => h i r (by omega))]
    exact h n _ (by omega)
/-! the class's cells -/
def ShS (Sh : HS) (S : Nat) : Prop := Sh.2 S = (4, 5) ∧ Sh.2 (S + 1) = (10, 8) ∧ ∀ i, i < 8 → Sh.2 (S + 2 + i) = (0, 6)
def RS (R : HR) (S : Nat) : Prop := R S 0 = some (S + 1) ∧ ∀ i, i < 8 → R (S + 1) i = some (S + 2 + i)
def ShT (Sh : HS) (T : Nat) : Prop := Sh.2 T = (6, 7) ∧ Sh.2 (T + 1) = (9, 160) ∧ Sh.2 (T + 2) = (9, 40)
end
section
/-! WHAT THE STRAND IS, IN NUMBERS: F i k: of fort i, 0 kind, 1 number, 2 place, 3 realm, 4 height -/
def dryF (nu wa : Int32) : Prop := wa - wa / (nu + 2) * (nu + 2) = 0
def mxI (a b : Int32) : Int32 := if a < b then b else a
def mnI (a b : Int32) : Int32 := if b < a then b else a
noncomputable def lossF (k nu v wa : Int32) : Int32 := by
  classical
  exact if k = 1 then v / 2 else if k = 2 then (if 0 < nu + 2 ∧ dryF nu wa then 0 else v) else if k = 3 then v / 2 + nu else if k = 4 then (if 0 < nu + 2 ∧ dryF nu wa then 0 else 2 * v) else if k = 5 then mxI 0 (v - nu) else v
noncomputable def riseF (k v : Int32) : Int32 := by
  classical
  exact if k = 1 ∨ k = 3 then v + 1 else if k = 2 then v / 2 else if k = 4 then v / 2 + 1 else v
def underF (k kd : Int32) : Prop := k = 0 ∨ k = kd ∨ (k = 1 ∧ kd = 3) ∨ (k = 2 ∧ kd = 4)
theorem tw_max : tw (Cond.code Lib.Math.max.name Lib.Math.max.code 2 (some .int)) := tw_at 532 (by decide +kernel) rfl
theorem tw_min : tw (Cond.code Lib.Math.min.name Lib.Math.min.code 2 (some .int)) := tw_at 535 (by decide +kernel) rfl
theorem tw_math : tw (Cond.initialized "java/lang/Math") := tw_at 86 (by decide +kernel) rfl
section
variable {G : GG} {K : XK} {y : MethodName} {cc : ByteArray} {L : Nat} {ret : Option FieldType} {cs sl pc : Nat} {lv : List (Nat × Value)} {st : List Value} {h : AH}
theorem x_mmax {a b : Int32} {idx : Nat} (hd : decode cc pc = .ok (.invokestatic idx, 3)) (hv : SC y.cls idx yJ9_max_7cf53) (hW : (st.map fun v => v.category).sum ≤ 8) (hroom : roomy K 0 2) (hcs : cs ≤ K.1.cells) (hsl : sl ≤ K.1.slots) (k : X G K y cc L ret cs sl (pc + 3) lv (.int (mxI a b) :: st) h) : X G K y cc L ret cs sl pc lv (.int b :: .int a :: st) h := by
  intro p l e s m args below meth c locs H ls C R S V
  have hts := C.2.2.2.2.1
  exact va_mmax C.1 C.2.1 (C.2.2.1.trans V.1.symm) C.2.2.2.1 (hts _ hv.1.mem) (hts _ hv.2.mem) (hts _ tw_math.mem) (hts _ tw_max.mem) hroom.1 (by have := hroom.2; omega) hcs hsl hd (k p l e s m args below meth c locs H ls C R S V)
theorem x_mmin {a b : Int32} {idx : Nat} (hd : decode cc pc = .ok (.invokestatic idx, 3)) (hv : SC y.cls idx yJ9_min_7cf53) (hW : (st.map fun v => v.category).sum ≤ 8) (hroom : roomy K 0 2) (hcs : cs ≤ K.1.cells) (hsl : sl ≤ K.1.slots) (k : X G K y cc L ret cs sl (pc + 3) lv (.int (mnI a b) :: st) h) : X G K y cc L ret cs sl pc lv (.int b :: .int a :: st) h := by
  intro p l e s m args below meth c locs H ls C R S V
  have hts := C.2.2.2.2.1
  exact va_mmin C.1 C.2.1 (C.2.2.1.trans V.1.symm) C.2.2.2.1 (hts _ hv.1.mem) (hts _ hv.2.mem) (hts _ tw_math.mem) (hts _ tw_min.mem) hroom.1 (by have := hroom.2; omega) hcs hsl hd (k p l e s m args below meth c locs H ls C R S V)
end
/-- who shelters a fort at p -/
noncomputable def shelF (F : Nat → Nat → Int32) (p : Int32) : Nat → Int32 := by
  classical
  exact fun n => fd (fun o r => if F o 2 < p ∧ 0 < F o 4 ∧ ¬ F o 0 = 2 then r + 1 else r) 0 n
end
section
set_option maxHeartbeats 4000000 in
set_option maxRecDepth 100000 in
theorem k_stands {G : GG} {Sh : HS} {I : HI} {R : HR} {f : Nat} (hf : Sh.2 f = (0, 6)) : AM G 1 0 0 yX0_stands cX0_stands 1 (some .boolean) [.ref f] (Sh, I, R) (qi fun r g => r = bI (0 < I f 4) ∧ g = (Sh, I, R)) := by
  refine am_intro (by decide) (Nat.le_of_ble_eq_true rfl) ?_
  refine x_aload_n dX0_stands_0 0 rfl rfl ?_
  refine x_gI (v := I f 4) dX0_stands_1 fl_0_24 rfl hf rfl ?_
  refine x_if_le (tgt := 11) dX0_stands_4 (by decide) (fun c_4 => ?_) (fun c_4 => ?_)
  · refine x_iconst (v := nI 0) dX0_stands_11 (by decide) ?_
    refine x_zret dX0_stands_12 rfl rfl (Nat.le_refl _) (Nat.le_refl _) ?_
    exact ⟨(bI_f (fun q => absurd c_4 (Int32.not_le.mpr q))).symm, rfl⟩
  · refine x_iconst (v := nI 1) dX0_stands_7 (by decide) ?_
    refine x_goto (tgt := 12) dX0_stands_8 (by decide) ?_
    refine x_zret dX0_stands_12 rfl rfl (Nat.le_refl _) (Nat.le_refl _) ?_
    exact ⟨(bI_t (Int32.not_le.mp c_4)).symm, rfl⟩

set_option maxHeartbeats 4000000 in
set_option maxRecDepth 100000 in
theorem k_isDry {G : GG} {Sh : HS} {I : HI} {R : HR} {f : Nat} {w : Int32} (hf : Sh.2 f = (0, 6)) : AM G 1 0 0 yX0_isDry cX0_isDry 3 (some .boolean) [.ref f, .int w] (Sh, I, R) (qi fun r g => r = bI (0 < I f 1 + 2 ∧ dryF (I f 1) w) ∧ g = (Sh, I, R)) := by
  refine am_intro (by decide) (Nat.le_of_ble_eq_true rfl) ?_
  refine x_aload_n dX0_isDry_0 0 rfl rfl ?_
  refine x_gI (v := I f 1) dX0_isDry_1 fl_0_15 rfl hf rfl ?_
  refine x_iconst (v := 2) dX0_isDry_4 (by decide) ?_
  refine x_iadd dX0_isDry_5 ?_
  refine x_topi (fun xq1 e_xq1 => ?_)
  refine x_istore_n (lv' := [(2, .int xq1), (0, .ref f), (1, .int w)]) dX0_isDry_6 rfl (by decide) rfl ?_
  refine x_iload_n dX0_isDry_7 0 rfl rfl ?_
  refine x_if_le (tgt := 21) dX0_isDry_8 (by decide) (fun c_8 => ?_) (fun c_8 => ?_)
  · refine x_iconst (v := 0) dX0_isDry_21 (by decide) ?_
    refine x_zret dX0_isDry_22 rfl rfl (Nat.le_refl _) (Nat.le_refl _) ?_
    subst e_xq1
    exact ⟨(bI_f (fun q => absurd q.1 (Int32.not_lt.mpr c_8))).symm, rfl⟩
  · refine x_iload_n dX0_isDry_11 2 rfl rfl ?_
    refine x_iload_n dX0_isDry_12 0 rfl rfl ?_
    refine x_irem dX0_isDry_13 (fun q => c_8 (by rw [q]; decide)) ?_
    refine x_if_ne (tgt := 21) dX0_isDry_14 (by decide) (fun c_14 => ?_) (fun c_14 => ?_)
    · refine x_iconst (v := 0) dX0_isDry_21 (by decide) ?_
      refine x_zret dX0_isDry_22 rfl rfl (Nat.le_refl _) (Nat.le_refl _) ?_
      subst e_xq1
      exact ⟨(bI_f (fun q => absurd q.2 c_14)).symm, rfl⟩
    · refine x_iconst (v := 1) dX0_isDry_17 (by decide) ?_
      refine x_goto (tgt := 22) dX0_isDry_18 (by decide) ?_
      refine x_zret dX0_isDry_22 rfl rfl (Nat.le_refl _) (Nat.le_refl _) ?_
      subst e_xq1
      exact ⟨(bI_t ⟨Int32.not_le.mp c_8, c_14⟩).symm, rfl⟩

set_option maxHeartbeats 4000000 in
set_option maxRecDepth 100000 in
theorem k_isUnder {G : GG} {Sh : HS} {I : HI} {R : HR} {f : Nat} {k : Int32} (hf : Sh.2 f = (0, 6)) : AM G 1 0 0 yX0_isUnder cX0_isUnder 2 (some .boolean) [.ref f, .int k] (Sh, I, R) (qi fun r g => r = bI (underF k (I f 0)) ∧ g = (Sh, I, R)) := by
  refine am_intro (by decide) (Nat.le_of_ble_eq_true rfl) ?_
  refine x_iload_n dX0_isUnder_0 1 rfl rfl ?_
  refine x_if_eq (tgt := 38) dX0_isUnder_1 (by decide) (fun c_1 => ?_) (fun c_1 => ?_)
  · refine x_iconst (v := 1) dX0_isUnder_38 (by decide) ?_
    refine x_goto (tgt := 43) dX0_isUnder_39 (by decide) ?_
    refine x_zret dX0_isUnder_43 rfl rfl (Nat.le_refl _) (Nat.le_refl _) ?_
    refine ⟨(bI_t ?_).symm, rfl⟩
    unfold underF
    simp_all
  · refine x_iload_n dX0_isUnder_4 1 rfl rfl ?_
    refine x_aload_n dX0_isUnder_5 0 rfl rfl ?_
    refine x_gI (v := I f 0) dX0_isUnder_6 fl_0_9 rfl hf rfl ?_
    refine x_icmp_eq (tgt := 38) dX0_isUnder_9 (by decide) (fun c_9 => ?_) (fun c_9 => ?_)
    · refine x_iconst (v := 1) dX0_isUnder_38 (by decide) ?_
      refine x_goto (tgt := 43) dX0_isUnder_39 (by decide) ?_
      refine x_zret dX0_isUnder_43 rfl rfl (Nat.le_refl _) (Nat.le_refl _) ?_
      refine ⟨(bI_t ?_).symm, rfl⟩
      unfold underF
      simp_all
    · refine x_iload_n dX0_isUnder_12 1 rfl rfl ?_
      refine x_iconst (v := 1) dX0_isUnder_13 (by decide) ?_
      refine x_icmp_ne (tgt := 25) dX0_isUnder_14 (by decide) (fun c_14 => ?_) (fun c_14 => ?_)
      · refine x_iload_n dX0_isUnder_25 1 rfl rfl ?_
        refine x_iconst (v := 2) dX0_isUnder_26 (by decide) ?_
        refine x_icmp_ne (tgt := 42) dX0_isUnder_27 (by decide) (fun c_27 => ?_) (fun c_27 => ?_)
        · refine x_iconst (v := 0) dX0_isUnder_42 (by decide) ?_
          refine x_zret dX0_isUnder_43 rfl rfl (Nat.le_refl _) (Nat.le_refl _) ?_
          refine ⟨(bI_f ?_).symm, rfl⟩
          unfold underF
          simp_all
        · refine x_aload_n dX0_isUnder_30 0 rfl rfl ?_
          refine x_gI (v := I f 0) dX0_isUnder_31 fl_0_9 rfl hf rfl ?_
          refine x_iconst (v := 4) dX0_isUnder_34 (by decide) ?_
          refine x_icmp_ne (tgt := 42) dX0_isUnder_35 (by decide) (fun c_35 => ?_) (fun c_35 => ?_)
          · refine x_iconst (v := 0) dX0_isUnder_42 (by decide) ?_
            refine x_zret dX0_isUnder_43 rfl rfl (Nat.le_refl _) (Nat.le_refl _) ?_
            refine ⟨(bI_f ?_).symm, rfl⟩
            unfold underF
            simp_all
          · refine x_iconst (v := 1) dX0_isUnder_38 (by decide) ?_
            refine x_goto (tgt := 43) dX0_isUnder_39 (by decide) ?_
            refine x_zret dX0_isUnder_43 rfl rfl (Nat.le_refl _) (Nat.le_refl _) ?_
            refine ⟨(bI_t ?_).symm, rfl⟩
            unfold underF
            simp_all
      · refine x_aload_n dX0_isUnder_17 0 rfl rfl ?_
        refine x_gI (v := I f 0) dX0_isUnder_18 fl_0_9 rfl hf rfl ?_
        refine x_iconst (v := 3) dX0_isUnder_21 (by decide) ?_
        refine x_icmp_eq (tgt := 38) dX0_isUnder_22 (by decide) (fun c_22 => ?_) (fun c_22 => ?_)
        · refine x_iconst (v := 1) dX0_isUnder_38 (by decide) ?_
          refine x_goto (tgt := 43) dX0_isUnder_39 (by decide) ?_
          refine x_zret dX0_isUnder_43 rfl rfl (Nat.le_refl _) (Nat.le_refl _) ?_
          refine ⟨(bI_t ?_).symm, rfl⟩
          unfold underF
          simp_all
        · refine x_iload_n dX0_isUnder_25 1 rfl rfl ?_
          refine x_iconst (v := 2) dX0_isUnder_26 (by decide) ?_
          refine x_icmp_ne (tgt := 42) dX0_isUnder_27 (by decide) (fun c_27 => ?_) (fun c_27 => ?_)
          · refine x_iconst (v := 0) dX0_isUnder_42 (by decide) ?_
            refine x_zret dX0_isUnder_43 rfl rfl (Nat.le_refl _) (Nat.le_refl _) ?_
            refine ⟨(bI_f ?_).symm, rfl⟩
            unfold underF
            simp_all
          · refine x_aload_n dX0_isUnder_30 0 rfl rfl ?_
            refine x_gI (v := I f 0) dX0_isUnder_31 fl_0_9 rfl hf rfl ?_
            refine x_iconst (v := 4) dX0_isUnder_34 (by decide) ?_
            refine x_icmp_ne (tgt := 42) dX0_isUnder_35 (by decide) (fun c_35 => ?_) (fun c_35 => ?_)
            · refine x_iconst (v := 0) dX0_isUnder_42 (by decide) ?_
              refine x_zret dX0_isUnder_43 rfl rfl (Nat.le_refl _) (Nat.le_refl _) ?_
              refine ⟨(bI_f ?_).symm, rfl⟩
              unfold underF
              simp_all
            · refine x_iconst (v := 1) dX0_isUnder_38 (by decide) ?_
              refine x_goto (tgt := 43) dX0_isUnder_39 (by decide) ?_
              refine x_zret dX0_isUnder_43 rfl rfl (Nat.le_refl _) (Nat.le_refl _) ?_
              refine ⟨(bI_t ?_).symm, rfl⟩
              unfold underF
              simp_all

set_option maxHeartbeats 4000000 in
set_option maxRecDepth 100000 in
theorem k_lossBy {G : GG} {Sh : HS} {I : HI} {R : HR} {f : Nat} {v w : Int32} (hf : Sh.2 f = (0, 6)) : AM G 2 0 0 yX0_lossBy cX0_lossBy 3 (some .int) [.ref f, .int v, .int w] (Sh, I, R) (qi fun r g => r = lossF (I f 0) (I f 1) v w ∧ g = (Sh, I, R)) := by
  refine am_intro (by decide) (Nat.le_of_ble_eq_true rfl) ?_
  refine x_aload_n dX0_lossBy_0 0 rfl rfl ?_
  refine x_gI (v := I f 0) dX0_lossBy_1 fl_0_9 rfl hf rfl ?_
  refine x_tsw [(1, 40), (2, 44), (3, 58), (4, 67), (5, 83)] 94 dX0_lossBy_4 (by decide) (by decide +kernel) (fun c_4 => ?_) ?_
  · refine x_iload_n dX0_lossBy_94 1 rfl rfl ?_
    refine x_iret dX0_lossBy_95 rfl (Nat.le_refl _) (Nat.le_refl _) ?_
    refine ⟨?_, rfl⟩
    unfold lossF
    simp_all
  · refine List.forall_mem_cons.mpr ⟨fun c_4 => ?_, List.forall_mem_cons.mpr ⟨fun c_4 => ?_, List.forall_mem_cons.mpr ⟨fun c_4 => ?_, List.forall_mem_cons.mpr ⟨fun c_4 => ?_, List.forall_mem_cons.mpr ⟨fun c_4 => ?_, fun _ h9 => absurd h9 List.not_mem_nil⟩⟩⟩⟩⟩
    · have c_4 : I f 0 = 1 := c_4.trans (by decide)
      refine x_iload_n dX0_lossBy_40 1 rfl rfl ?_
      refine x_iconst (v := 2) dX0_lossBy_41 (by decide) ?_
      refine x_idiv dX0_lossBy_42 (by decide) ?_
      refine x_iret dX0_lossBy_43 rfl (Nat.le_refl _) (Nat.le_refl _) ?_
      refine ⟨?_, rfl⟩
      unfold lossF
      simp_all
    · have c_4 : I f 0 = 2 := c_4.trans (by decide)
      refine x_aload_n dX0_lossBy_44 0 rfl rfl ?_
      refine x_iload_n dX0_lossBy_45 2 rfl rfl ?_
      refine x_callV (k_isDry (G := G) (Sh := Sh) (I := I) (R := R) (f := f) (w := w) hf) dX0_lossBy_46 crc_X0_isDry vc_0_27 hf rfl rfl rfl rfl (Nat.le_of_ble_eq_true rfl) (roomy_k (by omega) (by decide)) (Nat.le_refl _) (Nat.le_refl _) ?_
      rintro _ _ ⟨r, rfl, hr, rfl⟩
      subst hr
      refine x_if_eqB (tgt := 56) dX0_lossBy_49 (by decide) (fun c_49 => ?_) (fun c_49 => ?_)
      · refine x_iload_n dX0_lossBy_56 1 rfl rfl ?_
        refine x_iret dX0_lossBy_57 rfl (Nat.le_refl _) (Nat.le_refl _) ?_
        refine ⟨?_, rfl⟩
        unfold lossF
        simp_all
      · refine x_iconst (v := 0) dX0_lossBy_52 (by decide) ?_
        refine x_goto (tgt := 57) dX0_lossBy_53 (by decide) ?_
        refine x_iret dX0_lossBy_57 rfl (Nat.le_refl _) (Nat.le_refl _) ?_
        refine ⟨?_, rfl⟩
        unfold lossF
        simp_all
    · have c_4 : I f 0 = 3 := c_4.trans (by decide)
      refine x_iload_n dX0_lossBy_58 1 rfl rfl ?_
      refine x_iconst (v := 2) dX0_lossBy_59 (by decide) ?_
      refine x_idiv dX0_lossBy_60 (by decide) ?_
      refine x_aload_n dX0_lossBy_61 0 rfl rfl ?_
      refine x_gI (v := I f 1) dX0_lossBy_62 fl_0_15 rfl hf rfl ?_
      refine x_iadd dX0_lossBy_65 ?_
      refine x_iret dX0_lossBy_66 rfl (Nat.le_refl _) (Nat.le_refl _) ?_
      refine ⟨?_, rfl⟩
      unfold lossF
      simp_all
    · have c_4 : I f 0 = 4 := c_4.trans (by decide)
      refine x_aload_n dX0_lossBy_67 0 rfl rfl ?_
      refine x_iload_n dX0_lossBy_68 2 rfl rfl ?_
      refine x_callV (k_isDry (G := G) (Sh := Sh) (I := I) (R := R) (f := f) (w := w) hf) dX0_lossBy_69 crc_X0_isDry vc_0_27 hf rfl rfl rfl rfl (Nat.le_of_ble_eq_true rfl) (roomy_k (by omega) (by decide)) (Nat.le_refl _) (Nat.le_refl _) ?_
      rintro _ _ ⟨r, rfl, hr, rfl⟩
      subst hr
      refine x_if_eqB (tgt := 79) dX0_lossBy_72 (by decide) (fun c_72 => ?_) (fun c_72 => ?_)
      · refine x_iconst (v := 2) dX0_lossBy_79 (by decide) ?_
        refine x_iload_n dX0_lossBy_80 1 rfl rfl ?_
        refine x_imul dX0_lossBy_81 ?_
        refine x_iret dX0_lossBy_82 rfl (Nat.le_refl _) (Nat.le_refl _) ?_
        refine ⟨?_, rfl⟩
        unfold lossF
        simp_all
      · refine x_iconst (v := 0) dX0_lossBy_75 (by decide) ?_
        refine x_goto (tgt := 82) dX0_lossBy_76 (by decide) ?_
        refine x_iret dX0_lossBy_82 rfl (Nat.le_refl _) (Nat.le_refl _) ?_
        refine ⟨?_, rfl⟩
        unfold lossF
        simp_all
    · have c_4 : I f 0 = 5 := c_4.trans (by decide)
      refine x_iconst (v := 0) dX0_lossBy_83 (by decide) ?_
      refine x_iload_n dX0_lossBy_84 1 rfl rfl ?_
      refine x_aload_n dX0_lossBy_85 0 rfl rfl ?_
      refine x_gI (v := I f 1) dX0_lossBy_86 fl_0_15 rfl hf rfl ?_
      refine x_isub dX0_lossBy_89 ?_
      refine x_mmax dX0_lossBy_90 sc_0_31 (Nat.le_of_ble_eq_true rfl) (roomy_k (by omega) (by decide)) (Nat.le_refl _) (Nat.le_refl _) ?_
      refine x_iret dX0_lossBy_93 rfl (Nat.le_refl _) (Nat.le_refl _) ?_
      refine ⟨?_, rfl⟩
      unfold lossF
      simp_all

set_option maxHeartbeats 4000000 in
set_option maxRecDepth 100000 in
theorem k_riseBy {G : GG} {Sh : HS} {I : HI} {R : HR} {f : Nat} {v : Int32} (hf : Sh.2 f = (0, 6)) : AM G 1 0 0 yX0_riseBy cX0_riseBy 2 (some .int) [.ref f, .int v] (Sh, I, R) (qi fun r g => r = riseF (I f 0) v ∧ g = (Sh, I, R)) := by
  refine am_intro (by decide) (Nat.le_of_ble_eq_true rfl) ?_
  refine x_aload_n dX0_riseBy_0 0 rfl rfl ?_
  refine x_gI (v := I f 0) dX0_riseBy_1 fl_0_9 rfl hf rfl ?_
  refine x_tsw [(1, 36), (2, 40), (3, 36), (4, 44)] 50 dX0_riseBy_4 (by decide) (by decide +kernel) (fun c_4 => ?_) ?_
  · refine x_iload_n dX0_riseBy_50 1 rfl rfl ?_
    refine x_iret dX0_riseBy_51 rfl (Nat.le_refl _) (Nat.le_refl _) ?_
    refine ⟨?_, rfl⟩
    unfold riseF
    simp_all
  · refine List.forall_mem_cons.mpr ⟨fun c_4 => ?_, List.forall_mem_cons.mpr ⟨fun c_4 => ?_, List.forall_mem_cons.mpr ⟨fun c_4 => ?_, List.forall_mem_cons.mpr ⟨fun c_4 => ?_, fun _ h9 => absurd h9 List.not_mem_nil⟩⟩⟩⟩
    · have c_4 : I f 0 = 1 := c_4.trans (by decide)
      refine x_iload_n dX0_riseBy_36 1 rfl rfl ?_
      refine x_iconst (v := 1) dX0_riseBy_37 (by decide) ?_
      refine x_iadd dX0_riseBy_38 ?_
      refine x_iret dX0_riseBy_39 rfl (Nat.le_refl _) (Nat.le_refl _) ?_
      refine ⟨?_, rfl⟩
      unfold riseF
      simp_all
    · have c_4 : I f 0 = 2 := c_4.trans (by decide)
      refine x_iload_n dX0_riseBy_40 1 rfl rfl ?_
      refine x_iconst (v := 2) dX0_riseBy_41 (by decide) ?_
      refine x_idiv dX0_riseBy_42 (by decide) ?_
      refine x_iret dX0_riseBy_43 rfl (Nat.le_refl _) (Nat.le_refl _) ?_
      refine ⟨?_, rfl⟩
      unfold riseF
      simp_all
    · have c_4 : I f 0 = 3 := c_4.trans (by decide)
      refine x_iload_n dX0_riseBy_36 1 rfl rfl ?_
      refine x_iconst (v := 1) dX0_riseBy_37 (by decide) ?_
      refine x_iadd dX0_riseBy_38 ?_
      refine x_iret dX0_riseBy_39 rfl (Nat.le_refl _) (Nat.le_refl _) ?_
      refine ⟨?_, rfl⟩
      unfold riseF
      simp_all
    · have c_4 : I f 0 = 4 := c_4.trans (by decide)
      refine x_iload_n dX0_riseBy_44 1 rfl rfl ?_
      refine x_iconst (v := 2) dX0_riseBy_45 (by decide) ?_
      refine x_idiv dX0_riseBy_46 (by decide) ?_
      refine x_iconst (v := 1) dX0_riseBy_47 (by decide) ?_
      refine x_iadd dX0_riseBy_48 ?_
      refine x_iret dX0_riseBy_49 rfl (Nat.le_refl _) (Nat.le_refl _) ?_
      refine ⟨?_, rfl⟩
      unfold riseF
      simp_all

set_option maxHeartbeats 4000000 in
set_option maxRecDepth 100000 in
theorem k_begin {G : GG} {Sh : HS} {I : HI} {R : HR} {f : Nat} {k n p : Int32} (hf : Sh.2 f = (0, 6)) : AM G 1 0 0 yX0_begin cX0_begin 4 none [.ref f, .int k, .int n, .int p] (Sh, I, R) (qv fun g => g = (Sh, u2 (u2 (u2 (u2 (u2 I f 0 k) f 1 n) f 2 p) f 3 0) f 4 20, R)) := by
  refine am_intro (by decide) (Nat.le_of_ble_eq_true rfl) ?_
  refine x_aload_n dX0_begin_0 0 rfl rfl ?_
  refine x_iload_n dX0_begin_1 1 rfl rfl ?_
  refine x_pI dX0_begin_2 fl_0_9 rfl rfl rfl hf (fun Iq1 e_Iq1 => ?_)
  refine x_aload_n dX0_begin_5 0 rfl rfl ?_
  refine x_iload_n dX0_begin_6 2 rfl rfl ?_
  refine x_pI dX0_begin_7 fl_0_15 rfl rfl rfl hf (fun Iq2 e_Iq2 => ?_)
  refine x_aload_n dX0_begin_10 0 rfl rfl ?_
  refine x_iload_n dX0_begin_11 3 rfl rfl ?_
  refine x_pI dX0_begin_12 fl_0_18 rfl rfl rfl hf (fun Iq3 e_Iq3 => ?_)
  refine x_aload_n dX0_begin_15 0 rfl rfl ?_
  refine x_iconst (v := 0) dX0_begin_16 (by decide) ?_
  refine x_pI dX0_begin_17 fl_0_21 rfl rfl rfl hf (fun Iq4 e_Iq4 => ?_)
  refine x_aload_n dX0_begin_20 0 rfl rfl ?_
  refine x_bipush (v := 20) dX0_begin_21 (by decide) ?_
  refine x_pI dX0_begin_23 fl_0_24 rfl rfl rfl hf (fun Iq5 e_Iq5 => ?_)
  refine x_vret dX0_begin_26 rfl (Nat.le_refl _) (Nat.le_refl _) ?_
  subst_vars
  rfl

set_option maxHeartbeats 4000000 in
set_option maxRecDepth 100000 in
theorem k_take {G : GG} {Sh : HS} {I : HI} {R : HR} {f : Nat} {g : Nat} (hg : Sh.2 g = (0, 6)) (hne : g ≠ f) (hf : Sh.2 f = (0, 6)) : AM G 1 0 0 yX0_take cX0_take 2 none [.ref f, .ref g] (Sh, I, R) (qv fun h => ∃ I2, h = (Sh, I2, R) ∧ (∀ k, k < 5 → I2 f k = I g k) ∧ ∀ a k, ¬ (a = f ∧ k < 5) → I2 a k = I a k) := by
  refine am_intro (by decide) (Nat.le_of_ble_eq_true rfl) ?_
  refine x_aload_n dX0_take_0 0 rfl rfl ?_
  refine x_aload_n dX0_take_1 1 rfl rfl ?_
  refine x_gI (v := I g 0) dX0_take_2 fl_0_9 rfl hg rfl ?_
  refine x_pI dX0_take_5 fl_0_9 rfl rfl rfl hf (fun Iq1 e_Iq1 => ?_)
  refine x_aload_n dX0_take_8 0 rfl rfl ?_
  refine x_aload_n dX0_take_9 1 rfl rfl ?_
  refine x_gI (v := Iq1 g 1) dX0_take_10 fl_0_15 rfl hg rfl ?_
  refine x_pI dX0_take_13 fl_0_15 rfl rfl rfl hf (fun Iq2 e_Iq2 => ?_)
  refine x_aload_n dX0_take_16 0 rfl rfl ?_
  refine x_aload_n dX0_take_17 1 rfl rfl ?_
  refine x_gI (v := Iq2 g 2) dX0_take_18 fl_0_18 rfl hg rfl ?_
  refine x_pI dX0_take_21 fl_0_18 rfl rfl rfl hf (fun Iq3 e_Iq3 => ?_)
  refine x_aload_n dX0_take_24 0 rfl rfl ?_
  refine x_aload_n dX0_take_25 1 rfl rfl ?_
  refine x_gI (v := Iq3 g 3) dX0_take_26 fl_0_21 rfl hg rfl ?_
  refine x_pI dX0_take_29 fl_0_21 rfl rfl rfl hf (fun Iq4 e_Iq4 => ?_)
  refine x_aload_n dX0_take_32 0 rfl rfl ?_
  refine x_aload_n dX0_take_33 1 rfl rfl ?_
  refine x_gI (v := Iq4 g 4) dX0_take_34 fl_0_24 rfl hg rfl ?_
  refine x_pI dX0_take_37 fl_0_24 rfl rfl rfl hf (fun Iq5 e_Iq5 => ?_)
  refine x_vret dX0_take_40 rfl (Nat.le_refl _) (Nat.le_refl _) ?_
  refine ⟨_, rfl, ?_, ?_⟩
  · intro k hk
    subst_vars
    have h5 : k = 0 ∨ k = 1 ∨ k = 2 ∨ k = 3 ∨ k = 4 := by omega
    rcases h5 with rfl | rfl | rfl | rfl | rfl <;> simp [u2, hne]
  · intro a k h
    subst_vars
    simp only [u2]
    repeat rw [if_neg (by omega)]
end
section
theorem idx_of {i : Int32} {n : Nat} (h1 : ¬ i < 0) (h2 : ¬ nI n ≤ i) (hn : n < 2147483648) : ∃ j : Nat, j < n ∧ i = nI j := by
  rcases pk_ix i hn with q | q | q
  · exact absurd q h1
  · exact absurd q h2
  · exact q
theorem idx_no {i : Int32} {n j : Nat} (h : i < 0 ∨ nI n ≤ i) (hj : j < n) (hn : n < 2147483648) : i ≠ nI j := by
  intro e
  subst e
  rcases h with q | q
  · exact nI_pos (by omega) q
  · have := (nI_leI (by omega) (by omega)).mp q
    omega

set_option maxHeartbeats 4000000 in
set_option maxRecDepth 100000 in
theorem k_at {G : GG} {Sh : HS} {I : HI} {R : HR} {i : Int32} {S n : Nat} (hS : ShS Sh S) (hR : RS R S) (hn : I S 1 = nI n) (hn8 : n ≤ 8) : AM G 1 0 0 yX4_at cX4_at 2 (some (.object "Sandcastles$Fort")) [.ref S, .int i] (Sh, I, R) (qa fun r g => g = (Sh, I, R) ∧ ((∃ j, j < n ∧ i = nI j ∧ r = some (S + 2 + j)) ∨ ((∀ j, j < n → i ≠ nI j) ∧ r = none))) := by
  refine am_intro (by decide) (Nat.le_of_ble_eq_true rfl) ?_
  refine x_iload_n dX4_at_0 1 rfl rfl ?_
  refine x_if_lt (tgt := 27) dX4_at_1 (by decide) (fun c_1 => ?_) (fun c_1 => ?_)
  · refine x_null dX4_at_27 ?_
    refine x_aretN dX4_at_28 rfl (Or.inl ⟨_, rfl⟩) (Nat.le_refl _) (Nat.le_refl _) ?_
    exact ⟨rfl, Or.inr ⟨fun j hj => idx_no (Or.inl c_1) hj (by omega), rfl⟩⟩
  · refine x_iload_n dX4_at_4 1 rfl rfl ?_
    refine x_aload_n dX4_at_5 0 rfl rfl ?_
    refine x_gI (v := nI n) dX4_at_6 fl_4_22 rfl hS.1 hn ?_
    refine x_icmp_ge (tgt := 27) dX4_at_9 (by decide) (fun c_9 => ?_) (fun c_9 => ?_)
    · refine x_null dX4_at_27 ?_
      refine x_aretN dX4_at_28 rfl (Or.inl ⟨_, rfl⟩) (Nat.le_refl _) (Nat.le_refl _) ?_
      exact ⟨rfl, Or.inr ⟨fun j hj => idx_no (Or.inr c_9) hj (by omega), rfl⟩⟩
    · refine x_iload_n dX4_at_12 1 rfl rfl ?_
      refine x_bipush (v := nI 8) dX4_at_13 (by decide) ?_
      refine x_icmp_ge (tgt := 27) dX4_at_15 (by decide) (fun c_15 => ?_) (fun c_15 => ?_)
      · refine x_null dX4_at_27 ?_
        refine x_aretN dX4_at_28 rfl (Or.inl ⟨_, rfl⟩) (Nat.le_refl _) (Nat.le_refl _) ?_
        exact ⟨rfl, Or.inr ⟨fun j hj => idx_no (Or.inr (Int32.le_trans (nI_le hn8 (by omega)) c_15)) hj (by omega), rfl⟩⟩
      · obtain ⟨j, hj, hij⟩ := idx_of c_1 c_9 (by omega)
        refine x_aload_n dX4_at_18 0 rfl rfl ?_
        refine x_gR (b := S + 1) dX4_at_19 fl_4_11 rfl hS.1 hR.1 ?_
        refine x_iload_n dX4_at_22 1 rfl rfl ?_
        refine x_aa (j := j) (b := S + 2 + j) dX4_at_23 hS.2.1 (by decide) (by decide) hij (by omega) (by omega) (hR.2 j (by omega)) ?_
        refine x_goto (tgt := 28) dX4_at_24 (by decide) ?_
        refine x_aret dX4_at_28 rfl (Or.inl ⟨_, rfl⟩) (Nat.le_refl _) (Nat.le_refl _) ?_
        exact ⟨rfl, Or.inl ⟨j, hj, hij, rfl⟩⟩

set_option maxHeartbeats 4000000 in
set_option maxRecDepth 100000 in
theorem k_shelterOf_l {G : GG} {Sh : HS} {I : HI} {R : HR} {S n : Nat} (hS : ShS Sh S) (hR : RS R S) (hn : I S 1 = nI n) (hn8 : n ≤ 8) {f : Nat} (hf : Sh.2 f = (0, 6)) : ∀ (m : Nat) (i : Nat) (acc : Int32), (i ≤ n) → (n < i + m) → (acc = shelF (fun o k => I (S + 2 + o) k) (I f 2) i) → X G (kM G 1 0 0 (qi fun r g => r = shelF (fun o k => I (S + 2 + o) k) (I f 2) n ∧ g = (Sh, I, R))) yX4_shelterOf cX4_shelterOf 5 (some .int) 0 0 4 [(3, .int (nI i)), (2, .int acc), (0, .ref S), (1, .ref f)] [] (Sh, I, R) := by
  intro m
  induction m with
  | zero =>
    intro i acc hi hm hacc
    exact absurd hm (by omega)
  | succ m ih =>
    intro i acc hi hm hacc
    refine x_iload_n dX4_shelterOf_4 0 rfl rfl ?_
    refine x_aload_n dX4_shelterOf_5 2 rfl rfl ?_
    refine x_gI (v := nI n) dX4_shelterOf_6 fl_4_22 rfl hS.1 hn ?_
    refine x_icmp_ge (tgt := 64) dX4_shelterOf_9 (by decide) (fun c_9 => ?_) (fun c_9 => ?_)
    · have c_9 : n ≤ i := (nI_leI (a := n) (b := i) (by omega) (by omega)).mp c_9
      refine x_iload_n dX4_shelterOf_64 1 rfl rfl ?_
      refine x_iret dX4_shelterOf_65 rfl (Nat.le_refl _) (Nat.le_refl _) ?_
      have : i = n := by omega
      subst this
      exact ⟨hacc, rfl⟩
    · have c_9 : ¬ n ≤ i := fun q => c_9 ((nI_leI (a := n) (b := i) (by omega) (by omega)).mpr q)
      refine x_iload_n dX4_shelterOf_12 0 rfl rfl ?_
      refine x_bipush (v := nI 8) dX4_shelterOf_13 (by decide) ?_
      refine x_icmp_ge (tgt := 64) dX4_shelterOf_15 (by decide) (fun c_15 => ?_) (fun c_15 => ?_)
      · have c_15 : 8 ≤ i := (nI_leI (a := 8) (b := i) (by omega) (by omega)).mp c_15
        refine x_iload_n dX4_shelterOf_64 1 rfl rfl ?_
        refine x_iret dX4_shelterOf_65 rfl (Nat.le_refl _) (Nat.le_refl _) ?_
        have : i = n := by omega
        subst this
        exact ⟨hacc, rfl⟩
      · have c_15 : ¬ 8 ≤ i := fun q => c_15 ((nI_leI (a := 8) (b := i) (by omega) (by omega)).mpr q)
        refine x_aload_n dX4_shelterOf_18 2 rfl rfl ?_
        refine x_gR (b := S + 1) dX4_shelterOf_19 fl_4_11 rfl hS.1 hR.1 ?_
        refine x_iload_n dX4_shelterOf_22 0 rfl rfl ?_
        refine x_aa (j := i) (b := S + 2 + i) dX4_shelterOf_23 hS.2.1 (by decide) (by decide) rfl (by omega) (by omega) (hR.2 i (by omega)) ?_
        refine x_astore (lv' := [(4, .ref (S + 2 + i)), (3, .int (nI i)), (2, .int acc), (0, .ref S), (1, .ref f)]) dX4_shelterOf_24 (by decide) rfl ?_
        refine x_aload dX4_shelterOf_26 0 rfl ?_
        refine x_gI (v := I (S + 2 + i) 2) dX4_shelterOf_28 fl_4_57 rfl (hS.2.2 i (by omega)) rfl ?_
        refine x_aload_n dX4_shelterOf_31 4 rfl rfl ?_
        refine x_gI (v := I f 2) dX4_shelterOf_32 fl_4_57 rfl hf rfl ?_
        refine x_icmp_ge (tgt := 58) dX4_shelterOf_35 (by decide) (fun c_35 => ?_) (fun c_35 => ?_)
        · refine x_iinc (v := nI (i + 1)) (lv' := [(3, .int (nI (i + 1))), (4, .ref (S + 2 + i)), (2, .int acc), (0, .ref S), (1, .ref f)]) dX4_shelterOf_58 1 rfl (nI_1 i) (by decide) rfl ?_
          refine x_goto (tgt := 4) dX4_shelterOf_61 (by decide) ?_
          refine x_sub [0, 2, 3, 4] rfl ?_
          exact ih _ _ (by omega) (by omega) (by
            unfold shelF at *
            rw [fd_s, ← hacc]
            rw [if_neg (fun q => absurd q.1 (Int32.not_lt.mpr c_35))])
        · refine x_aload dX4_shelterOf_38 0 rfl ?_
          refine x_gI (v := I (S + 2 + i) 4) dX4_shelterOf_40 fl_4_60 rfl (hS.2.2 i (by omega)) rfl ?_
          refine x_if_le (tgt := 58) dX4_shelterOf_43 (by decide) (fun c_43 => ?_) (fun c_43 => ?_)
          · refine x_iinc (v := nI (i + 1)) (lv' := [(3, .int (nI (i + 1))), (4, .ref (S + 2 + i)), (2, .int acc), (0, .ref S), (1, .ref f)]) dX4_shelterOf_58 1 rfl (nI_1 i) (by decide) rfl ?_
            refine x_goto (tgt := 4) dX4_shelterOf_61 (by decide) ?_
            refine x_sub [0, 2, 3, 4] rfl ?_
            exact ih _ _ (by omega) (by omega) (by
              unfold shelF at *
              rw [fd_s, ← hacc]
              rw [if_neg (fun q => absurd q.2.1 (Int32.not_lt.mpr c_43))])
          · refine x_aload dX4_shelterOf_46 0 rfl ?_
            refine x_gI (v := I (S + 2 + i) 0) dX4_shelterOf_48 fl_4_63 rfl (hS.2.2 i (by omega)) rfl ?_
            refine x_iconst (v := 2) dX4_shelterOf_51 (by decide) ?_
            refine x_icmp_eq (tgt := 58) dX4_shelterOf_52 (by decide) (fun c_52 => ?_) (fun c_52 => ?_)
            · refine x_iinc (v := nI (i + 1)) (lv' := [(3, .int (nI (i + 1))), (4, .ref (S + 2 + i)), (2, .int acc), (0, .ref S), (1, .ref f)]) dX4_shelterOf_58 1 rfl (nI_1 i) (by decide) rfl ?_
              refine x_goto (tgt := 4) dX4_shelterOf_61 (by decide) ?_
              refine x_sub [0, 2, 3, 4] rfl ?_
              exact ih _ _ (by omega) (by omega) (by
                unfold shelF at *
                rw [fd_s, ← hacc]
                rw [if_neg (fun q => q.2.2 c_52)])
            · obtain ⟨xq1, e_xq1⟩ : ∃ z : Int32, z = acc + 1 := ⟨_, rfl⟩
              refine x_iinc (v := xq1) (lv' := [(2, .int xq1), (4, .ref (S + 2 + i)), (3, .int (nI i)), (0, .ref S), (1, .ref f)]) dX4_shelterOf_55 2 rfl e_xq1.symm (by decide) rfl ?_
              refine x_iinc (v := nI (i + 1)) (lv' := [(3, .int (nI (i + 1))), (2, .int xq1), (4, .ref (S + 2 + i)), (0, .ref S), (1, .ref f)]) dX4_shelterOf_58 2 rfl (nI_1 i) (by decide) rfl ?_
              refine x_goto (tgt := 4) dX4_shelterOf_61 (by decide) ?_
              refine x_sub [0, 1, 3, 4] rfl ?_
              exact ih _ _ (by omega) (by omega) (by
                unfold shelF at *
                rw [fd_s, ← hacc]
                subst_vars
                rw [if_pos ⟨Int32.not_le.mp c_35, Int32.not_le.mp c_43, c_52⟩])

set_option maxHeartbeats 4000000 in
set_option maxRecDepth 100000 in
theorem k_shelterOf {G : GG} {Sh : HS} {I : HI} {R : HR} {S n : Nat} (hS : ShS Sh S) (hR : RS R S) (hn : I S 1 = nI n) (hn8 : n ≤ 8) {f : Nat} (hf : Sh.2 f = (0, 6)) : AM G 1 0 0 yX4_shelterOf cX4_shelterOf 5 (some .int) [.ref S, .ref f] (Sh, I, R) (qi fun r g => r = shelF (fun o k => I (S + 2 + o) k) (I f 2) n ∧ g = (Sh, I, R)) := by
  refine am_intro (by decide) (Nat.le_of_ble_eq_true rfl) ?_
  refine x_iconst (v := nI 0) dX4_shelterOf_0 (by decide) ?_
  refine x_istore_n (lv' := [(2, .int (nI 0)), (0, .ref S), (1, .ref f)]) dX4_shelterOf_1 rfl (by decide) rfl ?_
  refine x_iconst (v := nI 0) dX4_shelterOf_2 (by decide) ?_
  refine x_istore_n (lv' := [(3, .int (nI 0)), (2, .int (nI 0)), (0, .ref S), (1, .ref f)]) dX4_shelterOf_3 rfl (by decide) rfl ?_
  exact k_shelterOf_l hS hR hn hn8 hf (n + 1) 0 (nI 0) (by omega) (by omega) rfl
end
section
/-! TEXTS AS PROGRAMS: an E is a row of numbers, operands ahead of their sign -/
noncomputable def jnF (c a b : Int32) : Int32 := if c = -9 then bI (¬ a = 0 ∨ ¬ b = 0) else if c = -10 then bI (¬ a = 0 ∧ ¬ b = 0) else if c = -11 then bI (a < b) else if c = -12 then bI (a = b) else if c = -13 then a + b else if c = -14 then a - b else a * b
noncomputable def stepF (c : Int32 → Int32) (x : Int32) (st : List Int32) : List Int32 :=
  if 0 ≤ x then x :: st else if -6 ≤ x then c x :: st else if -8 ≤ x then (match st with
    | [] => []
    | a :: t => (if x = -8 then -a else bI (a = 0)) :: t) else (match st with
    | b :: a :: t => jnF x a b :: t
    | t => t)
noncomputable def evF (c : Int32 → Int32) : List Int32 → List Int32 → List Int32
  | [], st => st
  | x :: xs, st => evF c xs (stepF c x st)
/-- its operands never want, its waiting ones never pass 40, and one is left -/
def okF : List Int32 → Nat → Prop
  | [], d => d = 1
  | x :: xs, d => if -6 ≤ x then d < 40 ∧ okF xs (d + 1) else if -8 ≤ x then 1 ≤ d ∧ okF xs d else 2 ≤ d ∧ okF xs (d - 1)
noncomputable def topF (c : Int32 → Int32) (P : List Int32) : Int32 := (evF c P []).headD 0
def cxF (wa mo pl nu he sh : Int32) : Int32 → Int32 := fun x => if x = -1 then wa else if x = -2 then mo else if x = -3 then pl else if x = -4 then nu else if x = -5 then he else sh
noncomputable def cxI (I : HI) (S f n : Nat) : Int32 → Int32 := cxF (I S 3) (I S 2) (I f 2) (I f 1) (I f 4) (shelF (fun o k => I (S + 2 + o) k) (I f 2) n)
/-- what a text's telling writes: its depth, its stack -/
def scr (T a k : Nat) : Prop := (a = T ∧ k = 6) ∨ a = T + 2
def offT (T : Nat) (I I2 : HI) : Prop := ∀ a k, ¬ scr T a k → I2 a k = I a k
theorem offT.rf {T : Nat} {I : HI} : offT T I I := fun _ _ _ => rfl
theorem offT.tr {T : Nat} {I I2 I3 : HI} (h : offT T I I2) (h2 : offT T I2 I3) : offT T I I3 := fun a k q => (h2 a k q).trans (h a k q)
theorem offT.out {T a k : Nat} {I I2 : HI} (h : offT T I I2) (q : T + 3 ≤ a) : I2 a k = I a k := h a k (fun e => by rcases e with e | e <;> omega)
theorem offT.un {T a k : Nat} {I I2 : HI} (h : offT T I I2) (q : a < T) : I2 a k = I a k := h a k (fun e => by rcases e with e | e <;> omega)
theorem cx_off {T S f n : Nat} {I I2 : HI} (h : offT T I I2) (hS : T + 3 ≤ S) (hf : S ≤ f) : cxI I2 S f n = cxI I S f n := by
  have e : (fun o k => I2 (S + 2 + o) k) = (fun o k => I (S + 2 + o) k) := funext fun o => funext fun k => h.out (by omega)
  unfold cxI
  rw [h.out hS, h.out hS, h.out (a := f) (by omega), h.out (a := f) (by omega), h.out (a := f) (by omega), e]
def stkF (f : Nat → Int32) : List Int32 → Prop
  | [] => True
  | x :: t => f t.length = x ∧ stkF f t
theorem stkF.up {f g : Nat → Int32} {st : List Int32} (h : stkF f st) (e : ∀ j, j < st.length → g j = f j) : stkF g st := by
  induction st with
  | nil => trivial
  | cons x t ih => exact ⟨(e t.length (by simp)).trans h.1, ih h.2 (fun j hj => e j (by simp; omega))⟩
def RT (R : HR) (T : Nat) : Prop := R T 1 = some (T + 1) ∧ R T 5 = some (T + 2)
/-- a program at its place among the codes -/
def atF (I : HI) (T fr : Nat) (P : List Int32) : Prop := ∀ j (x : Int32), P[j]? = some x → I (T + 1) (fr + j) = x
theorem lt6 {x : Int32} (h : ¬ x < -6) : -6 ≤ x := Int32.not_lt.mp h
theorem neg_ge0 {x : Int32} (h : x < 0) : ¬ 0 ≤ x := Int32.not_le.mpr h
theorem step_num {c : Int32 → Int32} {x : Int32} {st : List Int32} (h : ¬ x < 0) : stepF c x st = x :: st := by
  unfold stepF
  rw [if_pos (Int32.not_lt.mp h)]
theorem step_name {c : Int32 → Int32} {x : Int32} {st : List Int32} (h : x < 0) (h2 : ¬ x < -6) : stepF c x st = c x :: st := by
  unfold stepF
  rw [if_neg (neg_ge0 h), if_pos (lt6 h2)]
theorem step_un {c : Int32 → Int32} {x a : Int32} {t : List Int32} (h : x < 0) (h2 : x < -6) (h3 : ¬ x < -8) : stepF c x (a :: t) = (if x = -8 then -a else bI (a = 0)) :: t := by
  unfold stepF
  rw [if_neg (neg_ge0 h), if_neg (Int32.not_le.mpr h2), if_pos (Int32.not_lt.mp h3)]
theorem step_bin {c : Int32 → Int32} {x a b : Int32} {t : List Int32} (h : x < 0) (h2 : x < -6) (h3 : x < -8) : stepF c x (b :: a :: t) = jnF x a b :: t := by
  unfold stepF
  rw [if_neg (neg_ge0 h), if_neg (Int32.not_le.mpr h2), if_neg (Int32.not_le.mpr h3)]
theorem ok_num {x : Int32} {xs : List Int32} {d : Nat} (h : okF (x :: xs) d) (h2 : ¬ x < -6) : d < 40 ∧ okF xs (d + 1) := by
  unfold okF at h
  rw [if_pos (lt6 h2)] at h
  exact h
theorem ok_un {x : Int32} {xs : List Int32} {d : Nat} (h : okF (x :: xs) d) (h2 : x < -6) (h3 : ¬ x < -8) : 1 ≤ d ∧ okF xs d := by
  unfold okF at h
  rw [if_neg (Int32.not_le.mpr h2), if_pos (Int32.not_lt.mp h3)] at h
  exact h
theorem ok_bin {x : Int32} {xs : List Int32} {d : Nat} (h : okF (x :: xs) d) (h2 : x < -6) (h3 : x < -8) : 2 ≤ d ∧ okF xs (d - 1) := by
  unfold okF at h
  rw [if_neg (Int32.not_le.mpr h2), if_neg (Int32.not_le.mpr h3)] at h
  exact h
theorem drop_at {P : List Int32} {i : Nat} {x : Int32} (h : P[i]? = some x) : P.drop i = x :: P.drop (i + 1) := by
  obtain ⟨hl, hx⟩ := List.getElem?_eq_some_iff.mp h
  rw [← hx]
  exact List.drop_eq_getElem_cons hl
end
section
set_option maxHeartbeats 4000000 in
set_option maxRecDepth 100000 in
theorem k_push {G : GG} {Sh : HS} {I : HI} {R : HR} {T : Nat} (hT : ShT Sh T) (hRT : RT R T) {v : Int32} {d : Nat} (hd : I T 6 = nI d) (hd2 : d < 40) : AM G 1 0 0 yX6_push cX6_push 2 none [.ref T, .int v] (Sh, I, R) (qv fun g => g = (Sh, u2 (u2 I (T + 2) d v) T 6 (nI (d + 1)), R)) := by
  refine am_intro (by decide) (Nat.le_of_ble_eq_true rfl) ?_
  refine x_aload_n dX6_push_0 0 rfl rfl ?_
  refine x_gI (v := nI d) dX6_push_1 fl_6_41 rfl hT.1 hd ?_
  refine x_if_lt (tgt := 36) dX6_push_4 (by decide) (fun c_4 => False.elim (nI_pos (by omega) c_4)) (fun c_4 => ?_)
  refine x_aload_n dX6_push_7 0 rfl rfl ?_
  refine x_gI (v := nI d) dX6_push_8 fl_6_41 rfl hT.1 hd ?_
  refine x_bipush (v := nI 40) dX6_push_11 (by decide) ?_
  refine x_icmp_ge (tgt := 36) dX6_push_13 (by decide) (fun c_13 => False.elim (by have := (nI_leI (a := 40) (b := d) (by omega) (by omega)).mp c_13; omega)) (fun c_13 => ?_)
  refine x_aload_n dX6_push_16 0 rfl rfl ?_
  refine x_gR (b := T + 2) dX6_push_17 fl_6_15 rfl hT.1 hRT.2 ?_
  refine x_aload_n dX6_push_20 0 rfl rfl ?_
  refine x_gI (v := nI d) dX6_push_21 fl_6_41 rfl hT.1 hd ?_
  refine x_iload_n dX6_push_24 1 rfl rfl ?_
  refine x_is (j := d) dX6_push_25 hT.2.2 rfl hd2 (by omega) (fun Iq1 e_Iq1 => ?_)
  refine x_aload_n dX6_push_26 0 rfl rfl ?_
  refine x_dup dX6_push_27 rfl ?_
  refine x_gI (v := nI d) dX6_push_28 fl_6_41 rfl hT.1 (by rw [e_Iq1, u2_ne (by omega)]; exact hd) ?_
  refine x_iconst (v := nI 1) dX6_push_31 (by decide) ?_
  refine x_iadd dX6_push_32 ?_
  refine x_vali (nI_add d 1) ?_
  refine x_pI dX6_push_33 fl_6_41 rfl rfl rfl hT.1 (fun Iq2 e_Iq2 => ?_)
  refine x_vret dX6_push_36 rfl (Nat.le_refl _) (Nat.le_refl _) ?_
  subst_vars
  rfl

set_option maxHeartbeats 4000000 in
set_option maxRecDepth 100000 in
theorem k_pop {G : GG} {Sh : HS} {I : HI} {R : HR} {T : Nat} (hT : ShT Sh T) (hRT : RT R T) {d : Nat} (hd : I T 6 = nI (d + 1)) (hd2 : d < 40) : AM G 1 0 0 yX6_pop cX6_pop 1 (some .int) [.ref T] (Sh, I, R) (qi fun r g => r = I (T + 2) d ∧ g = (Sh, u2 I T 6 (nI d), R)) := by
  refine am_intro (by decide) (Nat.le_of_ble_eq_true rfl) ?_
  refine x_aload_n dX6_pop_0 0 rfl rfl ?_
  refine x_gI (v := nI (d + 1)) dX6_pop_1 fl_6_41 rfl hT.1 hd ?_
  refine x_iconst (v := nI 1) dX6_pop_4 (by decide) ?_
  refine x_icmp_lt (tgt := 17) dX6_pop_5 (by decide) (fun c_5 => False.elim (by have := (nI_ltI (a := d + 1) (b := 1) (by omega) (by omega)).mp c_5; omega)) (fun c_5 => ?_)
  refine x_aload_n dX6_pop_8 0 rfl rfl ?_
  refine x_gI (v := nI (d + 1)) dX6_pop_9 fl_6_41 rfl hT.1 hd ?_
  refine x_bipush (v := nI 40) dX6_pop_12 (by decide) ?_
  refine x_icmp_le (tgt := 19) dX6_pop_14 (by decide) (fun c_14 => ?_) (fun c_14 => False.elim (c_14 ((nI_leI (a := d + 1) (b := 40) (by omega) (by omega)).mpr (by omega))))
  refine x_aload_n dX6_pop_19 0 rfl rfl ?_
  refine x_dup dX6_pop_20 rfl ?_
  refine x_gI (v := nI (d + 1)) dX6_pop_21 fl_6_41 rfl hT.1 hd ?_
  refine x_iconst (v := nI 1) dX6_pop_24 (by decide) ?_
  refine x_isub dX6_pop_25 ?_
  refine x_pI dX6_pop_26 fl_6_41 rfl rfl rfl hT.1 (fun Iq1 e_Iq1 => ?_)
  refine x_aload_n dX6_pop_29 0 rfl rfl ?_
  refine x_gR (b := T + 2) dX6_pop_30 fl_6_15 rfl hT.1 hRT.2 ?_
  refine x_aload_n dX6_pop_33 0 rfl rfl ?_
  refine x_gI (v := nI d) dX6_pop_34 fl_6_41 rfl hT.1 (by rw [e_Iq1, u2_same]; exact nI_pred d) ?_
  refine x_ia (j := d) (v := Iq1 (T + 2) d) dX6_pop_37 hT.2.2 rfl hd2 (by omega) rfl ?_
  refine x_iret dX6_pop_38 rfl (Nat.le_refl _) (Nat.le_refl _) ?_
  refine ⟨?_, ?_⟩
  · rw [e_Iq1]
    exact u2_ne (by omega)
  · rw [e_Iq1]
    rw [show nI (d + 1) - nI 1 = nI d from nI_pred d]

set_option maxHeartbeats 4000000 in
set_option maxRecDepth 100000 in
theorem k_truth {G : GG} {Sh : HS} {I : HI} {R : HR} {b : Int32} (hb : b = 0 ∨ b = 1) : AM G 1 0 0 yX6_truth cX6_truth 1 (some .int) [.int b] (Sh, I, R) (qi fun r g => r = b ∧ g = (Sh, I, R)) := by
  refine am_intro (by decide) (Nat.le_of_ble_eq_true rfl) ?_
  refine x_iload_n dX6_truth_0 0 rfl rfl ?_
  refine x_if_eq (tgt := 8) dX6_truth_1 (by decide) (fun c_1 => ?_) (fun c_1 => ?_)
  · refine x_iconst (v := 0) dX6_truth_8 (by decide) ?_
    refine x_iret dX6_truth_9 rfl (Nat.le_refl _) (Nat.le_refl _) ?_
    refine ⟨?_, rfl⟩
    rcases hb with rfl | rfl <;> simp_all
  · refine x_iconst (v := 1) dX6_truth_4 (by decide) ?_
    refine x_goto (tgt := 9) dX6_truth_5 (by decide) ?_
    refine x_iret dX6_truth_9 rfl (Nat.le_refl _) (Nat.le_refl _) ?_
    refine ⟨?_, rfl⟩
    rcases hb with rfl | rfl <;> simp_all

set_option maxHeartbeats 4000000 in
set_option maxRecDepth 100000 in
theorem k_joined {G : GG} {Sh : HS} {I : HI} {R : HR} {c a b : Int32} : AM G 2 0 0 yX6_joined cX6_joined 3 (some .int) [.int c, .int a, .int b] (Sh, I, R) (qi fun r g => r = jnF c a b ∧ g = (Sh, I, R)) := by
  refine am_intro (by decide) (Nat.le_of_ble_eq_true rfl) ?_
  refine x_iload_n dX6_joined_0 0 rfl rfl ?_
  refine x_tsw [(-14, 106), (-13, 102), (-12, 88), (-11, 74), (-10, 57), (-9, 40)] 110 dX6_joined_1 (by decide) (by decide +kernel) (fun c_1 => ?_) ?_
  · refine x_iload_n dX6_joined_110 1 rfl rfl ?_
    refine x_iload_n dX6_joined_111 2 rfl rfl ?_
    refine x_imul dX6_joined_112 ?_
    refine x_iret dX6_joined_113 rfl (Nat.le_refl _) (Nat.le_refl _) ?_
    refine ⟨?_, rfl⟩
    unfold jnF
    simp_all [bI]
  · refine List.forall_mem_cons.mpr ⟨fun c_1 => ?_, List.forall_mem_cons.mpr ⟨fun c_1 => ?_, List.forall_mem_cons.mpr ⟨fun c_1 => ?_, List.forall_mem_cons.mpr ⟨fun c_1 => ?_, List.forall_mem_cons.mpr ⟨fun c_1 => ?_, List.forall_mem_cons.mpr ⟨fun c_1 => ?_, fun _ h9 => absurd h9 List.not_mem_nil⟩⟩⟩⟩⟩⟩
    · have c_1 : c = (-14) := c_1.trans (by decide)
      refine x_iload_n dX6_joined_106 1 rfl rfl ?_
      refine x_iload_n dX6_joined_107 2 rfl rfl ?_
      refine x_isub dX6_joined_108 ?_
      refine x_iret dX6_joined_109 rfl (Nat.le_refl _) (Nat.le_refl _) ?_
      refine ⟨?_, rfl⟩
      unfold jnF
      simp_all [bI]
    · have c_1 : c = (-13) := c_1.trans (by decide)
      refine x_iload_n dX6_joined_102 1 rfl rfl ?_
      refine x_iload_n dX6_joined_103 2 rfl rfl ?_
      refine x_iadd dX6_joined_104 ?_
      refine x_iret dX6_joined_105 rfl (Nat.le_refl _) (Nat.le_refl _) ?_
      refine ⟨?_, rfl⟩
      unfold jnF
      simp_all [bI]
    · have c_1 : c = (-12) := c_1.trans (by decide)
      refine x_iload_n dX6_joined_88 1 rfl rfl ?_
      refine x_iload_n dX6_joined_89 2 rfl rfl ?_
      refine x_icmp_ne (tgt := 97) dX6_joined_90 (by decide) (fun c_90 => ?_) (fun c_90 => ?_)
      · refine x_iconst (v := 0) dX6_joined_97 (by decide) ?_
        refine x_callS (rest := []) (k_truth (G := G) (Sh := Sh) (I := I) (R := R) (b := 0) (by first | exact Or.inl rfl | exact Or.inr rfl)) dX6_joined_98 crc_X6_truth sc_6_56 rfl rfl (Nat.le_of_ble_eq_true rfl) (roomy_k (by omega) (by decide)) (Nat.le_refl _) (Nat.le_refl _) ?_
        rintro _ _ ⟨r, rfl, hr, rfl⟩
        subst hr
        refine x_iret dX6_joined_101 rfl (Nat.le_refl _) (Nat.le_refl _) ?_
        refine ⟨?_, rfl⟩
        unfold jnF
        simp_all [bI]
      · refine x_iconst (v := 1) dX6_joined_93 (by decide) ?_
        refine x_goto (tgt := 98) dX6_joined_94 (by decide) ?_
        refine x_callS (rest := []) (k_truth (G := G) (Sh := Sh) (I := I) (R := R) (b := 1) (by first | exact Or.inl rfl | exact Or.inr rfl)) dX6_joined_98 crc_X6_truth sc_6_56 rfl rfl (Nat.le_of_ble_eq_true rfl) (roomy_k (by omega) (by decide)) (Nat.le_refl _) (Nat.le_refl _) ?_
        rintro _ _ ⟨r, rfl, hr, rfl⟩
        subst hr
        refine x_iret dX6_joined_101 rfl (Nat.le_refl _) (Nat.le_refl _) ?_
        refine ⟨?_, rfl⟩
        unfold jnF
        simp_all [bI]
    · have c_1 : c = (-11) := c_1.trans (by decide)
      refine x_iload_n dX6_joined_74 1 rfl rfl ?_
      refine x_iload_n dX6_joined_75 2 rfl rfl ?_
      refine x_icmp_ge (tgt := 83) dX6_joined_76 (by decide) (fun c_76 => ?_) (fun c_76 => ?_)
      · refine x_iconst (v := 0) dX6_joined_83 (by decide) ?_
        refine x_callS (rest := []) (k_truth (G := G) (Sh := Sh) (I := I) (R := R) (b := 0) (by first | exact Or.inl rfl | exact Or.inr rfl)) dX6_joined_84 crc_X6_truth sc_6_56 rfl rfl (Nat.le_of_ble_eq_true rfl) (roomy_k (by omega) (by decide)) (Nat.le_refl _) (Nat.le_refl _) ?_
        rintro _ _ ⟨r, rfl, hr, rfl⟩
        subst hr
        refine x_iret dX6_joined_87 rfl (Nat.le_refl _) (Nat.le_refl _) ?_
        refine ⟨?_, rfl⟩
        unfold jnF
        simp_all [bI]
      · refine x_iconst (v := 1) dX6_joined_79 (by decide) ?_
        refine x_goto (tgt := 84) dX6_joined_80 (by decide) ?_
        refine x_callS (rest := []) (k_truth (G := G) (Sh := Sh) (I := I) (R := R) (b := 1) (by first | exact Or.inl rfl | exact Or.inr rfl)) dX6_joined_84 crc_X6_truth sc_6_56 rfl rfl (Nat.le_of_ble_eq_true rfl) (roomy_k (by omega) (by decide)) (Nat.le_refl _) (Nat.le_refl _) ?_
        rintro _ _ ⟨r, rfl, hr, rfl⟩
        subst hr
        refine x_iret dX6_joined_87 rfl (Nat.le_refl _) (Nat.le_refl _) ?_
        refine ⟨?_, rfl⟩
        unfold jnF
        simp_all [bI]
    · have c_1 : c = (-10) := c_1.trans (by decide)
      refine x_iload_n dX6_joined_57 1 rfl rfl ?_
      refine x_if_eq (tgt := 69) dX6_joined_58 (by decide) (fun c_58 => ?_) (fun c_58 => ?_)
      · refine x_iconst (v := 0) dX6_joined_69 (by decide) ?_
        refine x_callS (rest := []) (k_truth (G := G) (Sh := Sh) (I := I) (R := R) (b := 0) (by first | exact Or.inl rfl | exact Or.inr rfl)) dX6_joined_70 crc_X6_truth sc_6_56 rfl rfl (Nat.le_of_ble_eq_true rfl) (roomy_k (by omega) (by decide)) (Nat.le_refl _) (Nat.le_refl _) ?_
        rintro _ _ ⟨r, rfl, hr, rfl⟩
        subst hr
        refine x_iret dX6_joined_73 rfl (Nat.le_refl _) (Nat.le_refl _) ?_
        refine ⟨?_, rfl⟩
        unfold jnF
        simp_all [bI]
      · refine x_iload_n dX6_joined_61 2 rfl rfl ?_
        refine x_if_eq (tgt := 69) dX6_joined_62 (by decide) (fun c_62 => ?_) (fun c_62 => ?_)
        · refine x_iconst (v := 0) dX6_joined_69 (by decide) ?_
          refine x_callS (rest := []) (k_truth (G := G) (Sh := Sh) (I := I) (R := R) (b := 0) (by first | exact Or.inl rfl | exact Or.inr rfl)) dX6_joined_70 crc_X6_truth sc_6_56 rfl rfl (Nat.le_of_ble_eq_true rfl) (roomy_k (by omega) (by decide)) (Nat.le_refl _) (Nat.le_refl _) ?_
          rintro _ _ ⟨r, rfl, hr, rfl⟩
          subst hr
          refine x_iret dX6_joined_73 rfl (Nat.le_refl _) (Nat.le_refl _) ?_
          refine ⟨?_, rfl⟩
          unfold jnF
          simp_all [bI]
        · refine x_iconst (v := 1) dX6_joined_65 (by decide) ?_
          refine x_goto (tgt := 70) dX6_joined_66 (by decide) ?_
          refine x_callS (rest := []) (k_truth (G := G) (Sh := Sh) (I := I) (R := R) (b := 1) (by first | exact Or.inl rfl | exact Or.inr rfl)) dX6_joined_70 crc_X6_truth sc_6_56 rfl rfl (Nat.le_of_ble_eq_true rfl) (roomy_k (by omega) (by decide)) (Nat.le_refl _) (Nat.le_refl _) ?_
          rintro _ _ ⟨r, rfl, hr, rfl⟩
          subst hr
          refine x_iret dX6_joined_73 rfl (Nat.le_refl _) (Nat.le_refl _) ?_
          refine ⟨?_, rfl⟩
          unfold jnF
          simp_all [bI]
    · have c_1 : c = (-9) := c_1.trans (by decide)
      refine x_iload_n dX6_joined_40 1 rfl rfl ?_
      refine x_if_ne (tgt := 48) dX6_joined_41 (by decide) (fun c_41 => ?_) (fun c_41 => ?_)
      · refine x_iconst (v := 1) dX6_joined_48 (by decide) ?_
        refine x_goto (tgt := 53) dX6_joined_49 (by decide) ?_
        refine x_callS (rest := []) (k_truth (G := G) (Sh := Sh) (I := I) (R := R) (b := 1) (by first | exact Or.inl rfl | exact Or.inr rfl)) dX6_joined_53 crc_X6_truth sc_6_56 rfl rfl (Nat.le_of_ble_eq_true rfl) (roomy_k (by omega) (by decide)) (Nat.le_refl _) (Nat.le_refl _) ?_
        rintro _ _ ⟨r, rfl, hr, rfl⟩
        subst hr
        refine x_iret dX6_joined_56 rfl (Nat.le_refl _) (Nat.le_refl _) ?_
        refine ⟨?_, rfl⟩
        unfold jnF
        simp_all [bI]
      · refine x_iload_n dX6_joined_44 2 rfl rfl ?_
        refine x_if_eq (tgt := 52) dX6_joined_45 (by decide) (fun c_45 => ?_) (fun c_45 => ?_)
        · refine x_iconst (v := 0) dX6_joined_52 (by decide) ?_
          refine x_callS (rest := []) (k_truth (G := G) (Sh := Sh) (I := I) (R := R) (b := 0) (by first | exact Or.inl rfl | exact Or.inr rfl)) dX6_joined_53 crc_X6_truth sc_6_56 rfl rfl (Nat.le_of_ble_eq_true rfl) (roomy_k (by omega) (by decide)) (Nat.le_refl _) (Nat.le_refl _) ?_
          rintro _ _ ⟨r, rfl, hr, rfl⟩
          subst hr
          refine x_iret dX6_joined_56 rfl (Nat.le_refl _) (Nat.le_refl _) ?_
          refine ⟨?_, rfl⟩
          unfold jnF
          simp_all [bI]
        · refine x_iconst (v := 1) dX6_joined_48 (by decide) ?_
          refine x_goto (tgt := 53) dX6_joined_49 (by decide) ?_
          refine x_callS (rest := []) (k_truth (G := G) (Sh := Sh) (I := I) (R := R) (b := 1) (by first | exact Or.inl rfl | exact Or.inr rfl)) dX6_joined_53 crc_X6_truth sc_6_56 rfl rfl (Nat.le_of_ble_eq_true rfl) (roomy_k (by omega) (by decide)) (Nat.le_refl _) (Nat.le_refl _) ?_
          rintro _ _ ⟨r, rfl, hr, rfl⟩
          subst hr
          refine x_iret dX6_joined_56 rfl (Nat.le_refl _) (Nat.le_refl _) ?_
          refine ⟨?_, rfl⟩
          unfold jnF
          simp_all [bI]

set_option maxHeartbeats 4000000 in
set_option maxRecDepth 100000 in
theorem k_named {G : GG} {Sh : HS} {I : HI} {R : HR} {S n f : Nat} (hS : ShS Sh S) (hR : RS R S) (hn : I S 1 = nI n) (hn8 : n ≤ 8) (hf : Sh.2 f = (0, 6)) {x : Int32} : AM G 2 0 0 yX6_named cX6_named 3 (some .int) [.int x, .ref S, .ref f] (Sh, I, R) (qi fun r g => r = cxI I S f n x ∧ g = (Sh, I, R)) := by
  refine am_intro (by decide) (Nat.le_of_ble_eq_true rfl) ?_
  refine x_iload_n dX6_named_0 0 rfl rfl ?_
  refine x_tsw [(-5, 56), (-4, 51), (-3, 46), (-2, 41), (-1, 36)] 61 dX6_named_1 (by decide) (by decide +kernel) (fun c_1 => ?_) ?_
  · refine x_aload_n dX6_named_61 1 rfl rfl ?_
    refine x_aload_n dX6_named_62 2 rfl rfl ?_
    refine x_callV (k_shelterOf (G := G) hS hR hn hn8 hf) dX6_named_63 crc_X4_shelterOf vc_6_86 hS.1 rfl rfl rfl rfl (Nat.le_of_ble_eq_true rfl) (roomy_k (by omega) (by decide)) (Nat.le_refl _) (Nat.le_refl _) ?_
    rintro _ _ ⟨r, rfl, hr, rfl⟩
    refine x_iret dX6_named_66 rfl (Nat.le_refl _) (Nat.le_refl _) ?_
    refine ⟨?_, rfl⟩
    unfold cxI cxF
    simp_all
  · refine List.forall_mem_cons.mpr ⟨fun c_1 => ?_, List.forall_mem_cons.mpr ⟨fun c_1 => ?_, List.forall_mem_cons.mpr ⟨fun c_1 => ?_, List.forall_mem_cons.mpr ⟨fun c_1 => ?_, List.forall_mem_cons.mpr ⟨fun c_1 => ?_, fun _ h9 => absurd h9 List.not_mem_nil⟩⟩⟩⟩⟩
    · have c_1 : x = (-5) := c_1.trans (by decide)
      refine x_aload_n dX6_named_56 2 rfl rfl ?_
      refine x_gI (v := I f 4) dX6_named_57 fl_6_83 rfl hf rfl ?_
      refine x_iret dX6_named_60 rfl (Nat.le_refl _) (Nat.le_refl _) ?_
      refine ⟨?_, rfl⟩
      unfold cxI cxF
      simp_all
    · have c_1 : x = (-4) := c_1.trans (by decide)
      refine x_aload_n dX6_named_51 2 rfl rfl ?_
      refine x_gI (v := I f 1) dX6_named_52 fl_6_80 rfl hf rfl ?_
      refine x_iret dX6_named_55 rfl (Nat.le_refl _) (Nat.le_refl _) ?_
      refine ⟨?_, rfl⟩
      unfold cxI cxF
      simp_all
    · have c_1 : x = (-3) := c_1.trans (by decide)
      refine x_aload_n dX6_named_46 2 rfl rfl ?_
      refine x_gI (v := I f 2) dX6_named_47 fl_6_75 rfl hf rfl ?_
      refine x_iret dX6_named_50 rfl (Nat.le_refl _) (Nat.le_refl _) ?_
      refine ⟨?_, rfl⟩
      unfold cxI cxF
      simp_all
    · have c_1 : x = (-2) := c_1.trans (by decide)
      refine x_aload_n dX6_named_41 1 rfl rfl ?_
      refine x_gI (v := I S 2) dX6_named_42 fl_6_72 rfl hS.1 rfl ?_
      refine x_iret dX6_named_45 rfl (Nat.le_refl _) (Nat.le_refl _) ?_
      refine ⟨?_, rfl⟩
      unfold cxI cxF
      simp_all
    · have c_1 : x = (-1) := c_1.trans (by decide)
      refine x_aload_n dX6_named_36 1 rfl rfl ?_
      refine x_gI (v := I S 3) dX6_named_37 fl_6_67 rfl hS.1 rfl ?_
      refine x_iret dX6_named_40 rfl (Nat.le_refl _) (Nat.le_refl _) ?_
      refine ⟨?_, rfl⟩
      unfold cxI cxF
      simp_all
end
section
theorem push_ok {T : Nat} {I J : HI} {v : Int32} {st : List Int32} (h : offT T I J) (hs : stkF (J (T + 2)) st) : ∃ J' : HI, J' = u2 (u2 J (T + 2) st.length v) T 6 (nI (st.length + 1)) ∧ offT T I J' ∧ J' T 6 = nI (v :: st).length ∧ stkF (J' (T + 2)) (v :: st) := by
  refine ⟨_, rfl, fun a k q => ?_, u2_same, ?_, ?_⟩
  · rw [u2_ne (fun e => q (Or.inl e)), u2_ne (fun e => q (Or.inr e.1))]
    exact h a k q
  · rw [u2_ne (by omega), u2_same]
  · refine hs.up (fun j hj => ?_)
    rw [u2_ne (by omega), u2_ne (by omega)]
theorem pop_ok {T : Nat} {I J : HI} {x : Int32} {st : List Int32} (h : offT T I J) (hs : stkF (J (T + 2)) (x :: st)) : ∃ J' : HI, J' = u2 J T 6 (nI st.length) ∧ offT T I J' ∧ J' T 6 = nI st.length ∧ stkF (J' (T + 2)) st := by
  refine ⟨_, rfl, fun a k q => ?_, u2_same, ?_⟩
  · rw [u2_ne (fun e => q (Or.inl e))]
    exact h a k q
  · refine hs.2.up (fun j hj => ?_)
    rw [u2_ne (by omega)]

set_option maxHeartbeats 4000000 in
set_option maxRecDepth 100000 in
theorem k_tell_l {G : GG} {Sh : HS} {I : HI} {R : HR} {T : Nat} (hT : ShT Sh T) (hRT : RT R T) {S n f : Nat} (hS : ShS Sh S) (hR : RS R S) (hn : I S 1 = nI n) (hn8 : n ≤ 8) (hf : Sh.2 f = (0, 6)) (hTS : T + 3 ≤ S) (hSf : S ≤ f) {P : List Int32} {fr to : Nat} (hP : atF I T fr P) (hto : to = fr + P.length) (hto2 : to ≤ 160) (hok0 : okF P 0) : ∀ (m : Nat) (i : Nat) (st : List Int32) (J : HI), (i ≤ P.length) → (P.length < i + m) → (offT T I J) → (J T 6 = nI st.length) → (stkF (J (T + 2)) st) → (st.length ≤ 40) → (okF (P.drop i) st.length) → (evF (cxI I S f n) (P.drop i) st = evF (cxI I S f n) P []) → X G (kM G 3 0 0 (qi fun r g => r = mxI 0 (topF (cxI I S f n) P) ∧ ∃ I2 : HI, offT T I I2 ∧ g = (Sh, I2, R))) yX6_tell cX6_tell 8 (some .int) 0 0 8 [(5, .int (nI (fr + i))), (0, .ref T), (1, .int (nI fr)), (2, .int (nI to)), (3, .ref S), (4, .ref f)] [] (Sh, J, R) := by
  intro m
  induction m with
  | zero =>
    intro i st J hi hm hoff hdep hst hl40 hok hev
    exact absurd hm (by omega)
  | succ m ih =>
    intro i st J hi hm hoff hdep hst hl40 hok hev
    refine x_iload dX6_tell_8 0 rfl ?_
    refine x_if_lt (tgt := 145) dX6_tell_10 (by decide) (fun c_10 => False.elim (nI_pos (by omega) c_10)) (fun c_10 => ?_)
    refine x_iload dX6_tell_13 0 rfl ?_
    refine x_iload_n dX6_tell_15 3 rfl rfl ?_
    refine x_icmp_ge (tgt := 145) dX6_tell_16 (by decide) (fun c_16 => ?_) (fun c_16 => ?_)
    · have c_16 : to ≤ (fr + i) := (nI_leI (a := to) (b := (fr + i)) (by omega) (by omega)).mp c_16
      have hi2 : i = P.length := by omega
      rw [hi2, List.drop_length] at hok hev
      have hlen : st.length = 1 := hok
      obtain ⟨v, rfl⟩ := List.length_eq_one_iff.mp hlen
      have hev : [v] = evF (cxI I S f n) P [] := hev
      refine x_iconst (v := 0) dX6_tell_145 (by decide) ?_
      refine x_aload_n dX6_tell_146 1 rfl rfl ?_
      refine x_callV (k_pop (G := G) (I := J) hT hRT (d := 0) hdep (by omega)) dX6_tell_147 crc_X6_pop vc_6_52 hT.1 rfl rfl rfl rfl (Nat.le_of_ble_eq_true rfl) (roomy_k (by omega) (by decide)) (Nat.le_refl _) (Nat.le_refl _) ?_
      rintro _ _ ⟨r, rfl, hr, rfl⟩
      refine x_vali (hr.trans hst.1) ?_
      refine x_mmax dX6_tell_150 sc_6_64 (Nat.le_of_ble_eq_true rfl) (roomy_k (by omega) (by decide)) (Nat.le_refl _) (Nat.le_refl _) ?_
      refine x_iret dX6_tell_153 rfl (Nat.le_refl _) (Nat.le_refl _) ?_
      refine ⟨?_, _, ?_, rfl⟩
      · unfold topF
        rw [← hev]
        rfl
      · obtain ⟨J1, e1, hoff1, hdep1, hst1⟩ := pop_ok hoff hst
        rw [show u2 J T 6 (nI 0) = J1 from e1.symm]
        exact hoff1
    · have c_16 : ¬ to ≤ (fr + i) := fun q => c_16 ((nI_leI (a := to) (b := (fr + i)) (by omega) (by omega)).mpr q)
      refine x_iload dX6_tell_19 0 rfl ?_
      refine x_sipush (v := 160) dX6_tell_21 (by decide) ?_
      refine x_icmp_ge (tgt := 145) dX6_tell_24 (by decide) (fun c_24 => False.elim (by have := (nI_leI (a := 160) (b := fr + i) (by omega) (by omega)).mp c_24; omega)) (fun c_24 => ?_)
      obtain ⟨x, hx⟩ : ∃ x, P[i]? = some x := ⟨P[i], List.getElem?_eq_getElem (by omega)⟩
      refine x_aload_n dX6_tell_27 1 rfl rfl ?_
      refine x_gR (b := T + 1) dX6_tell_28 fl_6_9 rfl hT.1 hRT.1 ?_
      refine x_iload dX6_tell_31 0 rfl ?_
      refine x_ia (j := fr + i) (v := x) dX6_tell_33 hT.2.1 rfl (by omega) (by omega) (by rw [hoff (T + 1) (fr + i) (by unfold scr; omega)]; exact hP i x hx) ?_
      refine x_istore (lv' := [(6, .int x), (5, .int (nI (fr + i))), (0, .ref T), (1, .int (nI fr)), (2, .int (nI to)), (3, .ref S), (4, .ref f)]) dX6_tell_34 (by decide) rfl ?_
      rw [drop_at hx] at hok hev
      have hev : evF (cxI I S f n) (P.drop (i + 1)) (stepF (cxI I S f n) x st) = evF (cxI I S f n) P [] := hev
      refine x_iload dX6_tell_36 0 rfl ?_
      refine x_if_lt (tgt := 50) dX6_tell_38 (by decide) (fun c_38 => ?_) (fun c_38 => ?_)
      · refine x_iload dX6_tell_50 0 rfl ?_
        refine x_bipush (v := (-6)) dX6_tell_52 (by decide) ?_
        refine x_icmp_lt (tgt := 72) dX6_tell_54 (by decide) (fun c_54 => ?_) (fun c_54 => ?_)
        · refine x_iload dX6_tell_72 0 rfl ?_
          refine x_bipush (v := (-8)) dX6_tell_74 (by decide) ?_
          refine x_icmp_lt (tgt := 118) dX6_tell_76 (by decide) (fun c_76 => ?_) (fun c_76 => ?_)
          · refine x_aload_n dX6_tell_118 2 rfl rfl ?_
            have hk := ok_bin hok c_54 c_76
            obtain ⟨b, a, t, rfl⟩ : ∃ b a t, st = b :: a :: t := by
              cases st with
              | nil => exact absurd hk.1 (by decide)
              | cons b t0 =>
                cases t0 with
                | nil => exact absurd hk.1 (by simp)
                | cons a t => exact ⟨b, a, t, rfl⟩
            refine x_callV (k_pop (G := G) (I := J) hT hRT (d := (a :: t).length) hdep (by simp at hl40 ⊢; omega)) dX6_tell_119 crc_X6_pop vc_6_52 hT.1 rfl rfl rfl rfl (Nat.le_of_ble_eq_true rfl) (roomy_k (by omega) (by decide)) (Nat.le_refl _) (Nat.le_refl _) ?_
            rintro _ _ ⟨r, rfl, hr, rfl⟩
            refine x_vali (hr.trans hst.1) ?_
            obtain ⟨J1, e1, hoff1, hdep1, hst1⟩ := pop_ok hoff hst
            rw [← e1]
            refine x_istore (lv' := [(7, .int b), (6, .int x), (5, .int (nI (fr + i))), (0, .ref T), (1, .int (nI fr)), (2, .int (nI to)), (3, .ref S), (4, .ref f)]) dX6_tell_122 (by decide) rfl ?_
            refine x_aload_n dX6_tell_124 3 rfl rfl ?_
            refine x_iload dX6_tell_125 1 rfl ?_
            refine x_aload_n dX6_tell_127 3 rfl rfl ?_
            refine x_callV (k_pop (G := G) (I := J1) hT hRT (d := t.length) hdep1 (by simp at hl40; omega)) dX6_tell_128 crc_X6_pop vc_6_52 hT.1 rfl rfl rfl rfl (Nat.le_of_ble_eq_true rfl) (roomy_k (by omega) (by decide)) (Nat.le_refl _) (Nat.le_refl _) ?_
            rintro _ _ ⟨r, rfl, hr2, rfl⟩
            refine x_vali (hr2.trans hst1.1) ?_
            obtain ⟨J2, e2, hoff2, hdep2, hst2⟩ := pop_ok hoff1 hst1
            rw [← e2]
            refine x_iload dX6_tell_131 0 rfl ?_
            refine x_callS (rest := [.ref T]) (k_joined (G := G) (Sh := Sh) (I := J2) (R := R) (c := x) (a := a) (b := b)) dX6_tell_133 crc_X6_joined sc_6_60 rfl rfl (Nat.le_of_ble_eq_true rfl) (roomy_k (by omega) (by decide)) (Nat.le_refl _) (Nat.le_refl _) ?_
            rintro _ _ ⟨r3, rfl, hr3, rfl⟩
            refine x_callV (k_push (G := G) (I := J2) hT hRT (v := r3) (d := t.length) hdep2 (by simp at hl40; omega)) dX6_tell_136 crc_X6_push vc_6_44 hT.1 rfl rfl rfl rfl (Nat.le_of_ble_eq_true rfl) (roomy_k (by omega) (by decide)) (Nat.le_refl _) (Nat.le_refl _) ?_
            rintro _ _ ⟨rfl, rfl⟩
            obtain ⟨J3, e3, hoff3, hdep3, hst3⟩ := push_ok (v := r3) hoff2 hst2
            rw [← e3]
            refine x_iinc (v := nI (fr + i + 1)) (lv' := [(5, .int (nI (fr + i + 1))), (7, .int b), (6, .int x), (0, .ref T), (1, .int (nI fr)), (2, .int (nI to)), (3, .ref S), (4, .ref f)]) dX6_tell_139 2 rfl (nI_1 (fr + i)) (by decide) rfl ?_
            refine x_goto (tgt := 8) dX6_tell_142 (by decide) ?_
            refine x_sub [0, 3, 4, 5, 6, 7] rfl ?_
            rw [step_bin c_38 c_54 c_76, ← hr3] at hev
            exact ih (i + 1) (r3 :: t) J3 (by omega) (by omega) hoff3 hdep3 hst3 (by simp at hl40 ⊢; omega) hk.2 hev
          · refine x_aload_n dX6_tell_79 2 rfl rfl ?_
            have hk := ok_un hok c_54 c_76
            obtain ⟨a, t, rfl⟩ : ∃ a t, st = a :: t := by
              cases st with
              | nil => exact absurd hk.1 (by decide)
              | cons a t => exact ⟨a, t, rfl⟩
            refine x_callV (k_pop (G := G) (I := J) hT hRT (d := t.length) hdep (by simp at hl40; omega)) dX6_tell_80 crc_X6_pop vc_6_52 hT.1 rfl rfl rfl rfl (Nat.le_of_ble_eq_true rfl) (roomy_k (by omega) (by decide)) (Nat.le_refl _) (Nat.le_refl _) ?_
            rintro _ _ ⟨r, rfl, hr, rfl⟩
            refine x_vali (hr.trans hst.1) ?_
            obtain ⟨J1, e1, hoff1, hdep1, hst1⟩ := pop_ok hoff hst
            rw [← e1]
            refine x_istore (lv' := [(7, .int a), (6, .int x), (5, .int (nI (fr + i))), (0, .ref T), (1, .int (nI fr)), (2, .int (nI to)), (3, .ref S), (4, .ref f)]) dX6_tell_83 (by decide) rfl ?_
            refine x_aload_n dX6_tell_85 3 rfl rfl ?_
            refine x_iload dX6_tell_86 1 rfl ?_
            refine x_bipush (v := (-8)) dX6_tell_88 (by decide) ?_
            refine x_icmp_ne (tgt := 99) dX6_tell_90 (by decide) (fun c_90 => ?_) (fun c_90 => ?_)
            · refine x_iload dX6_tell_99 0 rfl ?_
              refine x_if_ne (tgt := 108) dX6_tell_101 (by decide) (fun c_101 => ?_) (fun c_101 => ?_)
              · refine x_iconst (v := 0) dX6_tell_108 (by decide) ?_
                refine x_callS (rest := [.ref T]) (k_truth (G := G) (Sh := Sh) (I := J1) (R := R) (b := 0) (by first | exact Or.inl rfl | exact Or.inr rfl)) dX6_tell_109 crc_X6_truth sc_6_56 rfl rfl (Nat.le_of_ble_eq_true rfl) (roomy_k (by omega) (by decide)) (Nat.le_refl _) (Nat.le_refl _) ?_
                rintro _ _ ⟨r2, rfl, hr2, rfl⟩
                subst hr2
                refine x_callV (k_push (G := G) (I := J1) hT hRT (v := 0) (d := t.length) hdep1 (by simp at hl40; omega)) dX6_tell_112 crc_X6_push vc_6_44 hT.1 rfl rfl rfl rfl (Nat.le_of_ble_eq_true rfl) (roomy_k (by omega) (by decide)) (Nat.le_refl _) (Nat.le_refl _) ?_
                rintro _ _ ⟨rfl, rfl⟩
                obtain ⟨J3, e3, hoff3, hdep3, hst3⟩ := push_ok (v := 0) hoff1 hst1
                rw [← e3]
                refine x_goto (tgt := 139) dX6_tell_115 (by decide) ?_
                refine x_iinc (v := nI (fr + i + 1)) (lv' := [(5, .int (nI (fr + i + 1))), (7, .int a), (6, .int x), (0, .ref T), (1, .int (nI fr)), (2, .int (nI to)), (3, .ref S), (4, .ref f)]) dX6_tell_139 2 rfl (nI_1 (fr + i)) (by decide) rfl ?_
                refine x_goto (tgt := 8) dX6_tell_142 (by decide) ?_
                refine x_sub [0, 3, 4, 5, 6, 7] rfl ?_
                rw [step_un c_38 c_54 c_76, if_neg c_90, bI_f c_101] at hev
                exact ih (i + 1) (0 :: t) J3 (by omega) (by omega) hoff3 hdep3 hst3 (by simp at hl40 ⊢; omega) hk.2 hev
              · refine x_iconst (v := 1) dX6_tell_104 (by decide) ?_
                refine x_goto (tgt := 109) dX6_tell_105 (by decide) ?_
                refine x_callS (rest := [.ref T]) (k_truth (G := G) (Sh := Sh) (I := J1) (R := R) (b := 1) (by first | exact Or.inl rfl | exact Or.inr rfl)) dX6_tell_109 crc_X6_truth sc_6_56 rfl rfl (Nat.le_of_ble_eq_true rfl) (roomy_k (by omega) (by decide)) (Nat.le_refl _) (Nat.le_refl _) ?_
                rintro _ _ ⟨r2, rfl, hr2, rfl⟩
                subst hr2
                refine x_callV (k_push (G := G) (I := J1) hT hRT (v := 1) (d := t.length) hdep1 (by simp at hl40; omega)) dX6_tell_112 crc_X6_push vc_6_44 hT.1 rfl rfl rfl rfl (Nat.le_of_ble_eq_true rfl) (roomy_k (by omega) (by decide)) (Nat.le_refl _) (Nat.le_refl _) ?_
                rintro _ _ ⟨rfl, rfl⟩
                obtain ⟨J3, e3, hoff3, hdep3, hst3⟩ := push_ok (v := 1) hoff1 hst1
                rw [← e3]
                refine x_goto (tgt := 139) dX6_tell_115 (by decide) ?_
                refine x_iinc (v := nI (fr + i + 1)) (lv' := [(5, .int (nI (fr + i + 1))), (7, .int a), (6, .int x), (0, .ref T), (1, .int (nI fr)), (2, .int (nI to)), (3, .ref S), (4, .ref f)]) dX6_tell_139 2 rfl (nI_1 (fr + i)) (by decide) rfl ?_
                refine x_goto (tgt := 8) dX6_tell_142 (by decide) ?_
                refine x_sub [0, 3, 4, 5, 6, 7] rfl ?_
                rw [step_un c_38 c_54 c_76, if_neg c_90, bI_t c_101] at hev
                exact ih (i + 1) (1 :: t) J3 (by omega) (by omega) hoff3 hdep3 hst3 (by simp at hl40 ⊢; omega) hk.2 hev
            · refine x_iload dX6_tell_93 0 rfl ?_
              refine x_ineg dX6_tell_95 ?_
              refine x_goto (tgt := 112) dX6_tell_96 (by decide) ?_
              refine x_callV (k_push (G := G) (I := J1) hT hRT (v := -a) (d := t.length) hdep1 (by simp at hl40; omega)) dX6_tell_112 crc_X6_push vc_6_44 hT.1 rfl rfl rfl rfl (Nat.le_of_ble_eq_true rfl) (roomy_k (by omega) (by decide)) (Nat.le_refl _) (Nat.le_refl _) ?_
              rintro _ _ ⟨rfl, rfl⟩
              obtain ⟨J3, e3, hoff3, hdep3, hst3⟩ := push_ok (v := -a) hoff1 hst1
              rw [← e3]
              refine x_goto (tgt := 139) dX6_tell_115 (by decide) ?_
              refine x_iinc (v := nI (fr + i + 1)) (lv' := [(5, .int (nI (fr + i + 1))), (7, .int a), (6, .int x), (0, .ref T), (1, .int (nI fr)), (2, .int (nI to)), (3, .ref S), (4, .ref f)]) dX6_tell_139 2 rfl (nI_1 (fr + i)) (by decide) rfl ?_
              refine x_goto (tgt := 8) dX6_tell_142 (by decide) ?_
              refine x_sub [0, 3, 4, 5, 6, 7] rfl ?_
              rw [step_un c_38 c_54 c_76, if_pos c_90] at hev
              exact ih (i + 1) ((-a) :: t) J3 (by omega) (by omega) hoff3 hdep3 hst3 (by simp at hl40 ⊢; omega) hk.2 hev
        · refine x_aload_n dX6_tell_57 2 rfl rfl ?_
          refine x_iload dX6_tell_58 0 rfl ?_
          refine x_aload_n dX6_tell_60 5 rfl rfl ?_
          refine x_aload dX6_tell_61 6 rfl ?_
          refine x_callS (rest := [.ref T]) (k_named (G := G) (I := J) hS hR ((hoff.out hTS).trans hn) hn8 hf (x := x)) dX6_tell_63 crc_X6_named sc_6_48 rfl rfl (Nat.le_of_ble_eq_true rfl) (roomy_k (by omega) (by decide)) (Nat.le_refl _) (Nat.le_refl _) ?_
          rintro _ _ ⟨r, rfl, hr, rfl⟩
          rw [cx_off hoff hTS hSf] at hr
          have hk := ok_num hok c_54
          refine x_callV (k_push (G := G) (I := J) hT hRT (v := r) (d := st.length) hdep hk.1) dX6_tell_66 crc_X6_push vc_6_44 hT.1 rfl rfl rfl rfl (Nat.le_of_ble_eq_true rfl) (roomy_k (by omega) (by decide)) (Nat.le_refl _) (Nat.le_refl _) ?_
          rintro _ _ ⟨rfl, rfl⟩
          obtain ⟨J3, e3, hoff3, hdep3, hst3⟩ := push_ok (v := r) hoff hst
          rw [← e3]
          refine x_goto (tgt := 139) dX6_tell_69 (by decide) ?_
          refine x_iinc (v := nI (fr + i + 1)) (lv' := [(5, .int (nI (fr + i + 1))), (6, .int x), (0, .ref T), (1, .int (nI fr)), (2, .int (nI to)), (3, .ref S), (4, .ref f)]) dX6_tell_139 1 rfl (nI_1 (fr + i)) (by decide) rfl ?_
          refine x_goto (tgt := 8) dX6_tell_142 (by decide) ?_
          refine x_sub [0, 2, 3, 4, 5, 6] rfl ?_
          rw [step_name c_38 c_54, ← hr] at hev
          exact ih (i + 1) (r :: st) J3 (by omega) (by omega) hoff3 hdep3 hst3 (by have := hk.1; simp; omega) hk.2 hev
      · refine x_aload_n dX6_tell_41 2 rfl rfl ?_
        refine x_iload dX6_tell_42 0 rfl ?_
        have hk := ok_num hok (fun q => c_38 (Int32.lt_trans q (by decide)))
        refine x_callV (k_push (G := G) (I := J) hT hRT (v := x) (d := st.length) hdep hk.1) dX6_tell_44 crc_X6_push vc_6_44 hT.1 rfl rfl rfl rfl (Nat.le_of_ble_eq_true rfl) (roomy_k (by omega) (by decide)) (Nat.le_refl _) (Nat.le_refl _) ?_
        rintro _ _ ⟨rfl, rfl⟩
        obtain ⟨J3, e3, hoff3, hdep3, hst3⟩ := push_ok (v := x) hoff hst
        rw [← e3]
        refine x_goto (tgt := 139) dX6_tell_47 (by decide) ?_
        refine x_iinc (v := nI (fr + i + 1)) (lv' := [(5, .int (nI (fr + i + 1))), (6, .int x), (0, .ref T), (1, .int (nI fr)), (2, .int (nI to)), (3, .ref S), (4, .ref f)]) dX6_tell_139 1 rfl (nI_1 (fr + i)) (by decide) rfl ?_
        refine x_goto (tgt := 8) dX6_tell_142 (by decide) ?_
        refine x_sub [0, 2, 3, 4, 5, 6] rfl ?_
        rw [step_num c_38] at hev
        exact ih (i + 1) (x :: st) J3 (by omega) (by omega) hoff3 hdep3 hst3 (by have := hk.1; simp; omega) hk.2 hev

set_option maxHeartbeats 4000000 in
set_option maxRecDepth 100000 in
theorem k_tell {G : GG} {Sh : HS} {I : HI} {R : HR} {T : Nat} (hT : ShT Sh T) (hRT : RT R T) {S n f : Nat} (hS : ShS Sh S) (hR : RS R S) (hn : I S 1 = nI n) (hn8 : n ≤ 8) (hf : Sh.2 f = (0, 6)) (hTS : T + 3 ≤ S) (hSf : S ≤ f) {P : List Int32} {fr to : Nat} (hP : atF I T fr P) (hto : to = fr + P.length) (hto2 : to ≤ 160) (hok0 : okF P 0) : AM G 3 0 0 yX6_tell cX6_tell 8 (some .int) [.ref T, .int (nI fr), .int (nI to), .ref S, .ref f] (Sh, I, R) (qi fun r g => r = mxI 0 (topF (cxI I S f n) P) ∧ ∃ I2 : HI, offT T I I2 ∧ g = (Sh, I2, R)) := by
  refine am_intro (by decide) (Nat.le_of_ble_eq_true rfl) ?_
  refine x_aload_n dX6_tell_0 0 rfl rfl ?_
  refine x_iconst (v := 0) dX6_tell_1 (by decide) ?_
  refine x_pI dX6_tell_2 fl_6_41 rfl rfl rfl hT.1 (fun Iq1 e_Iq1 => ?_)
  refine x_iload_n dX6_tell_5 1 rfl rfl ?_
  refine x_istore (lv' := [(5, .int (nI fr)), (0, .ref T), (1, .int (nI fr)), (2, .int (nI to)), (3, .ref S), (4, .ref f)]) dX6_tell_6 (by decide) rfl ?_
  exact k_tell_l hT hRT hS hR hn hn8 hf hTS hSf hP hto hto2 hok0 (P.length + 1) 0 [] Iq1 (by omega) (by omega) (fun a k q => by rw [e_Iq1]; exact u2_ne (fun e => q (Or.inl e))) (by rw [e_Iq1]; exact u2_same) trivial (by simp) hok0 rfl
end
section
/-! A STRAND AND ITS RULE, as cells and as numbers -/
def TX (I : HI) (T : Nat) (P : Nat → List Int32) : Prop := I T 3 = nI (P 0).length ∧ I T 4 = nI ((P 0).length + (P 1).length) ∧ I T 2 = nI ((P 0).length + (P 1).length + (P 2).length) ∧ (P 0).length + (P 1).length + (P 2).length ≤ 160 ∧ atF I T 0 (P 0) ∧ atF I T (P 0).length (P 1) ∧ atF I T ((P 0).length + (P 1).length) (P 2) ∧ okF (P 0) 0 ∧ okF (P 1) 0 ∧ okF (P 2) 0
def SW (Sh : HS) (I : HI) (R : HR) (S T n : Nat) (P : Nat → List Int32) : Prop := ShS Sh S ∧ RS R S ∧ I S 1 = nI n ∧ n ≤ 8 ∧ R S 4 = some T ∧ ShT Sh T ∧ RT R T ∧ TX I T P ∧ T + 3 ≤ S
theorem TX.same {I J : HI} {T : Nat} {P : Nat → List Int32} (h : TX I T P) (e : ∀ k, k < 5 → J T k = I T k) (e2 : ∀ k, J (T + 1) k = I (T + 1) k) : TX J T P := by
  obtain ⟨h1, h2, h3, h4, h5, h6, h7, h8⟩ := h
  refine ⟨(e 3 (by omega)).trans h1, (e 4 (by omega)).trans h2, (e 2 (by omega)).trans h3, h4, ?_, ?_, ?_, h8⟩
  · exact fun j x q => (e2 _).trans (h5 j x q)
  · exact fun j x q => (e2 _).trans (h6 j x q)
  · exact fun j x q => (e2 _).trans (h7 j x q)
theorem TX.off {I J : HI} {T : Nat} {P : Nat → List Int32} (h : TX I T P) (o : offT T I J) : TX J T P :=
  h.same (fun k hk => o T k (fun e => by rcases e with e | e <;> omega)) (fun k => o (T + 1) k (fun e => by rcases e with e | e <;> omega))
theorem SW.off {Sh : HS} {I J : HI} {R : HR} {S T n : Nat} {P : Nat → List Int32} (w : SW Sh I R S T n P) (o : offT T I J) : SW Sh J R S T n P :=
  ⟨w.1, w.2.1, (o.out w.2.2.2.2.2.2.2.2).trans w.2.2.1, w.2.2.2.1, w.2.2.2.2.1, w.2.2.2.2.2.1, w.2.2.2.2.2.2.1, w.2.2.2.2.2.2.2.1.off o, w.2.2.2.2.2.2.2.2⟩
/-- a strand's numbers: forts, MOON, THE WAVE -/
abbrev SV : Type := (Nat → Nat → Int32) × Int32 × Int32
def SR (I : HI) (S n : Nat) (v : SV) : Prop := (∀ i, i < n → ∀ k, k < 5 → I (S + 2 + i) k = v.1 i k) ∧ I S 2 = v.2.1 ∧ I S 3 = v.2.2
noncomputable def cF (n : Nat) (v : SV) (i : Nat) : Int32 → Int32 := cxF v.2.2 v.2.1 (v.1 i 2) (v.1 i 1) (v.1 i 4) (shelF v.1 (v.1 i 2) n)
noncomputable def stF (P : Nat → List Int32) (n : Nat) (v : SV) (i : Nat) : Int32 := mnI 99 (mxI 0 (topF (cF n v i) (P 0)))
noncomputable def raF (P : Nat → List Int32) (n : Nat) (v : SV) (i : Nat) : Int32 := mnI 20 (mxI 0 (topF (cF n v i) (P 1)))
noncomputable def woF (P : Nat → List Int32) (n : Nat) (v : SV) (i : Nat) : Int32 := mnI 99 (mxI 0 (topF (cF n v i) (P 2)))
noncomputable def loF (P : Nat → List Int32) (n : Nat) (v : SV) (i : Nat) : Int32 := lossF (v.1 i 0) (v.1 i 1) (stF P n v i) v.2.2
noncomputable def riF (P : Nat → List Int32) (n : Nat) (v : SV) (i : Nat) : Int32 := riseF (v.1 i 0) (raF P n v i)
noncomputable def leF (P : Nat → List Int32) (n : Nat) (v : SV) (i : Nat) : Int32 := if 0 < v.1 i 4 then loF P n v i else 0
/-- A WAVE -/
noncomputable def beatF (P : Nat → List Int32) (n : Nat) (v : SV) : SV := (fun i k => if k = 4 then mxI 0 (v.1 i 4 - leF P n v i) else v.1 i k, v.2.1, v.2.2 + 1)
/-- A SPADE -/
noncomputable def spadeF (P : Nat → List Int32) (n : Nat) (i : Nat) (v : SV) : SV := (fun j k => if j = i ∧ k = 4 then mnI 99 (v.1 i 4 + riF P n v i) else v.1 j k, v.2)
noncomputable def standF (n : Nat) (v : SV) : Int32 := fd (fun i r => if 0 < v.1 i 4 then r ||| ((1 : Int32) <<< (nI i &&& 31)) else r) 0 n
noncomputable def sideF (v : SV) (i : Nat) : Int32 := if v.1 i 3 = 0 then 1 else -1
noncomputable def bayM (v : SV) (n : Nat) : Int32 := fd (fun i r => if 0 < v.1 i 4 then r + sideF v i else r) 0 n
noncomputable def bayQ (v : SV) (n : Nat) : Int32 := fd (fun i r => r + sideF v i * v.1 i 4) 0 n
noncomputable def bayX (m q : Int32) : Int32 := if (if ¬ m = 0 then m else q) = 0 then -1 else if 0 < (if ¬ m = 0 then m else q) then 0 else 1
noncomputable def bayF (n : Nat) (v : SV) : Int32 := bayX (bayM v n) (bayQ v n)
/-- the worths up to j, of n forts -/
noncomputable def valueG (P : Nat → List Int32) (n : Nat) (r : Int32) (v : SV) (j : Nat) : Int32 := fd (fun i s => if 0 < v.1 i 4 then (if v.1 i 3 = r then s + woF P n v i else s + -woF P n v i) else s) 0 j
noncomputable def valueF (P : Nat → List Int32) (n : Nat) (r : Int32) (v : SV) : Int32 := valueG P n r v n
theorem shelF_congr {F F' : Nat → Nat → Int32} {p : Int32} {n : Nat} (h : ∀ i, i < n → ∀ k, k < 5 → F i k = F' i k) : shelF F p n = shelF F' p n := by
  unfold shelF
  refine fd_congr (fun i r hi => ?_)
  rw [h i hi 2 (by omega), h i hi 4 (by omega), h i hi 0 (by omega)]
theorem cF_congr {v v' : SV} {n i : Nat} (h : ∀ i, i < n → ∀ k, k < 5 → v.1 i k = v'.1 i k) (h2 : v.2 = v'.2) (hi : i < n) : cF n v i = cF n v' i := by
  unfold cF
  rw [h i hi 2 (by omega), h i hi 4 (by omega), h i hi 1 (by omega), h2, shelF_congr h]
theorem cx_cF {I : HI} {S n i : Nat} {v : SV} (h : SR I S n v) (hi : i < n) : cxI I S (S + 2 + i) n = cF n v i := by
  unfold cxI cF
  rw [h.2.1, h.2.2, h.1 i hi 2 (by omega), h.1 i hi 4 (by omega), h.1 i hi 1 (by omega)]
  rw [shelF_congr (F := fun o k => I (S + 2 + o) k) (F' := v.1) (fun o ho k hk => h.1 o ho k hk)]
theorem SR.off {I J : HI} {S T n : Nat} {v : SV} (h : SR I S n v) (o : offT T I J) (hS : T + 3 ≤ S) : SR J S n v :=
  ⟨fun i hi k hk => (o.out (by omega)).trans (h.1 i hi k hk), (o.out (by omega)).trans h.2.1, (o.out (by omega)).trans h.2.2⟩
/-- what a strand's own doing may change: its rule's scratch, heights, losses, THE WAVE -/
def frS (T S : Nat) (I J : HI) : Prop := ∀ a k, ¬ scr T a k → ¬ (S + 2 ≤ a ∧ a < S + 10 ∧ 4 ≤ k) → ¬ (a = S ∧ k = 3) → J a k = I a k
theorem frS.rf {T S : Nat} {I : HI} : frS T S I I := fun _ _ _ _ _ => rfl
theorem frS.tr {T S : Nat} {I J J2 : HI} (h : frS T S I J) (h2 : frS T S J J2) : frS T S I J2 := fun a k q1 q2 q3 => (h2 a k q1 q2 q3).trans (h a k q1 q2 q3)
theorem offT.fr {T S : Nat} {I J : HI} (h : offT T I J) : frS T S I J := fun a k q1 _ _ => h a k q1
theorem SW.fr {Sh : HS} {I J : HI} {R : HR} {S T n : Nat} {P : Nat → List Int32} (w : SW Sh I R S T n P) (o : frS T S I J) : SW Sh J R S T n P := by
  obtain ⟨h1, h2, h3, h4, h5, h6, h7, h8, h9⟩ := w
  refine ⟨h1, h2, ?_, h4, h5, h6, h7, ?_, h9⟩
  · rw [o S 1 (fun e => by rcases e with e | e <;> omega) (by omega) (by omega)]
    exact h3
  · refine h8.same (fun k hk => o T k (fun e => by rcases e with e | e <;> omega) (by omega) (by omega)) (fun k => o (T + 1) k (fun e => by rcases e with e | e <;> omega) (by omega) (by omega))
end
section
set_option maxHeartbeats 4000000 in
set_option maxRecDepth 100000 in
theorem k_strikeOn {G : GG} {Sh : HS} {I : HI} {R : HR} {S T n : Nat} {P : Nat → List Int32} (w : SW Sh I R S T n P) {f : Nat} (hf : Sh.2 f = (0, 6)) (hSf : S ≤ f) : AM G 4 0 0 yX6_strikeOn cX6_strikeOn 3 (some .int) [.ref T, .ref S, .ref f] (Sh, I, R) (qi fun r g => r = mnI 99 (mxI 0 (topF (cxI I S f n) (P 0))) ∧ ∃ I2 : HI, offT T I I2 ∧ g = (Sh, I2, R)) := by
  obtain ⟨hS, hR, hn, hn8, hrl, hT, hRT, hTX, hTS⟩ := id w
  refine am_intro (by decide) (Nat.le_of_ble_eq_true rfl) ?_
  refine x_bipush (v := 99) dX6_strikeOn_0 (by decide) ?_
  refine x_aload_n dX6_strikeOn_2 0 rfl rfl ?_
  refine x_iconst (v := nI 0) dX6_strikeOn_3 (by decide) ?_
  refine x_aload_n dX6_strikeOn_4 0 rfl rfl ?_
  refine x_gI (v := nI (P 0).length) dX6_strikeOn_5 fl_6_25 rfl hT.1 hTX.1 ?_
  refine x_aload_n dX6_strikeOn_8 1 rfl rfl ?_
  refine x_aload_n dX6_strikeOn_9 2 rfl rfl ?_
  refine x_callV (k_tell (G := G) (P := P 0) (fr := 0) (to := (P 0).length) hT hRT hS hR hn hn8 hf hTS hSf hTX.2.2.2.2.1 (by omega) (by have := hTX.2.2.2.1; omega) hTX.2.2.2.2.2.2.2.1) dX6_strikeOn_10 crc_X6_tell vc_6_31 hT.1 rfl rfl rfl rfl (Nat.le_of_ble_eq_true rfl) (roomy_k (by omega) (by decide)) (Nat.le_refl _) (Nat.le_refl _) ?_
  rintro _ _ ⟨r, rfl, hr, I2, hoff, rfl⟩
  refine x_mmin dX6_strikeOn_13 sc_6_35 (Nat.le_of_ble_eq_true rfl) (roomy_k (by omega) (by decide)) (Nat.le_refl _) (Nat.le_refl _) ?_
  refine x_iret dX6_strikeOn_16 rfl (Nat.le_refl _) (Nat.le_refl _) ?_
  exact ⟨by rw [hr], I2, hoff, rfl⟩

set_option maxHeartbeats 4000000 in
set_option maxRecDepth 100000 in
theorem k_raiseOf {G : GG} {Sh : HS} {I : HI} {R : HR} {S T n : Nat} {P : Nat → List Int32} (w : SW Sh I R S T n P) {f : Nat} (hf : Sh.2 f = (0, 6)) (hSf : S ≤ f) : AM G 4 0 0 yX6_raiseOf cX6_raiseOf 3 (some .int) [.ref T, .ref S, .ref f] (Sh, I, R) (qi fun r g => r = mnI 20 (mxI 0 (topF (cxI I S f n) (P 1))) ∧ ∃ I2 : HI, offT T I I2 ∧ g = (Sh, I2, R)) := by
  obtain ⟨hS, hR, hn, hn8, hrl, hT, hRT, hTX, hTS⟩ := id w
  refine am_intro (by decide) (Nat.le_of_ble_eq_true rfl) ?_
  refine x_bipush (v := 20) dX6_raiseOf_0 (by decide) ?_
  refine x_aload_n dX6_raiseOf_2 0 rfl rfl ?_
  refine x_aload_n dX6_raiseOf_3 0 rfl rfl ?_
  refine x_gI (v := nI (P 0).length) dX6_raiseOf_4 fl_6_25 rfl hT.1 hTX.1 ?_
  refine x_aload_n dX6_raiseOf_7 0 rfl rfl ?_
  refine x_gI (v := nI ((P 0).length + (P 1).length)) dX6_raiseOf_8 fl_6_28 rfl hT.1 hTX.2.1 ?_
  refine x_aload_n dX6_raiseOf_11 1 rfl rfl ?_
  refine x_aload_n dX6_raiseOf_12 2 rfl rfl ?_
  refine x_callV (k_tell (G := G) (P := P 1) (fr := (P 0).length) (to := ((P 0).length + (P 1).length)) hT hRT hS hR hn hn8 hf hTS hSf hTX.2.2.2.2.2.1 (by omega) (by have := hTX.2.2.2.1; omega) hTX.2.2.2.2.2.2.2.2.1) dX6_raiseOf_13 crc_X6_tell vc_6_31 hT.1 rfl rfl rfl rfl (Nat.le_of_ble_eq_true rfl) (roomy_k (by omega) (by decide)) (Nat.le_refl _) (Nat.le_refl _) ?_
  rintro _ _ ⟨r, rfl, hr, I2, hoff, rfl⟩
  refine x_mmin dX6_raiseOf_16 sc_6_35 (Nat.le_of_ble_eq_true rfl) (roomy_k (by omega) (by decide)) (Nat.le_refl _) (Nat.le_refl _) ?_
  refine x_iret dX6_raiseOf_19 rfl (Nat.le_refl _) (Nat.le_refl _) ?_
  exact ⟨by rw [hr], I2, hoff, rfl⟩

set_option maxHeartbeats 4000000 in
set_option maxRecDepth 100000 in
theorem k_worthOf {G : GG} {Sh : HS} {I : HI} {R : HR} {S T n : Nat} {P : Nat → List Int32} (w : SW Sh I R S T n P) {f : Nat} (hf : Sh.2 f = (0, 6)) (hSf : S ≤ f) : AM G 4 0 0 yX6_worthOf cX6_worthOf 3 (some .int) [.ref T, .ref S, .ref f] (Sh, I, R) (qi fun r g => r = mnI 99 (mxI 0 (topF (cxI I S f n) (P 2))) ∧ ∃ I2 : HI, offT T I I2 ∧ g = (Sh, I2, R)) := by
  obtain ⟨hS, hR, hn, hn8, hrl, hT, hRT, hTX, hTS⟩ := id w
  refine am_intro (by decide) (Nat.le_of_ble_eq_true rfl) ?_
  refine x_bipush (v := 99) dX6_worthOf_0 (by decide) ?_
  refine x_aload_n dX6_worthOf_2 0 rfl rfl ?_
  refine x_aload_n dX6_worthOf_3 0 rfl rfl ?_
  refine x_gI (v := nI ((P 0).length + (P 1).length)) dX6_worthOf_4 fl_6_28 rfl hT.1 hTX.2.1 ?_
  refine x_aload_n dX6_worthOf_7 0 rfl rfl ?_
  refine x_gI (v := nI ((P 0).length + (P 1).length + (P 2).length)) dX6_worthOf_8 fl_6_22 rfl hT.1 hTX.2.2.1 ?_
  refine x_aload_n dX6_worthOf_11 1 rfl rfl ?_
  refine x_aload_n dX6_worthOf_12 2 rfl rfl ?_
  refine x_callV (k_tell (G := G) (P := P 2) (fr := ((P 0).length + (P 1).length)) (to := ((P 0).length + (P 1).length + (P 2).length)) hT hRT hS hR hn hn8 hf hTS hSf hTX.2.2.2.2.2.2.1 (by omega) (by have := hTX.2.2.2.1; omega) hTX.2.2.2.2.2.2.2.2.2) dX6_worthOf_13 crc_X6_tell vc_6_31 hT.1 rfl rfl rfl rfl (Nat.le_of_ble_eq_true rfl) (roomy_k (by omega) (by decide)) (Nat.le_refl _) (Nat.le_refl _) ?_
  rintro _ _ ⟨r, rfl, hr, I2, hoff, rfl⟩
  refine x_mmin dX6_worthOf_16 sc_6_35 (Nat.le_of_ble_eq_true rfl) (roomy_k (by omega) (by decide)) (Nat.le_refl _) (Nat.le_refl _) ?_
  refine x_iret dX6_worthOf_19 rfl (Nat.le_refl _) (Nat.le_refl _) ?_
  exact ⟨by rw [hr], I2, hoff, rfl⟩

set_option maxHeartbeats 4000000 in
set_option maxRecDepth 100000 in
theorem k_losesOf {G : GG} {Sh : HS} {I : HI} {R : HR} {S T n : Nat} {P : Nat → List Int32} (w : SW Sh I R S T n P) {f : Nat} (hf : Sh.2 f = (0, 6)) (hSf : S ≤ f) : AM G 5 0 0 yX4_losesOf cX4_losesOf 2 (some .int) [.ref S, .ref f] (Sh, I, R) (qi fun r g => r = lossF (I f 0) (I f 1) (mnI 99 (mxI 0 (topF (cxI I S f n) (P 0)))) (I S 3) ∧ ∃ I2 : HI, offT T I I2 ∧ g = (Sh, I2, R)) := by
  obtain ⟨hS, hR, hn, hn8, hrl, hT, hRT, hTX, hTS⟩ := id w
  refine am_intro (by decide) (Nat.le_of_ble_eq_true rfl) ?_
  refine x_aload_n dX4_losesOf_0 1 rfl rfl ?_
  refine x_aload_n dX4_losesOf_1 0 rfl rfl ?_
  refine x_gR (b := T) dX4_losesOf_2 fl_4_17 rfl hS.1 hrl ?_
  refine x_aload_n dX4_losesOf_5 0 rfl rfl ?_
  refine x_aload_n dX4_losesOf_6 1 rfl rfl ?_
  refine x_callV (k_strikeOn (G := G) (I := I) w (f := f) hf hSf) dX4_losesOf_7 crc_X6_strikeOn vc_4_40 hT.1 rfl rfl rfl rfl (Nat.le_of_ble_eq_true rfl) (roomy_k (by omega) (by decide)) (Nat.le_refl _) (Nat.le_refl _) ?_
  rintro _ _ ⟨r, rfl, hr, I2, hoff, rfl⟩
  refine x_aload_n dX4_losesOf_10 0 rfl rfl ?_
  refine x_gI (v := I S 3) dX4_losesOf_11 fl_4_37 rfl hS.1 (hoff.out (by omega)) ?_
  refine x_callV (k_lossBy (G := G) (Sh := Sh) (I := I2) (R := R) (f := f) (v := r) (w := I S 3) hf) dX4_losesOf_14 crc_X0_lossBy vc_4_46 hf rfl rfl rfl rfl (Nat.le_of_ble_eq_true rfl) (roomy_k (by omega) (by decide)) (Nat.le_refl _) (Nat.le_refl _) ?_
  rintro _ _ ⟨r2, rfl, hr2, rfl⟩
  refine x_iret dX4_losesOf_17 rfl (Nat.le_refl _) (Nat.le_refl _) ?_
  refine ⟨?_, I2, hoff, rfl⟩
  rw [hr2, hr, hoff.out (a := f) (by omega), hoff.out (a := f) (by omega)]

set_option maxHeartbeats 4000000 in
set_option maxRecDepth 100000 in
theorem k_risesOf {G : GG} {Sh : HS} {I : HI} {R : HR} {S T n : Nat} {P : Nat → List Int32} (w : SW Sh I R S T n P) {f : Nat} (hf : Sh.2 f = (0, 6)) (hSf : S ≤ f) : AM G 5 0 0 yX4_risesOf cX4_risesOf 2 (some .int) [.ref S, .ref f] (Sh, I, R) (qi fun r g => r = riseF (I f 0) (mnI 20 (mxI 0 (topF (cxI I S f n) (P 1)))) ∧ ∃ I2 : HI, offT T I I2 ∧ g = (Sh, I2, R)) := by
  obtain ⟨hS, hR, hn, hn8, hrl, hT, hRT, hTX, hTS⟩ := id w
  refine am_intro (by decide) (Nat.le_of_ble_eq_true rfl) ?_
  refine x_aload_n dX4_risesOf_0 1 rfl rfl ?_
  refine x_aload_n dX4_risesOf_1 0 rfl rfl ?_
  refine x_gR (b := T) dX4_risesOf_2 fl_4_17 rfl hS.1 hrl ?_
  refine x_aload_n dX4_risesOf_5 0 rfl rfl ?_
  refine x_aload_n dX4_risesOf_6 1 rfl rfl ?_
  refine x_callV (k_raiseOf (G := G) (I := I) w (f := f) hf hSf) dX4_risesOf_7 crc_X6_raiseOf vc_4_50 hT.1 rfl rfl rfl rfl (Nat.le_of_ble_eq_true rfl) (roomy_k (by omega) (by decide)) (Nat.le_refl _) (Nat.le_refl _) ?_
  rintro _ _ ⟨r, rfl, hr, I2, hoff, rfl⟩
  refine x_callV (k_riseBy (G := G) (Sh := Sh) (I := I2) (R := R) (f := f) (v := r) hf) dX4_risesOf_10 crc_X0_riseBy vc_4_53 hf rfl rfl rfl rfl (Nat.le_of_ble_eq_true rfl) (roomy_k (by omega) (by decide)) (Nat.le_refl _) (Nat.le_refl _) ?_
  rintro _ _ ⟨r2, rfl, hr2, rfl⟩
  refine x_iret dX4_risesOf_13 rfl (Nat.le_refl _) (Nat.le_refl _) ?_
  refine ⟨?_, I2, hoff, rfl⟩
  rw [hr2, hr, hoff.out (a := f) (by omega)]
end
section
theorem scr_no {T S a k : Nat} (h : T + 3 ≤ S) (ha : S ≤ a) : ¬ scr T a k := fun e => by rcases e with e | e <;> omega
theorem raise_ok {T S n i : Nat} {I I2 : HI} {v : SV} {P : Nat → List Int32} {r : Int32} (h : SR I S n v) (o : offT T I I2) (hTS : T + 3 ≤ S) (hi : i < n) (hn8 : n ≤ 8) (hr : r = riseF (I (S + 2 + i) 0) (mnI 20 (mxI 0 (topF (cxI I S (S + 2 + i) n) (P 1))))) : SR (u2 I2 (S + 2 + i) 4 (mnI 99 (I (S + 2 + i) 4 + r))) S n (spadeF P n i v) ∧ frS T S I (u2 I2 (S + 2 + i) 4 (mnI 99 (I (S + 2 + i) 4 + r))) := by
  have h2 := h.off o hTS
  have hr2 : r = riF P n v i := by
    rw [hr, cx_cF h hi, h.1 i hi 0 (by omega)]
    rfl
  refine ⟨⟨fun j hj k hk => ?_, ?_, ?_⟩, fun a k q1 q2 q3 => ?_⟩
  · unfold spadeF
    by_cases e : j = i ∧ k = 4
    · obtain ⟨rfl, rfl⟩ := e
      rw [u2_same, hr2, h.1 j hj 4 (by omega)]
      simp
    · rw [u2_ne (by omega), h2.1 j hj k hk]
      simp [e]
  · rw [u2_ne (by omega)]
    exact h2.2.1
  · rw [u2_ne (by omega)]
    exact h2.2.2
  · rw [u2_ne (by omega)]
    exact o a k q1
/-- the losses are counted up to i -/
def bt1 (T S n : Nat) (P : Nat → List Int32) (v : SV) (I J : HI) (i : Nat) : Prop := (∀ a k, ¬ scr T a k → ¬ (S + 2 ≤ a ∧ a < S + 10 ∧ k = 5) → J a k = I a k) ∧ ∀ o, o < i → J (S + 2 + o) 5 = leF P n v o
theorem bt1.fr {T S n i : Nat} {P : Nat → List Int32} {v : SV} {I J : HI} (h : bt1 T S n P v I J i) : frS T S I J := fun a k q1 q2 q3 => h.1 a k q1 (by omega)
theorem bt1.sr {T S n i : Nat} {P : Nat → List Int32} {v : SV} {I J : HI} (h : bt1 T S n P v I J i) (hs : SR I S n v) (hTS : T + 3 ≤ S) : SR J S n v :=
  ⟨fun j hj k hk => (h.1 _ _ (scr_no hTS (by omega)) (by omega)).trans (hs.1 j hj k hk), (h.1 _ _ (scr_no hTS (by omega)) (by omega)).trans hs.2.1, (h.1 _ _ (scr_no hTS (by omega)) (by omega)).trans hs.2.2⟩
theorem bt1.step {T S n i : Nat} {P : Nat → List Int32} {v : SV} {I J J2 : HI} {x : Int32} (h : bt1 T S n P v I J i) (hTS : T + 3 ≤ S) (o : offT T J J2) (hi : i < n) (hn8 : n ≤ 8) (hx : x = leF P n v i) : bt1 T S n P v I (u2 J2 (S + 2 + i) 5 x) (i + 1) := by
  refine ⟨fun a k q1 q2 => ?_, fun j hj => ?_⟩
  · rw [u2_ne (by omega), o a k q1]
    exact h.1 a k q1 q2
  · by_cases e : j = i
    · subst e
      rw [u2_same]
      exact hx
    · rw [u2_ne (by omega), o.out (by omega)]
      exact h.2 j (by omega)
/-- the heights have fallen up to i -/
def bt2 (T S n : Nat) (P : Nat → List Int32) (v : SV) (I J : HI) (i : Nat) : Prop := (∀ a k, ¬ scr T a k → ¬ (S + 2 ≤ a ∧ a < S + 10 ∧ 4 ≤ k) → J a k = I a k) ∧ (∀ o, o < n → J (S + 2 + o) 5 = leF P n v o) ∧ (∀ o, o < i → J (S + 2 + o) 4 = mxI 0 (v.1 o 4 - leF P n v o)) ∧ ∀ o, i ≤ o → o < n → J (S + 2 + o) 4 = v.1 o 4
theorem bt1.end_ {T S n : Nat} {P : Nat → List Int32} {v : SV} {I J : HI} (h : bt1 T S n P v I J n) (hs : SR I S n v) (hTS : T + 3 ≤ S) : bt2 T S n P v I J 0 :=
  ⟨fun a k q1 q2 => h.1 a k q1 (by omega), h.2, fun o ho => absurd ho (by omega), fun o _ ho => (h.sr hs hTS).1 o ho 4 (by omega)⟩
theorem bt2.step {T S n i : Nat} {P : Nat → List Int32} {v : SV} {I J : HI} {x : Int32} (h : bt2 T S n P v I J i) (hi : i < n) (hn8 : n ≤ 8) (hx : x = mxI 0 (J (S + 2 + i) 4 - J (S + 2 + i) 5)) : bt2 T S n P v I (u2 J (S + 2 + i) 4 x) (i + 1) := by
  refine ⟨fun a k q1 q2 => ?_, fun j hj => ?_, fun j hj => ?_, fun j hj hj2 => ?_⟩
  · rw [u2_ne (by omega)]
    exact h.1 a k q1 q2
  · rw [u2_ne (by omega)]
    exact h.2.1 j hj
  · by_cases e : j = i
    · subst e
      rw [u2_same, hx, h.2.2.2 j (by omega) hi, h.2.1 j hi]
    · rw [u2_ne (by omega)]
      exact h.2.2.1 j (by omega)
  · rw [u2_ne (by omega)]
    exact h.2.2.2 j (by omega) hj2
theorem bt2.end_ {T S n : Nat} {P : Nat → List Int32} {v : SV} {I J : HI} (h : bt2 T S n P v I J n) (hs : SR I S n v) (hTS : T + 3 ≤ S) : SR (u2 J S 3 (J S 3 + 1)) S n (beatF P n v) ∧ frS T S I (u2 J S 3 (J S 3 + 1)) := by
  have hw : J S 3 = v.2.2 := (h.1 S 3 (scr_no hTS (Nat.le_refl _)) (by omega)).trans hs.2.2
  refine ⟨⟨fun j hj k hk => ?_, ?_, ?_⟩, fun a k q1 q2 q3 => ?_⟩
  · rw [u2_ne (by omega)]
    unfold beatF
    by_cases e : k = 4
    · subst e
      rw [h.2.2.1 j hj]
      simp
    · rw [h.1 _ _ (scr_no hTS (by omega)) (by omega), hs.1 j hj k hk]
      simp [e]
  · rw [u2_ne (by omega)]
    exact (h.1 S 2 (scr_no hTS (Nat.le_refl _)) (by omega)).trans hs.2.1
  · rw [u2_same, hw]
    rfl
  · rw [u2_ne (by omega)]
    exact h.1 a k q1 q2
noncomputable def passF (P : Nat → List Int32) (n : Nat) (v : SV) (k : Nat) : SV := fd (fun _ u => beatF P n u) v k
end
section
set_option maxHeartbeats 4000000 in
set_option maxRecDepth 100000 in
theorem k_raise {G : GG} {Sh : HS} {I : HI} {R : HR} {S T n : Nat} {P : Nat → List Int32} {v : SV} (w : SW Sh I R S T n P) (hv : SR I S n v) {i : Nat} (hi : i < n) : AM G 6 0 0 yX4_raise cX4_raise 2 none [.ref S, .ref (S + 2 + i)] (Sh, I, R) (qv fun g => ∃ J : HI, g = (Sh, J, R) ∧ SR J S n (spadeF P n i v) ∧ frS T S I J) := by
  obtain ⟨hS, hR, hn, hn8, hrl, hT, hRT, hTX, hTS⟩ := id w
  refine am_intro (by decide) (Nat.le_of_ble_eq_true rfl) ?_
  refine x_aload_n dX4_raise_0 1 rfl rfl ?_
  refine x_bipush (v := 99) dX4_raise_1 (by decide) ?_
  refine x_aload_n dX4_raise_3 1 rfl rfl ?_
  refine x_gI (v := I (S + 2 + i) 4) dX4_raise_4 fl_4_60 rfl (hS.2.2 i (by omega)) rfl ?_
  refine x_aload_n dX4_raise_7 0 rfl rfl ?_
  refine x_aload_n dX4_raise_8 1 rfl rfl ?_
  refine x_callV (k_risesOf (G := G) (I := I) w (f := S + 2 + i) (hS.2.2 i (by omega)) (by omega)) dX4_raise_9 crc_X4_risesOf vc_4_81 hS.1 rfl rfl rfl rfl (Nat.le_of_ble_eq_true rfl) (roomy_k (by omega) (by decide)) (Nat.le_refl _) (Nat.le_refl _) ?_
  rintro _ _ ⟨r, rfl, hr, I2, hoff, rfl⟩
  refine x_iadd dX4_raise_12 ?_
  refine x_mmin dX4_raise_13 sc_4_85 (Nat.le_of_ble_eq_true rfl) (roomy_k (by omega) (by decide)) (Nat.le_refl _) (Nat.le_refl _) ?_
  refine x_pI dX4_raise_16 fl_4_60 rfl rfl rfl (hS.2.2 i (by omega)) (fun Iq1 e_Iq1 => ?_)
  refine x_vret dX4_raise_19 rfl (Nat.le_refl _) (Nat.le_refl _) ?_
  have hh := raise_ok hv hoff hTS hi hn8 hr
  rw [← e_Iq1] at hh
  exact ⟨_, rfl, hh.1, hh.2⟩

set_option maxHeartbeats 4000000 in
set_option maxRecDepth 100000 in
theorem k_beat_l2 {G : GG} {Sh : HS} {I : HI} {R : HR} {S T n : Nat} {P : Nat → List Int32} {v : SV} (w : SW Sh I R S T n P) (hv : SR I S n v) : ∀ (m : Nat) (i : Nat) (J : HI), (i ≤ n) → (n < i + m) → (bt2 T S n P v I J i) → X G (kM G 5 0 0 (qv fun g => ∃ J : HI, g = (Sh, J, R) ∧ SR J S n (beatF P n v) ∧ frS T S I J)) yX4_beat cX4_beat 3 none 0 0 63 [(1, .int (nI i)), (0, .ref S)] [] (Sh, J, R) := by
  intro m
  induction m with
  | zero =>
    intro i J hi hm hb
    exact absurd hm (by omega)
  | succ m ih =>
    intro i J hi hm hb
    obtain ⟨hS, hR, hn, hn8, hrl, hT, hRT, hTX, hTS⟩ := id w
    refine x_iload_n dX4_beat_63 0 rfl rfl ?_
    refine x_aload_n dX4_beat_64 1 rfl rfl ?_
    refine x_gI (v := nI n) dX4_beat_65 fl_4_22 rfl hS.1 (hb.1 S 1 (scr_no hTS (Nat.le_refl _)) (by omega) |>.trans hn) ?_
    refine x_icmp_ge (tgt := 107) dX4_beat_68 (by decide) (fun c_68 => ?_) (fun c_68 => ?_)
    · have c_68 : n ≤ i := (nI_leI (a := n) (b := i) (by omega) (by omega)).mp c_68
      refine x_aload_n dX4_beat_107 1 rfl rfl ?_
      refine x_dup dX4_beat_108 rfl ?_
      refine x_gI (v := J S 3) dX4_beat_109 fl_4_37 rfl hS.1 rfl ?_
      refine x_iconst (v := 1) dX4_beat_112 (by decide) ?_
      refine x_iadd dX4_beat_113 ?_
      refine x_pI dX4_beat_114 fl_4_37 rfl rfl rfl hS.1 (fun Iq1 e_Iq1 => ?_)
      refine x_vret dX4_beat_117 rfl (Nat.le_refl _) (Nat.le_refl _) ?_
      have hin : i = n := by omega
      subst hin
      have hh := hb.end_ hv hTS
      rw [← e_Iq1] at hh
      exact ⟨_, rfl, hh.1, hh.2⟩
    · have c_68 : ¬ n ≤ i := fun q => c_68 ((nI_leI (a := n) (b := i) (by omega) (by omega)).mpr q)
      refine x_iload_n dX4_beat_71 0 rfl rfl ?_
      refine x_bipush (v := 8) dX4_beat_72 (by decide) ?_
      refine x_icmp_ge (tgt := 107) dX4_beat_74 (by decide) (fun c_74 => ?_) (fun c_74 => ?_)
      · have c_74 : 8 ≤ i := (nI_leI (a := 8) (b := i) (by omega) (by omega)).mp c_74
        refine x_aload_n dX4_beat_107 1 rfl rfl ?_
        refine x_dup dX4_beat_108 rfl ?_
        refine x_gI (v := J S 3) dX4_beat_109 fl_4_37 rfl hS.1 rfl ?_
        refine x_iconst (v := 1) dX4_beat_112 (by decide) ?_
        refine x_iadd dX4_beat_113 ?_
        refine x_pI dX4_beat_114 fl_4_37 rfl rfl rfl hS.1 (fun Iq2 e_Iq2 => ?_)
        refine x_vret dX4_beat_117 rfl (Nat.le_refl _) (Nat.le_refl _) ?_
        have hin : i = n := by omega
        subst hin
        have hh := hb.end_ hv hTS
        rw [← e_Iq2] at hh
        exact ⟨_, rfl, hh.1, hh.2⟩
      · have c_74 : ¬ 8 ≤ i := fun q => c_74 ((nI_leI (a := 8) (b := i) (by omega) (by omega)).mpr q)
        refine x_aload_n dX4_beat_77 1 rfl rfl ?_
        refine x_gR (b := S + 1) dX4_beat_78 fl_4_11 rfl hS.1 hR.1 ?_
        refine x_iload_n dX4_beat_81 0 rfl rfl ?_
        refine x_aa (j := i) (b := S + 2 + i) dX4_beat_82 hS.2.1 (by decide) (by decide) rfl (by omega) (by omega) (hR.2 i (by omega)) ?_
        refine x_astore_n (lv' := [(2, .ref (S + 2 + i)), (1, .int (nI i)), (0, .ref S)]) dX4_beat_83 rfl (by decide) rfl ?_
        refine x_aload_n dX4_beat_84 0 rfl rfl ?_
        refine x_iconst (v := 0) dX4_beat_85 (by decide) ?_
        refine x_aload_n dX4_beat_86 0 rfl rfl ?_
        refine x_gI (v := J (S + 2 + i) 4) dX4_beat_87 fl_4_60 rfl (hS.2.2 i (by omega)) rfl ?_
        refine x_aload_n dX4_beat_90 0 rfl rfl ?_
        refine x_gI (v := J (S + 2 + i) 5) dX4_beat_91 fl_4_70 rfl (hS.2.2 i (by omega)) rfl ?_
        refine x_isub dX4_beat_94 ?_
        refine x_mmax dX4_beat_95 sc_4_73 (Nat.le_of_ble_eq_true rfl) (roomy_k (by omega) (by decide)) (Nat.le_refl _) (Nat.le_refl _) ?_
        refine x_pI dX4_beat_98 fl_4_60 rfl rfl rfl (hS.2.2 i (by omega)) (fun Iq3 e_Iq3 => ?_)
        refine x_iinc (v := nI (i + 1)) (lv' := [(1, .int (nI (i + 1))), (2, .ref (S + 2 + i)), (0, .ref S)]) dX4_beat_101 1 rfl (nI_1 i) (by decide) rfl ?_
        refine x_goto (tgt := 63) dX4_beat_104 (by decide) ?_
        refine x_sub [0, 2] rfl ?_
        exact ih (i + 1) Iq3 (by omega) (by omega) (by rw [e_Iq3]; exact hb.step (by omega) hn8 rfl)

set_option maxHeartbeats 4000000 in
set_option maxRecDepth 100000 in
theorem k_beat_l1 {G : GG} {Sh : HS} {I : HI} {R : HR} {S T n : Nat} {P : Nat → List Int32} {v : SV} (w : SW Sh I R S T n P) (hv : SR I S n v) : ∀ (m : Nat) (i : Nat) (J : HI), (i ≤ n) → (n < i + m) → (bt1 T S n P v I J i) → X G (kM G 5 0 0 (qv fun g => ∃ J : HI, g = (Sh, J, R) ∧ SR J S n (beatF P n v) ∧ frS T S I J)) yX4_beat cX4_beat 3 none 0 0 2 [(1, .int (nI i)), (0, .ref S)] [] (Sh, J, R) := by
  intro m
  induction m with
  | zero =>
    intro i J hi hm hb
    exact absurd hm (by omega)
  | succ m ih =>
    intro i J hi hm hb
    obtain ⟨hS, hR, hn, hn8, hrl, hT, hRT, hTX, hTS⟩ := id w
    refine x_iload_n dX4_beat_2 0 rfl rfl ?_
    refine x_aload_n dX4_beat_3 1 rfl rfl ?_
    refine x_gI (v := nI n) dX4_beat_4 fl_4_22 rfl hS.1 (hb.fr S 1 (scr_no hTS (Nat.le_refl _)) (by omega) (by omega) |>.trans hn) ?_
    refine x_icmp_ge (tgt := 61) dX4_beat_7 (by decide) (fun c_7 => ?_) (fun c_7 => ?_)
    · have c_7 : n ≤ i := (nI_leI (a := n) (b := i) (by omega) (by omega)).mp c_7
      refine x_iconst (v := 0) dX4_beat_61 (by decide) ?_
      refine x_istore_n (lv' := [(1, .int 0), (0, .ref S)]) dX4_beat_62 rfl (by decide) rfl ?_
      refine x_sub [0, 1] rfl ?_
      have hin : i = n := by omega
      subst hin
      exact k_beat_l2 w hv (i + 1) 0 J (by omega) (by omega) (hb.end_ hv hTS)
    · have c_7 : ¬ n ≤ i := fun q => c_7 ((nI_leI (a := n) (b := i) (by omega) (by omega)).mpr q)
      refine x_iload_n dX4_beat_10 0 rfl rfl ?_
      refine x_bipush (v := 8) dX4_beat_11 (by decide) ?_
      refine x_icmp_ge (tgt := 61) dX4_beat_13 (by decide) (fun c_13 => ?_) (fun c_13 => ?_)
      · have c_13 : 8 ≤ i := (nI_leI (a := 8) (b := i) (by omega) (by omega)).mp c_13
        refine x_iconst (v := 0) dX4_beat_61 (by decide) ?_
        refine x_istore_n (lv' := [(1, .int 0), (0, .ref S)]) dX4_beat_62 rfl (by decide) rfl ?_
        refine x_sub [0, 1] rfl ?_
        have hin : i = n := by omega
        subst hin
        exact k_beat_l2 w hv (i + 1) 0 J (by omega) (by omega) (hb.end_ hv hTS)
      · have c_13 : ¬ 8 ≤ i := fun q => c_13 ((nI_leI (a := 8) (b := i) (by omega) (by omega)).mpr q)
        refine x_aload_n dX4_beat_16 1 rfl rfl ?_
        refine x_gR (b := S + 1) dX4_beat_17 fl_4_11 rfl hS.1 hR.1 ?_
        refine x_iload_n dX4_beat_20 0 rfl rfl ?_
        refine x_aa (j := i) (b := S + 2 + i) dX4_beat_21 hS.2.1 (by decide) (by decide) rfl (by omega) (by omega) (hR.2 i (by omega)) ?_
        refine x_astore_n (lv' := [(2, .ref (S + 2 + i)), (1, .int (nI i)), (0, .ref S)]) dX4_beat_22 rfl (by decide) rfl ?_
        refine x_aload_n dX4_beat_23 0 rfl rfl ?_
        refine x_aload_n dX4_beat_24 0 rfl rfl ?_
        refine x_callV (k_stands (G := G) (Sh := Sh) (I := J) (R := R) (f := S + 2 + i) (hS.2.2 i (by omega))) dX4_beat_25 crc_X0_stands vc_4_66 (hS.2.2 i (by omega)) rfl rfl rfl rfl (Nat.le_of_ble_eq_true rfl) (roomy_k (by omega) (by decide)) (Nat.le_refl _) (Nat.le_refl _) ?_
        rintro _ _ ⟨rs, rfl, hrs, rfl⟩
        subst hrs
        refine x_if_eqB (tgt := 51) dX4_beat_28 (by decide) (fun c_28 => ?_) (fun c_28 => ?_)
        · refine x_iconst (v := 0) dX4_beat_51 (by decide) ?_
          refine x_pI dX4_beat_52 fl_4_70 rfl rfl rfl (hS.2.2 i (by omega)) (fun Iq1 e_Iq1 => ?_)
          refine x_iinc (v := nI (i + 1)) (lv' := [(1, .int (nI (i + 1))), (2, .ref (S + 2 + i)), (0, .ref S)]) dX4_beat_55 1 rfl (nI_1 i) (by decide) rfl ?_
          refine x_goto (tgt := 2) dX4_beat_58 (by decide) ?_
          refine x_sub [0, 2] rfl ?_
          exact ih (i + 1) Iq1 (by omega) (by omega) (by
            rw [e_Iq1]
            refine hb.step hTS offT.rf (by omega) hn8 ?_
            unfold leF
            rw [← (hb.sr hv hTS).1 i (by omega) 4 (by omega), if_neg c_28])
        · refine x_aload_n dX4_beat_31 0 rfl rfl ?_
          refine x_aload_n dX4_beat_32 2 rfl rfl ?_
          refine x_gR (b := T) dX4_beat_33 fl_4_17 rfl hS.1 hrl ?_
          refine x_aload_n dX4_beat_36 2 rfl rfl ?_
          refine x_aload_n dX4_beat_37 0 rfl rfl ?_
          refine x_callV (k_strikeOn (G := G) (I := J) (w.fr hb.fr) (f := S + 2 + i) (hS.2.2 i (by omega)) (by omega)) dX4_beat_38 crc_X6_strikeOn vc_4_40 hT.1 rfl rfl rfl rfl (Nat.le_of_ble_eq_true rfl) (roomy_k (by omega) (by decide)) (Nat.le_refl _) (Nat.le_refl _) ?_
          rintro _ _ ⟨r, rfl, hr, I2, hoff, rfl⟩
          refine x_aload_n dX4_beat_41 2 rfl rfl ?_
          refine x_gI (v := v.2.2) dX4_beat_42 fl_4_37 rfl hS.1 ((hoff.out (by omega)).trans (hb.sr hv hTS).2.2) ?_
          refine x_callV (k_lossBy (G := G) (Sh := Sh) (I := I2) (R := R) (f := S + 2 + i) (v := r) (w := v.2.2) (hS.2.2 i (by omega))) dX4_beat_45 crc_X0_lossBy vc_4_46 (hS.2.2 i (by omega)) rfl rfl rfl rfl (Nat.le_of_ble_eq_true rfl) (roomy_k (by omega) (by decide)) (Nat.le_refl _) (Nat.le_refl _) ?_
          rintro _ _ ⟨r2, rfl, hr2, rfl⟩
          refine x_goto (tgt := 52) dX4_beat_48 (by decide) ?_
          refine x_pI dX4_beat_52 fl_4_70 rfl rfl rfl (hS.2.2 i (by omega)) (fun Iq2 e_Iq2 => ?_)
          refine x_iinc (v := nI (i + 1)) (lv' := [(1, .int (nI (i + 1))), (2, .ref (S + 2 + i)), (0, .ref S)]) dX4_beat_55 1 rfl (nI_1 i) (by decide) rfl ?_
          refine x_goto (tgt := 2) dX4_beat_58 (by decide) ?_
          refine x_sub [0, 2] rfl ?_
          exact ih (i + 1) Iq2 (by omega) (by omega) (by
            rw [e_Iq2]
            refine hb.step hTS hoff (by omega) hn8 ?_
            have hs := hb.sr hv hTS
            unfold leF
            rw [← hs.1 i (by omega) 4 (by omega), if_pos c_28, hr2, hr, hoff.out (by omega), hoff.out (by omega), hs.1 i (by omega) 0 (by omega), hs.1 i (by omega) 1 (by omega), cx_cF hs (by omega)]
            rfl)

set_option maxHeartbeats 4000000 in
set_option maxRecDepth 100000 in
theorem k_beat {G : GG} {Sh : HS} {I : HI} {R : HR} {S T n : Nat} {P : Nat → List Int32} {v : SV} (w : SW Sh I R S T n P) (hv : SR I S n v) : AM G 5 0 0 yX4_beat cX4_beat 3 none [.ref S] (Sh, I, R) (qv fun g => ∃ J : HI, g = (Sh, J, R) ∧ SR J S n (beatF P n v) ∧ frS T S I J) := by
  refine am_intro (by decide) (Nat.le_of_ble_eq_true rfl) ?_
  refine x_iconst (v := nI 0) dX4_beat_0 (by decide) ?_
  refine x_istore_n (lv' := [(1, .int (nI 0)), (0, .ref S)]) dX4_beat_1 rfl (by decide) rfl ?_
  exact k_beat_l1 w hv (n + 1) 0 I (by omega) (by omega) ⟨fun _ _ _ _ => rfl, fun o ho => absurd ho (by omega)⟩

set_option maxHeartbeats 4000000 in
set_option maxRecDepth 100000 in
theorem k_pass_l {G : GG} {Sh : HS} {I : HI} {R : HR} {S T n : Nat} {P : Nat → List Int32} {v : SV} (w : SW Sh I R S T n P) (hv : SR I S n v) {k : Nat} (hk : k < 2147483648) : ∀ (m : Nat) (i : Nat) (J : HI), (i ≤ k) → (k < i + m) → (SR J S n (passF P n v i)) → (frS T S I J) → X G (kM G 6 0 0 (qv fun g => ∃ J : HI, g = (Sh, J, R) ∧ SR J S n (passF P n v k) ∧ frS T S I J)) yX4_pass cX4_pass 3 none 0 0 2 [(2, .int (nI i)), (0, .ref S), (1, .int (nI k))] [] (Sh, J, R) := by
  intro m
  induction m with
  | zero =>
    intro i J hi hm hs hfr
    exact absurd hm (by omega)
  | succ m ih =>
    intro i J hi hm hs hfr
    obtain ⟨hS, hR, hn, hn8, hrl, hT, hRT, hTX, hTS⟩ := id w
    refine x_iload_n dX4_pass_2 0 rfl rfl ?_
    refine x_iload_n dX4_pass_3 2 rfl rfl ?_
    refine x_icmp_ge (tgt := 17) dX4_pass_4 (by decide) (fun c_4 => ?_) (fun c_4 => ?_)
    · have c_4 : k ≤ i := (nI_leI (a := k) (b := i) (by omega) (by omega)).mp c_4
      refine x_vret dX4_pass_17 rfl (Nat.le_refl _) (Nat.le_refl _) ?_
      have hin : i = k := by omega
      subst hin
      exact ⟨J, rfl, hs, hfr⟩
    · have c_4 : ¬ k ≤ i := fun q => c_4 ((nI_leI (a := k) (b := i) (by omega) (by omega)).mpr q)
      refine x_aload_n dX4_pass_7 1 rfl rfl ?_
      refine x_callV (k_beat (G := G) (I := J) (w.fr hfr) hs) dX4_pass_8 crc_X4_beat vc_4_78 hS.1 rfl rfl rfl rfl (Nat.le_of_ble_eq_true rfl) (roomy_k (by omega) (by decide)) (Nat.le_refl _) (Nat.le_refl _) ?_
      rintro _ _ ⟨rfl, J2, rfl, hs2, hfr2⟩
      refine x_iinc (v := nI (i + 1)) (lv' := [(2, .int (nI (i + 1))), (0, .ref S), (1, .int (nI k))]) dX4_pass_11 0 rfl (nI_1 i) (by decide) rfl ?_
      refine x_goto (tgt := 2) dX4_pass_14 (by decide) ?_
      refine x_sub [0, 1, 2] rfl ?_
      exact ih (i + 1) J2 (by omega) (by omega) hs2 (hfr.tr hfr2)

set_option maxHeartbeats 4000000 in
set_option maxRecDepth 100000 in
theorem k_pass {G : GG} {Sh : HS} {I : HI} {R : HR} {S T n : Nat} {P : Nat → List Int32} {v : SV} (w : SW Sh I R S T n P) (hv : SR I S n v) {k : Nat} (hk : k < 2147483648) : AM G 6 0 0 yX4_pass cX4_pass 3 none [.ref S, .int (nI k)] (Sh, I, R) (qv fun g => ∃ J : HI, g = (Sh, J, R) ∧ SR J S n (passF P n v k) ∧ frS T S I J) := by
  refine am_intro (by decide) (Nat.le_of_ble_eq_true rfl) ?_
  refine x_iconst (v := nI 0) dX4_pass_0 (by decide) ?_
  refine x_istore_n (lv' := [(2, .int (nI 0)), (0, .ref S), (1, .int (nI k))]) dX4_pass_1 rfl (by decide) rfl ?_
  exact k_pass_l w hv hk (k + 1) 0 I (by omega) (by omega) hv frS.rf

set_option maxHeartbeats 4000000 in
set_option maxRecDepth 100000 in
theorem k_standing_l {G : GG} {Sh : HS} {I : HI} {R : HR} {S T n : Nat} {P : Nat → List Int32} {v : SV} (w : SW Sh I R S T n P) (hv : SR I S n v) : ∀ (m : Nat) (i : Nat) (acc : Int32), (i ≤ n) → (n < i + m) → (acc = standF i v) → X G (kM G 2 0 0 (qi fun r g => r = standF n v ∧ g = (Sh, I, R))) yX4_standing cX4_standing 3 (some .int) 0 0 4 [(2, .int (nI i)), (1, .int acc), (0, .ref S)] [] (Sh, I, R) := by
  intro m
  induction m with
  | zero =>
    intro i acc hi hm hacc
    exact absurd hm (by omega)
  | succ m ih =>
    intro i acc hi hm hacc
    obtain ⟨hS, hR, hn, hn8, hrl, hT, hRT, hTX, hTS⟩ := id w
    refine x_iload_n dX4_standing_4 0 rfl rfl ?_
    refine x_aload_n dX4_standing_5 2 rfl rfl ?_
    refine x_gI (v := nI n) dX4_standing_6 fl_4_22 rfl hS.1 hn ?_
    refine x_icmp_ge (tgt := 42) dX4_standing_9 (by decide) (fun c_9 => ?_) (fun c_9 => ?_)
    · have c_9 : n ≤ i := (nI_leI (a := n) (b := i) (by omega) (by omega)).mp c_9
      refine x_iload_n dX4_standing_42 1 rfl rfl ?_
      refine x_iret dX4_standing_43 rfl (Nat.le_refl _) (Nat.le_refl _) ?_
      have hin : i = n := by omega
      subst hin
      exact ⟨hacc, rfl⟩
    · have c_9 : ¬ n ≤ i := fun q => c_9 ((nI_leI (a := n) (b := i) (by omega) (by omega)).mpr q)
      refine x_iload_n dX4_standing_12 0 rfl rfl ?_
      refine x_bipush (v := 8) dX4_standing_13 (by decide) ?_
      refine x_icmp_ge (tgt := 42) dX4_standing_15 (by decide) (fun c_15 => ?_) (fun c_15 => ?_)
      · have c_15 : 8 ≤ i := (nI_leI (a := 8) (b := i) (by omega) (by omega)).mp c_15
        refine x_iload_n dX4_standing_42 1 rfl rfl ?_
        refine x_iret dX4_standing_43 rfl (Nat.le_refl _) (Nat.le_refl _) ?_
        have hin : i = n := by omega
        subst hin
        exact ⟨hacc, rfl⟩
      · have c_15 : ¬ 8 ≤ i := fun q => c_15 ((nI_leI (a := 8) (b := i) (by omega) (by omega)).mpr q)
        refine x_aload_n dX4_standing_18 2 rfl rfl ?_
        refine x_gR (b := S + 1) dX4_standing_19 fl_4_11 rfl hS.1 hR.1 ?_
        refine x_iload_n dX4_standing_22 0 rfl rfl ?_
        refine x_aa (j := i) (b := S + 2 + i) dX4_standing_23 hS.2.1 (by decide) (by decide) rfl (by omega) (by omega) (hR.2 i (by omega)) ?_
        refine x_callV (k_stands (G := G) (Sh := Sh) (I := I) (R := R) (f := S + 2 + i) (hS.2.2 i (by omega))) dX4_standing_24 crc_X0_stands vc_4_66 (hS.2.2 i (by omega)) rfl rfl rfl rfl (Nat.le_of_ble_eq_true rfl) (roomy_k (by omega) (by decide)) (Nat.le_refl _) (Nat.le_refl _) ?_
        rintro _ _ ⟨rs, rfl, hrs, rfl⟩
        subst hrs
        refine x_if_eqB (tgt := 36) dX4_standing_27 (by decide) (fun c_27 => ?_) (fun c_27 => ?_)
        · refine x_iinc (v := nI (i + 1)) (lv' := [(2, .int (nI (i + 1))), (1, .int acc), (0, .ref S)]) dX4_standing_36 0 rfl (nI_1 i) (by decide) rfl ?_
          refine x_goto (tgt := 4) dX4_standing_39 (by decide) ?_
          refine x_sub [0, 1, 2] rfl ?_
          exact ih (i + 1) acc (by omega) (by omega) (by
            unfold standF at *
            rw [fd_s, ← hacc, ← hv.1 i (by omega) 4 (by omega), if_neg c_27])
        · refine x_iload_n dX4_standing_30 1 rfl rfl ?_
          refine x_iconst (v := 1) dX4_standing_31 (by decide) ?_
          refine x_iload_n dX4_standing_32 0 rfl rfl ?_
          refine x_ishl dX4_standing_33 ?_
          refine x_ior dX4_standing_34 ?_
          refine x_topi (fun xq1 e_xq1 => ?_)
          refine x_istore_n (lv' := [(1, .int xq1), (2, .int (nI i)), (0, .ref S)]) dX4_standing_35 rfl (by decide) rfl ?_
          refine x_iinc (v := nI (i + 1)) (lv' := [(2, .int (nI (i + 1))), (1, .int xq1), (0, .ref S)]) dX4_standing_36 1 rfl (nI_1 i) (by decide) rfl ?_
          refine x_goto (tgt := 4) dX4_standing_39 (by decide) ?_
          refine x_sub [0, 1, 2] rfl ?_
          exact ih (i + 1) xq1 (by omega) (by omega) (by
            unfold standF at *
            rw [fd_s, ← hacc, ← hv.1 i (by omega) 4 (by omega), if_pos c_27]; exact e_xq1)

set_option maxHeartbeats 4000000 in
set_option maxRecDepth 100000 in
theorem k_standing {G : GG} {Sh : HS} {I : HI} {R : HR} {S T n : Nat} {P : Nat → List Int32} {v : SV} (w : SW Sh I R S T n P) (hv : SR I S n v) : AM G 2 0 0 yX4_standing cX4_standing 3 (some .int) [.ref S] (Sh, I, R) (qi fun r g => r = standF n v ∧ g = (Sh, I, R)) := by
  refine am_intro (by decide) (Nat.le_of_ble_eq_true rfl) ?_
  refine x_iconst (v := 0) dX4_standing_0 (by decide) ?_
  refine x_istore_n (lv' := [(1, .int 0), (0, .ref S)]) dX4_standing_1 rfl (by decide) rfl ?_
  refine x_iconst (v := 0) dX4_standing_2 (by decide) ?_
  refine x_istore_n (lv' := [(2, .int 0), (1, .int 0), (0, .ref S)]) dX4_standing_3 rfl (by decide) rfl ?_
  exact k_standing_l w hv (n + 1) 0 0 (by omega) (by omega) rfl
end
section
set_option maxHeartbeats 4000000 in
set_option maxRecDepth 100000 in
theorem k_bay_l {G : GG} {Sh : HS} {I : HI} {R : HR} {S T n : Nat} {P : Nat → List Int32} {v : SV} (w : SW Sh I R S T n P) (hv : SR I S n v) : ∀ (m : Nat) (i : Nat) (acc qcc : Int32), (i ≤ n) → (n < i + m) → (acc = bayM v i) → (qcc = bayQ v i) → X G (kM G 2 0 0 (qi fun r g => r = bayF n v ∧ g = (Sh, I, R))) yX4_bay cX4_bay 6 (some .int) 0 0 6 [(3, .int (nI i)), (2, .int qcc), (1, .int acc), (0, .ref S)] [] (Sh, I, R) := by
  intro m
  induction m with
  | zero =>
    intro i acc qcc hi hm hacc hqcc
    exact absurd hm (by omega)
  | succ m ih =>
    intro i acc qcc hi hm hacc hqcc
    obtain ⟨hS, hR, hn, hn8, hrl, hT, hRT, hTX, hTS⟩ := id w
    refine x_iload_n dX4_bay_6 0 rfl rfl ?_
    refine x_aload_n dX4_bay_7 3 rfl rfl ?_
    refine x_gI (v := nI n) dX4_bay_8 fl_4_22 rfl hS.1 hn ?_
    refine x_icmp_ge (tgt := 77) dX4_bay_11 (by decide) (fun c_11 => ?_) (fun c_11 => ?_)
    · have c_11 : n ≤ i := (nI_leI (a := n) (b := i) (by omega) (by omega)).mp c_11
      refine x_iload_n dX4_bay_77 2 rfl rfl ?_
      refine x_if_eq (tgt := 85) dX4_bay_78 (by decide) (fun c_78 => ?_) (fun c_78 => ?_)
      · refine x_iload_n dX4_bay_85 1 rfl rfl ?_
        refine x_istore_n (lv' := [(3, .int qcc), (2, .int qcc), (1, .int acc), (0, .ref S)]) dX4_bay_86 rfl (by decide) rfl ?_
        refine x_iload_n dX4_bay_87 0 rfl rfl ?_
        refine x_if_ne (tgt := 93) dX4_bay_88 (by decide) (fun c_88 => ?_) (fun c_88 => ?_)
        · refine x_iload_n dX4_bay_93 0 rfl rfl ?_
          refine x_if_le (tgt := 101) dX4_bay_94 (by decide) (fun c_94 => ?_) (fun c_94 => ?_)
          · refine x_iconst (v := 1) dX4_bay_101 (by decide) ?_
            refine x_iret dX4_bay_102 rfl (Nat.le_refl _) (Nat.le_refl _) ?_
            have hin : i = n := by omega
            subst hin
            refine ⟨?_, rfl⟩
            have hx : (if ¬ acc = 0 then acc else qcc) = qcc := by rw [if_neg (fun q => q c_78)]
            unfold bayF bayX
            rw [← hacc, ← hqcc, hx, if_neg c_88, if_neg (Int32.not_lt.mpr c_94)]
          · refine x_iconst (v := 0) dX4_bay_97 (by decide) ?_
            refine x_goto (tgt := 102) dX4_bay_98 (by decide) ?_
            refine x_iret dX4_bay_102 rfl (Nat.le_refl _) (Nat.le_refl _) ?_
            have hin : i = n := by omega
            subst hin
            refine ⟨?_, rfl⟩
            have hx : (if ¬ acc = 0 then acc else qcc) = qcc := by rw [if_neg (fun q => q c_78)]
            unfold bayF bayX
            rw [← hacc, ← hqcc, hx, if_neg c_88, if_pos (Int32.not_le.mp c_94)]
        · refine x_iconst (v := (-1)) dX4_bay_91 (by decide) ?_
          refine x_iret dX4_bay_92 rfl (Nat.le_refl _) (Nat.le_refl _) ?_
          have hin : i = n := by omega
          subst hin
          refine ⟨?_, rfl⟩
          have hx : (if ¬ acc = 0 then acc else qcc) = qcc := by rw [if_neg (fun q => q c_78)]
          unfold bayF bayX
          rw [← hacc, ← hqcc, hx, if_pos c_88]
      · refine x_iload_n dX4_bay_81 2 rfl rfl ?_
        refine x_goto (tgt := 86) dX4_bay_82 (by decide) ?_
        refine x_istore_n (lv' := [(3, .int acc), (2, .int qcc), (1, .int acc), (0, .ref S)]) dX4_bay_86 rfl (by decide) rfl ?_
        refine x_iload_n dX4_bay_87 0 rfl rfl ?_
        refine x_if_ne (tgt := 93) dX4_bay_88 (by decide) (fun c_88 => ?_) (fun c_88 => ?_)
        · refine x_iload_n dX4_bay_93 0 rfl rfl ?_
          refine x_if_le (tgt := 101) dX4_bay_94 (by decide) (fun c_94 => ?_) (fun c_94 => ?_)
          · refine x_iconst (v := 1) dX4_bay_101 (by decide) ?_
            refine x_iret dX4_bay_102 rfl (Nat.le_refl _) (Nat.le_refl _) ?_
            have hin : i = n := by omega
            subst hin
            refine ⟨?_, rfl⟩
            have hx : (if ¬ acc = 0 then acc else qcc) = acc := if_pos c_78
            unfold bayF bayX
            rw [← hacc, ← hqcc, hx, if_neg c_88, if_neg (Int32.not_lt.mpr c_94)]
          · refine x_iconst (v := 0) dX4_bay_97 (by decide) ?_
            refine x_goto (tgt := 102) dX4_bay_98 (by decide) ?_
            refine x_iret dX4_bay_102 rfl (Nat.le_refl _) (Nat.le_refl _) ?_
            have hin : i = n := by omega
            subst hin
            refine ⟨?_, rfl⟩
            have hx : (if ¬ acc = 0 then acc else qcc) = acc := if_pos c_78
            unfold bayF bayX
            rw [← hacc, ← hqcc, hx, if_neg c_88, if_pos (Int32.not_le.mp c_94)]
        · refine x_iconst (v := (-1)) dX4_bay_91 (by decide) ?_
          refine x_iret dX4_bay_92 rfl (Nat.le_refl _) (Nat.le_refl _) ?_
          have hin : i = n := by omega
          subst hin
          refine ⟨?_, rfl⟩
          have hx : (if ¬ acc = 0 then acc else qcc) = acc := if_pos c_78
          unfold bayF bayX
          rw [← hacc, ← hqcc, hx, if_pos c_88]
    · have c_11 : ¬ n ≤ i := fun q => c_11 ((nI_leI (a := n) (b := i) (by omega) (by omega)).mpr q)
      refine x_iload_n dX4_bay_14 0 rfl rfl ?_
      refine x_bipush (v := 8) dX4_bay_15 (by decide) ?_
      refine x_icmp_ge (tgt := 77) dX4_bay_17 (by decide) (fun c_17 => ?_) (fun c_17 => ?_)
      · have c_17 : 8 ≤ i := (nI_leI (a := 8) (b := i) (by omega) (by omega)).mp c_17
        refine x_iload_n dX4_bay_77 2 rfl rfl ?_
        refine x_if_eq (tgt := 85) dX4_bay_78 (by decide) (fun c_78 => ?_) (fun c_78 => ?_)
        · refine x_iload_n dX4_bay_85 1 rfl rfl ?_
          refine x_istore_n (lv' := [(3, .int qcc), (2, .int qcc), (1, .int acc), (0, .ref S)]) dX4_bay_86 rfl (by decide) rfl ?_
          refine x_iload_n dX4_bay_87 0 rfl rfl ?_
          refine x_if_ne (tgt := 93) dX4_bay_88 (by decide) (fun c_88 => ?_) (fun c_88 => ?_)
          · refine x_iload_n dX4_bay_93 0 rfl rfl ?_
            refine x_if_le (tgt := 101) dX4_bay_94 (by decide) (fun c_94 => ?_) (fun c_94 => ?_)
            · refine x_iconst (v := 1) dX4_bay_101 (by decide) ?_
              refine x_iret dX4_bay_102 rfl (Nat.le_refl _) (Nat.le_refl _) ?_
              have hin : i = n := by omega
              subst hin
              refine ⟨?_, rfl⟩
              have hx : (if ¬ acc = 0 then acc else qcc) = qcc := by rw [if_neg (fun q => q c_78)]
              unfold bayF bayX
              rw [← hacc, ← hqcc, hx, if_neg c_88, if_neg (Int32.not_lt.mpr c_94)]
            · refine x_iconst (v := 0) dX4_bay_97 (by decide) ?_
              refine x_goto (tgt := 102) dX4_bay_98 (by decide) ?_
              refine x_iret dX4_bay_102 rfl (Nat.le_refl _) (Nat.le_refl _) ?_
              have hin : i = n := by omega
              subst hin
              refine ⟨?_, rfl⟩
              have hx : (if ¬ acc = 0 then acc else qcc) = qcc := by rw [if_neg (fun q => q c_78)]
              unfold bayF bayX
              rw [← hacc, ← hqcc, hx, if_neg c_88, if_pos (Int32.not_le.mp c_94)]
          · refine x_iconst (v := (-1)) dX4_bay_91 (by decide) ?_
            refine x_iret dX4_bay_92 rfl (Nat.le_refl _) (Nat.le_refl _) ?_
            have hin : i = n := by omega
            subst hin
            refine ⟨?_, rfl⟩
            have hx : (if ¬ acc = 0 then acc else qcc) = qcc := by rw [if_neg (fun q => q c_78)]
            unfold bayF bayX
            rw [← hacc, ← hqcc, hx, if_pos c_88]
        · refine x_iload_n dX4_bay_81 2 rfl rfl ?_
          refine x_goto (tgt := 86) dX4_bay_82 (by decide) ?_
          refine x_istore_n (lv' := [(3, .int acc), (2, .int qcc), (1, .int acc), (0, .ref S)]) dX4_bay_86 rfl (by decide) rfl ?_
          refine x_iload_n dX4_bay_87 0 rfl rfl ?_
          refine x_if_ne (tgt := 93) dX4_bay_88 (by decide) (fun c_88 => ?_) (fun c_88 => ?_)
          · refine x_iload_n dX4_bay_93 0 rfl rfl ?_
            refine x_if_le (tgt := 101) dX4_bay_94 (by decide) (fun c_94 => ?_) (fun c_94 => ?_)
            · refine x_iconst (v := 1) dX4_bay_101 (by decide) ?_
              refine x_iret dX4_bay_102 rfl (Nat.le_refl _) (Nat.le_refl _) ?_
              have hin : i = n := by omega
              subst hin
              refine ⟨?_, rfl⟩
              have hx : (if ¬ acc = 0 then acc else qcc) = acc := if_pos c_78
              unfold bayF bayX
              rw [← hacc, ← hqcc, hx, if_neg c_88, if_neg (Int32.not_lt.mpr c_94)]
            · refine x_iconst (v := 0) dX4_bay_97 (by decide) ?_
              refine x_goto (tgt := 102) dX4_bay_98 (by decide) ?_
              refine x_iret dX4_bay_102 rfl (Nat.le_refl _) (Nat.le_refl _) ?_
              have hin : i = n := by omega
              subst hin
              refine ⟨?_, rfl⟩
              have hx : (if ¬ acc = 0 then acc else qcc) = acc := if_pos c_78
              unfold bayF bayX
              rw [← hacc, ← hqcc, hx, if_neg c_88, if_pos (Int32.not_le.mp c_94)]
          · refine x_iconst (v := (-1)) dX4_bay_91 (by decide) ?_
            refine x_iret dX4_bay_92 rfl (Nat.le_refl _) (Nat.le_refl _) ?_
            have hin : i = n := by omega
            subst hin
            refine ⟨?_, rfl⟩
            have hx : (if ¬ acc = 0 then acc else qcc) = acc := if_pos c_78
            unfold bayF bayX
            rw [← hacc, ← hqcc, hx, if_pos c_88]
      · have c_17 : ¬ 8 ≤ i := fun q => c_17 ((nI_leI (a := 8) (b := i) (by omega) (by omega)).mpr q)
        refine x_aload_n dX4_bay_20 3 rfl rfl ?_
        refine x_gR (b := S + 1) dX4_bay_21 fl_4_11 rfl hS.1 hR.1 ?_
        refine x_iload_n dX4_bay_24 0 rfl rfl ?_
        refine x_aa (j := i) (b := S + 2 + i) dX4_bay_25 hS.2.1 (by decide) (by decide) rfl (by omega) (by omega) (hR.2 i (by omega)) ?_
        refine x_astore (lv' := [(4, .ref (S + 2 + i)), (3, .int (nI i)), (2, .int qcc), (1, .int acc), (0, .ref S)]) dX4_bay_26 (by decide) rfl ?_
        refine x_aload dX4_bay_28 0 rfl ?_
        refine x_gI (v := I (S + 2 + i) 3) dX4_bay_30 fl_4_88 rfl (hS.2.2 i (by omega)) rfl ?_
        refine x_if_ne (tgt := 40) dX4_bay_33 (by decide) (fun c_33 => ?_) (fun c_33 => ?_)
        · refine x_iconst (v := (-1)) dX4_bay_40 (by decide) ?_
          refine x_istore (lv' := [(5, .int (-1)), (4, .ref (S + 2 + i)), (3, .int (nI i)), (2, .int qcc), (1, .int acc), (0, .ref S)]) dX4_bay_41 (by decide) rfl ?_
          refine x_iload_n dX4_bay_43 4 rfl rfl ?_
          refine x_aload dX4_bay_44 1 rfl ?_
          refine x_callV (k_stands (G := G) (Sh := Sh) (I := I) (R := R) (f := S + 2 + i) (hS.2.2 i (by omega))) dX4_bay_46 crc_X0_stands vc_4_66 (hS.2.2 i (by omega)) rfl rfl rfl rfl (Nat.le_of_ble_eq_true rfl) (roomy_k (by omega) (by decide)) (Nat.le_refl _) (Nat.le_refl _) ?_
          rintro _ _ ⟨rs, rfl, hrs, rfl⟩
          subst hrs
          refine x_if_eqB (tgt := 57) dX4_bay_49 (by decide) (fun c_49 => ?_) (fun c_49 => ?_)
          · refine x_iconst (v := 0) dX4_bay_57 (by decide) ?_
            refine x_iadd dX4_bay_58 ?_
            refine x_topi (fun xq1 e_xq1 => ?_)
            refine x_istore_n (lv' := [(1, .int xq1), (5, .int (-1)), (4, .ref (S + 2 + i)), (3, .int (nI i)), (2, .int qcc), (0, .ref S)]) dX4_bay_59 rfl (by decide) rfl ?_
            refine x_iload_n dX4_bay_60 4 rfl rfl ?_
            refine x_iload dX4_bay_61 1 rfl ?_
            refine x_aload dX4_bay_63 2 rfl ?_
            refine x_gI (v := I (S + 2 + i) 4) dX4_bay_65 fl_4_60 rfl (hS.2.2 i (by omega)) rfl ?_
            refine x_imul dX4_bay_68 ?_
            refine x_iadd dX4_bay_69 ?_
            refine x_topi (fun xq2 e_xq2 => ?_)
            refine x_istore_n (lv' := [(2, .int xq2), (1, .int xq1), (5, .int (-1)), (4, .ref (S + 2 + i)), (3, .int (nI i)), (0, .ref S)]) dX4_bay_70 rfl (by decide) rfl ?_
            refine x_iinc (v := nI (i + 1)) (lv' := [(3, .int (nI (i + 1))), (2, .int xq2), (1, .int xq1), (5, .int (-1)), (4, .ref (S + 2 + i)), (0, .ref S)]) dX4_bay_71 4 rfl (nI_1 i) (by decide) rfl ?_
            refine x_goto (tgt := 6) dX4_bay_74 (by decide) ?_
            refine x_sub [0, 1, 2, 5] rfl ?_
            have hsd : sideF v i = (-1) := by
              unfold sideF
              rw [← hv.1 i (by omega) 3 (by omega), if_neg c_33]
            exact ih (i + 1) xq1 xq2 (by omega) (by omega) (by
              unfold bayM at *
              rw [fd_s, ← hacc, ← hv.1 i (by omega) 4 (by omega), if_neg c_49, e_xq1, Int32.add_zero]) (by
              unfold bayQ at *
              rw [fd_s, ← hqcc, hsd, ← hv.1 i (by omega) 4 (by omega), e_xq2])
          · refine x_iload dX4_bay_52 0 rfl ?_
            refine x_goto (tgt := 58) dX4_bay_54 (by decide) ?_
            refine x_iadd dX4_bay_58 ?_
            refine x_topi (fun xq3 e_xq3 => ?_)
            refine x_istore_n (lv' := [(1, .int xq3), (5, .int (-1)), (4, .ref (S + 2 + i)), (3, .int (nI i)), (2, .int qcc), (0, .ref S)]) dX4_bay_59 rfl (by decide) rfl ?_
            refine x_iload_n dX4_bay_60 4 rfl rfl ?_
            refine x_iload dX4_bay_61 1 rfl ?_
            refine x_aload dX4_bay_63 2 rfl ?_
            refine x_gI (v := I (S + 2 + i) 4) dX4_bay_65 fl_4_60 rfl (hS.2.2 i (by omega)) rfl ?_
            refine x_imul dX4_bay_68 ?_
            refine x_iadd dX4_bay_69 ?_
            refine x_topi (fun xq4 e_xq4 => ?_)
            refine x_istore_n (lv' := [(2, .int xq4), (1, .int xq3), (5, .int (-1)), (4, .ref (S + 2 + i)), (3, .int (nI i)), (0, .ref S)]) dX4_bay_70 rfl (by decide) rfl ?_
            refine x_iinc (v := nI (i + 1)) (lv' := [(3, .int (nI (i + 1))), (2, .int xq4), (1, .int xq3), (5, .int (-1)), (4, .ref (S + 2 + i)), (0, .ref S)]) dX4_bay_71 4 rfl (nI_1 i) (by decide) rfl ?_
            refine x_goto (tgt := 6) dX4_bay_74 (by decide) ?_
            refine x_sub [0, 1, 2, 5] rfl ?_
            have hsd : sideF v i = (-1) := by
              unfold sideF
              rw [← hv.1 i (by omega) 3 (by omega), if_neg c_33]
            exact ih (i + 1) xq3 xq4 (by omega) (by omega) (by
              unfold bayM at *
              rw [fd_s, ← hacc, ← hv.1 i (by omega) 4 (by omega), if_pos c_49, e_xq3, hsd]) (by
              unfold bayQ at *
              rw [fd_s, ← hqcc, hsd, ← hv.1 i (by omega) 4 (by omega), e_xq4])
        · refine x_iconst (v := 1) dX4_bay_36 (by decide) ?_
          refine x_goto (tgt := 41) dX4_bay_37 (by decide) ?_
          refine x_istore (lv' := [(5, .int 1), (4, .ref (S + 2 + i)), (3, .int (nI i)), (2, .int qcc), (1, .int acc), (0, .ref S)]) dX4_bay_41 (by decide) rfl ?_
          refine x_iload_n dX4_bay_43 4 rfl rfl ?_
          refine x_aload dX4_bay_44 1 rfl ?_
          refine x_callV (k_stands (G := G) (Sh := Sh) (I := I) (R := R) (f := S + 2 + i) (hS.2.2 i (by omega))) dX4_bay_46 crc_X0_stands vc_4_66 (hS.2.2 i (by omega)) rfl rfl rfl rfl (Nat.le_of_ble_eq_true rfl) (roomy_k (by omega) (by decide)) (Nat.le_refl _) (Nat.le_refl _) ?_
          rintro _ _ ⟨rs, rfl, hrs, rfl⟩
          subst hrs
          refine x_if_eqB (tgt := 57) dX4_bay_49 (by decide) (fun c_49 => ?_) (fun c_49 => ?_)
          · refine x_iconst (v := 0) dX4_bay_57 (by decide) ?_
            refine x_iadd dX4_bay_58 ?_
            refine x_topi (fun xq5 e_xq5 => ?_)
            refine x_istore_n (lv' := [(1, .int xq5), (5, .int 1), (4, .ref (S + 2 + i)), (3, .int (nI i)), (2, .int qcc), (0, .ref S)]) dX4_bay_59 rfl (by decide) rfl ?_
            refine x_iload_n dX4_bay_60 4 rfl rfl ?_
            refine x_iload dX4_bay_61 1 rfl ?_
            refine x_aload dX4_bay_63 2 rfl ?_
            refine x_gI (v := I (S + 2 + i) 4) dX4_bay_65 fl_4_60 rfl (hS.2.2 i (by omega)) rfl ?_
            refine x_imul dX4_bay_68 ?_
            refine x_iadd dX4_bay_69 ?_
            refine x_topi (fun xq6 e_xq6 => ?_)
            refine x_istore_n (lv' := [(2, .int xq6), (1, .int xq5), (5, .int 1), (4, .ref (S + 2 + i)), (3, .int (nI i)), (0, .ref S)]) dX4_bay_70 rfl (by decide) rfl ?_
            refine x_iinc (v := nI (i + 1)) (lv' := [(3, .int (nI (i + 1))), (2, .int xq6), (1, .int xq5), (5, .int 1), (4, .ref (S + 2 + i)), (0, .ref S)]) dX4_bay_71 4 rfl (nI_1 i) (by decide) rfl ?_
            refine x_goto (tgt := 6) dX4_bay_74 (by decide) ?_
            refine x_sub [0, 1, 2, 5] rfl ?_
            have hsd : sideF v i = 1 := by
              unfold sideF
              rw [← hv.1 i (by omega) 3 (by omega), if_pos c_33]
            exact ih (i + 1) xq5 xq6 (by omega) (by omega) (by
              unfold bayM at *
              rw [fd_s, ← hacc, ← hv.1 i (by omega) 4 (by omega), if_neg c_49, e_xq5, Int32.add_zero]) (by
              unfold bayQ at *
              rw [fd_s, ← hqcc, hsd, ← hv.1 i (by omega) 4 (by omega), e_xq6])
          · refine x_iload dX4_bay_52 0 rfl ?_
            refine x_goto (tgt := 58) dX4_bay_54 (by decide) ?_
            refine x_iadd dX4_bay_58 ?_
            refine x_topi (fun xq7 e_xq7 => ?_)
            refine x_istore_n (lv' := [(1, .int xq7), (5, .int 1), (4, .ref (S + 2 + i)), (3, .int (nI i)), (2, .int qcc), (0, .ref S)]) dX4_bay_59 rfl (by decide) rfl ?_
            refine x_iload_n dX4_bay_60 4 rfl rfl ?_
            refine x_iload dX4_bay_61 1 rfl ?_
            refine x_aload dX4_bay_63 2 rfl ?_
            refine x_gI (v := I (S + 2 + i) 4) dX4_bay_65 fl_4_60 rfl (hS.2.2 i (by omega)) rfl ?_
            refine x_imul dX4_bay_68 ?_
            refine x_iadd dX4_bay_69 ?_
            refine x_topi (fun xq8 e_xq8 => ?_)
            refine x_istore_n (lv' := [(2, .int xq8), (1, .int xq7), (5, .int 1), (4, .ref (S + 2 + i)), (3, .int (nI i)), (0, .ref S)]) dX4_bay_70 rfl (by decide) rfl ?_
            refine x_iinc (v := nI (i + 1)) (lv' := [(3, .int (nI (i + 1))), (2, .int xq8), (1, .int xq7), (5, .int 1), (4, .ref (S + 2 + i)), (0, .ref S)]) dX4_bay_71 4 rfl (nI_1 i) (by decide) rfl ?_
            refine x_goto (tgt := 6) dX4_bay_74 (by decide) ?_
            refine x_sub [0, 1, 2, 5] rfl ?_
            have hsd : sideF v i = 1 := by
              unfold sideF
              rw [← hv.1 i (by omega) 3 (by omega), if_pos c_33]
            exact ih (i + 1) xq7 xq8 (by omega) (by omega) (by
              unfold bayM at *
              rw [fd_s, ← hacc, ← hv.1 i (by omega) 4 (by omega), if_pos c_49, e_xq7, hsd]) (by
              unfold bayQ at *
              rw [fd_s, ← hqcc, hsd, ← hv.1 i (by omega) 4 (by omega), e_xq8])

set_option maxHeartbeats 4000000 in
set_option maxRecDepth 100000 in
theorem k_bay {G : GG} {Sh : HS} {I : HI} {R : HR} {S T n : Nat} {P : Nat → List Int32} {v : SV} (w : SW Sh I R S T n P) (hv : SR I S n v) : AM G 2 0 0 yX4_bay cX4_bay 6 (some .int) [.ref S] (Sh, I, R) (qi fun r g => r = bayF n v ∧ g = (Sh, I, R)) := by
  refine am_intro (by decide) (Nat.le_of_ble_eq_true rfl) ?_
  refine x_iconst (v := 0) dX4_bay_0 (by decide) ?_
  refine x_istore_n (lv' := [(1, .int 0), (0, .ref S)]) dX4_bay_1 rfl (by decide) rfl ?_
  refine x_iconst (v := 0) dX4_bay_2 (by decide) ?_
  refine x_istore_n (lv' := [(2, .int 0), (1, .int 0), (0, .ref S)]) dX4_bay_3 rfl (by decide) rfl ?_
  refine x_iconst (v := 0) dX4_bay_4 (by decide) ?_
  refine x_istore_n (lv' := [(3, .int 0), (2, .int 0), (1, .int 0), (0, .ref S)]) dX4_bay_5 rfl (by decide) rfl ?_
  exact k_bay_l w hv (n + 1) 0 0 0 (by omega) (by omega) rfl rfl

set_option maxHeartbeats 4000000 in
set_option maxRecDepth 100000 in
theorem k_valueOf_l {G : GG} {Sh : HS} {I : HI} {R : HR} {S T n : Nat} {P : Nat → List Int32} {v : SV} (w : SW Sh I R S T n P) (hv : SR I S n v) {r : Int32} : ∀ (m : Nat) (i : Nat) (acc : Int32) (J : HI), (i ≤ n) → (n < i + m) → (offT T I J) → (acc = valueG P n r v i) → X G (kM G 5 0 0 (qi fun x g => x = valueF P n r v ∧ ∃ J : HI, offT T I J ∧ g = (Sh, J, R))) yX4_valueOf cX4_valueOf 6 (some .int) 0 0 4 [(3, .int (nI i)), (2, .int acc), (0, .ref S), (1, .int r)] [] (Sh, J, R) := by
  intro m
  induction m with
  | zero =>
    intro i acc J hi hm hoff hacc
    exact absurd hm (by omega)
  | succ m ih =>
    intro i acc J hi hm hoff hacc
    obtain ⟨hS, hR, hn, hn8, hrl, hT, hRT, hTX, hTS⟩ := id w
    refine x_iload_n dX4_valueOf_4 0 rfl rfl ?_
    refine x_aload_n dX4_valueOf_5 2 rfl rfl ?_
    refine x_gI (v := nI n) dX4_valueOf_6 fl_4_22 rfl hS.1 ((hoff.out (by omega)).trans hn) ?_
    refine x_icmp_ge (tgt := 72) dX4_valueOf_9 (by decide) (fun c_9 => ?_) (fun c_9 => ?_)
    · have c_9 : n ≤ i := (nI_leI (a := n) (b := i) (by omega) (by omega)).mp c_9
      refine x_iload_n dX4_valueOf_72 1 rfl rfl ?_
      refine x_iret dX4_valueOf_73 rfl (Nat.le_refl _) (Nat.le_refl _) ?_
      have hin : i = n := by omega
      subst hin
      exact ⟨hacc, J, hoff, rfl⟩
    · have c_9 : ¬ n ≤ i := fun q => c_9 ((nI_leI (a := n) (b := i) (by omega) (by omega)).mpr q)
      refine x_iload_n dX4_valueOf_12 0 rfl rfl ?_
      refine x_bipush (v := 8) dX4_valueOf_13 (by decide) ?_
      refine x_icmp_ge (tgt := 72) dX4_valueOf_15 (by decide) (fun c_15 => ?_) (fun c_15 => ?_)
      · have c_15 : 8 ≤ i := (nI_leI (a := 8) (b := i) (by omega) (by omega)).mp c_15
        refine x_iload_n dX4_valueOf_72 1 rfl rfl ?_
        refine x_iret dX4_valueOf_73 rfl (Nat.le_refl _) (Nat.le_refl _) ?_
        have hin : i = n := by omega
        subst hin
        exact ⟨hacc, J, hoff, rfl⟩
      · have c_15 : ¬ 8 ≤ i := fun q => c_15 ((nI_leI (a := 8) (b := i) (by omega) (by omega)).mpr q)
        refine x_aload_n dX4_valueOf_18 2 rfl rfl ?_
        refine x_gR (b := S + 1) dX4_valueOf_19 fl_4_11 rfl hS.1 hR.1 ?_
        refine x_iload_n dX4_valueOf_22 0 rfl rfl ?_
        refine x_aa (j := i) (b := S + 2 + i) dX4_valueOf_23 hS.2.1 (by decide) (by decide) rfl (by omega) (by omega) (hR.2 i (by omega)) ?_
        refine x_astore (lv' := [(4, .ref (S + 2 + i)), (3, .int (nI i)), (2, .int acc), (0, .ref S), (1, .int r)]) dX4_valueOf_24 (by decide) rfl ?_
        refine x_aload dX4_valueOf_26 0 rfl ?_
        refine x_callV (k_stands (G := G) (Sh := Sh) (I := J) (R := R) (f := S + 2 + i) (hS.2.2 i (by omega))) dX4_valueOf_28 crc_X0_stands vc_4_66 (hS.2.2 i (by omega)) rfl rfl rfl rfl (Nat.le_of_ble_eq_true rfl) (roomy_k (by omega) (by decide)) (Nat.le_refl _) (Nat.le_refl _) ?_
        rintro _ _ ⟨rs, rfl, hrs, rfl⟩
        subst hrs
        refine x_if_eqB (tgt := 66) dX4_valueOf_31 (by decide) (fun c_31 => ?_) (fun c_31 => ?_)
        · refine x_iinc (v := nI (i + 1)) (lv' := [(3, .int (nI (i + 1))), (4, .ref (S + 2 + i)), (2, .int acc), (0, .ref S), (1, .int r)]) dX4_valueOf_66 1 rfl (nI_1 i) (by decide) rfl ?_
          refine x_goto (tgt := 4) dX4_valueOf_69 (by decide) ?_
          refine x_sub [0, 2, 3, 4] rfl ?_
          exact ih (i + 1) acc J (by omega) (by omega) hoff (by
            unfold valueG at *
            rw [fd_s, ← hacc, ← (hv.off hoff hTS).1 i (by omega) 4 (by omega), if_neg c_31])
        · refine x_aload_n dX4_valueOf_34 3 rfl rfl ?_
          refine x_gR (b := T) dX4_valueOf_35 fl_4_17 rfl hS.1 hrl ?_
          refine x_aload_n dX4_valueOf_38 3 rfl rfl ?_
          refine x_aload dX4_valueOf_39 0 rfl ?_
          refine x_callV (k_worthOf (G := G) (I := J) (w.off hoff) (f := S + 2 + i) (hS.2.2 i (by omega)) (by omega)) dX4_valueOf_41 crc_X6_worthOf vc_4_91 hT.1 rfl rfl rfl rfl (Nat.le_of_ble_eq_true rfl) (roomy_k (by omega) (by decide)) (Nat.le_refl _) (Nat.le_refl _) ?_
          rintro _ _ ⟨rw_, rfl, hrw, I2, hoff2, rfl⟩
          refine x_istore (lv' := [(5, .int rw_), (4, .ref (S + 2 + i)), (3, .int (nI i)), (2, .int acc), (0, .ref S), (1, .int r)]) dX4_valueOf_44 (by decide) rfl ?_
          refine x_iload_n dX4_valueOf_46 3 rfl rfl ?_
          refine x_aload dX4_valueOf_47 1 rfl ?_
          refine x_gI (v := I2 (S + 2 + i) 3) dX4_valueOf_49 fl_4_88 rfl (hS.2.2 i (by omega)) rfl ?_
          refine x_iload_n dX4_valueOf_52 5 rfl rfl ?_
          refine x_icmp_ne (tgt := 61) dX4_valueOf_53 (by decide) (fun c_53 => ?_) (fun c_53 => ?_)
          · refine x_iload dX4_valueOf_61 0 rfl ?_
            refine x_ineg dX4_valueOf_63 ?_
            refine x_iadd dX4_valueOf_64 ?_
            refine x_topi (fun xq1 e_xq1 => ?_)
            refine x_istore_n (lv' := [(2, .int xq1), (5, .int rw_), (4, .ref (S + 2 + i)), (3, .int (nI i)), (0, .ref S), (1, .int r)]) dX4_valueOf_65 rfl (by decide) rfl ?_
            refine x_iinc (v := nI (i + 1)) (lv' := [(3, .int (nI (i + 1))), (2, .int xq1), (5, .int rw_), (4, .ref (S + 2 + i)), (0, .ref S), (1, .int r)]) dX4_valueOf_66 3 rfl (nI_1 i) (by decide) rfl ?_
            refine x_goto (tgt := 4) dX4_valueOf_69 (by decide) ?_
            refine x_sub [0, 1, 4, 5] rfl ?_
            exact ih (i + 1) xq1 I2 (by omega) (by omega) (hoff.tr hoff2) (by
              have hs := hv.off hoff hTS
              unfold valueG at *
              rw [fd_s, ← hacc, ← hs.1 i (by omega) 4 (by omega), if_pos c_31, ← hs.1 i (by omega) 3 (by omega), ← hoff2.out (a := S + 2 + i) (k := 3) (by omega), if_neg c_53, e_xq1, hrw, cx_cF hs (by omega)]
              rfl)
          · refine x_iload dX4_valueOf_56 0 rfl ?_
            refine x_goto (tgt := 64) dX4_valueOf_58 (by decide) ?_
            refine x_iadd dX4_valueOf_64 ?_
            refine x_topi (fun xq2 e_xq2 => ?_)
            refine x_istore_n (lv' := [(2, .int xq2), (5, .int rw_), (4, .ref (S + 2 + i)), (3, .int (nI i)), (0, .ref S), (1, .int r)]) dX4_valueOf_65 rfl (by decide) rfl ?_
            refine x_iinc (v := nI (i + 1)) (lv' := [(3, .int (nI (i + 1))), (2, .int xq2), (5, .int rw_), (4, .ref (S + 2 + i)), (0, .ref S), (1, .int r)]) dX4_valueOf_66 3 rfl (nI_1 i) (by decide) rfl ?_
            refine x_goto (tgt := 4) dX4_valueOf_69 (by decide) ?_
            refine x_sub [0, 1, 4, 5] rfl ?_
            exact ih (i + 1) xq2 I2 (by omega) (by omega) (hoff.tr hoff2) (by
              have hs := hv.off hoff hTS
              unfold valueG at *
              rw [fd_s, ← hacc, ← hs.1 i (by omega) 4 (by omega), if_pos c_31, ← hs.1 i (by omega) 3 (by omega), ← hoff2.out (a := S + 2 + i) (k := 3) (by omega), if_pos c_53, e_xq2, hrw, cx_cF hs (by omega)]
              rfl)

set_option maxHeartbeats 4000000 in
set_option maxRecDepth 100000 in
theorem k_valueOf {G : GG} {Sh : HS} {I : HI} {R : HR} {S T n : Nat} {P : Nat → List Int32} {v : SV} (w : SW Sh I R S T n P) (hv : SR I S n v) {r : Int32} : AM G 5 0 0 yX4_valueOf cX4_valueOf 6 (some .int) [.ref S, .int r] (Sh, I, R) (qi fun x g => x = valueF P n r v ∧ ∃ J : HI, offT T I J ∧ g = (Sh, J, R)) := by
  refine am_intro (by decide) (Nat.le_of_ble_eq_true rfl) ?_
  refine x_iconst (v := 0) dX4_valueOf_0 (by decide) ?_
  refine x_istore_n (lv' := [(2, .int 0), (0, .ref S), (1, .int r)]) dX4_valueOf_1 rfl (by decide) rfl ?_
  refine x_iconst (v := 0) dX4_valueOf_2 (by decide) ?_
  refine x_istore_n (lv' := [(3, .int 0), (2, .int 0), (0, .ref S), (1, .int r)]) dX4_valueOf_3 rfl (by decide) rfl ?_
  exact k_valueOf_l w hv (n + 1) 0 0 I (by omega) (by omega) offT.rf rfl

set_option maxHeartbeats 4000000 in
set_option maxRecDepth 100000 in
theorem k_isFort {G : GG} {Sh : HS} {I : HI} {R : HR} {k nu p : Int32} : AM G 1 0 0 yX4_isFort cX4_isFort 3 (some .boolean) [.int k, .int nu, .int p] (Sh, I, R) (qi fun r g => r = bI (0 ≤ k ∧ k < 6 ∧ 0 ≤ nu ∧ nu < 10 ∧ 0 ≤ p ∧ p < 16) ∧ g = (Sh, I, R)) := by
  refine am_intro (by decide) (Nat.le_of_ble_eq_true rfl) ?_
  refine x_iload_n dX4_isFort_0 0 rfl rfl ?_
  refine x_if_lt (tgt := 34) dX4_isFort_1 (by decide) (fun c_1 => ?_) (fun c_1 => ?_)
  · refine x_iconst (v := 0) dX4_isFort_34 (by decide) ?_
    refine x_zret dX4_isFort_35 rfl rfl (Nat.le_refl _) (Nat.le_refl _) ?_
    exact ⟨(bI_f (fun q => absurd c_1 (Int32.not_lt.mpr q.1))).symm, rfl⟩
  · refine x_iload_n dX4_isFort_4 0 rfl rfl ?_
    refine x_bipush (v := 6) dX4_isFort_5 (by decide) ?_
    refine x_icmp_ge (tgt := 34) dX4_isFort_7 (by decide) (fun c_7 => ?_) (fun c_7 => ?_)
    · refine x_iconst (v := 0) dX4_isFort_34 (by decide) ?_
      refine x_zret dX4_isFort_35 rfl rfl (Nat.le_refl _) (Nat.le_refl _) ?_
      exact ⟨(bI_f (fun q => absurd c_7 (Int32.not_le.mpr q.2.1))).symm, rfl⟩
    · refine x_iload_n dX4_isFort_10 1 rfl rfl ?_
      refine x_if_lt (tgt := 34) dX4_isFort_11 (by decide) (fun c_11 => ?_) (fun c_11 => ?_)
      · refine x_iconst (v := 0) dX4_isFort_34 (by decide) ?_
        refine x_zret dX4_isFort_35 rfl rfl (Nat.le_refl _) (Nat.le_refl _) ?_
        exact ⟨(bI_f (fun q => absurd c_11 (Int32.not_lt.mpr q.2.2.1))).symm, rfl⟩
      · refine x_iload_n dX4_isFort_14 1 rfl rfl ?_
        refine x_bipush (v := 10) dX4_isFort_15 (by decide) ?_
        refine x_icmp_ge (tgt := 34) dX4_isFort_17 (by decide) (fun c_17 => ?_) (fun c_17 => ?_)
        · refine x_iconst (v := 0) dX4_isFort_34 (by decide) ?_
          refine x_zret dX4_isFort_35 rfl rfl (Nat.le_refl _) (Nat.le_refl _) ?_
          exact ⟨(bI_f (fun q => absurd c_17 (Int32.not_le.mpr q.2.2.2.1))).symm, rfl⟩
        · refine x_iload_n dX4_isFort_20 2 rfl rfl ?_
          refine x_if_lt (tgt := 34) dX4_isFort_21 (by decide) (fun c_21 => ?_) (fun c_21 => ?_)
          · refine x_iconst (v := 0) dX4_isFort_34 (by decide) ?_
            refine x_zret dX4_isFort_35 rfl rfl (Nat.le_refl _) (Nat.le_refl _) ?_
            exact ⟨(bI_f (fun q => absurd c_21 (Int32.not_lt.mpr q.2.2.2.2.1))).symm, rfl⟩
          · refine x_iload_n dX4_isFort_24 2 rfl rfl ?_
            refine x_bipush (v := 16) dX4_isFort_25 (by decide) ?_
            refine x_icmp_ge (tgt := 34) dX4_isFort_27 (by decide) (fun c_27 => ?_) (fun c_27 => ?_)
            · refine x_iconst (v := 0) dX4_isFort_34 (by decide) ?_
              refine x_zret dX4_isFort_35 rfl rfl (Nat.le_refl _) (Nat.le_refl _) ?_
              exact ⟨(bI_f (fun q => absurd c_27 (Int32.not_le.mpr q.2.2.2.2.2))).symm, rfl⟩
            · refine x_iconst (v := 1) dX4_isFort_30 (by decide) ?_
              refine x_goto (tgt := 35) dX4_isFort_31 (by decide) ?_
              refine x_zret dX4_isFort_35 rfl rfl (Nat.le_refl _) (Nat.le_refl _) ?_
              exact ⟨(bI_t ⟨Int32.not_lt.mp c_1, Int32.not_le.mp c_7, Int32.not_lt.mp c_11, Int32.not_le.mp c_17, Int32.not_lt.mp c_21, Int32.not_le.mp c_27⟩).symm, rfl⟩

set_option maxHeartbeats 4000000 in
set_option maxRecDepth 100000 in
theorem k_add {G : GG} {Sh : HS} {I : HI} {R : HR} {S n : Nat} (hS : ShS Sh S) (hR : RS R S) (hn : I S 1 = nI n) (hn8 : n ≤ 8) {k nu p : Int32} : AM G 2 0 0 yX4_add cX4_add 4 (some .int) [.ref S, .int k, .int nu, .int p] (Sh, I, R) (qi fun r g => (n < 8 ∧ r = nI n ∧ g = (Sh, u2 (u2 (u2 (u2 (u2 (u2 I (S + 2 + n) 0 k) (S + 2 + n) 1 nu) (S + 2 + n) 2 p) (S + 2 + n) 3 0) (S + 2 + n) 4 20) S 1 (nI (n + 1)), R)) ∨ (n = 8 ∧ r = -4 ∧ g = (Sh, I, R))) := by
  refine am_intro (by decide) (Nat.le_of_ble_eq_true rfl) ?_
  refine x_aload_n dX4_add_0 0 rfl rfl ?_
  refine x_gI (v := nI n) dX4_add_1 fl_4_22 rfl hS.1 hn ?_
  refine x_if_lt (tgt := 16) dX4_add_4 (by decide) (fun c_4 => False.elim (nI_pos (by omega) c_4)) (fun c_4 => ?_)
  refine x_aload_n dX4_add_7 0 rfl rfl ?_
  refine x_gI (v := nI n) dX4_add_8 fl_4_22 rfl hS.1 hn ?_
  refine x_bipush (v := 8) dX4_add_11 (by decide) ?_
  refine x_icmp_lt (tgt := 19) dX4_add_13 (by decide) (fun c_13 => ?_) (fun c_13 => ?_)
  · have c_13 : n < 8 := (nI_ltI (a := n) (b := 8) (by omega) (by omega)).mp c_13
    refine x_aload_n dX4_add_19 0 rfl rfl ?_
    refine x_gR (b := S + 1) dX4_add_20 fl_4_11 rfl hS.1 hR.1 ?_
    refine x_aload_n dX4_add_23 0 rfl rfl ?_
    refine x_gI (v := nI n) dX4_add_24 fl_4_22 rfl hS.1 hn ?_
    refine x_aa (j := n) (b := S + 2 + n) dX4_add_27 hS.2.1 (by decide) (by decide) rfl (by omega) (by omega) (hR.2 n (by omega)) ?_
    refine x_iload_n dX4_add_28 1 rfl rfl ?_
    refine x_iload_n dX4_add_29 2 rfl rfl ?_
    refine x_iload_n dX4_add_30 3 rfl rfl ?_
    refine x_callV (k_begin (G := G) (Sh := Sh) (I := I) (R := R) (f := S + 2 + n) (k := k) (n := nu) (p := p) (hS.2.2 n (by omega))) dX4_add_31 crc_X0_begin vc_4_26 (hS.2.2 n (by omega)) rfl rfl rfl rfl (Nat.le_of_ble_eq_true rfl) (roomy_k (by omega) (by decide)) (Nat.le_refl _) (Nat.le_refl _) ?_
    rintro _ _ ⟨rfl, rfl⟩
    generalize hJ : u2 (u2 (u2 (u2 (u2 I (S + 2 + n) 0 k) (S + 2 + n) 1 nu) (S + 2 + n) 2 p) (S + 2 + n) 3 0) (S + 2 + n) 4 20 = J
    refine x_aload_n dX4_add_34 0 rfl rfl ?_
    refine x_dup dX4_add_35 rfl ?_
    refine x_gI (v := nI n) dX4_add_36 fl_4_22 rfl hS.1 (by rw [← hJ, u2_ne (by omega), u2_ne (by omega), u2_ne (by omega), u2_ne (by omega), u2_ne (by omega)]; exact hn) ?_
    refine x_iconst (v := 1) dX4_add_39 (by decide) ?_
    refine x_iadd dX4_add_40 ?_
    refine x_pI dX4_add_41 fl_4_22 rfl rfl rfl hS.1 (fun Iq1 e_Iq1 => ?_)
    refine x_aload_n dX4_add_44 0 rfl rfl ?_
    refine x_gI (v := nI (n + 1)) dX4_add_45 fl_4_22 rfl hS.1 (by rw [e_Iq1]; exact u2_same.trans (nI_1 n)) ?_
    refine x_iconst (v := 1) dX4_add_48 (by decide) ?_
    refine x_isub dX4_add_49 ?_
    refine x_iret dX4_add_50 rfl (Nat.le_refl _) (Nat.le_refl _) ?_
    rw [e_Iq1, ← hJ]
    exact Or.inl ⟨by omega, nI_pred n, by rw [show nI n + 1 = nI (n + 1) from nI_1 n]⟩
  · have c_13 : ¬ n < 8 := fun q => c_13 ((nI_ltI (a := n) (b := 8) (by omega) (by omega)).mpr q)
    refine x_bipush (v := (-4)) dX4_add_16 (by decide) ?_
    refine x_iret dX4_add_18 rfl (Nat.le_refl _) (Nat.le_refl _) ?_
    exact Or.inr ⟨by omega, rfl, rfl⟩

set_option maxHeartbeats 4000000 in
set_option maxRecDepth 100000 in
theorem k_stake_l {G : GG} {Sh : HS} {I : HI} {R : HR} {S U T : Nat} (hS : ShS Sh S) (hR : RS R S) (hU : ShS Sh U) (hRU : RS R U) (hrl : R U 4 = some T) (hne : S + 10 ≤ U ∨ U + 10 ≤ S) (hTS : Sh.2 T = (6, 7)) : ∀ (m : Nat) (i : Nat) (J : HI), (i ≤ 8) → (8 < i + m) → (∀ j, j < i → ∀ k, k < 5 → J (S + 2 + j) k = I (U + 2 + j) k) → (∀ a k, ¬ (S + 2 ≤ a ∧ a < S + 10) → J a k = I a k) → X G (kM G 2 0 0 (qv fun g => ∃ J : HI, g = (Sh, J, u2 R S 4 (some T)) ∧ (∀ i, i < 8 → ∀ k, k < 5 → J (S + 2 + i) k = I (U + 2 + i) k) ∧ J S 1 = I U 1 ∧ J S 2 = I U 2 ∧ J S 3 = I U 3 ∧ ∀ a k, ¬ (S ≤ a ∧ a < S + 10) → J a k = I a k)) yX4_take cX4_take 3 none 0 0 2 [(2, .int (nI i)), (0, .ref S), (1, .ref U)] [] (Sh, J, R) := by
  intro m
  induction m with
  | zero =>
    intro i J hi hm hdone hfr
    exact absurd hm (by omega)
  | succ m ih =>
    intro i J hi hm hdone hfr
    refine x_iload_n dX4_take_2 0 rfl rfl ?_
    refine x_bipush (v := 8) dX4_take_3 (by decide) ?_
    refine x_icmp_ge (tgt := 29) dX4_take_5 (by decide) (fun c_5 => ?_) (fun c_5 => ?_)
    · have c_5 : 8 ≤ i := (nI_leI (a := 8) (b := i) (by omega) (by omega)).mp c_5
      refine x_aload_n dX4_take_29 1 rfl rfl ?_
      refine x_aload_n dX4_take_30 2 rfl rfl ?_
      refine x_gI (v := I U 1) dX4_take_31 fl_4_22 rfl hU.1 (hfr _ _ (by omega)) ?_
      refine x_pI dX4_take_34 fl_4_22 rfl rfl rfl hS.1 (fun Iq1 e_Iq1 => ?_)
      refine x_aload_n dX4_take_37 1 rfl rfl ?_
      refine x_aload_n dX4_take_38 2 rfl rfl ?_
      refine x_gI (v := I U 2) dX4_take_39 fl_4_34 rfl hU.1 (by rw [e_Iq1, u2_ne (by omega), hfr _ _ (by omega)]) ?_
      refine x_pI dX4_take_42 fl_4_34 rfl rfl rfl hS.1 (fun Iq2 e_Iq2 => ?_)
      refine x_aload_n dX4_take_45 1 rfl rfl ?_
      refine x_aload_n dX4_take_46 2 rfl rfl ?_
      refine x_gI (v := I U 3) dX4_take_47 fl_4_37 rfl hU.1 (by rw [e_Iq2, u2_ne (by omega), e_Iq1, u2_ne (by omega), hfr _ _ (by omega)]) ?_
      refine x_pI dX4_take_50 fl_4_37 rfl rfl rfl hS.1 (fun Iq3 e_Iq3 => ?_)
      refine x_aload_n dX4_take_53 1 rfl rfl ?_
      refine x_aload_n dX4_take_54 2 rfl rfl ?_
      refine x_gR (b := T) dX4_take_55 fl_4_17 rfl hU.1 hrl ?_
      refine x_pR dX4_take_58 fl_4_17 rfl rfl rfl rfl hS.1 (fun Rq4 e_Rq4 => ?_)
      refine x_vret dX4_take_61 rfl (Nat.le_refl _) (Nat.le_refl _) ?_
      have hi8 : i = 8 := by omega
      subst hi8
      refine ⟨Iq3, by rw [e_Rq4], fun j hj k hk => ?_, ?_, ?_, ?_, fun a k q => ?_⟩
      · rw [e_Iq3, u2_ne (by omega), e_Iq2, u2_ne (by omega), e_Iq1, u2_ne (by omega)]
        exact hdone j hj k hk
      · rw [e_Iq3, u2_ne (by omega), e_Iq2, u2_ne (by omega), e_Iq1, u2_same]
      · rw [e_Iq3, u2_ne (by omega), e_Iq2, u2_same]
      · rw [e_Iq3, u2_same]
      · rw [e_Iq3, u2_ne (by omega), e_Iq2, u2_ne (by omega), e_Iq1, u2_ne (by omega)]
        exact hfr a k (by omega)
    · have c_5 : ¬ 8 ≤ i := fun q => c_5 ((nI_leI (a := 8) (b := i) (by omega) (by omega)).mpr q)
      refine x_aload_n dX4_take_8 1 rfl rfl ?_
      refine x_gR (b := S + 1) dX4_take_9 fl_4_11 rfl hS.1 hR.1 ?_
      refine x_iload_n dX4_take_12 0 rfl rfl ?_
      refine x_aa (j := i) (b := S + 2 + i) dX4_take_13 hS.2.1 (by decide) (by decide) rfl (by omega) (by omega) (hR.2 i (by omega)) ?_
      refine x_aload_n dX4_take_14 2 rfl rfl ?_
      refine x_gR (b := U + 1) dX4_take_15 fl_4_11 rfl hU.1 hRU.1 ?_
      refine x_iload_n dX4_take_18 0 rfl rfl ?_
      refine x_aa (j := i) (b := U + 2 + i) dX4_take_19 hU.2.1 (by decide) (by decide) rfl (by omega) (by omega) (hRU.2 i (by omega)) ?_
      refine x_callV (k_take (G := G) (Sh := Sh) (I := J) (R := R) (f := S + 2 + i) (g := U + 2 + i) (hU.2.2 i (by omega)) (by omega) (hS.2.2 i (by omega))) dX4_take_20 crc_X0_take vc_4_30 (hS.2.2 i (by omega)) rfl rfl rfl rfl (Nat.le_of_ble_eq_true rfl) (roomy_k (by omega) (by decide)) (Nat.le_refl _) (Nat.le_refl _) ?_
      rintro _ _ ⟨rfl, J2, rfl, ht1, ht2⟩
      refine x_iinc (v := nI (i + 1)) (lv' := [(2, .int (nI (i + 1))), (0, .ref S), (1, .ref U)]) dX4_take_23 0 rfl (nI_1 i) (by decide) rfl ?_
      refine x_goto (tgt := 2) dX4_take_26 (by decide) ?_
      refine x_sub [0, 1, 2] rfl ?_
      exact ih (i + 1) J2 (by omega) (by omega) (fun j hj k hk => by
        by_cases e : j = i
        · subst e
          rw [ht1 k hk]
          exact hfr _ _ (by omega)
        · rw [ht2 _ _ (by omega)]
          exact hdone j (by omega) k hk) (fun a k q => (ht2 a k (by omega)).trans (hfr a k q))

set_option maxHeartbeats 4000000 in
set_option maxRecDepth 100000 in
theorem k_stake {G : GG} {Sh : HS} {I : HI} {R : HR} {S U T : Nat} (hS : ShS Sh S) (hR : RS R S) (hU : ShS Sh U) (hRU : RS R U) (hrl : R U 4 = some T) (hne : S + 10 ≤ U ∨ U + 10 ≤ S) (hTS : Sh.2 T = (6, 7)) : AM G 2 0 0 yX4_take cX4_take 3 none [.ref S, .ref U] (Sh, I, R) (qv fun g => ∃ J : HI, g = (Sh, J, u2 R S 4 (some T)) ∧ (∀ i, i < 8 → ∀ k, k < 5 → J (S + 2 + i) k = I (U + 2 + i) k) ∧ J S 1 = I U 1 ∧ J S 2 = I U 2 ∧ J S 3 = I U 3 ∧ ∀ a k, ¬ (S ≤ a ∧ a < S + 10) → J a k = I a k) := by
  refine am_intro (by decide) (Nat.le_of_ble_eq_true rfl) ?_
  refine x_iconst (v := 0) dX4_take_0 (by decide) ?_
  refine x_istore_n (lv' := [(2, .int 0), (0, .ref S), (1, .ref U)]) dX4_take_1 rfl (by decide) rfl ?_
  exact k_stake_l hS hR hU hRU hrl hne hTS 9 0 I (by omega) (by omega) (fun j hj => absurd hj (by omega)) (fun _ _ _ => rfl)
end
section
/-- an item of a sheet -/
def itF (f : Nat → Int32) (sz : Nat) (i : Int32) : Int32 := if ¬ i < 0 ∧ i < nI sz then f i.toNatClampNeg else 0
/-- what a sheet of a sort keeps of a number -/
def cutF (so v : Int32) : Int32 := if so = 0 then v.toInt8.toInt32 else if so = 1 then v.toInt16.toInt32 else v
theorem itF_in {f : Nat → Int32} {sz j : Nat} (hj : j < sz) (hs : sz ≤ 40) : itF f sz (nI j) = f j := by
  unfold itF
  rw [if_pos ⟨nI_pos (by omega), (nI_ltI (by omega) (by omega)).mpr hj⟩, nI_clamp (by omega)]

set_option maxHeartbeats 4000000 in
set_option maxRecDepth 100000 in
theorem k_become_l {G : GG} {Sh : HS} {I : HI} {R : HR} {A : Nat} (hA : Sh.2 A = (3, 3) ∧ Sh.2 (A + 1) = (9, 40)) (hRA : R A 0 = some (A + 1)) {Q : AH → Prop} {so nn : Int32} (hQ : ∀ J : HI, (∀ j, j < 40 → J (A + 1) j = 0) → (∀ a k, a ≠ A + 1 → J a k = I a k) → Q (Sh, J, R)) : ∀ (m : Nat) (i : Nat) (J : HI), (i ≤ 40) → (40 < i + m) → (∀ j, j < i → J (A + 1) j = 0) → (∀ a k, a ≠ A + 1 → J a k = I a k) → X G (kM G 2 0 0 (qv Q)) yX3_become cX3_become 4 none 0 0 21 [(3, .int (nI i)), (0, .ref A), (1, .int so), (2, .int nn)] [] (Sh, J, R) := by
  intro m
  induction m with
  | zero =>
    intro i J hi hm hd hfr
    exact absurd hm (by omega)
  | succ m ih =>
    intro i J hi hm hd hfr
    refine x_iload_n dX3_become_21 0 rfl rfl ?_
    refine x_bipush (v := 40) dX3_become_22 (by decide) ?_
    refine x_icmp_ge (tgt := 40) dX3_become_24 (by decide) (fun c_24 => ?_) (fun c_24 => ?_)
    · have c_24 : 40 ≤ i := (nI_leI (a := 40) (b := i) (by omega) (by omega)).mp c_24
      refine x_vret dX3_become_40 rfl (Nat.le_refl _) (Nat.le_refl _) ?_
      exact hQ J (fun j hj => hd j (by omega)) hfr
    · have c_24 : ¬ 40 ≤ i := fun q => c_24 ((nI_leI (a := 40) (b := i) (by omega) (by omega)).mpr q)
      refine x_aload_n dX3_become_27 1 rfl rfl ?_
      refine x_gR (b := A + 1) dX3_become_28 fl_3_9 rfl hA.1 hRA ?_
      refine x_iload_n dX3_become_31 0 rfl rfl ?_
      refine x_iconst (v := 0) dX3_become_32 (by decide) ?_
      refine x_is (j := i) dX3_become_33 hA.2 rfl (by omega) (by omega) (fun Iq1 e_Iq1 => ?_)
      refine x_iinc (v := nI (i + 1)) (lv' := [(3, .int (nI (i + 1))), (0, .ref A), (1, .int so), (2, .int nn)]) dX3_become_34 0 rfl (nI_1 i) (by decide) rfl ?_
      refine x_goto (tgt := 21) dX3_become_37 (by decide) ?_
      refine x_sub [0, 1, 2, 3] rfl ?_
      exact ih (i + 1) Iq1 (by omega) (by omega) (fun j hj => by
        rw [e_Iq1]
        by_cases e : j = i
        · subst e
          exact u2_same
        · rw [u2_ne (by omega)]
          exact hd j (by omega)) (fun a k q => by rw [e_Iq1, u2_ne (by omega)]; exact hfr a k q)

set_option maxHeartbeats 4000000 in
set_option maxRecDepth 100000 in
theorem k_become_l' {G : GG} {Sh : HS} {I : HI} {R : HR} {A : Nat} (hA : Sh.2 A = (3, 3) ∧ Sh.2 (A + 1) = (9, 40)) (hRA : R A 0 = some (A + 1)) {Q : AH → Prop} {so nn : Int32} (hQ : ∀ J : HI, (∀ j, j < 40 → J (A + 1) j = 0) → (∀ a k, a ≠ A + 1 → J a k = I a k) → Q (Sh, J, R)) : X G (kM G 2 0 0 (qv Q)) yX3_become cX3_become 4 none 0 0 21 [(3, .int (nI 0)), (0, .ref A), (1, .int so), (2, .int nn)] [] (Sh, I, R) := k_become_l hA hRA hQ 41 0 I (by omega) (by omega) (fun j hj => absurd hj (by omega)) (fun _ _ _ => rfl)
set_option maxHeartbeats 4000000 in
set_option maxRecDepth 100000 in
theorem k_become {G : GG} {Sh : HS} {I : HI} {R : HR} {A : Nat} (hA : Sh.2 A = (3, 3) ∧ Sh.2 (A + 1) = (9, 40)) (hRA : R A 0 = some (A + 1)) {so nn : Int32} : AM G 2 0 0 yX3_become cX3_become 4 none [.ref A, .int so, .int nn] (Sh, I, R) (qv fun g => ∃ J : HI, g = (Sh, J, R) ∧ J A 1 = so ∧ J A 2 = mxI 0 (mnI 40 nn) ∧ (∀ j, j < 40 → J (A + 1) j = 0) ∧ ∀ a k, ¬ (a = A ∧ (k = 1 ∨ k = 2)) → a ≠ A + 1 → J a k = I a k) := by
  refine am_intro (by decide) (Nat.le_of_ble_eq_true rfl) ?_
  refine x_aload_n dX3_become_0 0 rfl rfl ?_
  refine x_iload_n dX3_become_1 1 rfl rfl ?_
  refine x_pI dX3_become_2 fl_3_15 rfl rfl rfl hA.1 (fun Iq1 e_Iq1 => ?_)
  refine x_aload_n dX3_become_5 0 rfl rfl ?_
  refine x_iconst (v := 0) dX3_become_6 (by decide) ?_
  refine x_bipush (v := 40) dX3_become_7 (by decide) ?_
  refine x_iload_n dX3_become_9 2 rfl rfl ?_
  refine x_mmin dX3_become_10 sc_3_19 (Nat.le_of_ble_eq_true rfl) (roomy_k (by omega) (by decide)) (Nat.le_refl _) (Nat.le_refl _) ?_
  refine x_mmax dX3_become_13 sc_3_25 (Nat.le_of_ble_eq_true rfl) (roomy_k (by omega) (by decide)) (Nat.le_refl _) (Nat.le_refl _) ?_
  refine x_pI dX3_become_16 fl_3_28 rfl rfl rfl hA.1 (fun Iq2 e_Iq2 => ?_)
  refine x_iconst (v := 0) dX3_become_19 (by decide) ?_
  refine x_istore_n (lv' := [(3, .int 0), (0, .ref A), (1, .int so), (2, .int nn)]) dX3_become_20 rfl (by decide) rfl ?_
  refine k_become_l' hA hRA (fun J h1 h2 => ⟨J, rfl, ?_, ?_, h1, fun a k q1 q2 => ?_⟩)
  · rw [h2 _ _ (by omega), e_Iq2, u2_ne (by omega), e_Iq1, u2_same]
  · rw [h2 _ _ (by omega), e_Iq2, u2_same]
  · rw [h2 _ _ q2, e_Iq2, u2_ne (by omega), e_Iq1, u2_ne (by omega)]

set_option maxHeartbeats 4000000 in
set_option maxRecDepth 100000 in
theorem k_isMissing {G : GG} {Sh : HS} {I : HI} {R : HR} {A : Nat} (hA : Sh.2 A = (3, 3) ∧ Sh.2 (A + 1) = (9, 40)) (hRA : R A 0 = some (A + 1)) : AM G 1 0 0 yX3_isMissing cX3_isMissing 1 (some .boolean) [.ref A] (Sh, I, R) (qi fun r g => r = bI (I A 1 = -1) ∧ g = (Sh, I, R)) := by
  refine am_intro (by decide) (Nat.le_of_ble_eq_true rfl) ?_
  refine x_aload_n dX3_isMissing_0 0 rfl rfl ?_
  refine x_gI (v := I A 1) dX3_isMissing_1 fl_3_15 rfl hA.1 rfl ?_
  refine x_iconst (v := (-1)) dX3_isMissing_4 (by decide) ?_
  refine x_icmp_ne (tgt := 12) dX3_isMissing_5 (by decide) (fun c_5 => ?_) (fun c_5 => ?_)
  · refine x_iconst (v := 0) dX3_isMissing_12 (by decide) ?_
    refine x_zret dX3_isMissing_13 rfl rfl (Nat.le_refl _) (Nat.le_refl _) ?_
    exact ⟨(bI_f c_5).symm, rfl⟩
  · refine x_iconst (v := 1) dX3_isMissing_8 (by decide) ?_
    refine x_goto (tgt := 13) dX3_isMissing_9 (by decide) ?_
    refine x_zret dX3_isMissing_13 rfl rfl (Nat.le_refl _) (Nat.le_refl _) ?_
    exact ⟨(bI_t c_5).symm, rfl⟩

set_option maxHeartbeats 4000000 in
set_option maxRecDepth 100000 in
theorem k_spans {G : GG} {Sh : HS} {I : HI} {R : HR} {A : Nat} (hA : Sh.2 A = (3, 3) ∧ Sh.2 (A + 1) = (9, 40)) (hRA : R A 0 = some (A + 1)) {sz : Nat} (hsz : I A 2 = nI sz) (hs40 : sz ≤ 40) {fr nn : Int32} : AM G 1 0 0 yX3_spans cX3_spans 3 (some .boolean) [.ref A, .int fr, .int nn] (Sh, I, R) (qi fun r g => r = bI (0 ≤ fr ∧ 0 ≤ nn ∧ fr ≤ nI sz - nn) ∧ g = (Sh, I, R)) := by
  refine am_intro (by decide) (Nat.le_of_ble_eq_true rfl) ?_
  refine x_iload_n dX3_spans_0 1 rfl rfl ?_
  refine x_if_lt (tgt := 22) dX3_spans_1 (by decide) (fun c_1 => ?_) (fun c_1 => ?_)
  · refine x_iconst (v := 0) dX3_spans_22 (by decide) ?_
    refine x_zret dX3_spans_23 rfl rfl (Nat.le_refl _) (Nat.le_refl _) ?_
    exact ⟨(bI_f (fun q => absurd c_1 (Int32.not_lt.mpr q.1))).symm, rfl⟩
  · refine x_iload_n dX3_spans_4 2 rfl rfl ?_
    refine x_if_lt (tgt := 22) dX3_spans_5 (by decide) (fun c_5 => ?_) (fun c_5 => ?_)
    · refine x_iconst (v := 0) dX3_spans_22 (by decide) ?_
      refine x_zret dX3_spans_23 rfl rfl (Nat.le_refl _) (Nat.le_refl _) ?_
      exact ⟨(bI_f (fun q => absurd c_5 (Int32.not_lt.mpr q.2.1))).symm, rfl⟩
    · refine x_iload_n dX3_spans_8 1 rfl rfl ?_
      refine x_aload_n dX3_spans_9 0 rfl rfl ?_
      refine x_gI (v := nI sz) dX3_spans_10 fl_3_28 rfl hA.1 hsz ?_
      refine x_iload_n dX3_spans_13 2 rfl rfl ?_
      refine x_isub dX3_spans_14 ?_
      refine x_icmp_gt (tgt := 22) dX3_spans_15 (by decide) (fun c_15 => ?_) (fun c_15 => ?_)
      · refine x_iconst (v := 0) dX3_spans_22 (by decide) ?_
        refine x_zret dX3_spans_23 rfl rfl (Nat.le_refl _) (Nat.le_refl _) ?_
        exact ⟨(bI_f (fun q => absurd c_15 (Int32.not_lt.mpr q.2.2))).symm, rfl⟩
      · refine x_iconst (v := 1) dX3_spans_18 (by decide) ?_
        refine x_goto (tgt := 23) dX3_spans_19 (by decide) ?_
        refine x_zret dX3_spans_23 rfl rfl (Nat.le_refl _) (Nat.le_refl _) ?_
        exact ⟨(bI_t ⟨Int32.not_lt.mp c_1, Int32.not_lt.mp c_5, Int32.not_lt.mp c_15⟩).symm, rfl⟩

set_option maxHeartbeats 4000000 in
set_option maxRecDepth 100000 in
theorem k_item {G : GG} {Sh : HS} {I : HI} {R : HR} {A : Nat} (hA : Sh.2 A = (3, 3) ∧ Sh.2 (A + 1) = (9, 40)) (hRA : R A 0 = some (A + 1)) {sz : Nat} (hsz : I A 2 = nI sz) (hs40 : sz ≤ 40) {i : Int32} : AM G 1 0 0 yX3_item cX3_item 2 (some .int) [.ref A, .int i] (Sh, I, R) (qi fun r g => r = itF (I (A + 1)) sz i ∧ g = (Sh, I, R)) := by
  refine am_intro (by decide) (Nat.le_of_ble_eq_true rfl) ?_
  refine x_iload_n dX3_item_0 1 rfl rfl ?_
  refine x_if_lt (tgt := 27) dX3_item_1 (by decide) (fun c_1 => ?_) (fun c_1 => ?_)
  · refine x_iconst (v := 0) dX3_item_27 (by decide) ?_
    refine x_iret dX3_item_28 rfl (Nat.le_refl _) (Nat.le_refl _) ?_
    refine ⟨?_, rfl⟩
    unfold itF
    rw [if_neg (fun q => q.1 c_1)]
  · refine x_iload_n dX3_item_4 1 rfl rfl ?_
    refine x_aload_n dX3_item_5 0 rfl rfl ?_
    refine x_gI (v := nI sz) dX3_item_6 fl_3_28 rfl hA.1 hsz ?_
    refine x_icmp_ge (tgt := 27) dX3_item_9 (by decide) (fun c_9 => ?_) (fun c_9 => ?_)
    · refine x_iconst (v := 0) dX3_item_27 (by decide) ?_
      refine x_iret dX3_item_28 rfl (Nat.le_refl _) (Nat.le_refl _) ?_
      refine ⟨?_, rfl⟩
      unfold itF
      rw [if_neg (fun q => absurd c_9 (Int32.not_le.mpr q.2))]
    · refine x_iload_n dX3_item_12 1 rfl rfl ?_
      refine x_bipush (v := 40) dX3_item_13 (by decide) ?_
      refine x_icmp_ge (tgt := 27) dX3_item_15 (by decide) (fun c_15 => ?_) (fun c_15 => ?_)
      · refine x_iconst (v := 0) dX3_item_27 (by decide) ?_
        refine x_iret dX3_item_28 rfl (Nat.le_refl _) (Nat.le_refl _) ?_
        refine ⟨?_, rfl⟩
        unfold itF
        rw [if_neg (fun q => absurd c_15 (Int32.not_le.mpr (Int32.lt_of_lt_of_le q.2 (nI_le (b := 40) hs40 (by omega)))))]
      · obtain ⟨j, hj, hij⟩ := idx_of c_1 c_9 (by omega)
        refine x_aload_n dX3_item_18 0 rfl rfl ?_
        refine x_gR (b := A + 1) dX3_item_19 fl_3_9 rfl hA.1 hRA ?_
        refine x_iload_n dX3_item_22 1 rfl rfl ?_
        refine x_ia (j := j) (v := I (A + 1) j) dX3_item_23 hA.2 hij (by omega) (by omega) rfl ?_
        refine x_goto (tgt := 28) dX3_item_24 (by decide) ?_
        refine x_iret dX3_item_28 rfl (Nat.le_refl _) (Nat.le_refl _) ?_
        refine ⟨?_, rfl⟩
        subst hij
        exact (itF_in hj hs40).symm

set_option maxHeartbeats 4000000 in
set_option maxRecDepth 100000 in
theorem k_put {G : GG} {Sh : HS} {I : HI} {R : HR} {A : Nat} (hA : Sh.2 A = (3, 3) ∧ Sh.2 (A + 1) = (9, 40)) (hRA : R A 0 = some (A + 1)) {sz : Nat} (hsz : I A 2 = nI sz) (hs40 : sz ≤ 40) {i v : Int32} : AM G 1 0 0 yX3_put cX3_put 3 (some .boolean) [.ref A, .int i, .int v] (Sh, I, R) (qi fun r g => (∃ j, j < sz ∧ i = nI j ∧ r = 1 ∧ g = (Sh, u2 I (A + 1) j (cutF (I A 1) v), R)) ∨ ((i < 0 ∨ nI sz ≤ i) ∧ r = 0 ∧ g = (Sh, I, R))) := by
  refine am_intro (by decide) (Nat.le_of_ble_eq_true rfl) ?_
  refine x_iload_n dX3_put_0 1 rfl rfl ?_
  refine x_if_lt (tgt := 18) dX3_put_1 (by decide) (fun c_1 => ?_) (fun c_1 => ?_)
  · refine x_iconst (v := 0) dX3_put_18 (by decide) ?_
    refine x_zret dX3_put_19 rfl rfl (Nat.le_refl _) (Nat.le_refl _) ?_
    exact Or.inr ⟨Or.inl c_1, rfl, rfl⟩
  · refine x_iload_n dX3_put_4 1 rfl rfl ?_
    refine x_aload_n dX3_put_5 0 rfl rfl ?_
    refine x_gI (v := nI sz) dX3_put_6 fl_3_28 rfl hA.1 hsz ?_
    refine x_icmp_ge (tgt := 18) dX3_put_9 (by decide) (fun c_9 => ?_) (fun c_9 => ?_)
    · refine x_iconst (v := 0) dX3_put_18 (by decide) ?_
      refine x_zret dX3_put_19 rfl rfl (Nat.le_refl _) (Nat.le_refl _) ?_
      exact Or.inr ⟨Or.inr c_9, rfl, rfl⟩
    · refine x_iload_n dX3_put_12 1 rfl rfl ?_
      refine x_bipush (v := 40) dX3_put_13 (by decide) ?_
      refine x_icmp_lt (tgt := 20) dX3_put_15 (by decide) (fun c_15 => ?_) (fun c_15 => ?_)
      · obtain ⟨j, hj, hij⟩ := idx_of c_1 c_9 (by omega)
        refine x_aload_n dX3_put_20 0 rfl rfl ?_
        refine x_gI (v := I A 1) dX3_put_21 fl_3_15 rfl hA.1 rfl ?_
        refine x_if_ne (tgt := 38) dX3_put_24 (by decide) (fun c_24 => ?_) (fun c_24 => ?_)
        · refine x_aload_n dX3_put_38 0 rfl rfl ?_
          refine x_gI (v := I A 1) dX3_put_39 fl_3_15 rfl hA.1 rfl ?_
          refine x_iconst (v := 1) dX3_put_42 (by decide) ?_
          refine x_icmp_ne (tgt := 57) dX3_put_43 (by decide) (fun c_43 => ?_) (fun c_43 => ?_)
          · refine x_aload_n dX3_put_57 0 rfl rfl ?_
            refine x_gR (b := A + 1) dX3_put_58 fl_3_9 rfl hA.1 hRA ?_
            refine x_iload_n dX3_put_61 1 rfl rfl ?_
            refine x_iload_n dX3_put_62 2 rfl rfl ?_
            refine x_is (j := j) dX3_put_63 hA.2 hij (by omega) (by omega) (fun Iq1 e_Iq1 => ?_)
            refine x_iconst (v := 1) dX3_put_64 (by decide) ?_
            refine x_zret dX3_put_65 rfl rfl (Nat.le_refl _) (Nat.le_refl _) ?_
            refine Or.inl ⟨j, hj, hij, rfl, ?_⟩
            rw [e_Iq1]
            unfold cutF
            rw [if_neg c_24, if_neg c_43]
          · refine x_aload_n dX3_put_46 0 rfl rfl ?_
            refine x_gR (b := A + 1) dX3_put_47 fl_3_9 rfl hA.1 hRA ?_
            refine x_iload_n dX3_put_50 1 rfl rfl ?_
            refine x_iload_n dX3_put_51 2 rfl rfl ?_
            refine x_i2s (v := v.toInt16.toInt32) dX3_put_52 rfl ?_
            refine x_is (j := j) dX3_put_53 hA.2 hij (by omega) (by omega) (fun Iq2 e_Iq2 => ?_)
            refine x_goto (tgt := 64) dX3_put_54 (by decide) ?_
            refine x_iconst (v := 1) dX3_put_64 (by decide) ?_
            refine x_zret dX3_put_65 rfl rfl (Nat.le_refl _) (Nat.le_refl _) ?_
            refine Or.inl ⟨j, hj, hij, rfl, ?_⟩
            rw [e_Iq2]
            unfold cutF
            rw [if_neg c_24, if_pos c_43]
        · refine x_aload_n dX3_put_27 0 rfl rfl ?_
          refine x_gR (b := A + 1) dX3_put_28 fl_3_9 rfl hA.1 hRA ?_
          refine x_iload_n dX3_put_31 1 rfl rfl ?_
          refine x_iload_n dX3_put_32 2 rfl rfl ?_
          refine x_i2b (v := v.toInt8.toInt32) dX3_put_33 rfl ?_
          refine x_is (j := j) dX3_put_34 hA.2 hij (by omega) (by omega) (fun Iq3 e_Iq3 => ?_)
          refine x_goto (tgt := 64) dX3_put_35 (by decide) ?_
          refine x_iconst (v := 1) dX3_put_64 (by decide) ?_
          refine x_zret dX3_put_65 rfl rfl (Nat.le_refl _) (Nat.le_refl _) ?_
          refine Or.inl ⟨j, hj, hij, rfl, ?_⟩
          rw [e_Iq3]
          unfold cutF
          rw [if_pos c_24]
      · refine x_iconst (v := 0) dX3_put_18 (by decide) ?_
        refine x_zret dX3_put_19 rfl rfl (Nat.le_refl _) (Nat.le_refl _) ?_
        exact Or.inr ⟨Or.inr (Int32.le_trans (nI_le (b := 40) hs40 (by omega)) (Int32.not_lt.mp c_15)), rfl, rfl⟩
end
section
/-! THE GAME in numbers, and what a search between two bounds says of it -/
noncomputable def lvF (P : Nat → List Int32) (n : Nat) (g : SV → Int32) (u : SV) (j : Nat) : Int32 := fd (fun i b => if u.1 i 3 = 1 then mnI b (g (beatF P n (spadeF P n i u))) else b) (g (beatF P n u)) j
noncomputable def mgF (P : Nat → List Int32) (n : Nat) (g : SV → Int32) (v : SV) (j : Nat) : Int32 := fd (fun i b => if v.1 i 3 = 0 then mxI b (lvF P n g (spadeF P n i v) n) else b) (lvF P n g v n) j
noncomputable def mvF (P : Nat → List Int32) (n : Nat) : Nat → SV → Int32
  | 0, v => valueF P n 0 v
  | w + 1, v => mgF P n (mvF P n w) v n
/-- the choice: value and fort -/
noncomputable def ffF (P : Nat → List Int32) (n : Nat) (g : SV → Int32) (v : SV) (j : Nat) : Int32 × Int32 := fd (fun i b => if v.1 i 3 = 0 ∧ b.1 < lvF P n g (spadeF P n i v) n then (lvF P n g (spadeF P n i v) n, nI i) else b) (lvF P n g v n, -1) j
theorem mxI_le {a b : Int32} : a ≤ mxI a b ∧ b ≤ mxI a b := by
  unfold mxI
  split
  · exact ⟨Int32.le_of_lt (by assumption), Int32.le_refl _⟩
  · exact ⟨Int32.le_refl _, Int32.not_lt.mp (by assumption)⟩
theorem mnI_le {a b : Int32} : mnI a b ≤ a ∧ mnI a b ≤ b := by
  unfold mnI
  split
  · exact ⟨Int32.le_of_lt (by assumption), Int32.le_refl _⟩
  · exact ⟨Int32.le_refl _, Int32.not_lt.mp (by assumption)⟩
theorem ff_mg {P : Nat → List Int32} {n : Nat} {g : SV → Int32} {v : SV} {j : Nat} : (ffF P n g v j).1 = mgF P n g v j := by
  induction j with
  | zero => rfl
  | succ j ih =>
    unfold ffF mgF at *
    rw [fd_s, fd_s]
    by_cases h : v.1 j 3 = 0
    · rw [if_pos h]
      by_cases h2 : (fd (fun i b => if v.1 i 3 = 0 ∧ b.1 < lvF P n g (spadeF P n i v) n then (lvF P n g (spadeF P n i v) n, nI i) else b) (lvF P n g v n, -1) j).1 < lvF P n g (spadeF P n j v) n
      · rw [if_pos ⟨h, h2⟩, ← ih]
        unfold mxI
        rw [if_pos h2]
      · rw [if_neg (fun q => h2 q.2), ← ih]
        unfold mxI
        rw [if_neg h2]
    · rw [if_neg h, if_neg (fun q => h q.1), ih]
theorem mn_t {a b : Int32} : (mnI a b).toInt ≤ a.toInt ∧ (mnI a b).toInt ≤ b.toInt ∧ ((mnI a b).toInt = a.toInt ∨ (mnI a b).toInt = b.toInt) := by
  refine ⟨Int32.le_iff_toInt_le.mp mnI_le.1, Int32.le_iff_toInt_le.mp mnI_le.2, ?_⟩
  unfold mnI
  split
  · exact Or.inr rfl
  · exact Or.inl rfl
theorem mx_t {a b : Int32} : a.toInt ≤ (mxI a b).toInt ∧ b.toInt ≤ (mxI a b).toInt ∧ ((mxI a b).toInt = a.toInt ∨ (mxI a b).toInt = b.toInt) := by
  refine ⟨Int32.le_iff_toInt_le.mp mxI_le.1, Int32.le_iff_toInt_le.mp mxI_le.2, ?_⟩
  unfold mxI
  split
  · exact Or.inr rfl
  · exact Or.inl rfl
theorem lv_mono {P : Nat → List Int32} {n : Nat} {g : SV → Int32} {v : SV} {i j : Nat} (h : i ≤ j) : lvF P n g v j ≤ lvF P n g v i := by
  induction j with
  | zero =>
    have : i = 0 := by omega
    subst this
    exact Int32.le_refl _
  | succ j ih =>
    by_cases e : i = j + 1
    · subst e
      exact Int32.le_refl _
    · have h1 := ih (by omega)
      refine Int32.le_trans ?_ h1
      unfold lvF
      rw [fd_s]
      split
      · exact mnI_le.1
      · exact Int32.le_refl _
theorem mg_mono {P : Nat → List Int32} {n : Nat} {g : SV → Int32} {v : SV} {i j : Nat} (h : i ≤ j) : mgF P n g v i ≤ mgF P n g v j := by
  induction j with
  | zero =>
    have : i = 0 := by omega
    subst this
    exact Int32.le_refl _
  | succ j ih =>
    by_cases e : i = j + 1
    · subst e
      exact Int32.le_refl _
    · have h1 := ih (by omega)
      refine Int32.le_trans h1 ?_
      unfold mgF
      rw [fd_s]
      split
      · exact mxI_le.1
      · exact Int32.le_refl _
/-- r is what V is, as far as lo and hi ask -/
def abF (r V lo hi : Int32) : Prop := (lo < r → r ≤ V) ∧ (r < hi → V ≤ r)
theorem ab_min {a m r V lo hi : Int32} (h : abF a m lo hi) (hl : ¬ a ≤ lo) (h2 : abF r V lo (mnI hi a)) : abF (mnI a r) (mnI m V) lo hi := by
  have h3 := mn_t (a := hi) (b := a)
  have h4 := mn_t (a := a) (b := r)
  have h5 := mn_t (a := m) (b := V)
  unfold abF at *
  simp only [Int32.lt_iff_toInt_lt, Int32.le_iff_toInt_le] at *
  omega
theorem ab_max {a m r V lo hi : Int32} (h : abF a m lo hi) (hl : ¬ hi ≤ a) (h2 : abF r V (mxI lo a) hi) : abF (mxI a r) (mxI m V) lo hi := by
  have h3 := mx_t (a := lo) (b := a)
  have h4 := mx_t (a := a) (b := r)
  have h5 := mx_t (a := m) (b := V)
  unfold abF at *
  simp only [Int32.lt_iff_toInt_lt, Int32.le_iff_toInt_le] at *
  omega
theorem ab_ge {a m M lo hi : Int32} (h : abF a m lo hi) (h1 : hi ≤ a) (h2 : m ≤ M) : abF a M lo hi :=
  ⟨fun q => Int32.le_trans (h.1 q) h2, fun q => absurd q (Int32.not_lt.mpr h1)⟩
theorem ab_le {a m M lo hi : Int32} (h : abF a m lo hi) (h1 : a ≤ lo) (h2 : M ≤ m) : abF a M lo hi :=
  ⟨fun q => absurd q (Int32.not_lt.mpr h1), fun q => Int32.le_trans h2 (h.2 q)⟩
theorem ab_in {a V lo hi : Int32} (h : abF a V lo hi) (h1 : lo < V) (h2 : V < hi) : a = V := by
  unfold abF at h
  apply Int32.toInt_inj.mp
  simp only [Int32.lt_iff_toInt_lt, Int32.le_iff_toInt_le] at *
  omega
/-! values are small -/
def smallI (x : Int32) (k : Int) : Prop := -k ≤ x.toInt ∧ x.toInt ≤ k
theorem small_add {x z : Int32} {k m : Int} (h : smallI x k) (h2 : smallI z m) (hk : 0 ≤ k) (hm : 0 ≤ m) (hb : k + m < 2147483648) : smallI (x + z) (k + m) := by
  unfold smallI at *
  rw [Int32.toInt_add, Int.bmod_def]
  omega
theorem small_neg {x : Int32} {k : Int} (h : smallI x k) (hb : k < 2147483648) : smallI (-x) k := by
  unfold smallI at *
  rw [Int32.toInt_neg, Int.bmod_def]
  omega
theorem small_wo {P : Nat → List Int32} {n i : Nat} {v : SV} : smallI (woF P n v i) 99 := by
  have e1 : (99 : Int32).toInt = 99 := by decide
  have e0 : (0 : Int32).toInt = 0 := by decide
  have h1 := mn_t (a := 99) (b := mxI 0 (topF (cF n v i) (P 2)))
  have h2 := mx_t (a := 0) (b := topF (cF n v i) (P 2))
  unfold woF smallI
  omega
theorem small_val {P : Nat → List Int32} {n : Nat} {r : Int32} {v : SV} : ∀ j : Nat, j ≤ 8 → smallI (valueG P n r v j) (99 * j) := by
  intro j
  induction j with
  | zero =>
    intro _
    show smallI (0 : Int32) _
    unfold smallI
    have e0 : (0 : Int32).toInt = 0 := by decide
    omega
  | succ j ih =>
    intro hj
    have h := ih (by omega)
    have hw := small_wo (P := P) (n := n) (i := j) (v := v)
    have e : (99 * ((j + 1 : Nat) : Int)) = 99 * (j : Int) + 99 := by omega
    rw [e]
    unfold valueG at *
    rw [fd_s]
    split
    · split
      · exact small_add h hw (by omega) (by omega) (by omega)
      · exact small_add h (small_neg hw (by omega)) (by omega) (by omega) (by omega)
    · unfold smallI at *
      omega
theorem small_mx {a b : Int32} {k : Int} (h : smallI a k) (h2 : smallI b k) : smallI (mxI a b) k := by
  unfold mxI
  split <;> assumption
theorem small_mn {a b : Int32} {k : Int} (h : smallI a k) (h2 : smallI b k) : smallI (mnI a b) k := by
  unfold mnI
  split <;> assumption
theorem small_lv {P : Nat → List Int32} {n : Nat} {g : SV → Int32} {k : Int} (h : ∀ u, smallI (g u) k) (u : SV) (j : Nat) : smallI (lvF P n g u j) k := by
  induction j with
  | zero => exact h _
  | succ j ih =>
    unfold lvF at *
    rw [fd_s]
    split
    · exact small_mn ih (h _)
    · exact ih
theorem small_mg {P : Nat → List Int32} {n : Nat} {g : SV → Int32} {k : Int} (h : ∀ u, smallI (g u) k) (u : SV) (j : Nat) : smallI (mgF P n g u j) k := by
  induction j with
  | zero => exact small_lv h _ _
  | succ j ih =>
    unfold mgF at *
    rw [fd_s]
    split
    · exact small_mx ih (small_lv h _ _)
    · exact ih
theorem small_mv {P : Nat → List Int32} {n : Nat} (hn : n ≤ 8) : ∀ (w : Nat) (v : SV), smallI (mvF P n w v) 792
  | 0, v => by
    have h := small_val (P := P) (n := n) (r := 0) (v := v) n hn
    show smallI (valueG P n 0 v n) 792
    unfold smallI at *
    omega
  | w + 1, v => small_mg (fun u => small_mv hn w u) v n
/-! the game's cells -/
def ShG (Sh : HS) (Gm : Nat) : Prop := Sh.2 Gm = (1, 3) ∧ Sh.2 (Gm + 1) = (13, 3) ∧ ∀ r, r < 3 → Sh.2 (Gm + 2 + r) = (9, 8)
def RG (R : HR) (Gm S : Nat) : Prop := R Gm 0 = some S ∧ R Gm 1 = some (Gm + 1) ∧ ∀ r, r < 3 → R (Gm + 1) r = some (Gm + 2 + r)
def frG (T S Gm w : Nat) (I J : HI) : Prop := ∀ a k, ¬ scr T a k → ¬ (S + 2 ≤ a ∧ a < S + 10 ∧ 4 ≤ k) → ¬ (a = S ∧ k = 3) → ¬ (a = Gm ∧ k = 2) → ¬ (Gm + 2 ≤ a ∧ a < Gm + 2 + w) → J a k = I a k
theorem frG.rf {T S Gm w : Nat} {I : HI} : frG T S Gm w I I := fun _ _ _ _ _ _ _ => rfl
theorem frG.tr {T S Gm w : Nat} {I J J2 : HI} (h : frG T S Gm w I J) (h2 : frG T S Gm w J J2) : frG T S Gm w I J2 := fun a k q1 q2 q3 q4 q5 => (h2 a k q1 q2 q3 q4 q5).trans (h a k q1 q2 q3 q4 q5)
theorem frG.up {T S Gm w w2 : Nat} {I J : HI} (h : frG T S Gm w I J) (hw : w ≤ w2) : frG T S Gm w2 I J := fun a k q1 q2 q3 q4 q5 => h a k q1 q2 q3 q4 (by omega)
theorem frS.g {T S Gm w : Nat} {I J : HI} (h : frS T S I J) : frG T S Gm w I J := fun a k q1 q2 q3 _ _ => h a k q1 q2 q3
theorem SW.frG {Sh : HS} {I J : HI} {R : HR} {S T n Gm w : Nat} {P : Nat → List Int32} (wS : SW Sh I R S T n P) (hG : S + 10 ≤ Gm) (o : frG T S Gm w I J) : SW Sh J R S T n P := by
  obtain ⟨h1, h2, h3, h4, h5, h6, h7, h8, h9⟩ := wS
  refine ⟨h1, h2, ?_, h4, h5, h6, h7, ?_, h9⟩
  · rw [o S 1 (scr_no h9 (Nat.le_refl _)) (by omega) (by omega) (by omega) (by omega)]
    exact h3
  · refine h8.same (fun k hk => o T k (fun e => by rcases e with e | e <;> omega) (by omega) (by omega) (by omega) (by omega)) (fun k => o (T + 1) k (fun e => by rcases e with e | e <;> omega) (by omega) (by omega) (by omega) (by omega))
theorem SR.back {I : HI} {S n i : Nat} {v : SV} {P : Nat → List Int32} (h : SR I S n (spadeF P n i v)) (hi : i < n) : SR (u2 I (S + 2 + i) 4 (v.1 i 4)) S n v := by
  refine ⟨fun j hj k hk => ?_, ?_, ?_⟩
  · by_cases e : j = i ∧ k = 4
    · obtain ⟨rfl, rfl⟩ := e
      exact u2_same
    · rw [u2_ne (by omega), h.1 j hj k hk]
      unfold spadeF
      simp [e]
  · rw [u2_ne (by omega)]
    exact h.2.1
  · rw [u2_ne (by omega)]
    exact h.2.2
end
section
set_option maxHeartbeats 4000000 in
set_option maxRecDepth 100000 in
theorem k_at_in {G : GG} {Sh : HS} {I : HI} {R : HR} {S n i : Nat} (hS : ShS Sh S) (hR : RS R S) (hn : I S 1 = nI n) (hn8 : n ≤ 8) (hi : i < n) : AM G 1 0 0 yX4_at cX4_at 2 (some (.object "Sandcastles$Fort")) [.ref S, .int (nI i)] (Sh, I, R) (qa fun r g => r = some (S + 2 + i) ∧ g = (Sh, I, R)) := by
  refine am_intro (by decide) (Nat.le_of_ble_eq_true rfl) ?_
  refine x_iload_n dX4_at_0 1 rfl rfl ?_
  refine x_if_lt (tgt := 27) dX4_at_1 (by decide) (fun c_1 => False.elim (nI_pos (by omega) c_1)) (fun c_1 => ?_)
  refine x_iload_n dX4_at_4 1 rfl rfl ?_
  refine x_aload_n dX4_at_5 0 rfl rfl ?_
  refine x_gI (v := nI n) dX4_at_6 fl_4_22 rfl hS.1 hn ?_
  refine x_icmp_ge (tgt := 27) dX4_at_9 (by decide) (fun c_9 => ?_) (fun c_9 => ?_)
  · have c_9 : n ≤ i := (nI_leI (a := n) (b := i) (by omega) (by omega)).mp c_9
    refine x_null dX4_at_27 ?_
    refine x_aretN dX4_at_28 rfl (Or.inl ⟨_, rfl⟩) (Nat.le_refl _) (Nat.le_refl _) ?_
    exfalso
    omega
  · have c_9 : ¬ n ≤ i := fun q => c_9 ((nI_leI (a := n) (b := i) (by omega) (by omega)).mpr q)
    refine x_iload_n dX4_at_12 1 rfl rfl ?_
    refine x_bipush (v := 8) dX4_at_13 (by decide) ?_
    refine x_icmp_ge (tgt := 27) dX4_at_15 (by decide) (fun c_15 => ?_) (fun c_15 => ?_)
    · have c_15 : 8 ≤ i := (nI_leI (a := 8) (b := i) (by omega) (by omega)).mp c_15
      refine x_null dX4_at_27 ?_
      refine x_aretN dX4_at_28 rfl (Or.inl ⟨_, rfl⟩) (Nat.le_refl _) (Nat.le_refl _) ?_
      exfalso
      omega
    · have c_15 : ¬ 8 ≤ i := fun q => c_15 ((nI_leI (a := 8) (b := i) (by omega) (by omega)).mpr q)
      refine x_aload_n dX4_at_18 0 rfl rfl ?_
      refine x_gR (b := S + 1) dX4_at_19 fl_4_11 rfl hS.1 hR.1 ?_
      refine x_iload_n dX4_at_22 1 rfl rfl ?_
      refine x_aa (j := i) (b := S + 2 + i) dX4_at_23 hS.2.1 (by decide) (by decide) rfl (by omega) (by omega) (hR.2 i (by omega)) ?_
      refine x_goto (tgt := 28) dX4_at_24 (by decide) ?_
      refine x_aret dX4_at_28 rfl (Or.inl ⟨_, rfl⟩) (Nat.le_refl _) (Nat.le_refl _) ?_
      exact ⟨rfl, rfl⟩

def MostC (G : GG) (Sh : HS) (R : HR) (S T n Gm : Nat) (P : Nat → List Int32) (w d : Nat) : Prop := ∀ (I : HI) (v : SV) (lo hi : Int32), SW Sh I R S T n P → SR I S n v → AM G d 0 0 yX1_most cX1_most 10 (some .int) [.ref Gm, .int (nI w), .int lo, .int hi] (Sh, I, R) (qi fun r g => ∃ J : HI, g = (Sh, J, R) ∧ abF r (mvF P n w v) lo hi ∧ SR J S n v ∧ frG T S Gm w I J ∧ (lo = -2147483648 → hi = 2147483647 → 1 ≤ w → J Gm 2 = (ffF P n (mvF P n (w - 1)) v n).2))
def BehC (G : GG) (Sh : HS) (R : HR) (S T n Gm : Nat) (P : Nat → List Int32) (w d : Nat) : Prop := ∀ (I : HI) (v : SV) (lo hi : Int32), SW Sh I R S T n P → SR I S n v → AM G d 0 0 yX1_behindWave cX1_behindWave 7 (some .int) [.ref Gm, .int (nI (w + 1)), .int lo, .int hi] (Sh, I, R) (qi fun r g => ∃ J : HI, g = (Sh, J, R) ∧ abF r (mvF P n w (beatF P n v)) lo hi ∧ SR J S n v ∧ frG T S Gm (w + 1) I J)
def LeastC (G : GG) (Sh : HS) (R : HR) (S T n Gm : Nat) (P : Nat → List Int32) (w d : Nat) : Prop := ∀ (I : HI) (v : SV) (lo hi : Int32), SW Sh I R S T n P → SR I S n v → AM G d 0 0 yX1_least cX1_least 9 (some .int) [.ref Gm, .int (nI (w + 1)), .int lo, .int hi] (Sh, I, R) (qi fun r g => ∃ J : HI, g = (Sh, J, R) ∧ abF r (lvF P n (mvF P n w) v n) lo hi ∧ SR J S n v ∧ frG T S Gm (w + 1) I J)

set_option maxHeartbeats 4000000 in
set_option maxRecDepth 100000 in
theorem k_beh_l2 {G : GG} {Sh : HS} {I : HI} {R : HR} {S Gm w : Nat} (hG : ShG Sh Gm) (hRG : RG R Gm S) (hSG : S + 10 ≤ Gm) (hS : ShS Sh S) (hR : RS R S) (hw : w < 3) {d : Nat} {Q : Int32 → AH → Prop} {hv : Nat → Int32} {r lo hi : Int32} (hrow : ∀ j, j < 8 → I (Gm + 2 + w) j = hv j) (hQ : ∀ J : HI, (∀ j, j < 8 → J (S + 2 + j) 4 = hv j) → (∀ a k, ¬ (S + 2 ≤ a ∧ a < S + 10 ∧ k = 4) → J a k = I a k) → Q r (Sh, J, R)) : ∀ (m : Nat) (i : Nat) (J : HI), (i ≤ 8) → (8 < i + m) → (∀ j, j < i → J (S + 2 + j) 4 = hv j) → (∀ a k, ¬ (S + 2 ≤ a ∧ a < S + 10 ∧ k = 4) → J a k = I a k) → X G (kM G (d + 1) 0 0 (qi Q)) yX1_behindWave cX1_behindWave 7 (some .int) 0 0 97 [(6, .int (nI i)), (5, .int r), (4, .ref (Gm + 2 + w)), (0, .ref Gm), (1, .int (nI (w + 1))), (2, .int lo), (3, .int hi)] [] (Sh, J, R) := by
  intro m
  induction m with
  | zero =>
    intro i J hi_ hm hdone hfr
    exact absurd hm (by omega)
  | succ m ih =>
    intro i J hi_ hm hdone hfr
    refine x_iload dX1_behindWave_97 0 rfl ?_
    refine x_bipush (v := 8) dX1_behindWave_99 (by decide) ?_
    refine x_icmp_ge (tgt := 128) dX1_behindWave_101 (by decide) (fun c_101 => ?_) (fun c_101 => ?_)
    · have c_101 : 8 ≤ i := (nI_leI (a := 8) (b := i) (by omega) (by omega)).mp c_101
      refine x_iload dX1_behindWave_128 1 rfl ?_
      refine x_iret dX1_behindWave_130 rfl (Nat.le_refl _) (Nat.le_refl _) ?_
      exact hQ J (fun j hj => hdone j (by omega)) hfr
    · have c_101 : ¬ 8 ≤ i := fun q => c_101 ((nI_leI (a := 8) (b := i) (by omega) (by omega)).mpr q)
      refine x_aload_n dX1_behindWave_104 3 rfl rfl ?_
      refine x_gR (b := S) dX1_behindWave_105 fl_1_16 rfl hG.1 hRG.1 ?_
      refine x_gR (b := S + 1) dX1_behindWave_108 fl_1_65 rfl hS.1 hR.1 ?_
      refine x_iload dX1_behindWave_111 0 rfl ?_
      refine x_aa (j := i) (b := S + 2 + i) dX1_behindWave_113 hS.2.1 (by decide) (by decide) rfl (by omega) (by omega) (hR.2 i (by omega)) ?_
      refine x_aload dX1_behindWave_114 2 rfl ?_
      refine x_iload dX1_behindWave_116 0 rfl ?_
      refine x_ia (j := i) (v := hv i) dX1_behindWave_118 (hG.2.2 w hw) rfl (by omega) (by omega) ((hfr _ _ (by omega)).trans (hrow i (by omega))) ?_
      refine x_pI dX1_behindWave_119 fl_1_43 rfl rfl rfl (hS.2.2 i (by omega)) (fun Iq1 e_Iq1 => ?_)
      refine x_iinc (v := nI (i + 1)) (lv' := [(6, .int (nI (i + 1))), (5, .int r), (4, .ref (Gm + 2 + w)), (0, .ref Gm), (1, .int (nI (w + 1))), (2, .int lo), (3, .int hi)]) dX1_behindWave_122 0 rfl (nI_1 i) (by decide) rfl ?_
      refine x_goto (tgt := 97) dX1_behindWave_125 (by decide) ?_
      refine x_sub [0, 1, 2, 3, 4, 5, 6] rfl ?_
      exact ih (i + 1) Iq1 (by omega) (by omega) (fun j hj => by
        rw [e_Iq1]
        by_cases e : j = i
        · subst e
          exact u2_same
        · rw [u2_ne (by omega)]
          exact hdone j (by omega)) (fun a k q => by rw [e_Iq1, u2_ne (by omega)]; exact hfr a k q)

set_option maxHeartbeats 4000000 in
set_option maxRecDepth 100000 in
theorem k_beh_m {G : GG} {Sh : HS} {I : HI} {R : HR} {S T n Gm w : Nat} {P : Nat → List Int32} (hG : ShG Sh Gm) (hRG : RG R Gm S) (hSG : S + 10 ≤ Gm) (hw : w < 3) {d : Nat} (hd : 6 ≤ d) (hmost : MostC G Sh R S T n Gm P w d) {v : SV} {lo hi : Int32} (w0 : SW Sh I R S T n P) (hs0 : SR I S n v) {J : HI} (hrow : ∀ j, j < 8 → J (Gm + 2 + w) j = I (S + 2 + j) 4) (hfr : ∀ a k, a ≠ Gm + 2 + w → J a k = I a k) : X G (kM G (d + 1) 0 0 (qi fun r g => ∃ J : HI, g = (Sh, J, R) ∧ abF r (mvF P n w (beatF P n v)) lo hi ∧ SR J S n v ∧ frG T S Gm (w + 1) I J)) yX1_behindWave cX1_behindWave 7 (some .int) 0 0 63 [(4, .ref (Gm + 2 + w)), (0, .ref Gm), (1, .int (nI (w + 1))), (2, .int lo), (3, .int hi)] [] (Sh, J, R) := by
  obtain ⟨hS, hR, hn, hn8, hrl, hT, hRT, hTX, hTS⟩ := id w0
  refine x_aload_n dX1_behindWave_63 1 rfl rfl ?_
  refine x_gR (b := S) dX1_behindWave_64 fl_1_16 rfl hG.1 hRG.1 ?_
  have hfg : frG T S Gm (w + 1) I J := fun a k q1 q2 q3 q4 q5 => hfr a k (by omega)
  have w1 := w0.frG hSG hfg
  have hs1 : SR J S n v := ⟨fun i hi k hk => (hfr _ _ (by omega)).trans (hs0.1 i hi k hk), (hfr _ _ (by omega)).trans hs0.2.1, (hfr _ _ (by omega)).trans hs0.2.2⟩
  refine x_callV (k_beat (G := G) (I := J) w1 hs1) dX1_behindWave_67 crc_X4_beat vc_1_69 hS.1 rfl rfl rfl rfl (Nat.le_of_ble_eq_true rfl) (roomy_k (by omega) (by decide)) (Nat.le_refl _) (Nat.le_refl _) ?_
  rintro _ _ ⟨rfl, J2, rfl, hs2, hf2⟩
  refine x_aload_n dX1_behindWave_70 1 rfl rfl ?_
  refine x_iload_n dX1_behindWave_71 2 rfl rfl ?_
  refine x_iconst (v := 1) dX1_behindWave_72 (by decide) ?_
  refine x_isub dX1_behindWave_73 ?_
  refine x_vali (nI_pred w) ?_
  refine x_iload_n dX1_behindWave_74 3 rfl rfl ?_
  refine x_iload_n dX1_behindWave_75 4 rfl rfl ?_
  refine x_callV (hmost J2 (beatF P n v) lo hi (w1.fr hf2) hs2) dX1_behindWave_76 crc_X1_most vc_1_72 hG.1 rfl rfl rfl rfl (Nat.le_of_ble_eq_true rfl) (roomy_k (by omega) (by decide)) (Nat.le_refl _) (Nat.le_refl _) ?_
  rintro _ _ ⟨r, rfl, J3, rfl, hab, hs3, hf3, -⟩
  refine x_istore (lv' := [(5, .int r), (4, .ref (Gm + 2 + w)), (0, .ref Gm), (1, .int (nI (w + 1))), (2, .int lo), (3, .int hi)]) dX1_behindWave_79 (by decide) rfl ?_
  refine x_aload_n dX1_behindWave_81 2 rfl rfl ?_
  refine x_gR (b := S) dX1_behindWave_82 fl_1_16 rfl hG.1 hRG.1 ?_
  refine x_dup dX1_behindWave_85 rfl ?_
  refine x_gI (v := v.2.2 + 1) dX1_behindWave_86 fl_1_75 rfl hS.1 hs3.2.2 ?_
  refine x_iconst (v := 1) dX1_behindWave_89 (by decide) ?_
  refine x_isub dX1_behindWave_90 ?_
  refine x_pI dX1_behindWave_91 fl_1_75 rfl rfl rfl hS.1 (fun Iq1 e_Iq1 => ?_)
  refine x_iconst (v := 0) dX1_behindWave_94 (by decide) ?_
  refine x_istore (lv' := [(6, .int 0), (5, .int r), (4, .ref (Gm + 2 + w)), (0, .ref Gm), (1, .int (nI (w + 1))), (2, .int lo), (3, .int hi)]) dX1_behindWave_95 (by decide) rfl ?_
  refine x_sub [0, 1, 2, 3, 4, 5, 6] rfl ?_
  refine k_beh_l2 (hv := fun j => I (S + 2 + j) 4) hG hRG hSG hS hR hw (fun j hj => ?_) (fun J5 h1 h2 => ⟨J5, rfl, hab, ⟨fun i hi k hk => ?_, ?_, ?_⟩, fun a k q1 q2 q3 q4 q5 => ?_⟩) 9 0 Iq1 (by omega) (by omega) (fun j hj => absurd hj (by omega)) (fun _ _ _ => rfl)
  · rw [e_Iq1, u2_ne (by omega), hf3 _ _ (scr_no hTS (by omega)) (by omega) (by omega) (by omega) (by omega), hf2 _ _ (scr_no hTS (by omega)) (by omega) (by omega)]
    exact hrow j hj
  · by_cases e : k = 4
    · subst e
      rw [h1 i (by omega)]
      exact hs0.1 i hi 4 (by omega)
    · rw [h2 _ _ (by omega), e_Iq1, u2_ne (by omega), hs3.1 i hi k hk]
      unfold beatF
      simp [e]
  · rw [h2 _ _ (by omega), e_Iq1, u2_ne (by omega)]
    exact hs3.2.1
  · rw [h2 _ _ (by omega), e_Iq1, u2_same]
    exact Int32.add_sub_cancel _ _
  · rw [h2 _ _ (by omega), e_Iq1, u2_ne (by omega), hf3 a k q1 q2 q3 q4 (by omega), hf2 a k q1 q2 q3]
    exact hfr a k (by omega)

set_option maxHeartbeats 4000000 in
set_option maxRecDepth 100000 in
theorem k_beh_l1 {G : GG} {Sh : HS} {I : HI} {R : HR} {S T n Gm w : Nat} {P : Nat → List Int32} (hG : ShG Sh Gm) (hRG : RG R Gm S) (hSG : S + 10 ≤ Gm) (hw : w < 3) {d : Nat} (hd : 6 ≤ d) (hmost : MostC G Sh R S T n Gm P w d) {v : SV} {lo hi : Int32} (w0 : SW Sh I R S T n P) (hs0 : SR I S n v) : ∀ (m : Nat) (i : Nat) (J : HI), (i ≤ 8) → (8 < i + m) → (∀ j, j < i → J (Gm + 2 + w) j = I (S + 2 + j) 4) → (∀ a k, a ≠ Gm + 2 + w → J a k = I a k) → X G (kM G (d + 1) 0 0 (qi fun r g => ∃ J : HI, g = (Sh, J, R) ∧ abF r (mvF P n w (beatF P n v)) lo hi ∧ SR J S n v ∧ frG T S Gm (w + 1) I J)) yX1_behindWave cX1_behindWave 7 (some .int) 0 0 32 [(5, .int (nI i)), (4, .ref (Gm + 2 + w)), (0, .ref Gm), (1, .int (nI (w + 1))), (2, .int lo), (3, .int hi)] [] (Sh, J, R) := by
  intro m
  induction m with
  | zero =>
    intro i J hi_ hm hrow hfr
    exact absurd hm (by omega)
  | succ m ih =>
    intro i J hi_ hm hrow hfr
    obtain ⟨hS, hR, hn, hn8, hrl, hT, hRT, hTX, hTS⟩ := id w0
    refine x_iload dX1_behindWave_32 0 rfl ?_
    refine x_bipush (v := 8) dX1_behindWave_34 (by decide) ?_
    refine x_icmp_ge (tgt := 63) dX1_behindWave_36 (by decide) (fun c_36 => ?_) (fun c_36 => ?_)
    · have c_36 : 8 ≤ i := (nI_leI (a := 8) (b := i) (by omega) (by omega)).mp c_36
      refine x_sub [1, 2, 3, 4, 5] rfl ?_
      exact k_beh_m hG hRG hSG hw hd hmost w0 hs0 (fun j hj => hrow j (by omega)) hfr
    · have c_36 : ¬ 8 ≤ i := fun q => c_36 ((nI_leI (a := 8) (b := i) (by omega) (by omega)).mpr q)
      refine x_aload dX1_behindWave_39 1 rfl ?_
      refine x_iload dX1_behindWave_41 0 rfl ?_
      refine x_aload_n dX1_behindWave_43 2 rfl rfl ?_
      refine x_gR (b := S) dX1_behindWave_44 fl_1_16 rfl hG.1 hRG.1 ?_
      refine x_gR (b := S + 1) dX1_behindWave_47 fl_1_65 rfl hS.1 hR.1 ?_
      refine x_iload dX1_behindWave_50 0 rfl ?_
      refine x_aa (j := i) (b := S + 2 + i) dX1_behindWave_52 hS.2.1 (by decide) (by decide) rfl (by omega) (by omega) (hR.2 i (by omega)) ?_
      refine x_gI (v := I (S + 2 + i) 4) dX1_behindWave_53 fl_1_43 rfl (hS.2.2 i (by omega)) (hfr _ _ (by omega)) ?_
      refine x_is (j := i) dX1_behindWave_56 (hG.2.2 w hw) rfl (by omega) (by omega) (fun Iq1 e_Iq1 => ?_)
      refine x_iinc (v := nI (i + 1)) (lv' := [(5, .int (nI (i + 1))), (4, .ref (Gm + 2 + w)), (0, .ref Gm), (1, .int (nI (w + 1))), (2, .int lo), (3, .int hi)]) dX1_behindWave_57 0 rfl (nI_1 i) (by decide) rfl ?_
      refine x_goto (tgt := 32) dX1_behindWave_60 (by decide) ?_
      refine x_sub [0, 1, 2, 3, 4, 5] rfl ?_
      exact ih (i + 1) Iq1 (by omega) (by omega) (fun j hj => by
        rw [e_Iq1]
        by_cases e : j = i
        · subst e
          exact u2_same
        · rw [u2_ne (by omega)]
          exact hrow j (by omega)) (fun a k q => by rw [e_Iq1, u2_ne (by omega)]; exact hfr a k q)

set_option maxHeartbeats 4000000 in
set_option maxRecDepth 100000 in
theorem k_beh {G : GG} {Sh : HS} {R : HR} {S T n Gm w : Nat} {P : Nat → List Int32} (hG : ShG Sh Gm) (hRG : RG R Gm S) (hSG : S + 10 ≤ Gm) (hw : w < 3) {d : Nat} (hd : 6 ≤ d) (hmost : MostC G Sh R S T n Gm P w d) : BehC G Sh R S T n Gm P w (d + 1) := by
  intro I v lo hi w0 hs0
  obtain ⟨hS, hR, hn, hn8, hrl, hT, hRT, hTX, hTS⟩ := id w0
  refine am_intro (by decide) (Nat.le_of_ble_eq_true rfl) ?_
  refine x_iload_n dX1_behindWave_0 1 rfl rfl ?_
  refine x_iconst (v := 1) dX1_behindWave_1 (by decide) ?_
  refine x_icmp_lt (tgt := 10) dX1_behindWave_2 (by decide) (fun c_2 => False.elim (by have := (nI_ltI (a := w + 1) (b := 1) (by omega) (by omega)).mp c_2; omega)) (fun c_2 => ?_)
  refine x_iload_n dX1_behindWave_5 1 rfl rfl ?_
  refine x_iconst (v := 3) dX1_behindWave_6 (by decide) ?_
  refine x_icmp_le (tgt := 19) dX1_behindWave_7 (by decide) (fun c_7 => ?_) (fun c_7 => False.elim (c_7 ((nI_leI (a := w + 1) (b := 3) (by omega) (by omega)).mpr (by omega))))
  refine x_aload_n dX1_behindWave_19 0 rfl rfl ?_
  refine x_gR (b := Gm + 1) dX1_behindWave_20 fl_1_11 rfl hG.1 hRG.2.1 ?_
  refine x_iload_n dX1_behindWave_23 1 rfl rfl ?_
  refine x_iconst (v := 1) dX1_behindWave_24 (by decide) ?_
  refine x_isub dX1_behindWave_25 ?_
  refine x_vali (nI_pred w) ?_
  refine x_aa (j := w) (b := Gm + 2 + w) dX1_behindWave_26 hG.2.1 (by decide) (by decide) rfl hw (by omega) (hRG.2.2 w hw) ?_
  refine x_astore (lv' := [(4, .ref (Gm + 2 + w)), (0, .ref Gm), (1, .int (nI (w + 1))), (2, .int lo), (3, .int hi)]) dX1_behindWave_27 (by decide) rfl ?_
  refine x_iconst (v := 0) dX1_behindWave_29 (by decide) ?_
  refine x_istore (lv' := [(5, .int 0), (4, .ref (Gm + 2 + w)), (0, .ref Gm), (1, .int (nI (w + 1))), (2, .int lo), (3, .int hi)]) dX1_behindWave_30 (by decide) rfl ?_
  exact k_beh_l1 hG hRG hSG hw hd hmost w0 hs0 9 0 I (by omega) (by omega) (fun j hj => absurd hj (by omega)) (fun _ _ _ => rfl)

set_option maxHeartbeats 4000000 in
set_option maxRecDepth 100000 in
theorem k_least_l {G : GG} {Sh : HS} {I : HI} {R : HR} {S T n Gm w : Nat} {P : Nat → List Int32} (hG : ShG Sh Gm) (hRG : RG R Gm S) (hSG : S + 10 ≤ Gm) (hw : w < 3) {d : Nat} (hd : 7 ≤ d) (hbeh : BehC G Sh R S T n Gm P w d) {v : SV} {lo hi : Int32} (w0 : SW Sh I R S T n P) (hs0 : SR I S n v) : ∀ (m : Nat) (i : Nat) (val : Int32) (J : HI), (i ≤ n) → (n < i + m) → (abF val (lvF P n (mvF P n w) v i) lo hi) → (SR J S n v) → (frG T S Gm (w + 1) I J) → X G (kM G (d + 1) 0 0 (qi fun r g => ∃ J : HI, g = (Sh, J, R) ∧ abF r (lvF P n (mvF P n w) v n) lo hi ∧ SR J S n v ∧ frG T S Gm (w + 1) I J)) yX1_least cX1_least 9 (some .int) 0 0 12 [(5, .int (nI i)), (4, .int val), (0, .ref Gm), (1, .int (nI (w + 1))), (2, .int lo), (3, .int hi)] [] (Sh, J, R) := by
  intro m
  induction m with
  | zero =>
    intro i val J hi_ hm hab hs hfr
    exact absurd hm (by omega)
  | succ m ih =>
    intro i val J hi_ hm hab hs hfr
    obtain ⟨hS, hR, hn, hn8, hrl, hT, hRT, hTX, hTS⟩ := id w0
    have w1 := w0.frG hSG hfr
    refine x_iload dX1_least_12 0 rfl ?_
    refine x_aload_n dX1_least_14 2 rfl rfl ?_
    refine x_gR (b := S) dX1_least_15 fl_1_16 rfl hG.1 hRG.1 ?_
    refine x_gI (v := nI n) dX1_least_18 fl_1_30 rfl hS.1 (w1.2.2.1) ?_
    refine x_icmp_ge (tgt := 110) dX1_least_21 (by decide) (fun c_21 => ?_) (fun c_21 => ?_)
    · have c_21 : n ≤ i := (nI_leI (a := n) (b := i) (by omega) (by omega)).mp c_21
      refine x_iload dX1_least_110 1 rfl ?_
      refine x_iret dX1_least_112 rfl (Nat.le_refl _) (Nat.le_refl _) ?_
      have hin : i = n := by omega
      subst hin
      exact ⟨J, rfl, hab, hs, hfr⟩
    · have c_21 : ¬ n ≤ i := fun q => c_21 ((nI_leI (a := n) (b := i) (by omega) (by omega)).mpr q)
      refine x_iload dX1_least_24 1 rfl ?_
      refine x_iload_n dX1_least_26 4 rfl rfl ?_
      refine x_icmp_le (tgt := 110) dX1_least_27 (by decide) (fun c_27 => ?_) (fun c_27 => ?_)
      · refine x_iload dX1_least_110 1 rfl ?_
        refine x_iret dX1_least_112 rfl (Nat.le_refl _) (Nat.le_refl _) ?_
        exact ⟨J, rfl, ab_le hab c_27 (lv_mono hi_), hs, hfr⟩
      · refine x_aload_n dX1_least_30 2 rfl rfl ?_
        refine x_gR (b := S) dX1_least_31 fl_1_16 rfl hG.1 hRG.1 ?_
        refine x_iload dX1_least_34 0 rfl ?_
        refine x_callV (k_at_in (G := G) (I := J) hS hR w1.2.2.1 hn8 (i := i) (by omega)) dX1_least_36 crc_X4_at vc_1_34 hS.1 rfl rfl rfl rfl (Nat.le_of_ble_eq_true rfl) (roomy_k (by omega) (by decide)) (Nat.le_refl _) (Nat.le_refl _) ?_
        rintro _ _ ⟨_, rfl, rfl, rfl⟩
        refine x_astore (lv' := [(6, .ref (S + 2 + i)), (5, .int (nI i)), (4, .int val), (0, .ref Gm), (1, .int (nI (w + 1))), (2, .int lo), (3, .int hi)]) dX1_least_39 (by decide) rfl ?_
        refine x_aload dX1_least_41 0 rfl ?_
        refine x_ifnull dX1_least_43 ?_
        refine x_aload dX1_least_46 0 rfl ?_
        refine x_gI (v := v.1 i 3) dX1_least_48 fl_1_38 rfl (hS.2.2 i (by omega)) (hs.1 i (by omega) 3 (by omega)) ?_
        refine x_iconst (v := 1) dX1_least_51 (by decide) ?_
        refine x_icmp_eq (tgt := 58) dX1_least_52 (by decide) (fun c_52 => ?_) (fun c_52 => ?_)
        · refine x_aload dX1_least_58 0 rfl ?_
          refine x_gI (v := v.1 i 4) dX1_least_60 fl_1_43 rfl (hS.2.2 i (by omega)) (hs.1 i (by omega) 4 (by omega)) ?_
          refine x_topi (fun xq1 e_xq1 => ?_)
          refine x_istore (lv' := [(7, .int xq1), (6, .ref (S + 2 + i)), (5, .int (nI i)), (4, .int val), (0, .ref Gm), (1, .int (nI (w + 1))), (2, .int lo), (3, .int hi)]) dX1_least_63 (by decide) rfl ?_
          refine x_aload_n dX1_least_65 4 rfl rfl ?_
          refine x_gR (b := S) dX1_least_66 fl_1_16 rfl hG.1 hRG.1 ?_
          refine x_aload dX1_least_69 1 rfl ?_
          refine x_callV (k_raise (G := G) (I := J) w1 hs (i := i) (by omega)) dX1_least_71 crc_X4_raise vc_1_46 hS.1 rfl rfl rfl rfl (Nat.le_of_ble_eq_true rfl) (roomy_k (by omega) (by decide)) (Nat.le_refl _) (Nat.le_refl _) ?_
          rintro _ _ ⟨rfl, J2, rfl, hs2, hf2⟩
          refine x_aload_n dX1_least_74 4 rfl rfl ?_
          refine x_iload_n dX1_least_75 5 rfl rfl ?_
          refine x_iload_n dX1_least_76 6 rfl rfl ?_
          refine x_iload_n dX1_least_77 7 rfl rfl ?_
          refine x_iload dX1_least_78 3 rfl ?_
          refine x_mmin dX1_least_80 sc_1_62 (Nat.le_of_ble_eq_true rfl) (roomy_k (by omega) (by decide)) (Nat.le_refl _) (Nat.le_refl _) ?_
          refine x_callV (hbeh J2 (spadeF P n i v) lo (mnI hi val) (w1.fr hf2) hs2) dX1_least_83 crc_X1_behindWave vc_1_59 hG.1 rfl rfl rfl rfl (Nat.le_of_ble_eq_true rfl) (roomy_k (by omega) (by decide)) (Nat.le_refl _) (Nat.le_refl _) ?_
          rintro _ _ ⟨r, rfl, J3, rfl, hab2, hs3, hf3⟩
          refine x_istore (lv' := [(8, .int r), (7, .int xq1), (6, .ref (S + 2 + i)), (5, .int (nI i)), (4, .int val), (0, .ref Gm), (1, .int (nI (w + 1))), (2, .int lo), (3, .int hi)]) dX1_least_86 (by decide) rfl ?_
          refine x_aload dX1_least_88 2 rfl ?_
          refine x_iload dX1_least_90 1 rfl ?_
          refine x_pI dX1_least_92 fl_1_43 rfl rfl rfl (hS.2.2 i (by omega)) (fun Iq2 e_Iq2 => ?_)
          refine x_iload dX1_least_95 4 rfl ?_
          refine x_iload dX1_least_97 0 rfl ?_
          refine x_mmin dX1_least_99 sc_1_62 (Nat.le_of_ble_eq_true rfl) (roomy_k (by omega) (by decide)) (Nat.le_refl _) (Nat.le_refl _) ?_
          refine x_topi (fun xq3 e_xq3 => ?_)
          refine x_istore (lv' := [(4, .int xq3), (8, .int r), (7, .int xq1), (6, .ref (S + 2 + i)), (5, .int (nI i)), (0, .ref Gm), (1, .int (nI (w + 1))), (2, .int lo), (3, .int hi)]) dX1_least_102 (by decide) rfl ?_
          refine x_iinc (v := nI (i + 1)) (lv' := [(5, .int (nI (i + 1))), (4, .int xq3), (8, .int r), (7, .int xq1), (6, .ref (S + 2 + i)), (0, .ref Gm), (1, .int (nI (w + 1))), (2, .int lo), (3, .int hi)]) dX1_least_104 4 rfl (nI_1 i) (by decide) rfl ?_
          refine x_goto (tgt := 12) dX1_least_107 (by decide) ?_
          refine x_sub [0, 1, 5, 6, 7, 8] rfl ?_
          exact ih (i + 1) xq3 Iq2 (by omega) (by omega) (by
            have h9 := ab_min hab c_27 hab2
            rw [e_xq3]
            unfold lvF at *
            rw [fd_s, if_pos c_52]
            exact h9) (by rw [e_Iq2, e_xq1]; exact hs3.back (by omega)) (hfr.tr (hf2.g.tr (hf3.tr (fun a k q1 q2 q3 q4 q5 => by rw [e_Iq2, u2_ne (by omega)]))))
        · refine x_goto (tgt := 104) dX1_least_55 (by decide) ?_
          refine x_iinc (v := nI (i + 1)) (lv' := [(5, .int (nI (i + 1))), (6, .ref (S + 2 + i)), (4, .int val), (0, .ref Gm), (1, .int (nI (w + 1))), (2, .int lo), (3, .int hi)]) dX1_least_104 1 rfl (nI_1 i) (by decide) rfl ?_
          refine x_goto (tgt := 12) dX1_least_107 (by decide) ?_
          refine x_sub [0, 2, 3, 4, 5, 6] rfl ?_
          exact ih (i + 1) val J (by omega) (by omega) (by
            unfold lvF at *
            rw [fd_s, if_neg c_52]
            exact hab) hs hfr

set_option maxHeartbeats 4000000 in
set_option maxRecDepth 100000 in
theorem k_least {G : GG} {Sh : HS} {R : HR} {S T n Gm w : Nat} {P : Nat → List Int32} (hG : ShG Sh Gm) (hRG : RG R Gm S) (hSG : S + 10 ≤ Gm) (hw : w < 3) {d : Nat} (hd : 7 ≤ d) (hbeh : BehC G Sh R S T n Gm P w d) : LeastC G Sh R S T n Gm P w (d + 1) := by
  intro I v lo hi w0 hs0
  obtain ⟨hS, hR, hn, hn8, hrl, hT, hRT, hTX, hTS⟩ := id w0
  refine am_intro (by decide) (Nat.le_of_ble_eq_true rfl) ?_
  refine x_aload_n dX1_least_0 0 rfl rfl ?_
  refine x_iload_n dX1_least_1 1 rfl rfl ?_
  refine x_iload_n dX1_least_2 2 rfl rfl ?_
  refine x_iload_n dX1_least_3 3 rfl rfl ?_
  refine x_callV (hbeh I v lo hi w0 hs0) dX1_least_4 crc_X1_behindWave vc_1_59 hG.1 rfl rfl rfl rfl (Nat.le_of_ble_eq_true rfl) (roomy_k (by omega) (by decide)) (Nat.le_refl _) (Nat.le_refl _) ?_
  rintro _ _ ⟨r, rfl, J3, rfl, hab2, hs3, hf3⟩
  refine x_istore (lv' := [(4, .int r), (0, .ref Gm), (1, .int (nI (w + 1))), (2, .int lo), (3, .int hi)]) dX1_least_7 (by decide) rfl ?_
  refine x_iconst (v := 0) dX1_least_9 (by decide) ?_
  refine x_istore (lv' := [(5, .int 0), (4, .int r), (0, .ref Gm), (1, .int (nI (w + 1))), (2, .int lo), (3, .int hi)]) dX1_least_10 (by decide) rfl ?_
  exact k_least_l hG hRG hSG hw hd hbeh w0 hs0 (n + 1) 0 r J3 (by omega) (by omega) hab2 hs3 hf3
end
section
set_option maxHeartbeats 4000000 in
set_option maxRecDepth 100000 in
theorem k_most_l {G : GG} {Sh : HS} {I : HI} {R : HR} {S T n Gm w : Nat} {P : Nat → List Int32} (hG : ShG Sh Gm) (hRG : RG R Gm S) (hSG : S + 10 ≤ Gm) (hw : w < 3) {d : Nat} (hd : 8 ≤ d) (hleast : LeastC G Sh R S T n Gm P w d) {v : SV} {lo hi : Int32} (w0 : SW Sh I R S T n P) (hs0 : SR I S n v) : ∀ (m : Nat) (i : Nat) (val fo : Int32) (J : HI), (i ≤ n) → (n < i + m) → (abF val (mgF P n (mvF P n w) v i) lo hi) → (SR J S n v) → (frG T S Gm (w + 1) I J) → (lo = -2147483648 → hi = 2147483647 → val = (ffF P n (mvF P n w) v i).1 ∧ fo = (ffF P n (mvF P n w) v i).2) → X G (kM G (d + 1) 0 0 (qi fun r g => ∃ J : HI, g = (Sh, J, R) ∧ abF r (mvF P n (w + 1) v) lo hi ∧ SR J S n v ∧ frG T S Gm (w + 1) I J ∧ (lo = -2147483648 → hi = 2147483647 → 1 ≤ w + 1 → J Gm 2 = (ffF P n (mvF P n (w + 1 - 1)) v n).2))) yX1_most cX1_most 10 (some .int) 0 0 34 [(6, .int (nI i)), (5, .int val), (4, .int fo), (0, .ref Gm), (1, .int (nI (w + 1))), (2, .int lo), (3, .int hi)] [] (Sh, J, R) := by
  intro m
  induction m with
  | zero =>
    intro i val fo J hi_ hm hab hs hfr hff
    exact absurd hm (by omega)
  | succ m ih =>
    intro i val fo J hi_ hm hab hs hfr hff
    obtain ⟨hS, hR, hn, hn8, hrl, hT, hRT, hTX, hTS⟩ := id w0
    have w1 := w0.frG hSG hfr
    refine x_iload dX1_most_34 0 rfl ?_
    refine x_aload_n dX1_most_36 3 rfl rfl ?_
    refine x_gR (b := S) dX1_most_37 fl_1_16 rfl hG.1 hRG.1 ?_
    refine x_gI (v := nI n) dX1_most_40 fl_1_30 rfl hS.1 (w1.2.2.1) ?_
    refine x_icmp_ge (tgt := 137) dX1_most_43 (by decide) (fun c_43 => ?_) (fun c_43 => ?_)
    · have c_43 : n ≤ i := (nI_leI (a := n) (b := i) (by omega) (by omega)).mp c_43
      refine x_aload_n dX1_most_137 3 rfl rfl ?_
      refine x_iload dX1_most_138 2 rfl ?_
      refine x_pI dX1_most_140 fl_1_56 rfl rfl rfl hG.1 (fun Iq1 e_Iq1 => ?_)
      refine x_iload dX1_most_143 1 rfl ?_
      refine x_iret dX1_most_145 rfl (Nat.le_refl _) (Nat.le_refl _) ?_
      have hin : i = n := by omega
      subst hin
      exact ⟨Iq1, rfl, hab, ⟨fun j hj k hk => by rw [e_Iq1, u2_ne (by omega)]; exact hs.1 j hj k hk, by rw [e_Iq1, u2_ne (by omega)]; exact hs.2.1, by rw [e_Iq1, u2_ne (by omega)]; exact hs.2.2⟩, (fun a k q1 q2 q3 q4 q5 => by rw [e_Iq1, u2_ne (by omega)]; exact hfr a k q1 q2 q3 q4 q5), fun z1 z2 _ => by rw [e_Iq1, u2_same]; exact (hff z1 z2).2⟩
    · have c_43 : ¬ n ≤ i := fun q => c_43 ((nI_leI (a := n) (b := i) (by omega) (by omega)).mpr q)
      refine x_iload dX1_most_46 1 rfl ?_
      refine x_iload_n dX1_most_48 6 rfl rfl ?_
      refine x_icmp_ge (tgt := 137) dX1_most_49 (by decide) (fun c_49 => ?_) (fun c_49 => ?_)
      · refine x_aload_n dX1_most_137 3 rfl rfl ?_
        refine x_iload dX1_most_138 2 rfl ?_
        refine x_pI dX1_most_140 fl_1_56 rfl rfl rfl hG.1 (fun Iq2 e_Iq2 => ?_)
        refine x_iload dX1_most_143 1 rfl ?_
        refine x_iret dX1_most_145 rfl (Nat.le_refl _) (Nat.le_refl _) ?_
        refine ⟨Iq2, rfl, ab_ge hab c_49 (mg_mono hi_), ⟨fun j hj k hk => by rw [e_Iq2, u2_ne (by omega)]; exact hs.1 j hj k hk, by rw [e_Iq2, u2_ne (by omega)]; exact hs.2.1, by rw [e_Iq2, u2_ne (by omega)]; exact hs.2.2⟩, (fun a k q1 q2 q3 q4 q5 => by rw [e_Iq2, u2_ne (by omega)]; exact hfr a k q1 q2 q3 q4 q5), fun z1 z2 _ => ?_⟩
        exfalso
        obtain ⟨h7, h8⟩ := hff z1 z2
        have h5 := small_mg (P := P) (n := n) (small_mv (P := P) hn8 w) v i
        have e3 : hi.toInt = 2147483647 := by rw [z2]; decide
        rw [ff_mg] at h7
        unfold smallI at h5
        rw [h7] at c_49
        simp only [Int32.le_iff_toInt_le] at c_49
        omega
      · refine x_aload_n dX1_most_52 3 rfl rfl ?_
        refine x_gR (b := S) dX1_most_53 fl_1_16 rfl hG.1 hRG.1 ?_
        refine x_iload dX1_most_56 0 rfl ?_
        refine x_callV (k_at_in (G := G) (I := J) hS hR w1.2.2.1 hn8 (i := i) (by omega)) dX1_most_58 crc_X4_at vc_1_34 hS.1 rfl rfl rfl rfl (Nat.le_of_ble_eq_true rfl) (roomy_k (by omega) (by decide)) (Nat.le_refl _) (Nat.le_refl _) ?_
        rintro _ _ ⟨_, rfl, rfl, rfl⟩
        refine x_astore (lv' := [(7, .ref (S + 2 + i)), (6, .int (nI i)), (5, .int val), (4, .int fo), (0, .ref Gm), (1, .int (nI (w + 1))), (2, .int lo), (3, .int hi)]) dX1_most_61 (by decide) rfl ?_
        refine x_aload dX1_most_63 0 rfl ?_
        refine x_ifnull dX1_most_65 ?_
        refine x_aload dX1_most_68 0 rfl ?_
        refine x_gI (v := v.1 i 3) dX1_most_70 fl_1_38 rfl (hS.2.2 i (by omega)) (hs.1 i (by omega) 3 (by omega)) ?_
        refine x_if_eq (tgt := 79) dX1_most_73 (by decide) (fun c_73 => ?_) (fun c_73 => ?_)
        · refine x_aload dX1_most_79 0 rfl ?_
          refine x_gI (v := v.1 i 4) dX1_most_81 fl_1_43 rfl (hS.2.2 i (by omega)) (hs.1 i (by omega) 4 (by omega)) ?_
          refine x_topi (fun xq3 e_xq3 => ?_)
          refine x_istore (lv' := [(8, .int xq3), (7, .ref (S + 2 + i)), (6, .int (nI i)), (5, .int val), (4, .int fo), (0, .ref Gm), (1, .int (nI (w + 1))), (2, .int lo), (3, .int hi)]) dX1_most_84 (by decide) rfl ?_
          refine x_aload_n dX1_most_86 5 rfl rfl ?_
          refine x_gR (b := S) dX1_most_87 fl_1_16 rfl hG.1 hRG.1 ?_
          refine x_aload dX1_most_90 1 rfl ?_
          refine x_callV (k_raise (G := G) (I := J) w1 hs (i := i) (by omega)) dX1_most_92 crc_X4_raise vc_1_46 hS.1 rfl rfl rfl rfl (Nat.le_of_ble_eq_true rfl) (roomy_k (by omega) (by decide)) (Nat.le_refl _) (Nat.le_refl _) ?_
          rintro _ _ ⟨rfl, J2, rfl, hs2, hf2⟩
          refine x_aload_n dX1_most_95 5 rfl rfl ?_
          refine x_iload_n dX1_most_96 6 rfl rfl ?_
          refine x_iload_n dX1_most_97 7 rfl rfl ?_
          refine x_iload dX1_most_98 3 rfl ?_
          refine x_mmax dX1_most_100 sc_1_50 (Nat.le_of_ble_eq_true rfl) (roomy_k (by omega) (by decide)) (Nat.le_refl _) (Nat.le_refl _) ?_
          refine x_iload_n dX1_most_103 8 rfl rfl ?_
          refine x_callV (hleast J2 (spadeF P n i v) (mxI lo val) hi (w1.fr hf2) hs2) dX1_most_104 crc_X1_least vc_1_26 hG.1 rfl rfl rfl rfl (Nat.le_of_ble_eq_true rfl) (roomy_k (by omega) (by decide)) (Nat.le_refl _) (Nat.le_refl _) ?_
          rintro _ _ ⟨r, rfl, J3, rfl, hab2, hs3, hf3⟩
          refine x_istore (lv' := [(9, .int r), (8, .int xq3), (7, .ref (S + 2 + i)), (6, .int (nI i)), (5, .int val), (4, .int fo), (0, .ref Gm), (1, .int (nI (w + 1))), (2, .int lo), (3, .int hi)]) dX1_most_107 (by decide) rfl ?_
          refine x_aload dX1_most_109 2 rfl ?_
          refine x_iload dX1_most_111 1 rfl ?_
          refine x_pI dX1_most_113 fl_1_43 rfl rfl rfl (hS.2.2 i (by omega)) (fun Iq4 e_Iq4 => ?_)
          refine x_iload dX1_most_116 0 rfl ?_
          refine x_iload dX1_most_118 4 rfl ?_
          refine x_icmp_le (tgt := 131) dX1_most_120 (by decide) (fun c_120 => ?_) (fun c_120 => ?_)
          · refine x_iinc (v := nI (i + 1)) (lv' := [(6, .int (nI (i + 1))), (9, .int r), (8, .int xq3), (7, .ref (S + 2 + i)), (5, .int val), (4, .int fo), (0, .ref Gm), (1, .int (nI (w + 1))), (2, .int lo), (3, .int hi)]) dX1_most_131 3 rfl (nI_1 i) (by decide) rfl ?_
            refine x_goto (tgt := 34) dX1_most_134 (by decide) ?_
            refine x_sub [0, 4, 5, 6, 7, 8, 9] rfl ?_
            exact ih (i + 1) val fo Iq4 (by omega) (by omega) (by
              have h9 := ab_max hab c_49 hab2
              rw [show mxI val r = val from if_neg (Int32.not_lt.mpr c_120)] at h9
              unfold mgF at *
              rw [fd_s, if_pos c_73]
              exact h9) (by rw [e_Iq4, e_xq3]; exact hs3.back (by omega)) (hfr.tr (hf2.g.tr (hf3.tr (fun a k q1 q2 q3 q4 q5 => by rw [e_Iq4, u2_ne (by omega)])))) (fun z1 z2 => by
              obtain ⟨h7, h8⟩ := hff z1 z2
              have h6 := small_lv (P := P) (n := n) (small_mv (P := P) hn8 w) (spadeF P n i v) n
              have h5 := small_mg (P := P) (n := n) (small_mv (P := P) hn8 w) v i
              have e3 : hi.toInt = 2147483647 := by rw [z2]; decide
              have h3 := mx_t (a := lo) (b := val)
              have e2 : lo.toInt = -2147483648 := by rw [z1]; decide
              rw [ff_mg] at h7
              have h4 : val < lvF P n (mvF P n w) (spadeF P n i v) n ↔ val < r := by
                unfold abF smallI at *
                rw [h7] at hab ⊢
                rw [h7] at h3 hab2
                simp only [Int32.lt_iff_toInt_lt, Int32.le_iff_toInt_le] at *
                omega
              have h2 : val < r → r = lvF P n (mvF P n w) (spadeF P n i v) n := by
                intro z
                have z3 := h4.mpr z
                refine ab_in hab2 ?_ ?_
                · unfold smallI at *
                  rw [h7] at z3 h3 ⊢
                  simp only [Int32.lt_iff_toInt_lt, Int32.le_iff_toInt_le] at *
                  omega
                · unfold smallI at *
                  simp only [Int32.lt_iff_toInt_lt] at *
                  omega
              unfold ffF at h8 ⊢
              rw [fd_s]
              have e1 : (fd (fun i b => if v.1 i 3 = 0 ∧ b.1 < lvF P n (mvF P n w) (spadeF P n i v) n then (lvF P n (mvF P n w) (spadeF P n i v) n, nI i) else b) (lvF P n (mvF P n w) v n, -1) i).1 = val := by
                have := ff_mg (P := P) (n := n) (g := mvF P n w) (v := v) (j := i)
                unfold ffF at this
                rw [this, h7]
              rw [if_neg (fun q => by
                have q2 := q.2
                rw [e1] at q2
                exact absurd (h4.mp q2) (Int32.not_lt.mpr c_120))]
              exact ⟨e1.symm, h8⟩)
          · refine x_iload dX1_most_123 0 rfl ?_
            refine x_istore (lv' := [(5, .int r), (9, .int r), (8, .int xq3), (7, .ref (S + 2 + i)), (6, .int (nI i)), (4, .int fo), (0, .ref Gm), (1, .int (nI (w + 1))), (2, .int lo), (3, .int hi)]) dX1_most_125 (by decide) rfl ?_
            refine x_iload dX1_most_127 4 rfl ?_
            refine x_istore (lv' := [(4, .int (nI i)), (5, .int r), (9, .int r), (8, .int xq3), (7, .ref (S + 2 + i)), (6, .int (nI i)), (0, .ref Gm), (1, .int (nI (w + 1))), (2, .int lo), (3, .int hi)]) dX1_most_129 (by decide) rfl ?_
            refine x_iinc (v := nI (i + 1)) (lv' := [(6, .int (nI (i + 1))), (4, .int (nI i)), (5, .int r), (9, .int r), (8, .int xq3), (7, .ref (S + 2 + i)), (0, .ref Gm), (1, .int (nI (w + 1))), (2, .int lo), (3, .int hi)]) dX1_most_131 5 rfl (nI_1 i) (by decide) rfl ?_
            refine x_goto (tgt := 34) dX1_most_134 (by decide) ?_
            refine x_sub [0, 2, 1, 6, 7, 8, 9] rfl ?_
            exact ih (i + 1) r (nI i) Iq4 (by omega) (by omega) (by
              have h9 := ab_max hab c_49 hab2
              rw [show mxI val r = r from if_pos (Int32.not_le.mp c_120)] at h9
              unfold mgF at *
              rw [fd_s, if_pos c_73]
              exact h9) (by rw [e_Iq4, e_xq3]; exact hs3.back (by omega)) (hfr.tr (hf2.g.tr (hf3.tr (fun a k q1 q2 q3 q4 q5 => by rw [e_Iq4, u2_ne (by omega)])))) (fun z1 z2 => by
              obtain ⟨h7, h8⟩ := hff z1 z2
              have h6 := small_lv (P := P) (n := n) (small_mv (P := P) hn8 w) (spadeF P n i v) n
              have h5 := small_mg (P := P) (n := n) (small_mv (P := P) hn8 w) v i
              have e3 : hi.toInt = 2147483647 := by rw [z2]; decide
              have h3 := mx_t (a := lo) (b := val)
              have e2 : lo.toInt = -2147483648 := by rw [z1]; decide
              rw [ff_mg] at h7
              have h4 : val < lvF P n (mvF P n w) (spadeF P n i v) n ↔ val < r := by
                unfold abF smallI at *
                rw [h7] at hab ⊢
                rw [h7] at h3 hab2
                simp only [Int32.lt_iff_toInt_lt, Int32.le_iff_toInt_le] at *
                omega
              have h2 : val < r → r = lvF P n (mvF P n w) (spadeF P n i v) n := by
                intro z
                have z3 := h4.mpr z
                refine ab_in hab2 ?_ ?_
                · unfold smallI at *
                  rw [h7] at z3 h3 ⊢
                  simp only [Int32.lt_iff_toInt_lt, Int32.le_iff_toInt_le] at *
                  omega
                · unfold smallI at *
                  simp only [Int32.lt_iff_toInt_lt] at *
                  omega
              unfold ffF at h8 ⊢
              rw [fd_s]
              have z := Int32.not_le.mp c_120
              have e1 : (fd (fun i b => if v.1 i 3 = 0 ∧ b.1 < lvF P n (mvF P n w) (spadeF P n i v) n then (lvF P n (mvF P n w) (spadeF P n i v) n, nI i) else b) (lvF P n (mvF P n w) v n, -1) i).1 = val := by
                have := ff_mg (P := P) (n := n) (g := mvF P n w) (v := v) (j := i)
                unfold ffF at this
                rw [this, h7]
              rw [if_pos ⟨c_73, by rw [e1]; exact h4.mpr z⟩]
              exact ⟨h2 z, rfl⟩)
        · refine x_goto (tgt := 131) dX1_most_76 (by decide) ?_
          refine x_iinc (v := nI (i + 1)) (lv' := [(6, .int (nI (i + 1))), (7, .ref (S + 2 + i)), (5, .int val), (4, .int fo), (0, .ref Gm), (1, .int (nI (w + 1))), (2, .int lo), (3, .int hi)]) dX1_most_131 1 rfl (nI_1 i) (by decide) rfl ?_
          refine x_goto (tgt := 34) dX1_most_134 (by decide) ?_
          refine x_sub [0, 2, 3, 4, 5, 6, 7] rfl ?_
          exact ih (i + 1) val fo J (by omega) (by omega) (by
            unfold mgF at *
            rw [fd_s, if_neg c_73]
            exact hab) hs hfr (fun z1 z2 => by
            have h8 := hff z1 z2
            unfold ffF at *
            rw [fd_s, if_neg (fun q => c_73 q.1)]
            exact h8)

set_option maxHeartbeats 4000000 in
set_option maxRecDepth 100000 in
theorem k_most_s {G : GG} {Sh : HS} {R : HR} {S T n Gm w : Nat} {P : Nat → List Int32} (hG : ShG Sh Gm) (hRG : RG R Gm S) (hSG : S + 10 ≤ Gm) (hw : w < 3) {d : Nat} (hd : 8 ≤ d) (hleast : LeastC G Sh R S T n Gm P w d) : MostC G Sh R S T n Gm P (w + 1) (d + 1) := by
  intro I v lo hi w0 hs0
  obtain ⟨hS, hR, hn, hn8, hrl, hT, hRT, hTX, hTS⟩ := id w0
  refine am_intro (by decide) (Nat.le_of_ble_eq_true rfl) ?_
  refine x_iload_n dX1_most_0 1 rfl rfl ?_
  refine x_iconst (v := 1) dX1_most_1 (by decide) ?_
  refine x_icmp_lt (tgt := 10) dX1_most_2 (by decide) (fun c_2 => False.elim (by have := (nI_ltI (a := w + 1) (b := 1) (by omega) (by omega)).mp c_2; omega)) (fun c_2 => ?_)
  refine x_iload_n dX1_most_5 1 rfl rfl ?_
  refine x_iconst (v := 3) dX1_most_6 (by decide) ?_
  refine x_icmp_le (tgt := 19) dX1_most_7 (by decide) (fun c_7 => ?_) (fun c_7 => False.elim (c_7 ((nI_leI (a := w + 1) (b := 3) (by omega) (by omega)).mpr (by omega))))
  refine x_iconst (v := (-1)) dX1_most_19 (by decide) ?_
  refine x_istore (lv' := [(4, .int (-1)), (0, .ref Gm), (1, .int (nI (w + 1))), (2, .int lo), (3, .int hi)]) dX1_most_20 (by decide) rfl ?_
  refine x_aload_n dX1_most_22 1 rfl rfl ?_
  refine x_iload_n dX1_most_23 2 rfl rfl ?_
  refine x_iload_n dX1_most_24 3 rfl rfl ?_
  refine x_iload_n dX1_most_25 4 rfl rfl ?_
  refine x_callV (hleast I v lo hi w0 hs0) dX1_most_26 crc_X1_least vc_1_26 hG.1 rfl rfl rfl rfl (Nat.le_of_ble_eq_true rfl) (roomy_k (by omega) (by decide)) (Nat.le_refl _) (Nat.le_refl _) ?_
  rintro _ _ ⟨r, rfl, J3, rfl, hab2, hs3, hf3⟩
  refine x_istore (lv' := [(5, .int r), (4, .int (-1)), (0, .ref Gm), (1, .int (nI (w + 1))), (2, .int lo), (3, .int hi)]) dX1_most_29 (by decide) rfl ?_
  refine x_iconst (v := 0) dX1_most_31 (by decide) ?_
  refine x_istore (lv' := [(6, .int 0), (5, .int r), (4, .int (-1)), (0, .ref Gm), (1, .int (nI (w + 1))), (2, .int lo), (3, .int hi)]) dX1_most_32 (by decide) rfl ?_
  exact k_most_l hG hRG hSG hw hd hleast w0 hs0 (n + 1) 0 r (-1) J3 (by omega) (by omega) hab2 hs3 hf3 (fun z1 z2 => ⟨by
    have h6 := small_lv (P := P) (n := n) (small_mv (P := P) hn8 w) v n
    show r = lvF P n (mvF P n w) v n
    refine ab_in hab2 ?_ ?_
    · rw [z1, Int32.lt_iff_toInt_lt]
      unfold smallI at h6
      have e2 : (-2147483648 : Int32).toInt = -2147483648 := by decide
      omega
    · rw [z2, Int32.lt_iff_toInt_lt]
      unfold smallI at h6
      have e2 : (2147483647 : Int32).toInt = 2147483647 := by decide
      omega, rfl⟩)

set_option maxHeartbeats 4000000 in
set_option maxRecDepth 100000 in
theorem k_most_0 {G : GG} {Sh : HS} {R : HR} {S T n Gm : Nat} {P : Nat → List Int32} (hG : ShG Sh Gm) (hRG : RG R Gm S) (hSG : S + 10 ≤ Gm) : MostC G Sh R S T n Gm P 0 6 := by
  intro I v lo hi w0 hs0
  obtain ⟨hS, hR, hn, hn8, hrl, hT, hRT, hTX, hTS⟩ := id w0
  refine am_intro (by decide) (Nat.le_of_ble_eq_true rfl) ?_
  refine x_iload_n dX1_most_0 1 rfl rfl ?_
  refine x_iconst (v := 1) dX1_most_1 (by decide) ?_
  refine x_icmp_lt (tgt := 10) dX1_most_2 (by decide) (fun c_2 => ?_) (fun c_2 => False.elim (c_2 (by decide)))
  refine x_aload_n dX1_most_10 0 rfl rfl ?_
  refine x_gR (b := S) dX1_most_11 fl_1_16 rfl hG.1 hRG.1 ?_
  refine x_iconst (v := 0) dX1_most_14 (by decide) ?_
  refine x_callV (k_valueOf (G := G) (I := I) w0 hs0 (r := 0)) dX1_most_15 crc_X4_valueOf vc_1_20 hS.1 rfl rfl rfl rfl (Nat.le_of_ble_eq_true rfl) (roomy_k (by omega) (by decide)) (Nat.le_refl _) (Nat.le_refl _) ?_
  rintro _ _ ⟨r, rfl, hr, J, hoff, rfl⟩
  refine x_iret dX1_most_18 rfl (Nat.le_refl _) (Nat.le_refl _) ?_
  subst hr
  exact ⟨J, rfl, ⟨fun _ => Int32.le_refl _, fun _ => Int32.le_refl _⟩, hs0.off hoff hTS, hoff.fr.g, fun _ _ q => absurd q (by omega)⟩

/-- THE GAME of w waves, from this world on -/
theorem k_most {G : GG} {Sh : HS} {R : HR} {S T n Gm : Nat} {P : Nat → List Int32} (hG : ShG Sh Gm) (hRG : RG R Gm S) (hSG : S + 10 ≤ Gm) : ∀ w : Nat, w ≤ 3 → MostC G Sh R S T n Gm P w (6 + 3 * w)
  | 0, _ => k_most_0 hG hRG hSG
  | w + 1, h => k_most_s hG hRG hSG (by omega) (d := 6 + 3 * w + 2) (by omega) (k_least hG hRG hSG (by omega) (d := 6 + 3 * w + 1) (by omega) (k_beh hG hRG hSG (by omega) (d := 6 + 3 * w) (by omega) (k_most hG hRG hSG w (by omega))))
end
section
/-! THE STATE OF A SYSTEM in numbers: strand (forts, their numbers, rule), texts, tape, image, sheets -/
abbrev SG : Type := (Nat × SV × Nat) × (Nat × (Nat → Nat → List Int32)) × (Nat × (Nat → Int32)) × Option (Nat × SV × Nat) × (Nat → Int32 × Nat × (Nat → Int32))
def gN (σ : SG) : Nat := σ.1.1
def gW (σ : SG) : SV := σ.1.2.1
def gRu (σ : SG) : Nat := σ.1.2.2
def gTc (σ : SG) : Nat := σ.2.1.1
def gPP (σ : SG) : Nat → Nat → List Int32 := σ.2.1.2
def gTs (σ : SG) : Nat := σ.2.2.1.1
def gTb (σ : SG) : Nat → Int32 := σ.2.2.1.2
def gIm (σ : SG) : Option (Nat × SV × Nat) := σ.2.2.2.1
def gSo (σ : SG) (s : Nat) : Int32 := (σ.2.2.2.2 s).1
def gSz (σ : SG) (s : Nat) : Nat := (σ.2.2.2.2 s).2.1
def gRo (σ : SG) (s : Nat) : Nat → Int32 := (σ.2.2.2.2 s).2.2
def gP (σ : SG) : Nat → List Int32 := gPP σ (gRu σ)
/-! the class's cells, from b on -/
def CSh (Sh : HS) (b : Nat) : Prop := Sh.2 b = (7, 10) ∧ Sh.2 (b + 1) = (5, 4) ∧ Sh.2 (b + 2) = (9, 160) ∧ Sh.2 (b + 3) = (9, 161) ∧ Sh.2 (b + 4) = (9, 161) ∧ Sh.2 (b + 5) = (2, 5) ∧ Sh.2 (b + 6) = (11, 6) ∧ Sh.2 (b + 7) = (12, 4) ∧ (∀ t, t < 6 → ShT Sh (b + 8 + 3 * t)) ∧ (∀ s, s < 4 → Sh.2 (b + 26 + 2 * s) = (3, 3) ∧ Sh.2 (b + 26 + 2 * s + 1) = (9, 40)) ∧ ShS Sh (b + 34) ∧ ShS Sh (b + 44) ∧ ShS Sh (b + 54) ∧ ShG Sh (b + 64)
def CRf (R : HR) (b : Nat) : Prop := R b 0 = some (b + 1) ∧ R b 1 = some (b + 5) ∧ R b 2 = some (b + 6) ∧ R b 4 = some (b + 34) ∧ R b 5 = some (b + 44) ∧ R b 6 = some (b + 54) ∧ R b 8 = some (b + 64) ∧ R b 9 = some (b + 7) ∧ R (b + 1) 0 = some (b + 2) ∧ R (b + 1) 2 = some (b + 3) ∧ R (b + 1) 3 = some (b + 4) ∧ R (b + 5) 0 = some (b + 1) ∧ (∀ t, t < 6 → R (b + 6) t = some (b + 8 + 3 * t)) ∧ (∀ s, s < 4 → R (b + 7) s = some (b + 26 + 2 * s)) ∧ (∀ t, t < 6 → RT R (b + 8 + 3 * t)) ∧ (∀ s, s < 4 → R (b + 26 + 2 * s) 0 = some (b + 26 + 2 * s + 1)) ∧ RS R (b + 34) ∧ RS R (b + 44) ∧ RS R (b + 54) ∧ RG R (b + 64) (b + 44)
def ruB (b a k : Nat) : Prop := (a = b + 34 ∨ a = b + 44 ∨ a = b + 54) ∧ k = 4
theorem CRf.same {R R' : HR} {b : Nat} (h : CRf R b) (e : ∀ a k, ¬ ruB b a k → R' a k = R a k) : CRf R' b := by
  have q : ∀ a k, ¬ ((a = b + 34 ∨ a = b + 44 ∨ a = b + 54) ∧ k = 4) → R' a k = R a k := e
  obtain ⟨h1, h2, h3, h4, h5, h6, h7, h8, h9, h10, h11, h12, h13, h14, h15, h16, h17, h18, h19, h20⟩ := h
  refine ⟨(q _ _ (by omega)).trans h1, (q _ _ (by omega)).trans h2, (q _ _ (by omega)).trans h3, (q _ _ (by omega)).trans h4, (q _ _ (by omega)).trans h5, (q _ _ (by omega)).trans h6, (q _ _ (by omega)).trans h7, (q _ _ (by omega)).trans h8, (q _ _ (by omega)).trans h9, (q _ _ (by omega)).trans h10, (q _ _ (by omega)).trans h11, (q _ _ (by omega)).trans h12, fun t ht => (q _ _ (by omega)).trans (h13 t ht), fun s hs => (q _ _ (by omega)).trans (h14 s hs), fun t ht => ⟨(q _ _ (by omega)).trans (h15 t ht).1, (q _ _ (by omega)).trans (h15 t ht).2⟩, fun s hs => (q _ _ (by omega)).trans (h16 s hs), ⟨(q _ _ (by omega)).trans h17.1, fun i hi => (q _ _ (by omega)).trans (h17.2 i hi)⟩, ⟨(q _ _ (by omega)).trans h18.1, fun i hi => (q _ _ (by omega)).trans (h18.2 i hi)⟩, ⟨(q _ _ (by omega)).trans h19.1, fun i hi => (q _ _ (by omega)).trans (h19.2 i hi)⟩, ⟨(q _ _ (by omega)).trans h20.1, (q _ _ (by omega)).trans h20.2.1, fun r hr => (q _ _ (by omega)).trans (h20.2.2 r hr)⟩⟩
/-- texts -/
def CT (b : Nat) (I : HI) (σ : SG) : Prop := I b 3 = nI (gTc σ) ∧ 1 ≤ gTc σ ∧ gTc σ ≤ 6 ∧ (∀ t, t < gTc σ → TX I (b + 8 + 3 * t) (gPP σ t)) ∧ ∀ t, t < 6 → I (b + 8 + 3 * t) 0 = nI t
/-- a strand that is kept -/
def CK (b S : Nat) (I : HI) (R : HR) (tc : Nat) (x : Nat × SV × Nat) : Prop := I S 1 = nI x.1 ∧ x.1 ≤ 8 ∧ SR I S x.1 x.2.1 ∧ R S 4 = some (b + 8 + 3 * x.2.2) ∧ x.2.2 < tc
def CTp (b : Nat) (I : HI) (σ : SG) : Prop := I (b + 1) 1 = nI (gTs σ) ∧ gTs σ ≤ 160 ∧ ∀ j, j < gTs σ → I (b + 2) j = gTb σ j
def CIm (b : Nat) (I : HI) (R : HR) (σ : SG) : Prop := match gIm σ with
  | none => I b 7 = 0
  | some x => I b 7 = 1 ∧ CK b (b + 54) I R (gTc σ) x
def CSe (b : Nat) (I : HI) (σ : SG) : Prop := ∀ s, s < 4 → I (b + 26 + 2 * s) 1 = gSo σ s ∧ I (b + 26 + 2 * s) 2 = nI (gSz σ s) ∧ gSz σ s ≤ 40 ∧ ∀ j, j < 40 → I (b + 26 + 2 * s + 1) j = gRo σ s j
def CI (b : Nat) (Sh : HS) (I : HI) (R : HR) (σ : SG) : Prop := CSh Sh b ∧ CRf R b ∧ CT b I σ ∧ CK b (b + 34) I R (gTc σ) σ.1 ∧ CTp b I σ ∧ CIm b I R σ ∧ CSe b I σ
/-- what is the class's own business -/
def prv (b a k : Nat) : Prop := (b + 44 ≤ a ∧ a < b + 54) ∨ (b + 64 ≤ a ∧ a < b + 69) ∨ (b + 8 ≤ a ∧ a < b + 26 ∧ ((a - (b + 8)) % 3 = 2 ∨ ((a - (b + 8)) % 3 = 0 ∧ k = 6))) ∨ (b + 3 ≤ a ∧ a ≤ b + 5) ∨ (b + 36 ≤ a ∧ a < b + 44 ∧ k = 5) ∨ (b + 56 ≤ a ∧ a < b + 64 ∧ k = 5)
def pvE (b : Nat) (I J : HI) : Prop := ∀ a k, ¬ prv b a k → J a k = I a k
def rvE (b : Nat) (R R' : HR) : Prop := ∀ a k, ¬ (a = b + 44 ∧ k = 4) → R' a k = R a k
theorem pvE.rf {b : Nat} {I : HI} : pvE b I I := fun _ _ _ => rfl
theorem rvE.rf {b : Nat} {R : HR} : rvE b R R := fun _ _ _ => rfl
theorem pvE.tr {b : Nat} {I J J2 : HI} (h : pvE b I J) (h2 : pvE b J J2) : pvE b I J2 := fun a k q => (h2 a k q).trans (h a k q)
theorem rvE.tr {b : Nat} {I J J2 : HR} (h : rvE b I J) (h2 : rvE b J J2) : rvE b I J2 := fun a k q => (h2 a k q).trans (h a k q)
theorem TX.pv {b t : Nat} {I J : HI} {P : Nat → List Int32} (h : TX I (b + 8 + 3 * t) P) (ht : t < 6) (e : pvE b I J) : TX J (b + 8 + 3 * t) P :=
  h.same (fun k hk => e _ _ (by unfold prv; omega)) (fun k => e _ _ (by unfold prv; omega))
theorem SR.pv {b S n : Nat} {I J : HI} {v : SV} (h : SR I S n v) (hn : n ≤ 8) (hS : S = b + 34 ∨ S = b + 54) (e : pvE b I J) : SR J S n v :=
  ⟨fun i hi k hk => (e _ _ (by unfold prv; omega)).trans (h.1 i hi k hk), (e _ _ (by unfold prv; omega)).trans h.2.1, (e _ _ (by unfold prv; omega)).trans h.2.2⟩
theorem CK.pv {b S tc : Nat} {I J : HI} {R R' : HR} {x : Nat × SV × Nat} (h : CK b S I R tc x) (hS : S = b + 34 ∨ S = b + 54) (e : pvE b I J) (e2 : rvE b R R') : CK b S J R' tc x :=
  ⟨(e _ _ (by unfold prv; omega)).trans h.1, h.2.1, h.2.2.1.pv h.2.1 hS e, (e2 _ _ (by omega)).trans h.2.2.2.1, h.2.2.2.2⟩
theorem CI.pv {b : Nat} {Sh : HS} {I J : HI} {R R' : HR} {σ : SG} (h : CI b Sh I R σ) (e : pvE b I J) (e2 : rvE b R R') : CI b Sh J R' σ := by
  obtain ⟨h1, h2, h3, h4, h5, h6, h7⟩ := h
  refine ⟨h1, h2.same (fun a k q => e2 a k (fun z => q ⟨Or.inr (Or.inl z.1), z.2⟩)), ?_, h4.pv (Or.inl rfl) e e2, ?_, ?_, ?_⟩
  · obtain ⟨a1, a2, a3, a4, a5⟩ := h3
    exact ⟨(e _ _ (by unfold prv; omega)).trans a1, a2, a3, fun t ht => (a4 t ht).pv (by omega) e, fun t ht => (e _ _ (by unfold prv; omega)).trans (a5 t ht)⟩
  · exact ⟨(e _ _ (by unfold prv; omega)).trans h5.1, h5.2.1, fun j hj => (e _ _ (by unfold prv; omega)).trans (h5.2.2 j hj)⟩
  · unfold CIm at *
    cases hi : gIm σ with
    | none =>
      rw [hi] at h6
      exact (e _ _ (by unfold prv; omega)).trans h6
    | some x =>
      rw [hi] at h6
      exact ⟨(e _ _ (by unfold prv; omega)).trans h6.1, h6.2.pv (Or.inr rfl) e e2⟩
  · intro s hs
    obtain ⟨a1, a2, a3, a4⟩ := h7 s hs
    exact ⟨(e _ _ (by unfold prv; omega)).trans a1, (e _ _ (by unfold prv; omega)).trans a2, a3, fun j hj => (e _ _ (by unfold prv; omega)).trans (a4 j hj)⟩
theorem frS.pv {b t S : Nat} {I J : HI} (h : frS (b + 8 + 3 * t) S I J) (ht : t < 6) (hS : S = b + 44) : pvE b I J := by
  subst hS
  refine fun a k q => h a k ?_ ?_ ?_
  · unfold scr
    unfold prv at q
    omega
  · unfold prv at q
    omega
  · unfold prv at q
    omega
theorem offT.pv {b t : Nat} {I J : HI} (h : offT (b + 8 + 3 * t) I J) (ht : t < 6) : pvE b I J := by
  refine fun a k q => h a k ?_
  unfold scr
  unfold prv at q
  omega
theorem frG.pv {b t w : Nat} {I J : HI} (h : frG (b + 8 + 3 * t) (b + 44) (b + 64) w I J) (ht : t < 6) (hw : w ≤ 3) : pvE b I J := by
  refine fun a k q => h a k ?_ ?_ ?_ ?_ ?_
  · unfold scr
    unfold prv at q
    omega
  · unfold prv at q
    omega
  · unfold prv at q
    omega
  · unfold prv at q
    omega
  · unfold prv at q
    omega
/-- the true strand, with its rule -/
theorem CI.sw {b : Nat} {Sh : HS} {I : HI} {R : HR} {σ : SG} (h : CI b Sh I R σ) : SW Sh I R (b + 34) (b + 8 + 3 * gRu σ) (gN σ) (gP σ) := by
  obtain ⟨h1, h2, h3, h4, h5, h6, h7⟩ := h
  have hr : gRu σ < gTc σ := h4.2.2.2.2
  have h6' := h3.2.2.1
  exact ⟨h1.2.2.2.2.2.2.2.2.2.2.1, h2.2.2.2.2.2.2.2.2.2.2.2.2.2.2.2.2.1, h4.1, h4.2.1, h4.2.2.2.1, h1.2.2.2.2.2.2.2.2.1 _ (by omega), h2.2.2.2.2.2.2.2.2.2.2.2.2.2.2.1 _ (by omega), h3.2.2.2.1 _ hr, by omega⟩
theorem CI.sr {b : Nat} {Sh : HS} {I : HI} {R : HR} {σ : SG} (h : CI b Sh I R σ) : SR I (b + 34) (gN σ) (gW σ) := h.2.2.2.1.2.2.1
theorem CI.ru {b : Nat} {Sh : HS} {I : HI} {R : HR} {σ : SG} (h : CI b Sh I R σ) : gRu σ < 6 := Nat.lt_of_lt_of_le h.2.2.2.1.2.2.2.2 h.2.2.1.2.2.1
/-- the thought strand, when it has begun -/
def TH (b : Nat) (Sh : HS) (I : HI) (R : HR) (σ : SG) (v : SV) : Prop := SW Sh I R (b + 44) (b + 8 + 3 * gRu σ) (gN σ) (gP σ) ∧ SR I (b + 44) (gN σ) v
theorem TH.of {b : Nat} {Sh : HS} {I J : HI} {R : HR} {σ : SG} (h : CI b Sh I R σ) (h1 : ∀ i, i < 8 → ∀ k, k < 5 → J (b + 44 + 2 + i) k = I (b + 34 + 2 + i) k) (h2 : J (b + 44) 1 = I (b + 34) 1) (h3 : J (b + 44) 2 = I (b + 34) 2) (h4 : J (b + 44) 3 = I (b + 34) 3) (h5 : ∀ a k, ¬ (b + 44 ≤ a ∧ a < b + 44 + 10) → J a k = I a k) :
    TH b Sh J (u2 R (b + 44) 4 (some (b + 8 + 3 * gRu σ))) σ (gW σ) ∧ pvE b I J ∧ rvE b R (u2 R (b + 44) 4 (some (b + 8 + 3 * gRu σ))) := by
  have hpv : pvE b I J := fun a k q => h5 a k (by unfold prv at q; omega)
  have hrv : rvE b R (u2 R (b + 44) 4 (some (b + 8 + 3 * gRu σ))) := fun a k q => u2_ne q
  have hr := h.ru
  have hn8 : gN σ ≤ 8 := h.2.2.2.1.2.1
  obtain ⟨a1, a2, a3, a4, a5, a6, a7, a8, a9⟩ := h.sw
  have hc := h.pv hpv hrv
  refine ⟨⟨⟨h.1.2.2.2.2.2.2.2.2.2.2.2.1, hc.2.1.2.2.2.2.2.2.2.2.2.2.2.2.2.2.2.2.2.1, h2.trans a3, hn8, u2_same, a6, hc.2.1.2.2.2.2.2.2.2.2.2.2.2.2.2.2.1 _ hr, hc.2.2.1.2.2.2.1 _ h.2.2.2.1.2.2.2.2, by omega⟩, ?_⟩, hpv, hrv⟩
  have hs := h.sr
  exact ⟨fun i hi k hk => (h1 i (by omega) k hk).trans (hs.1 i hi k hk), h3.trans hs.2.1, h4.trans hs.2.2⟩
end
