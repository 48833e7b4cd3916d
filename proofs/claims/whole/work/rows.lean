section
-- ===== PART A: goes FIRST, ahead of the names: the tables' words, and 'selects' of the private methods out of them =====
/-- a private method of a class that the tables say can be made, by its rows of tables_1 -/
def lw_okq (q : MethodName × Nat) : Prop := (q.1.cls ≠ "java/lang/invoke/MethodHandle" ∧ q.1.cls ≠ "java/lang/invoke/VarHandle") ∧ Cond.instantiable q.1.cls q.2 ∈ tables_1 ∧ Cond.privateMethod q.1 ∈ tables_1 ∧ Cond.instanceMethod q.1 ∈ tables_1
theorem lw_p0 : lw_okq (⟨"Sandcastles$Tape", "behind", "(II)I"⟩, 4) := ⟨⟨by decide +kernel, by decide +kernel⟩, List.mem_of_getElem? (i := 27) (by decide +kernel), List.mem_of_getElem? (i := 183) (by decide +kernel), List.mem_of_getElem? (i := 184) (by decide +kernel)⟩
theorem lw_p1 : lw_okq (⟨"Sandcastles$Tape", "sortAt", "(I)I"⟩, 4) := ⟨⟨by decide +kernel, by decide +kernel⟩, List.mem_of_getElem? (i := 27) (by decide +kernel), List.mem_of_getElem? (i := 187) (by decide +kernel), List.mem_of_getElem? (i := 188) (by decide +kernel)⟩
theorem lw_p2 : lw_okq (⟨"Sandcastles$Tape", "byteAt", "(I)I"⟩, 4) := ⟨⟨by decide +kernel, by decide +kernel⟩, List.mem_of_getElem? (i := 27) (by decide +kernel), List.mem_of_getElem? (i := 191) (by decide +kernel), List.mem_of_getElem? (i := 192) (by decide +kernel)⟩
theorem lw_p3 : lw_okq (⟨"Sandcastles$Tape", "numberToken", "(II)I"⟩, 4) := ⟨⟨by decide +kernel, by decide +kernel⟩, List.mem_of_getElem? (i := 27) (by decide +kernel), List.mem_of_getElem? (i := 195) (by decide +kernel), List.mem_of_getElem? (i := 196) (by decide +kernel)⟩
theorem lw_p4 : lw_okq (⟨"Sandcastles$Tape", "wordToken", "(II)I"⟩, 4) := ⟨⟨by decide +kernel, by decide +kernel⟩, List.mem_of_getElem? (i := 27) (by decide +kernel), List.mem_of_getElem? (i := 199) (by decide +kernel), List.mem_of_getElem? (i := 200) (by decide +kernel)⟩
theorem lw_p5 : lw_okq (⟨"Sandcastles$Tape", "isWord", "(Ljava/lang/String;II)Z"⟩, 4) := ⟨⟨by decide +kernel, by decide +kernel⟩, List.mem_of_getElem? (i := 27) (by decide +kernel), List.mem_of_getElem? (i := 204) (by decide +kernel), List.mem_of_getElem? (i := 205) (by decide +kernel)⟩
theorem lw_p6 : lw_okq (⟨"Sandcastles$Reader", "goTo", "(I)V"⟩, 5) := ⟨⟨by decide +kernel, by decide +kernel⟩, List.mem_of_getElem? (i := 50) (by decide +kernel), List.mem_of_getElem? (i := 225) (by decide +kernel), List.mem_of_getElem? (i := 226) (by decide +kernel)⟩
theorem lw_p7 : lw_okq (⟨"Sandcastles$Reader", "readPart", "(ILSandcastles$Text;)V"⟩, 5) := ⟨⟨by decide +kernel, by decide +kernel⟩, List.mem_of_getElem? (i := 50) (by decide +kernel), List.mem_of_getElem? (i := 229) (by decide +kernel), List.mem_of_getElem? (i := 230) (by decide +kernel)⟩
theorem lw_p8 : lw_okq (⟨"Sandcastles$Reader", "expect", "(I)V"⟩, 5) := ⟨⟨by decide +kernel, by decide +kernel⟩, List.mem_of_getElem? (i := 50) (by decide +kernel), List.mem_of_getElem? (i := 233) (by decide +kernel), List.mem_of_getElem? (i := 234) (by decide +kernel)⟩
theorem lw_p9 : lw_okq (⟨"Sandcastles$Reader", "fail", "()V"⟩, 5) := ⟨⟨by decide +kernel, by decide +kernel⟩, List.mem_of_getElem? (i := 50) (by decide +kernel), List.mem_of_getElem? (i := 237) (by decide +kernel), List.mem_of_getElem? (i := 238) (by decide +kernel)⟩
theorem lw_p10 : lw_okq (⟨"Sandcastles$Reader", "readE", "(LSandcastles$Text;)V"⟩, 5) := ⟨⟨by decide +kernel, by decide +kernel⟩, List.mem_of_getElem? (i := 50) (by decide +kernel), List.mem_of_getElem? (i := 241) (by decide +kernel), List.mem_of_getElem? (i := 242) (by decide +kernel)⟩
theorem lw_p11 : lw_okq (⟨"Sandcastles$Reader", "readAnd", "(LSandcastles$Text;)V"⟩, 5) := ⟨⟨by decide +kernel, by decide +kernel⟩, List.mem_of_getElem? (i := 50) (by decide +kernel), List.mem_of_getElem? (i := 245) (by decide +kernel), List.mem_of_getElem? (i := 246) (by decide +kernel)⟩
theorem lw_p12 : lw_okq (⟨"Sandcastles$Reader", "readNot", "(LSandcastles$Text;)V"⟩, 5) := ⟨⟨by decide +kernel, by decide +kernel⟩, List.mem_of_getElem? (i := 50) (by decide +kernel), List.mem_of_getElem? (i := 249) (by decide +kernel), List.mem_of_getElem? (i := 250) (by decide +kernel)⟩
theorem lw_p13 : lw_okq (⟨"Sandcastles$Reader", "openAll", "(I)I"⟩, 5) := ⟨⟨by decide +kernel, by decide +kernel⟩, List.mem_of_getElem? (i := 50) (by decide +kernel), List.mem_of_getElem? (i := 253) (by decide +kernel), List.mem_of_getElem? (i := 254) (by decide +kernel)⟩
theorem lw_p14 : lw_okq (⟨"Sandcastles$Reader", "readSum", "(LSandcastles$Text;)V"⟩, 5) := ⟨⟨by decide +kernel, by decide +kernel⟩, List.mem_of_getElem? (i := 50) (by decide +kernel), List.mem_of_getElem? (i := 257) (by decide +kernel), List.mem_of_getElem? (i := 258) (by decide +kernel)⟩
theorem lw_p15 : lw_okq (⟨"Sandcastles$Reader", "readTerm", "(LSandcastles$Text;)V"⟩, 5) := ⟨⟨by decide +kernel, by decide +kernel⟩, List.mem_of_getElem? (i := 50) (by decide +kernel), List.mem_of_getElem? (i := 261) (by decide +kernel), List.mem_of_getElem? (i := 262) (by decide +kernel)⟩
def lw_privs_1 : List (MethodName × Nat) := [(⟨"Sandcastles$Tape", "behind", "(II)I"⟩, 4), (⟨"Sandcastles$Tape", "sortAt", "(I)I"⟩, 4), (⟨"Sandcastles$Tape", "byteAt", "(I)I"⟩, 4), (⟨"Sandcastles$Tape", "numberToken", "(II)I"⟩, 4), (⟨"Sandcastles$Tape", "wordToken", "(II)I"⟩, 4), (⟨"Sandcastles$Tape", "isWord", "(Ljava/lang/String;II)Z"⟩, 4), (⟨"Sandcastles$Reader", "goTo", "(I)V"⟩, 5), (⟨"Sandcastles$Reader", "readPart", "(ILSandcastles$Text;)V"⟩, 5), (⟨"Sandcastles$Reader", "expect", "(I)V"⟩, 5), (⟨"Sandcastles$Reader", "fail", "()V"⟩, 5), (⟨"Sandcastles$Reader", "readE", "(LSandcastles$Text;)V"⟩, 5), (⟨"Sandcastles$Reader", "readAnd", "(LSandcastles$Text;)V"⟩, 5), (⟨"Sandcastles$Reader", "readNot", "(LSandcastles$Text;)V"⟩, 5), (⟨"Sandcastles$Reader", "openAll", "(I)I"⟩, 5), (⟨"Sandcastles$Reader", "readSum", "(LSandcastles$Text;)V"⟩, 5), (⟨"Sandcastles$Reader", "readTerm", "(LSandcastles$Text;)V"⟩, 5)]
theorem lw_r1 : ∀ q ∈ lw_privs_1, lw_okq q := List.forall_mem_cons.mpr ⟨lw_p0, List.forall_mem_cons.mpr ⟨lw_p1, List.forall_mem_cons.mpr ⟨lw_p2, List.forall_mem_cons.mpr ⟨lw_p3, List.forall_mem_cons.mpr ⟨lw_p4, List.forall_mem_cons.mpr ⟨lw_p5, List.forall_mem_cons.mpr ⟨lw_p6, List.forall_mem_cons.mpr ⟨lw_p7, List.forall_mem_cons.mpr ⟨lw_p8, List.forall_mem_cons.mpr ⟨lw_p9, List.forall_mem_cons.mpr ⟨lw_p10, List.forall_mem_cons.mpr ⟨lw_p11, List.forall_mem_cons.mpr ⟨lw_p12, List.forall_mem_cons.mpr ⟨lw_p13, List.forall_mem_cons.mpr ⟨lw_p14, List.forall_mem_cons.mpr ⟨lw_p15, fun _ h => absurd h List.not_mem_nil⟩⟩⟩⟩⟩⟩⟩⟩⟩⟩⟩⟩⟩⟩⟩⟩
theorem lw_p16 : lw_okq (⟨"Sandcastles$Reader", "readOne", "(LSandcastles$Text;)V"⟩, 5) := ⟨⟨by decide +kernel, by decide +kernel⟩, List.mem_of_getElem? (i := 50) (by decide +kernel), List.mem_of_getElem? (i := 265) (by decide +kernel), List.mem_of_getElem? (i := 266) (by decide +kernel)⟩
theorem lw_p17 : lw_okq (⟨"Sandcastles$Reader", "closeAll", "(IILSandcastles$Text;)V"⟩, 5) := ⟨⟨by decide +kernel, by decide +kernel⟩, List.mem_of_getElem? (i := 50) (by decide +kernel), List.mem_of_getElem? (i := 273) (by decide +kernel), List.mem_of_getElem? (i := 274) (by decide +kernel)⟩
theorem lw_p18 : lw_okq (⟨"Sandcastles$Text", "tell", "(IILSandcastles$Strand;LSandcastles$Fort;)I"⟩, 7) := ⟨⟨by decide +kernel, by decide +kernel⟩, List.mem_of_getElem? (i := 75) (by decide +kernel), List.mem_of_getElem? (i := 434) (by decide +kernel), List.mem_of_getElem? (i := 435) (by decide +kernel)⟩
theorem lw_p19 : lw_okq (⟨"Sandcastles$Text", "push", "(I)V"⟩, 7) := ⟨⟨by decide +kernel, by decide +kernel⟩, List.mem_of_getElem? (i := 75) (by decide +kernel), List.mem_of_getElem? (i := 438) (by decide +kernel), List.mem_of_getElem? (i := 439) (by decide +kernel)⟩
theorem lw_p20 : lw_okq (⟨"Sandcastles$Text", "pop", "()I"⟩, 7) := ⟨⟨by decide +kernel, by decide +kernel⟩, List.mem_of_getElem? (i := 75) (by decide +kernel), List.mem_of_getElem? (i := 449) (by decide +kernel), List.mem_of_getElem? (i := 450) (by decide +kernel)⟩
theorem lw_p21 : lw_okq (⟨"Sandcastles$Fort", "isDry", "(I)Z"⟩, 6) := ⟨⟨by decide +kernel, by decide +kernel⟩, List.mem_of_getElem? (i := 296) (by decide +kernel), List.mem_of_getElem? (i := 469) (by decide +kernel), List.mem_of_getElem? (i := 470) (by decide +kernel)⟩
theorem lw_p22 : lw_okq (⟨"Sandcastles", "isView", "(I)Z"⟩, 10) := ⟨⟨by decide +kernel, by decide +kernel⟩, List.mem_of_getElem? (i := 19) (by decide +kernel), List.mem_of_getElem? (i := 552) (by decide +kernel), List.mem_of_getElem? (i := 553) (by decide +kernel)⟩
theorem lw_p23 : lw_okq (⟨"Sandcastles", "think", "()LSandcastles$Strand;"⟩, 10) := ⟨⟨by decide +kernel, by decide +kernel⟩, List.mem_of_getElem? (i := 19) (by decide +kernel), List.mem_of_getElem? (i := 557) (by decide +kernel), List.mem_of_getElem? (i := 558) (by decide +kernel)⟩
theorem lw_p24 : lw_okq (⟨"Sandcastles", "view", "(I)I"⟩, 10) := ⟨⟨by decide +kernel, by decide +kernel⟩, List.mem_of_getElem? (i := 19) (by decide +kernel), List.mem_of_getElem? (i := 574) (by decide +kernel), List.mem_of_getElem? (i := 575) (by decide +kernel)⟩
theorem lw_p25 : lw_okq (⟨"Sandcastles", "sheetAt", "(I)LSandcastles$Sheet;"⟩, 10) := ⟨⟨by decide +kernel, by decide +kernel⟩, List.mem_of_getElem? (i := 19) (by decide +kernel), List.mem_of_getElem? (i := 594) (by decide +kernel), List.mem_of_getElem? (i := 595) (by decide +kernel)⟩
theorem lw_p26 : lw_okq (⟨"Sandcastles", "isPlan", "(LSandcastles$Sheet;)Z"⟩, 10) := ⟨⟨by decide +kernel, by decide +kernel⟩, List.mem_of_getElem? (i := 19) (by decide +kernel), List.mem_of_getElem? (i := 602) (by decide +kernel), List.mem_of_getElem? (i := 603) (by decide +kernel)⟩
theorem lw_p27 : lw_okq (⟨"Sandcastles$Game", "most", "(III)I"⟩, 3) := ⟨⟨by decide +kernel, by decide +kernel⟩, List.mem_of_getElem? (i := 361) (by decide +kernel), List.mem_of_getElem? (i := 636) (by decide +kernel), List.mem_of_getElem? (i := 637) (by decide +kernel)⟩
theorem lw_p28 : lw_okq (⟨"Sandcastles$Game", "least", "(III)I"⟩, 3) := ⟨⟨by decide +kernel, by decide +kernel⟩, List.mem_of_getElem? (i := 361) (by decide +kernel), List.mem_of_getElem? (i := 641) (by decide +kernel), List.mem_of_getElem? (i := 642) (by decide +kernel)⟩
theorem lw_p29 : lw_okq (⟨"Sandcastles$Game", "behindWave", "(III)I"⟩, 3) := ⟨⟨by decide +kernel, by decide +kernel⟩, List.mem_of_getElem? (i := 361) (by decide +kernel), List.mem_of_getElem? (i := 645) (by decide +kernel), List.mem_of_getElem? (i := 646) (by decide +kernel)⟩
theorem lw_p30 : lw_okq (⟨"Sandcastles", "firstOther", "(LSandcastles$Sheet;LSandcastles$Fort;)I"⟩, 10) := ⟨⟨by decide +kernel, by decide +kernel⟩, List.mem_of_getElem? (i := 19) (by decide +kernel), List.mem_of_getElem? (i := 659) (by decide +kernel), List.mem_of_getElem? (i := 660) (by decide +kernel)⟩
theorem lw_p31 : lw_okq (⟨"Sandcastles", "choicesOf", "(I)I"⟩, 10) := ⟨⟨by decide +kernel, by decide +kernel⟩, List.mem_of_getElem? (i := 19) (by decide +kernel), List.mem_of_getElem? (i := 663) (by decide +kernel), List.mem_of_getElem? (i := 664) (by decide +kernel)⟩
def lw_privs_2 : List (MethodName × Nat) := [(⟨"Sandcastles$Reader", "readOne", "(LSandcastles$Text;)V"⟩, 5), (⟨"Sandcastles$Reader", "closeAll", "(IILSandcastles$Text;)V"⟩, 5), (⟨"Sandcastles$Text", "tell", "(IILSandcastles$Strand;LSandcastles$Fort;)I"⟩, 7), (⟨"Sandcastles$Text", "push", "(I)V"⟩, 7), (⟨"Sandcastles$Text", "pop", "()I"⟩, 7), (⟨"Sandcastles$Fort", "isDry", "(I)Z"⟩, 6), (⟨"Sandcastles", "isView", "(I)Z"⟩, 10), (⟨"Sandcastles", "think", "()LSandcastles$Strand;"⟩, 10), (⟨"Sandcastles", "view", "(I)I"⟩, 10), (⟨"Sandcastles", "sheetAt", "(I)LSandcastles$Sheet;"⟩, 10), (⟨"Sandcastles", "isPlan", "(LSandcastles$Sheet;)Z"⟩, 10), (⟨"Sandcastles$Game", "most", "(III)I"⟩, 3), (⟨"Sandcastles$Game", "least", "(III)I"⟩, 3), (⟨"Sandcastles$Game", "behindWave", "(III)I"⟩, 3), (⟨"Sandcastles", "firstOther", "(LSandcastles$Sheet;LSandcastles$Fort;)I"⟩, 10), (⟨"Sandcastles", "choicesOf", "(I)I"⟩, 10)]
theorem lw_r2 : ∀ q ∈ lw_privs_2, lw_okq q := List.forall_mem_cons.mpr ⟨lw_p16, List.forall_mem_cons.mpr ⟨lw_p17, List.forall_mem_cons.mpr ⟨lw_p18, List.forall_mem_cons.mpr ⟨lw_p19, List.forall_mem_cons.mpr ⟨lw_p20, List.forall_mem_cons.mpr ⟨lw_p21, List.forall_mem_cons.mpr ⟨lw_p22, List.forall_mem_cons.mpr ⟨lw_p23, List.forall_mem_cons.mpr ⟨lw_p24, List.forall_mem_cons.mpr ⟨lw_p25, List.forall_mem_cons.mpr ⟨lw_p26, List.forall_mem_cons.mpr ⟨lw_p27, List.forall_mem_cons.mpr ⟨lw_p28, List.forall_mem_cons.mpr ⟨lw_p29, List.forall_mem_cons.mpr ⟨lw_p30, List.forall_mem_cons.mpr ⟨lw_p31, fun _ h => absurd h List.not_mem_nil⟩⟩⟩⟩⟩⟩⟩⟩⟩⟩⟩⟩⟩⟩⟩⟩
theorem lw_p32 : lw_okq (⟨"Sandcastles", "suppose", "(LSandcastles$Fort;II)V"⟩, 10) := ⟨⟨by decide +kernel, by decide +kernel⟩, List.mem_of_getElem? (i := 19) (by decide +kernel), List.mem_of_getElem? (i := 667) (by decide +kernel), List.mem_of_getElem? (i := 668) (by decide +kernel)⟩
theorem lw_p33 : lw_okq (⟨"Sandcastles", "passDrawn", "(II)V"⟩, 10) := ⟨⟨by decide +kernel, by decide +kernel⟩, List.mem_of_getElem? (i := 19) (by decide +kernel), List.mem_of_getElem? (i := 689) (by decide +kernel), List.mem_of_getElem? (i := 690) (by decide +kernel)⟩
theorem lw_p34 : lw_okq (⟨"SandcastlesModel", "next", "()V"⟩, 35) := ⟨⟨by decide +kernel, by decide +kernel⟩, List.mem_of_getElem? (i := 752) (by decide +kernel), List.mem_of_getElem? (i := 765) (by decide +kernel), List.mem_of_getElem? (i := 766) (by decide +kernel)⟩
theorem lw_p35 : lw_okq (⟨"SandcastlesModel", "named", "()I"⟩, 35) := ⟨⟨by decide +kernel, by decide +kernel⟩, List.mem_of_getElem? (i := 752) (by decide +kernel), List.mem_of_getElem? (i := 772) (by decide +kernel), List.mem_of_getElem? (i := 773) (by decide +kernel)⟩
theorem lw_p36 : lw_okq (⟨"SandcastlesModel", "isWord", "(Ljava/lang/String;)Z"⟩, 35) := ⟨⟨by decide +kernel, by decide +kernel⟩, List.mem_of_getElem? (i := 752) (by decide +kernel), List.mem_of_getElem? (i := 785) (by decide +kernel), List.mem_of_getElem? (i := 786) (by decide +kernel)⟩
theorem lw_p37 : lw_okq (⟨"SandcastlesModel", "part", "(ILjava/lang/String;)Z"⟩, 35) := ⟨⟨by decide +kernel, by decide +kernel⟩, List.mem_of_getElem? (i := 752) (by decide +kernel), List.mem_of_getElem? (i := 854) (by decide +kernel), List.mem_of_getElem? (i := 855) (by decide +kernel)⟩
theorem lw_p38 : lw_okq (⟨"SandcastlesModel", "takes", "(Ljava/lang/String;)Z"⟩, 35) := ⟨⟨by decide +kernel, by decide +kernel⟩, List.mem_of_getElem? (i := 752) (by decide +kernel), List.mem_of_getElem? (i := 858) (by decide +kernel), List.mem_of_getElem? (i := 859) (by decide +kernel)⟩
theorem lw_p39 : lw_okq (⟨"SandcastlesModel", "fails", "()Z"⟩, 35) := ⟨⟨by decide +kernel, by decide +kernel⟩, List.mem_of_getElem? (i := 752) (by decide +kernel), List.mem_of_getElem? (i := 862) (by decide +kernel), List.mem_of_getElem? (i := 863) (by decide +kernel)⟩
theorem lw_p40 : lw_okq (⟨"SandcastlesModel", "any", "()Z"⟩, 35) := ⟨⟨by decide +kernel, by decide +kernel⟩, List.mem_of_getElem? (i := 752) (by decide +kernel), List.mem_of_getElem? (i := 866) (by decide +kernel), List.mem_of_getElem? (i := 867) (by decide +kernel)⟩
theorem lw_p41 : lw_okq (⟨"SandcastlesModel", "all", "()Z"⟩, 35) := ⟨⟨by decide +kernel, by decide +kernel⟩, List.mem_of_getElem? (i := 752) (by decide +kernel), List.mem_of_getElem? (i := 870) (by decide +kernel), List.mem_of_getElem? (i := 871) (by decide +kernel)⟩
theorem lw_p42 : lw_okq (⟨"SandcastlesModel", "no", "()Z"⟩, 35) := ⟨⟨by decide +kernel, by decide +kernel⟩, List.mem_of_getElem? (i := 752) (by decide +kernel), List.mem_of_getElem? (i := 874) (by decide +kernel), List.mem_of_getElem? (i := 875) (by decide +kernel)⟩
theorem lw_p43 : lw_okq (⟨"SandcastlesModel", "codes", "(I)Z"⟩, 35) := ⟨⟨by decide +kernel, by decide +kernel⟩, List.mem_of_getElem? (i := 752) (by decide +kernel), List.mem_of_getElem? (i := 878) (by decide +kernel), List.mem_of_getElem? (i := 879) (by decide +kernel)⟩
theorem lw_p44 : lw_okq (⟨"SandcastlesModel", "sum", "()Z"⟩, 35) := ⟨⟨by decide +kernel, by decide +kernel⟩, List.mem_of_getElem? (i := 752) (by decide +kernel), List.mem_of_getElem? (i := 882) (by decide +kernel), List.mem_of_getElem? (i := 883) (by decide +kernel)⟩
theorem lw_p45 : lw_okq (⟨"SandcastlesModel", "term", "()Z"⟩, 35) := ⟨⟨by decide +kernel, by decide +kernel⟩, List.mem_of_getElem? (i := 752) (by decide +kernel), List.mem_of_getElem? (i := 886) (by decide +kernel), List.mem_of_getElem? (i := 887) (by decide +kernel)⟩
theorem lw_p46 : lw_okq (⟨"SandcastlesModel", "one", "()Z"⟩, 35) := ⟨⟨by decide +kernel, by decide +kernel⟩, List.mem_of_getElem? (i := 752) (by decide +kernel), List.mem_of_getElem? (i := 890) (by decide +kernel), List.mem_of_getElem? (i := 891) (by decide +kernel)⟩
theorem lw_p47 : lw_okq (⟨"SandcastlesModel", "takes", "(I)Z"⟩, 35) := ⟨⟨by decide +kernel, by decide +kernel⟩, List.mem_of_getElem? (i := 752) (by decide +kernel), List.mem_of_getElem? (i := 894) (by decide +kernel), List.mem_of_getElem? (i := 895) (by decide +kernel)⟩
def lw_privs_3 : List (MethodName × Nat) := [(⟨"Sandcastles", "suppose", "(LSandcastles$Fort;II)V"⟩, 10), (⟨"Sandcastles", "passDrawn", "(II)V"⟩, 10), (⟨"SandcastlesModel", "next", "()V"⟩, 35), (⟨"SandcastlesModel", "named", "()I"⟩, 35), (⟨"SandcastlesModel", "isWord", "(Ljava/lang/String;)Z"⟩, 35), (⟨"SandcastlesModel", "part", "(ILjava/lang/String;)Z"⟩, 35), (⟨"SandcastlesModel", "takes", "(Ljava/lang/String;)Z"⟩, 35), (⟨"SandcastlesModel", "fails", "()Z"⟩, 35), (⟨"SandcastlesModel", "any", "()Z"⟩, 35), (⟨"SandcastlesModel", "all", "()Z"⟩, 35), (⟨"SandcastlesModel", "no", "()Z"⟩, 35), (⟨"SandcastlesModel", "codes", "(I)Z"⟩, 35), (⟨"SandcastlesModel", "sum", "()Z"⟩, 35), (⟨"SandcastlesModel", "term", "()Z"⟩, 35), (⟨"SandcastlesModel", "one", "()Z"⟩, 35), (⟨"SandcastlesModel", "takes", "(I)Z"⟩, 35)]
theorem lw_r3 : ∀ q ∈ lw_privs_3, lw_okq q := List.forall_mem_cons.mpr ⟨lw_p32, List.forall_mem_cons.mpr ⟨lw_p33, List.forall_mem_cons.mpr ⟨lw_p34, List.forall_mem_cons.mpr ⟨lw_p35, List.forall_mem_cons.mpr ⟨lw_p36, List.forall_mem_cons.mpr ⟨lw_p37, List.forall_mem_cons.mpr ⟨lw_p38, List.forall_mem_cons.mpr ⟨lw_p39, List.forall_mem_cons.mpr ⟨lw_p40, List.forall_mem_cons.mpr ⟨lw_p41, List.forall_mem_cons.mpr ⟨lw_p42, List.forall_mem_cons.mpr ⟨lw_p43, List.forall_mem_cons.mpr ⟨lw_p44, List.forall_mem_cons.mpr ⟨lw_p45, List.forall_mem_cons.mpr ⟨lw_p46, List.forall_mem_cons.mpr ⟨lw_p47, fun _ h => absurd h List.not_mem_nil⟩⟩⟩⟩⟩⟩⟩⟩⟩⟩⟩⟩⟩⟩⟩⟩
theorem lw_p48 : lw_okq (⟨"SandcastlesModel", "isFort", "(I)Z"⟩, 35) := ⟨⟨by decide +kernel, by decide +kernel⟩, List.mem_of_getElem? (i := 752) (by decide +kernel), List.mem_of_getElem? (i := 1011) (by decide +kernel), List.mem_of_getElem? (i := 1012) (by decide +kernel)⟩
theorem lw_p49 : lw_okq (⟨"SandcastlesModel", "get", "(II)I"⟩, 35) := ⟨⟨by decide +kernel, by decide +kernel⟩, List.mem_of_getElem? (i := 752) (by decide +kernel), List.mem_of_getElem? (i := 1018) (by decide +kernel), List.mem_of_getElem? (i := 1019) (by decide +kernel)⟩
theorem lw_p50 : lw_okq (⟨"SandcastlesModel", "loses", "(I)I"⟩, 35) := ⟨⟨by decide +kernel, by decide +kernel⟩, List.mem_of_getElem? (i := 752) (by decide +kernel), List.mem_of_getElem? (i := 1022) (by decide +kernel), List.mem_of_getElem? (i := 1023) (by decide +kernel)⟩
theorem lw_p51 : lw_okq (⟨"SandcastlesModel", "says", "(III)I"⟩, 35) := ⟨⟨by decide +kernel, by decide +kernel⟩, List.mem_of_getElem? (i := 752) (by decide +kernel), List.mem_of_getElem? (i := 1026) (by decide +kernel), List.mem_of_getElem? (i := 1027) (by decide +kernel)⟩
theorem lw_p52 : lw_okq (⟨"SandcastlesModel", "shelter", "(I)I"⟩, 35) := ⟨⟨by decide +kernel, by decide +kernel⟩, List.mem_of_getElem? (i := 752) (by decide +kernel), List.mem_of_getElem? (i := 1030) (by decide +kernel), List.mem_of_getElem? (i := 1031) (by decide +kernel)⟩
theorem lw_p53 : lw_okq (⟨"SandcastlesModel", "rises", "(I)I"⟩, 35) := ⟨⟨by decide +kernel, by decide +kernel⟩, List.mem_of_getElem? (i := 752) (by decide +kernel), List.mem_of_getElem? (i := 1039) (by decide +kernel), List.mem_of_getElem? (i := 1040) (by decide +kernel)⟩
theorem lw_p54 : lw_okq (⟨"SandcastlesModel", "put", "(III)V"⟩, 35) := ⟨⟨by decide +kernel, by decide +kernel⟩, List.mem_of_getElem? (i := 752) (by decide +kernel), List.mem_of_getElem? (i := 1043) (by decide +kernel), List.mem_of_getElem? (i := 1044) (by decide +kernel)⟩
theorem lw_p55 : lw_okq (⟨"SandcastlesModel", "comes", "()V"⟩, 35) := ⟨⟨by decide +kernel, by decide +kernel⟩, List.mem_of_getElem? (i := 752) (by decide +kernel), List.mem_of_getElem? (i := 1068) (by decide +kernel), List.mem_of_getElem? (i := 1069) (by decide +kernel)⟩
theorem lw_p56 : lw_okq (⟨"SandcastlesModel", "standing", "()I"⟩, 35) := ⟨⟨by decide +kernel, by decide +kernel⟩, List.mem_of_getElem? (i := 752) (by decide +kernel), List.mem_of_getElem? (i := 1072) (by decide +kernel), List.mem_of_getElem? (i := 1073) (by decide +kernel)⟩
theorem lw_p57 : lw_okq (⟨"SandcastlesModel", "raised", "(I)V"⟩, 35) := ⟨⟨by decide +kernel, by decide +kernel⟩, List.mem_of_getElem? (i := 752) (by decide +kernel), List.mem_of_getElem? (i := 1080) (by decide +kernel), List.mem_of_getElem? (i := 1081) (by decide +kernel)⟩
theorem lw_p58 : lw_okq (⟨"SandcastlesModel", "isAsked", "(I)Z"⟩, 35) := ⟨⟨by decide +kernel, by decide +kernel⟩, List.mem_of_getElem? (i := 752) (by decide +kernel), List.mem_of_getElem? (i := 1091) (by decide +kernel), List.mem_of_getElem? (i := 1092) (by decide +kernel)⟩
theorem lw_p59 : lw_okq (⟨"SandcastlesModel", "keep", "()V"⟩, 35) := ⟨⟨by decide +kernel, by decide +kernel⟩, List.mem_of_getElem? (i := 752) (by decide +kernel), List.mem_of_getElem? (i := 1096) (by decide +kernel), List.mem_of_getElem? (i := 1097) (by decide +kernel)⟩
theorem lw_p60 : lw_okq (⟨"SandcastlesModel", "waves", "(I)V"⟩, 35) := ⟨⟨by decide +kernel, by decide +kernel⟩, List.mem_of_getElem? (i := 752) (by decide +kernel), List.mem_of_getElem? (i := 1100) (by decide +kernel), List.mem_of_getElem? (i := 1101) (by decide +kernel)⟩
theorem lw_p61 : lw_okq (⟨"SandcastlesModel", "asked", "(I)I"⟩, 35) := ⟨⟨by decide +kernel, by decide +kernel⟩, List.mem_of_getElem? (i := 752) (by decide +kernel), List.mem_of_getElem? (i := 1104) (by decide +kernel), List.mem_of_getElem? (i := 1105) (by decide +kernel)⟩
theorem lw_p62 : lw_okq (⟨"SandcastlesModel", "bay", "()I"⟩, 35) := ⟨⟨by decide +kernel, by decide +kernel⟩, List.mem_of_getElem? (i := 752) (by decide +kernel), List.mem_of_getElem? (i := 1108) (by decide +kernel), List.mem_of_getElem? (i := 1109) (by decide +kernel)⟩
theorem lw_p63 : lw_okq (⟨"SandcastlesModel", "valueOf", "(I)I"⟩, 35) := ⟨⟨by decide +kernel, by decide +kernel⟩, List.mem_of_getElem? (i := 752) (by decide +kernel), List.mem_of_getElem? (i := 1112) (by decide +kernel), List.mem_of_getElem? (i := 1113) (by decide +kernel)⟩
def lw_privs_4 : List (MethodName × Nat) := [(⟨"SandcastlesModel", "isFort", "(I)Z"⟩, 35), (⟨"SandcastlesModel", "get", "(II)I"⟩, 35), (⟨"SandcastlesModel", "loses", "(I)I"⟩, 35), (⟨"SandcastlesModel", "says", "(III)I"⟩, 35), (⟨"SandcastlesModel", "shelter", "(I)I"⟩, 35), (⟨"SandcastlesModel", "rises", "(I)I"⟩, 35), (⟨"SandcastlesModel", "put", "(III)V"⟩, 35), (⟨"SandcastlesModel", "comes", "()V"⟩, 35), (⟨"SandcastlesModel", "standing", "()I"⟩, 35), (⟨"SandcastlesModel", "raised", "(I)V"⟩, 35), (⟨"SandcastlesModel", "isAsked", "(I)Z"⟩, 35), (⟨"SandcastlesModel", "keep", "()V"⟩, 35), (⟨"SandcastlesModel", "waves", "(I)V"⟩, 35), (⟨"SandcastlesModel", "asked", "(I)I"⟩, 35), (⟨"SandcastlesModel", "bay", "()I"⟩, 35), (⟨"SandcastlesModel", "valueOf", "(I)I"⟩, 35)]
theorem lw_r4 : ∀ q ∈ lw_privs_4, lw_okq q := List.forall_mem_cons.mpr ⟨lw_p48, List.forall_mem_cons.mpr ⟨lw_p49, List.forall_mem_cons.mpr ⟨lw_p50, List.forall_mem_cons.mpr ⟨lw_p51, List.forall_mem_cons.mpr ⟨lw_p52, List.forall_mem_cons.mpr ⟨lw_p53, List.forall_mem_cons.mpr ⟨lw_p54, List.forall_mem_cons.mpr ⟨lw_p55, List.forall_mem_cons.mpr ⟨lw_p56, List.forall_mem_cons.mpr ⟨lw_p57, List.forall_mem_cons.mpr ⟨lw_p58, List.forall_mem_cons.mpr ⟨lw_p59, List.forall_mem_cons.mpr ⟨lw_p60, List.forall_mem_cons.mpr ⟨lw_p61, List.forall_mem_cons.mpr ⟨lw_p62, List.forall_mem_cons.mpr ⟨lw_p63, fun _ h => absurd h List.not_mem_nil⟩⟩⟩⟩⟩⟩⟩⟩⟩⟩⟩⟩⟩⟩⟩⟩
theorem lw_p64 : lw_okq (⟨"SandcastlesModel", "again", "()V"⟩, 35) := ⟨⟨by decide +kernel, by decide +kernel⟩, List.mem_of_getElem? (i := 752) (by decide +kernel), List.mem_of_getElem? (i := 1116) (by decide +kernel), List.mem_of_getElem? (i := 1117) (by decide +kernel)⟩
theorem lw_p65 : lw_okq (⟨"SandcastlesModel", "heightBehind", "(II)I"⟩, 35) := ⟨⟨by decide +kernel, by decide +kernel⟩, List.mem_of_getElem? (i := 752) (by decide +kernel), List.mem_of_getElem? (i := 1131) (by decide +kernel), List.mem_of_getElem? (i := 1132) (by decide +kernel)⟩
theorem lw_p66 : lw_okq (⟨"SandcastlesModel", "valueBehind", "(II)I"⟩, 35) := ⟨⟨by decide +kernel, by decide +kernel⟩, List.mem_of_getElem? (i := 752) (by decide +kernel), List.mem_of_getElem? (i := 1147) (by decide +kernel), List.mem_of_getElem? (i := 1148) (by decide +kernel)⟩
theorem lw_p67 : lw_okq (⟨"SandcastlesModel", "search", "(I)I"⟩, 35) := ⟨⟨by decide +kernel, by decide +kernel⟩, List.mem_of_getElem? (i := 752) (by decide +kernel), List.mem_of_getElem? (i := 1155) (by decide +kernel), List.mem_of_getElem? (i := 1156) (by decide +kernel)⟩
theorem lw_p68 : lw_okq (⟨"SandcastlesModel", "otherwise", "(II)I"⟩, 35) := ⟨⟨by decide +kernel, by decide +kernel⟩, List.mem_of_getElem? (i := 752) (by decide +kernel), List.mem_of_getElem? (i := 1163) (by decide +kernel), List.mem_of_getElem? (i := 1164) (by decide +kernel)⟩
theorem lw_p69 : lw_okq (⟨"SandcastlesModel", "becomes", "(III)V"⟩, 35) := ⟨⟨by decide +kernel, by decide +kernel⟩, List.mem_of_getElem? (i := 752) (by decide +kernel), List.mem_of_getElem? (i := 1167) (by decide +kernel), List.mem_of_getElem? (i := 1168) (by decide +kernel)⟩
theorem lw_p70 : lw_okq (⟨"SandcastlesModel", "isSo", "(II)Z"⟩, 35) := ⟨⟨by decide +kernel, by decide +kernel⟩, List.mem_of_getElem? (i := 752) (by decide +kernel), List.mem_of_getElem? (i := 1171) (by decide +kernel), List.mem_of_getElem? (i := 1172) (by decide +kernel)⟩
theorem lw_p71 : lw_okq (⟨"SandcastlesModel", "draws", "(II)V"⟩, 35) := ⟨⟨by decide +kernel, by decide +kernel⟩, List.mem_of_getElem? (i := 752) (by decide +kernel), List.mem_of_getElem? (i := 1187) (by decide +kernel), List.mem_of_getElem? (i := 1188) (by decide +kernel)⟩
def lw_privs_5 : List (MethodName × Nat) := [(⟨"SandcastlesModel", "again", "()V"⟩, 35), (⟨"SandcastlesModel", "heightBehind", "(II)I"⟩, 35), (⟨"SandcastlesModel", "valueBehind", "(II)I"⟩, 35), (⟨"SandcastlesModel", "search", "(I)I"⟩, 35), (⟨"SandcastlesModel", "otherwise", "(II)I"⟩, 35), (⟨"SandcastlesModel", "becomes", "(III)V"⟩, 35), (⟨"SandcastlesModel", "isSo", "(II)Z"⟩, 35), (⟨"SandcastlesModel", "draws", "(II)V"⟩, 35)]
theorem lw_r5 : ∀ q ∈ lw_privs_5, lw_okq q := List.forall_mem_cons.mpr ⟨lw_p64, List.forall_mem_cons.mpr ⟨lw_p65, List.forall_mem_cons.mpr ⟨lw_p66, List.forall_mem_cons.mpr ⟨lw_p67, List.forall_mem_cons.mpr ⟨lw_p68, List.forall_mem_cons.mpr ⟨lw_p69, List.forall_mem_cons.mpr ⟨lw_p70, List.forall_mem_cons.mpr ⟨lw_p71, fun _ h => absurd h List.not_mem_nil⟩⟩⟩⟩⟩⟩⟩⟩
def lw_privs : List (MethodName × Nat) := lw_privs_1 ++ (lw_privs_2 ++ (lw_privs_3 ++ (lw_privs_4 ++ (lw_privs_5))))
def lw_tbl : List Cond := k2_sels lw_privs ++ tables_1
theorem lw_privs_ok : ∀ q ∈ lw_privs, lw_okq q := by
  show ∀ q ∈ lw_privs_1 ++ (lw_privs_2 ++ (lw_privs_3 ++ (lw_privs_4 ++ (lw_privs_5)))), lw_okq q
  exact List.forall_mem_append.mpr ⟨lw_r1, List.forall_mem_append.mpr ⟨lw_r2, List.forall_mem_append.mpr ⟨lw_r3, List.forall_mem_append.mpr ⟨lw_r4, lw_r5⟩⟩⟩⟩
end
section
/-! ===== BEGIN words of one list among another's, by their places ===== -/
theorem goodIn_r {big : List Cond} (ws : List Cond) (ps : List Nat) (hp : ws = ps.filterMap (fun i => big[i]?)) (h : ws.all goodWord = true) : GoodIn big ws := by
  intro w hw
  have h1 := List.all_eq_true.mp h w hw
  rw [hp] at hw
  obtain ⟨i, -, hi⟩ := List.mem_filterMap.mp hw
  have hm : w ∈ big := by first | exact List.mem_of_getElem? hi | exact List.getElem?_mem hi
  exact ⟨hm, good_of_word h1⟩
theorem goodIn_app {big a b : List Cond} (ha : GoodIn big a) (hb : GoodIn big b) : GoodIn big (a ++ b) := fun w h => (List.mem_append.mp h).elim (ha w) (hb w)
theorem goodIn_ca {big a b : List Cond} {c : Cond} (ha : GoodIn big (c :: a)) (hb : GoodIn big b) : GoodIn big (c :: (a ++ b)) := fun w h => (List.mem_cons.mp h).elim (fun e => ha w (List.mem_cons.mpr (Or.inl e))) (fun h => (List.mem_append.mp h).elim (fun h => ha w (List.mem_cons.mpr (Or.inr h))) (hb w))
theorem goodIn_sub {big ws : List Cond} (hm : ∀ w ∈ ws, w ∈ big) (h : ws.all goodWord = true) : GoodIn big ws := fun w hw => ⟨hm w hw, good_of_word (List.all_eq_true.mp h w hw)⟩
def RX0 : String := "Sandcastles$Fort"
def TX0 : u_T := fun k => match k with
  | 0 => ("Sandcastles$Fort", "kind", "I", false)
  | 1 => ("Sandcastles$Fort", "number", "I", false)
  | 2 => ("Sandcastles$Fort", "place", "I", false)
  | 3 => ("Sandcastles$Fort", "realm", "I", false)
  | 4 => ("Sandcastles$Fort", "height", "I", false)
  | _ => ("Sandcastles$Fort", "loss", "I", false)
def tyX0 : Nat → FieldType := fun k => match k with
  | 0 => .int
  | 1 => .int
  | 2 => .int
  | 3 => .int
  | 4 => .int
  | _ => .int
abbrev wsX00 : List Cond := u_ws RX0 TX0 6
theorem nmX0 : ∀ a, a < 6 → ∀ b, b < 6 → a ≠ b → (TX0 a).2.1 ≠ (TX0 b).2.1 := by decide +kernel
theorem tyX0_ok : ∀ k, k < 6 → parseFieldDescriptor (TX0 k).2.2.1 = some (tyX0 k) := by decide +kernel
abbrev cX0_init : ByteArray := prog_2_method_1_code
def yX0_init : MethodName := ⟨RX0, "<init>", "()V"⟩
abbrev cX0_begin : ByteArray := prog_2_method_2_code
def yX0_begin : MethodName := ⟨RX0, "begin", "(III)V"⟩
abbrev cX0_take : ByteArray := prog_2_method_3_code
def yX0_take : MethodName := ⟨RX0, "take", "(LSandcastles$Fort;)V"⟩
abbrev cX0_stands : ByteArray := prog_2_method_4_code
def yX0_stands : MethodName := ⟨RX0, "stands", "()Z"⟩
abbrev cX0_isUnder : ByteArray := prog_2_method_5_code
def yX0_isUnder : MethodName := ⟨RX0, "isUnder", "(I)Z"⟩
abbrev cX0_lossBy : ByteArray := prog_2_method_6_code
def yX0_lossBy : MethodName := ⟨RX0, "lossBy", "(II)I"⟩
abbrev cX0_isDry : ByteArray := prog_2_method_7_code
def yX0_isDry : MethodName := ⟨RX0, "isDry", "(I)Z"⟩
abbrev cX0_riseBy : ByteArray := prog_2_method_8_code
def yX0_riseBy : MethodName := ⟨RX0, "riseBy", "(I)I"⟩
def RX1 : String := "Sandcastles$Game"
def TX1 : u_T := fun k => match k with
  | 0 => ("Sandcastles$Game", "strand", "LSandcastles$Strand;", true)
  | 1 => ("Sandcastles$Game", "heights", "[[I", true)
  | _ => ("Sandcastles$Game", "first", "I", false)
def tyX1 : Nat → FieldType := fun k => match k with
  | 0 => .object "Sandcastles$Strand"
  | 1 => .array (.array .int)
  | _ => .int
abbrev wsX10 : List Cond := u_ws RX1 TX1 3
theorem nmX1 : ∀ a, a < 3 → ∀ b, b < 3 → a ≠ b → (TX1 a).2.1 ≠ (TX1 b).2.1 := by decide +kernel
theorem tyX1_ok : ∀ k, k < 3 → parseFieldDescriptor (TX1 k).2.2.1 = some (tyX1 k) := by decide +kernel
abbrev cX1_init : ByteArray := prog_3_method_1_code
def yX1_init : MethodName := ⟨RX1, "<init>", "(LSandcastles$Strand;)V"⟩
abbrev cX1_most : ByteArray := prog_3_method_2_code
def yX1_most : MethodName := ⟨RX1, "most", "(III)I"⟩
abbrev cX1_least : ByteArray := prog_3_method_3_code
def yX1_least : MethodName := ⟨RX1, "least", "(III)I"⟩
abbrev cX1_behindWave : ByteArray := prog_3_method_4_code
def yX1_behindWave : MethodName := ⟨RX1, "behindWave", "(III)I"⟩
def RX2 : String := "Sandcastles$Reader"
def TX2 : u_T := fun k => match k with
  | 0 => ("Sandcastles$Reader", "tape", "LSandcastles$Tape;", true)
  | 1 => ("Sandcastles$Reader", "at", "I", false)
  | 2 => ("Sandcastles$Reader", "token", "I", false)
  | 3 => ("Sandcastles$Reader", "open", "I", false)
  | _ => ("Sandcastles$Reader", "fault", "I", false)
def tyX2 : Nat → FieldType := fun k => match k with
  | 0 => .object "Sandcastles$Tape"
  | 1 => .int
  | 2 => .int
  | 3 => .int
  | _ => .int
abbrev wsX20 : List Cond := u_ws RX2 TX2 5
theorem nmX2 : ∀ a, a < 5 → ∀ b, b < 5 → a ≠ b → (TX2 a).2.1 ≠ (TX2 b).2.1 := by decide +kernel
theorem tyX2_ok : ∀ k, k < 5 → parseFieldDescriptor (TX2 k).2.2.1 = some (tyX2 k) := by decide +kernel
abbrev cX2_init : ByteArray := prog_4_method_1_code
def yX2_init : MethodName := ⟨RX2, "<init>", "(LSandcastles$Tape;)V"⟩
abbrev cX2_readInto : ByteArray := prog_4_method_2_code
def yX2_readInto : MethodName := ⟨RX2, "readInto", "(LSandcastles$Text;)I"⟩
abbrev cX2_readPart : ByteArray := prog_4_method_3_code
def yX2_readPart : MethodName := ⟨RX2, "readPart", "(ILSandcastles$Text;)V"⟩
abbrev cX2_readE : ByteArray := prog_4_method_4_code
def yX2_readE : MethodName := ⟨RX2, "readE", "(LSandcastles$Text;)V"⟩
abbrev cX2_readAnd : ByteArray := prog_4_method_5_code
def yX2_readAnd : MethodName := ⟨RX2, "readAnd", "(LSandcastles$Text;)V"⟩
abbrev cX2_readNot : ByteArray := prog_4_method_6_code
def yX2_readNot : MethodName := ⟨RX2, "readNot", "(LSandcastles$Text;)V"⟩
abbrev cX2_readSum : ByteArray := prog_4_method_7_code
def yX2_readSum : MethodName := ⟨RX2, "readSum", "(LSandcastles$Text;)V"⟩
abbrev cX2_readTerm : ByteArray := prog_4_method_8_code
def yX2_readTerm : MethodName := ⟨RX2, "readTerm", "(LSandcastles$Text;)V"⟩
abbrev cX2_readOne : ByteArray := prog_4_method_9_code
def yX2_readOne : MethodName := ⟨RX2, "readOne", "(LSandcastles$Text;)V"⟩
abbrev cX2_openAll : ByteArray := prog_4_method_10_code
def yX2_openAll : MethodName := ⟨RX2, "openAll", "(I)I"⟩
abbrev cX2_closeAll : ByteArray := prog_4_method_11_code
def yX2_closeAll : MethodName := ⟨RX2, "closeAll", "(IILSandcastles$Text;)V"⟩
abbrev cX2_expect : ByteArray := prog_4_method_12_code
def yX2_expect : MethodName := ⟨RX2, "expect", "(I)V"⟩
abbrev cX2_goTo : ByteArray := prog_4_method_13_code
def yX2_goTo : MethodName := ⟨RX2, "goTo", "(I)V"⟩
abbrev cX2_fail : ByteArray := prog_4_method_14_code
def yX2_fail : MethodName := ⟨RX2, "fail", "()V"⟩
def RX3 : String := "Sandcastles$Sheet"
def TX3 : u_T := fun k => match k with
  | 0 => ("Sandcastles$Sheet", "row", "[I", true)
  | 1 => ("Sandcastles$Sheet", "sort", "I", false)
  | _ => ("Sandcastles$Sheet", "size", "I", false)
def tyX3 : Nat → FieldType := fun k => match k with
  | 0 => .array .int
  | 1 => .int
  | _ => .int
abbrev wsX30 : List Cond := u_ws RX3 TX3 3
theorem nmX3 : ∀ a, a < 3 → ∀ b, b < 3 → a ≠ b → (TX3 a).2.1 ≠ (TX3 b).2.1 := by decide +kernel
theorem tyX3_ok : ∀ k, k < 3 → parseFieldDescriptor (TX3 k).2.2.1 = some (tyX3 k) := by decide +kernel
abbrev cX3_init : ByteArray := prog_5_method_1_code
def yX3_init : MethodName := ⟨RX3, "<init>", "()V"⟩
abbrev cX3_become : ByteArray := prog_5_method_2_code
def yX3_become : MethodName := ⟨RX3, "become", "(II)V"⟩
abbrev cX3_isMissing : ByteArray := prog_5_method_3_code
def yX3_isMissing : MethodName := ⟨RX3, "isMissing", "()Z"⟩
abbrev cX3_spans : ByteArray := prog_5_method_4_code
def yX3_spans : MethodName := ⟨RX3, "spans", "(II)Z"⟩
abbrev cX3_item : ByteArray := prog_5_method_5_code
def yX3_item : MethodName := ⟨RX3, "item", "(I)I"⟩
abbrev cX3_put : ByteArray := prog_5_method_6_code
def yX3_put : MethodName := ⟨RX3, "put", "(II)Z"⟩
def RX4 : String := "Sandcastles$Strand"
def TX4 : u_T := fun k => match k with
  | 0 => ("Sandcastles$Strand", "forts", "[LSandcastles$Fort;", true)
  | 1 => ("Sandcastles$Strand", "size", "I", false)
  | 2 => ("Sandcastles$Strand", "moon", "I", false)
  | 3 => ("Sandcastles$Strand", "wave", "I", false)
  | _ => ("Sandcastles$Strand", "rule", "LSandcastles$Text;", false)
def tyX4 : Nat → FieldType := fun k => match k with
  | 0 => .array (.object "Sandcastles$Fort")
  | 1 => .int
  | 2 => .int
  | 3 => .int
  | _ => .object "Sandcastles$Text"
abbrev wsX40 : List Cond := u_ws RX4 TX4 5
theorem nmX4 : ∀ a, a < 5 → ∀ b, b < 5 → a ≠ b → (TX4 a).2.1 ≠ (TX4 b).2.1 := by decide +kernel
theorem tyX4_ok : ∀ k, k < 5 → parseFieldDescriptor (TX4 k).2.2.1 = some (tyX4 k) := by decide +kernel
abbrev cX4_init : ByteArray := prog_6_method_1_code
def yX4_init : MethodName := ⟨RX4, "<init>", "(LSandcastles$Text;)V"⟩
abbrev cX4_isFort : ByteArray := prog_6_method_2_code
def yX4_isFort : MethodName := ⟨RX4, "isFort", "(III)Z"⟩
abbrev cX4_add : ByteArray := prog_6_method_3_code
def yX4_add : MethodName := ⟨RX4, "add", "(III)I"⟩
abbrev cX4_at : ByteArray := prog_6_method_4_code
def yX4_at : MethodName := ⟨RX4, "at", "(I)LSandcastles$Fort;"⟩
abbrev cX4_take : ByteArray := prog_6_method_5_code
def yX4_take : MethodName := ⟨RX4, "take", "(LSandcastles$Strand;)V"⟩
abbrev cX4_losesOf : ByteArray := prog_6_method_6_code
def yX4_losesOf : MethodName := ⟨RX4, "losesOf", "(LSandcastles$Fort;)I"⟩
abbrev cX4_risesOf : ByteArray := prog_6_method_7_code
def yX4_risesOf : MethodName := ⟨RX4, "risesOf", "(LSandcastles$Fort;)I"⟩
abbrev cX4_shelterOf : ByteArray := prog_6_method_8_code
def yX4_shelterOf : MethodName := ⟨RX4, "shelterOf", "(LSandcastles$Fort;)I"⟩
abbrev cX4_beat : ByteArray := prog_6_method_9_code
def yX4_beat : MethodName := ⟨RX4, "beat", "()V"⟩
abbrev cX4_pass : ByteArray := prog_6_method_10_code
def yX4_pass : MethodName := ⟨RX4, "pass", "(I)V"⟩
abbrev cX4_raise : ByteArray := prog_6_method_11_code
def yX4_raise : MethodName := ⟨RX4, "raise", "(LSandcastles$Fort;)V"⟩
abbrev cX4_standing : ByteArray := prog_6_method_12_code
def yX4_standing : MethodName := ⟨RX4, "standing", "()I"⟩
abbrev cX4_bay : ByteArray := prog_6_method_13_code
def yX4_bay : MethodName := ⟨RX4, "bay", "()I"⟩
abbrev cX4_valueOf : ByteArray := prog_6_method_14_code
def yX4_valueOf : MethodName := ⟨RX4, "valueOf", "(I)I"⟩
def RX5 : String := "Sandcastles$Tape"
def TX5 : u_T := fun k => match k with
  | 0 => ("Sandcastles$Tape", "bytes", "[I", true)
  | 1 => ("Sandcastles$Tape", "size", "I", false)
  | 2 => ("Sandcastles$Tape", "tokens", "[I", true)
  | _ => ("Sandcastles$Tape", "starts", "[I", true)
def tyX5 : Nat → FieldType := fun k => match k with
  | 0 => .array .int
  | 1 => .int
  | 2 => .array .int
  | _ => .array .int
abbrev wsX50 : List Cond := u_ws RX5 TX5 4
theorem nmX5 : ∀ a, a < 4 → ∀ b, b < 4 → a ≠ b → (TX5 a).2.1 ≠ (TX5 b).2.1 := by decide +kernel
theorem tyX5_ok : ∀ k, k < 4 → parseFieldDescriptor (TX5 k).2.2.1 = some (tyX5 k) := by decide +kernel
abbrev cX5_init : ByteArray := prog_7_method_1_code
def yX5_init : MethodName := ⟨RX5, "<init>", "()V"⟩
abbrev cX5_add : ByteArray := prog_7_method_2_code
def yX5_add : MethodName := ⟨RX5, "add", "(I)Z"⟩
abbrev cX5_clear : ByteArray := prog_7_method_3_code
def yX5_clear : MethodName := ⟨RX5, "clear", "()V"⟩
abbrev cX5_cut : ByteArray := prog_7_method_4_code
def yX5_cut : MethodName := ⟨RX5, "cut", "()V"⟩
abbrev cX5_behind : ByteArray := prog_7_method_5_code
def yX5_behind : MethodName := ⟨RX5, "behind", "(II)I"⟩
abbrev cX5_numberToken : ByteArray := prog_7_method_6_code
def yX5_numberToken : MethodName := ⟨RX5, "numberToken", "(II)I"⟩
abbrev cX5_wordToken : ByteArray := prog_7_method_7_code
def yX5_wordToken : MethodName := ⟨RX5, "wordToken", "(II)I"⟩
abbrev cX5_isWord : ByteArray := prog_7_method_8_code
def yX5_isWord : MethodName := ⟨RX5, "isWord", "(Ljava/lang/String;II)Z"⟩
abbrev cX5_byteAt : ByteArray := prog_7_method_9_code
def yX5_byteAt : MethodName := ⟨RX5, "byteAt", "(I)I"⟩
abbrev cX5_sortAt : ByteArray := prog_7_method_10_code
def yX5_sortAt : MethodName := ⟨RX5, "sortAt", "(I)I"⟩
def RX6 : String := "Sandcastles$Text"
def TX6 : u_T := fun k => match k with
  | 0 => ("Sandcastles$Text", "id", "I", true)
  | 1 => ("Sandcastles$Text", "codes", "[I", true)
  | 2 => ("Sandcastles$Text", "size", "I", false)
  | 3 => ("Sandcastles$Text", "raisesFrom", "I", false)
  | 4 => ("Sandcastles$Text", "worthFrom", "I", false)
  | 5 => ("Sandcastles$Text", "stack", "[I", true)
  | _ => ("Sandcastles$Text", "depth", "I", false)
def tyX6 : Nat → FieldType := fun k => match k with
  | 0 => .int
  | 1 => .array .int
  | 2 => .int
  | 3 => .int
  | 4 => .int
  | 5 => .array .int
  | _ => .int
abbrev wsX60 : List Cond := u_ws RX6 TX6 7
theorem nmX6 : ∀ a, a < 7 → ∀ b, b < 7 → a ≠ b → (TX6 a).2.1 ≠ (TX6 b).2.1 := by decide +kernel
theorem tyX6_ok : ∀ k, k < 7 → parseFieldDescriptor (TX6 k).2.2.1 = some (tyX6 k) := by decide +kernel
abbrev cX6_init : ByteArray := prog_8_method_1_code
def yX6_init : MethodName := ⟨RX6, "<init>", "(I)V"⟩
abbrev cX6_clear : ByteArray := prog_8_method_2_code
def yX6_clear : MethodName := ⟨RX6, "clear", "()V"⟩
abbrev cX6_add : ByteArray := prog_8_method_3_code
def yX6_add : MethodName := ⟨RX6, "add", "(I)V"⟩
abbrev cX6_startRaises : ByteArray := prog_8_method_4_code
def yX6_startRaises : MethodName := ⟨RX6, "startRaises", "()V"⟩
abbrev cX6_startWorth : ByteArray := prog_8_method_5_code
def yX6_startWorth : MethodName := ⟨RX6, "startWorth", "()V"⟩
abbrev cX6_strikeOn : ByteArray := prog_8_method_6_code
def yX6_strikeOn : MethodName := ⟨RX6, "strikeOn", "(LSandcastles$Strand;LSandcastles$Fort;)I"⟩
abbrev cX6_raiseOf : ByteArray := prog_8_method_7_code
def yX6_raiseOf : MethodName := ⟨RX6, "raiseOf", "(LSandcastles$Strand;LSandcastles$Fort;)I"⟩
abbrev cX6_worthOf : ByteArray := prog_8_method_8_code
def yX6_worthOf : MethodName := ⟨RX6, "worthOf", "(LSandcastles$Strand;LSandcastles$Fort;)I"⟩
abbrev cX6_tell : ByteArray := prog_8_method_9_code
def yX6_tell : MethodName := ⟨RX6, "tell", "(IILSandcastles$Strand;LSandcastles$Fort;)I"⟩
abbrev cX6_push : ByteArray := prog_8_method_10_code
def yX6_push : MethodName := ⟨RX6, "push", "(I)V"⟩
abbrev cX6_pop : ByteArray := prog_8_method_11_code
def yX6_pop : MethodName := ⟨RX6, "pop", "()I"⟩
abbrev cX6_named : ByteArray := prog_8_method_12_code
def yX6_named : MethodName := ⟨RX6, "named", "(ILSandcastles$Strand;LSandcastles$Fort;)I"⟩
abbrev cX6_joined : ByteArray := prog_8_method_13_code
def yX6_joined : MethodName := ⟨RX6, "joined", "(III)I"⟩
abbrev cX6_truth : ByteArray := prog_8_method_14_code
def yX6_truth : MethodName := ⟨RX6, "truth", "(Z)I"⟩
def RX7 : String := "Sandcastles"
def TX7 : u_T := fun k => match k with
  | 0 => ("Sandcastles", "tape", "LSandcastles$Tape;", true)
  | 1 => ("Sandcastles", "reader", "LSandcastles$Reader;", true)
  | 2 => ("Sandcastles", "texts", "[LSandcastles$Text;", true)
  | 3 => ("Sandcastles", "textCount", "I", false)
  | 4 => ("Sandcastles", "strand", "LSandcastles$Strand;", true)
  | 5 => ("Sandcastles", "thought", "LSandcastles$Strand;", true)
  | 6 => ("Sandcastles", "image", "LSandcastles$Strand;", true)
  | 7 => ("Sandcastles", "hasImage", "Z", false)
  | 8 => ("Sandcastles", "match", "LSandcastles$Game;", true)
  | _ => ("Sandcastles", "sheets", "[LSandcastles$Sheet;", true)
def tyX7 : Nat → FieldType := fun k => match k with
  | 0 => .object "Sandcastles$Tape"
  | 1 => .object "Sandcastles$Reader"
  | 2 => .array (.object "Sandcastles$Text")
  | 3 => .int
  | 4 => .object "Sandcastles$Strand"
  | 5 => .object "Sandcastles$Strand"
  | 6 => .object "Sandcastles$Strand"
  | 7 => .boolean
  | 8 => .object "Sandcastles$Game"
  | _ => .array (.object "Sandcastles$Sheet")
abbrev wsX70 : List Cond := u_ws RX7 TX7 10
theorem nmX7 : ∀ a, a < 10 → ∀ b, b < 10 → a ≠ b → (TX7 a).2.1 ≠ (TX7 b).2.1 := by decide +kernel
theorem tyX7_ok : ∀ k, k < 10 → parseFieldDescriptor (TX7 k).2.2.1 = some (tyX7 k) := by decide +kernel
abbrev cX7_init : ByteArray := prog_1_method_1_code
def yX7_init : MethodName := ⟨RX7, "<init>", "()V"⟩
abbrev cX7_set : ByteArray := prog_1_method_2_code
def yX7_set : MethodName := ⟨RX7, "set", "(III)I"⟩
abbrev cX7_fort : ByteArray := prog_1_method_3_code
def yX7_fort : MethodName := ⟨RX7, "fort", "(III)I"⟩
abbrev cX7_told : ByteArray := prog_1_method_4_code
def yX7_told : MethodName := ⟨RX7, "told", "(II)I"⟩
abbrev cX7_bound : ByteArray := prog_1_method_5_code
def yX7_bound : MethodName := ⟨RX7, "bound", "(I)I"⟩
abbrev cX7_change : ByteArray := prog_1_method_6_code
def yX7_change : MethodName := ⟨RX7, "change", "(LSandcastles$Fort;II)V"⟩
abbrev cX7_feed : ByteArray := prog_1_method_7_code
def yX7_feed : MethodName := ⟨RX7, "feed", "(I)I"⟩
abbrev cX7_text : ByteArray := prog_1_method_8_code
def yX7_text : MethodName := ⟨RX7, "text", "()I"⟩
abbrev cX7_force : ByteArray := prog_1_method_9_code
def yX7_force : MethodName := ⟨RX7, "force", "(I)I"⟩
abbrev cX7_wave : ByteArray := prog_1_method_10_code
def yX7_wave : MethodName := ⟨RX7, "wave", "()I"⟩
abbrev cX7_spade : ByteArray := prog_1_method_11_code
def yX7_spade : MethodName := ⟨RX7, "spade", "(I)I"⟩
abbrev cX7_run : ByteArray := prog_1_method_12_code
def yX7_run : MethodName := ⟨RX7, "run", "(II)I"⟩
abbrev cX7_plan : ByteArray := prog_1_method_13_code
def yX7_plan : MethodName := ⟨RX7, "plan", "(II)I"⟩
abbrev cX7_isPlan : ByteArray := prog_1_method_14_code
def yX7_isPlan : MethodName := ⟨RX7, "isPlan", "(LSandcastles$Sheet;)Z"⟩
abbrev cX7_isAhead : ByteArray := prog_1_method_15_code
def yX7_isAhead : MethodName := ⟨RX7, "isAhead", "(I)Z"⟩
abbrev cX7_isView : ByteArray := prog_1_method_16_code
def yX7_isView : MethodName := ⟨RX7, "isView", "(I)Z"⟩
abbrev cX7_view : ByteArray := prog_1_method_17_code
def yX7_view : MethodName := ⟨RX7, "view", "(I)I"⟩
abbrev cX7_think : ByteArray := prog_1_method_18_code
def yX7_think : MethodName := ⟨RX7, "think", "()LSandcastles$Strand;"⟩
abbrev cX7_keeps : ByteArray := prog_1_method_19_code
def yX7_keeps : MethodName := ⟨RX7, "keeps", "(II)I"⟩
abbrev cX7_best : ByteArray := prog_1_method_20_code
def yX7_best : MethodName := ⟨RX7, "best", "(III)I"⟩
abbrev cX7_matters : ByteArray := prog_1_method_21_code
def yX7_matters : MethodName := ⟨RX7, "matters", "(III)I"⟩
abbrev cX7_wish : ByteArray := prog_1_method_22_code
def yX7_wish : MethodName := ⟨RX7, "wish", "(III)I"⟩
abbrev cX7_game : ByteArray := prog_1_method_23_code
def yX7_game : MethodName := ⟨RX7, "game", "(II)I"⟩
abbrev cX7_isAnswer : ByteArray := prog_1_method_24_code
def yX7_isAnswer : MethodName := ⟨RX7, "isAnswer", "(I)Z"⟩
abbrev cX7_tells : ByteArray := prog_1_method_25_code
def yX7_tells : MethodName := ⟨RX7, "tells", "(III)I"⟩
abbrev cX7_choicesOf : ByteArray := prog_1_method_26_code
def yX7_choicesOf : MethodName := ⟨RX7, "choicesOf", "(I)I"⟩
abbrev cX7_suppose : ByteArray := prog_1_method_27_code
def yX7_suppose : MethodName := ⟨RX7, "suppose", "(LSandcastles$Fort;II)V"⟩
abbrev cX7_firstOther : ByteArray := prog_1_method_28_code
def yX7_firstOther : MethodName := ⟨RX7, "firstOther", "(LSandcastles$Sheet;LSandcastles$Fort;)I"⟩
abbrev cX7_film : ByteArray := prog_1_method_29_code
def yX7_film : MethodName := ⟨RX7, "film", "(III)I"⟩
abbrev cX7_drawn : ByteArray := prog_1_method_30_code
def yX7_drawn : MethodName := ⟨RX7, "drawn", "(II)I"⟩
abbrev cX7_chance : ByteArray := prog_1_method_31_code
def yX7_chance : MethodName := ⟨RX7, "chance", "(IIII)J"⟩
abbrev cX7_passDrawn : ByteArray := prog_1_method_32_code
def yX7_passDrawn : MethodName := ⟨RX7, "passDrawn", "(II)V"⟩
abbrev cX7_commonDivisor : ByteArray := prog_1_method_33_code
def yX7_commonDivisor : MethodName := ⟨RX7, "commonDivisor", "(II)I"⟩
abbrev cX7_image : ByteArray := prog_1_method_34_code
def yX7_image : MethodName := ⟨RX7, "image", "()I"⟩
abbrev cX7_back : ByteArray := prog_1_method_35_code
def yX7_back : MethodName := ⟨RX7, "back", "()I"⟩
abbrev cX7_count : ByteArray := prog_1_method_36_code
def yX7_count : MethodName := ⟨RX7, "count", "(I)I"⟩
abbrev cX7_sheet : ByteArray := prog_1_method_37_code
def yX7_sheet : MethodName := ⟨RX7, "sheet", "(III)I"⟩
abbrev cX7_cell : ByteArray := prog_1_method_38_code
def yX7_cell : MethodName := ⟨RX7, "cell", "(III)I"⟩
abbrev cX7_copy : ByteArray := prog_1_method_39_code
def yX7_copy : MethodName := ⟨RX7, "copy", "(IIIII)I"⟩
abbrev cX7_forts : ByteArray := prog_1_method_40_code
def yX7_forts : MethodName := ⟨RX7, "forts", "(IIII)I"⟩
abbrev cX7_taken : ByteArray := prog_1_method_41_code
def yX7_taken : MethodName := ⟨RX7, "taken", "(II)I"⟩
abbrev cX7_sheetAt : ByteArray := prog_1_method_42_code
def yX7_sheetAt : MethodName := ⟨RX7, "sheetAt", "(I)LSandcastles$Sheet;"⟩
def RX8 : String := "SandcastlesModel"
def TX8 : u_T := fun k => match k with
  | 0 => ("SandcastlesModel", "moon", "I", false)
  | 1 => ("SandcastlesModel", "wave", "I", false)
  | 2 => ("SandcastlesModel", "forts", "I", false)
  | 3 => ("SandcastlesModel", "kind", "[I", true)
  | 4 => ("SandcastlesModel", "number", "[I", true)
  | 5 => ("SandcastlesModel", "place", "[I", true)
  | 6 => ("SandcastlesModel", "realm", "[I", true)
  | 7 => ("SandcastlesModel", "height", "[I", true)
  | 8 => ("SandcastlesModel", "rule", "I", false)
  | 9 => ("SandcastlesModel", "taped", "I", false)
  | 10 => ("SandcastlesModel", "tape", "[I", true)
  | 11 => ("SandcastlesModel", "texts", "I", false)
  | 12 => ("SandcastlesModel", "begins", "[I", true)
  | 13 => ("SandcastlesModel", "length", "[I", true)
  | 14 => ("SandcastlesModel", "code", "[I", true)
  | 15 => ("SandcastlesModel", "coded", "I", false)
  | 16 => ("SandcastlesModel", "from", "I", false)
  | 17 => ("SandcastlesModel", "to", "I", false)
  | 18 => ("SandcastlesModel", "token", "I", false)
  | 19 => ("SandcastlesModel", "value", "I", false)
  | 20 => ("SandcastlesModel", "fault", "I", false)
  | 21 => ("SandcastlesModel", "open", "I", false)
  | 22 => ("SandcastlesModel", "stack", "[I", true)
  | 23 => ("SandcastlesModel", "ahead", "[I", true)
  | 24 => ("SandcastlesModel", "aheadWave", "I", false)
  | 25 => ("SandcastlesModel", "aheadMoon", "I", false)
  | 26 => ("SandcastlesModel", "games", "[I", true)
  | 27 => ("SandcastlesModel", "firstMove", "I", false)
  | 28 => ("SandcastlesModel", "losses", "[I", true)
  | 29 => ("SandcastlesModel", "imaged", "Z", false)
  | 30 => ("SandcastlesModel", "oldForts", "I", false)
  | 31 => ("SandcastlesModel", "old", "[I", true)
  | 32 => ("SandcastlesModel", "sheetSort", "[I", true)
  | 33 => ("SandcastlesModel", "sheetSize", "[I", true)
  | _ => ("SandcastlesModel", "cells", "[I", true)
def tyX8 : Nat → FieldType := fun k => match k with
  | 0 => .int
  | 1 => .int
  | 2 => .int
  | 3 => .array .int
  | 4 => .array .int
  | 5 => .array .int
  | 6 => .array .int
  | 7 => .array .int
  | 8 => .int
  | 9 => .int
  | 10 => .array .int
  | 11 => .int
  | 12 => .array .int
  | 13 => .array .int
  | 14 => .array .int
  | 15 => .int
  | 16 => .int
  | 17 => .int
  | 18 => .int
  | 19 => .int
  | 20 => .int
  | 21 => .int
  | 22 => .array .int
  | 23 => .array .int
  | 24 => .int
  | 25 => .int
  | 26 => .array .int
  | 27 => .int
  | 28 => .array .int
  | 29 => .boolean
  | 30 => .int
  | 31 => .array .int
  | 32 => .array .int
  | 33 => .array .int
  | _ => .array .int
abbrev wsX80 : List Cond := u_ws RX8 TX8 35
theorem nmX8 : ∀ a, a < 35 → ∀ b, b < 35 → a ≠ b → (TX8 a).2.1 ≠ (TX8 b).2.1 := by decide +kernel
theorem tyX8_ok : ∀ k, k < 35 → parseFieldDescriptor (TX8 k).2.2.1 = some (tyX8 k) := by decide +kernel
abbrev cX8_init : ByteArray := prog_10_method_1_code
def yX8_init : MethodName := ⟨RX8, "<init>", "()V"⟩
abbrev cX8_within : ByteArray := prog_10_method_2_code
def yX8_within : MethodName := ⟨RX8, "within", "(III)Z"⟩
abbrev cX8_isFort : ByteArray := prog_10_method_3_code
def yX8_isFort : MethodName := ⟨RX8, "isFort", "(I)Z"⟩
abbrev cX8_isWaves : ByteArray := prog_10_method_4_code
def yX8_isWaves : MethodName := ⟨RX8, "isWaves", "(I)Z"⟩
abbrev cX8_isSheet : ByteArray := prog_10_method_5_code
def yX8_isSheet : MethodName := ⟨RX8, "isSheet", "(I)Z"⟩
abbrev cX8_most : ByteArray := prog_10_method_6_code
def yX8_most : MethodName := ⟨RX8, "most", "(I)I"⟩
abbrev cX8_get : ByteArray := prog_10_method_7_code
def yX8_get : MethodName := ⟨RX8, "get", "(II)I"⟩
abbrev cX8_put : ByteArray := prog_10_method_8_code
def yX8_put : MethodName := ⟨RX8, "put", "(III)V"⟩
abbrev cX8_set : ByteArray := prog_10_method_9_code
def yX8_set : MethodName := ⟨RX8, "set", "(III)I"⟩
abbrev cX8_fort : ByteArray := prog_10_method_10_code
def yX8_fort : MethodName := ⟨RX8, "fort", "(III)I"⟩
abbrev cX8_told : ByteArray := prog_10_method_11_code
def yX8_told : MethodName := ⟨RX8, "told", "(II)I"⟩
abbrev cX8_feed : ByteArray := prog_10_method_12_code
def yX8_feed : MethodName := ⟨RX8, "feed", "(I)I"⟩
abbrev cX8_isLetter : ByteArray := prog_10_method_13_code
def yX8_isLetter : MethodName := ⟨RX8, "isLetter", "(I)Z"⟩
abbrev cX8_isDigit : ByteArray := prog_10_method_14_code
def yX8_isDigit : MethodName := ⟨RX8, "isDigit", "(I)Z"⟩
abbrev cX8_isWord : ByteArray := prog_10_method_15_code
def yX8_isWord : MethodName := ⟨RX8, "isWord", "(Ljava/lang/String;)Z"⟩
abbrev cX8_name : ByteArray := prog_10_method_16_code
def yX8_name : MethodName := ⟨RX8, "name", "(I)Ljava/lang/String;"⟩
abbrev cX8_named : ByteArray := prog_10_method_17_code
def yX8_named : MethodName := ⟨RX8, "named", "()I"⟩
abbrev cX8_next : ByteArray := prog_10_method_18_code
def yX8_next : MethodName := ⟨RX8, "next", "()V"⟩
abbrev cX8_fails : ByteArray := prog_10_method_19_code
def yX8_fails : MethodName := ⟨RX8, "fails", "()Z"⟩
abbrev cX8_takes : ByteArray := prog_10_method_20_code
def yX8_takes : MethodName := ⟨RX8, "takes", "(I)Z"⟩
abbrev cX8_takes_ : ByteArray := prog_10_method_21_code
def yX8_takes_ : MethodName := ⟨RX8, "takes", "(Ljava/lang/String;)Z"⟩
abbrev cX8_codes : ByteArray := prog_10_method_22_code
def yX8_codes : MethodName := ⟨RX8, "codes", "(I)Z"⟩
abbrev cX8_one : ByteArray := prog_10_method_23_code
def yX8_one : MethodName := ⟨RX8, "one", "()Z"⟩
abbrev cX8_term : ByteArray := prog_10_method_24_code
def yX8_term : MethodName := ⟨RX8, "term", "()Z"⟩
abbrev cX8_sum : ByteArray := prog_10_method_25_code
def yX8_sum : MethodName := ⟨RX8, "sum", "()Z"⟩
abbrev cX8_no : ByteArray := prog_10_method_26_code
def yX8_no : MethodName := ⟨RX8, "no", "()Z"⟩
abbrev cX8_all : ByteArray := prog_10_method_27_code
def yX8_all : MethodName := ⟨RX8, "all", "()Z"⟩
abbrev cX8_any : ByteArray := prog_10_method_28_code
def yX8_any : MethodName := ⟨RX8, "any", "()Z"⟩
abbrev cX8_part : ByteArray := prog_10_method_29_code
def yX8_part : MethodName := ⟨RX8, "part", "(ILjava/lang/String;)Z"⟩
abbrev cX8_text : ByteArray := prog_10_method_30_code
def yX8_text : MethodName := ⟨RX8, "text", "()I"⟩
abbrev cX8_force : ByteArray := prog_10_method_31_code
def yX8_force : MethodName := ⟨RX8, "force", "(I)I"⟩
abbrev cX8_says : ByteArray := prog_10_method_32_code
def yX8_says : MethodName := ⟨RX8, "says", "(III)I"⟩
abbrev cX8_both : ByteArray := prog_10_method_33_code
def yX8_both : MethodName := ⟨RX8, "both", "(III)I"⟩
abbrev cX8_shelter : ByteArray := prog_10_method_34_code
def yX8_shelter : MethodName := ⟨RX8, "shelter", "(I)I"⟩
abbrev cX8_loses : ByteArray := prog_10_method_35_code
def yX8_loses : MethodName := ⟨RX8, "loses", "(I)I"⟩
abbrev cX8_rises : ByteArray := prog_10_method_36_code
def yX8_rises : MethodName := ⟨RX8, "rises", "(I)I"⟩
abbrev cX8_standing : ByteArray := prog_10_method_37_code
def yX8_standing : MethodName := ⟨RX8, "standing", "()I"⟩
abbrev cX8_comes : ByteArray := prog_10_method_38_code
def yX8_comes : MethodName := ⟨RX8, "comes", "()V"⟩
abbrev cX8_raised : ByteArray := prog_10_method_39_code
def yX8_raised : MethodName := ⟨RX8, "raised", "(I)V"⟩
abbrev cX8_wave : ByteArray := prog_10_method_40_code
def yX8_wave : MethodName := ⟨RX8, "wave", "()I"⟩
abbrev cX8_spade : ByteArray := prog_10_method_41_code
def yX8_spade : MethodName := ⟨RX8, "spade", "(I)I"⟩
abbrev cX8_keep : ByteArray := prog_10_method_42_code
def yX8_keep : MethodName := ⟨RX8, "keep", "()V"⟩
abbrev cX8_again : ByteArray := prog_10_method_43_code
def yX8_again : MethodName := ⟨RX8, "again", "()V"⟩
abbrev cX8_waves : ByteArray := prog_10_method_44_code
def yX8_waves : MethodName := ⟨RX8, "waves", "(I)V"⟩
abbrev cX8_bay : ByteArray := prog_10_method_45_code
def yX8_bay : MethodName := ⟨RX8, "bay", "()I"⟩
abbrev cX8_valueOf : ByteArray := prog_10_method_46_code
def yX8_valueOf : MethodName := ⟨RX8, "valueOf", "(I)I"⟩
abbrev cX8_isAsked : ByteArray := prog_10_method_47_code
def yX8_isAsked : MethodName := ⟨RX8, "isAsked", "(I)Z"⟩
abbrev cX8_asked : ByteArray := prog_10_method_48_code
def yX8_asked : MethodName := ⟨RX8, "asked", "(I)I"⟩
abbrev cX8_run : ByteArray := prog_10_method_49_code
def yX8_run : MethodName := ⟨RX8, "run", "(II)I"⟩
abbrev cX8_plan : ByteArray := prog_10_method_50_code
def yX8_plan : MethodName := ⟨RX8, "plan", "(II)I"⟩
abbrev cX8_heightBehind : ByteArray := prog_10_method_51_code
def yX8_heightBehind : MethodName := ⟨RX8, "heightBehind", "(II)I"⟩
abbrev cX8_valueBehind : ByteArray := prog_10_method_52_code
def yX8_valueBehind : MethodName := ⟨RX8, "valueBehind", "(II)I"⟩
abbrev cX8_keeps : ByteArray := prog_10_method_53_code
def yX8_keeps : MethodName := ⟨RX8, "keeps", "(II)I"⟩
abbrev cX8_best : ByteArray := prog_10_method_54_code
def yX8_best : MethodName := ⟨RX8, "best", "(III)I"⟩
abbrev cX8_matters : ByteArray := prog_10_method_55_code
def yX8_matters : MethodName := ⟨RX8, "matters", "(III)I"⟩
abbrev cX8_wish : ByteArray := prog_10_method_56_code
def yX8_wish : MethodName := ⟨RX8, "wish", "(III)I"⟩
abbrev cX8_search : ByteArray := prog_10_method_57_code
def yX8_search : MethodName := ⟨RX8, "search", "(I)I"⟩
abbrev cX8_game : ByteArray := prog_10_method_58_code
def yX8_game : MethodName := ⟨RX8, "game", "(II)I"⟩
abbrev cX8_otherwise : ByteArray := prog_10_method_59_code
def yX8_otherwise : MethodName := ⟨RX8, "otherwise", "(II)I"⟩
abbrev cX8_isSo : ByteArray := prog_10_method_60_code
def yX8_isSo : MethodName := ⟨RX8, "isSo", "(II)Z"⟩
abbrev cX8_tells : ByteArray := prog_10_method_61_code
def yX8_tells : MethodName := ⟨RX8, "tells", "(III)I"⟩
abbrev cX8_becomes : ByteArray := prog_10_method_62_code
def yX8_becomes : MethodName := ⟨RX8, "becomes", "(III)V"⟩
abbrev cX8_film : ByteArray := prog_10_method_63_code
def yX8_film : MethodName := ⟨RX8, "film", "(III)I"⟩
abbrev cX8_draws : ByteArray := prog_10_method_64_code
def yX8_draws : MethodName := ⟨RX8, "draws", "(II)V"⟩
abbrev cX8_drawn : ByteArray := prog_10_method_65_code
def yX8_drawn : MethodName := ⟨RX8, "drawn", "(II)I"⟩
abbrev cX8_chance : ByteArray := prog_10_method_66_code
def yX8_chance : MethodName := ⟨RX8, "chance", "(IIII)J"⟩
abbrev cX8_image : ByteArray := prog_10_method_67_code
def yX8_image : MethodName := ⟨RX8, "image", "()I"⟩
abbrev cX8_back : ByteArray := prog_10_method_68_code
def yX8_back : MethodName := ⟨RX8, "back", "()I"⟩
abbrev cX8_count : ByteArray := prog_10_method_69_code
def yX8_count : MethodName := ⟨RX8, "count", "(I)I"⟩
abbrev cX8_sheet : ByteArray := prog_10_method_70_code
def yX8_sheet : MethodName := ⟨RX8, "sheet", "(III)I"⟩
abbrev cX8_cell : ByteArray := prog_10_method_71_code
def yX8_cell : MethodName := ⟨RX8, "cell", "(III)I"⟩
abbrev cX8_copy : ByteArray := prog_10_method_72_code
def yX8_copy : MethodName := ⟨RX8, "copy", "(IIIII)I"⟩
abbrev cX8_forts : ByteArray := prog_10_method_73_code
def yX8_forts : MethodName := ⟨RX8, "forts", "(IIII)I"⟩
abbrev cX8_taken : ByteArray := prog_10_method_74_code
def yX8_taken : MethodName := ⟨RX8, "taken", "(II)I"⟩
def RJ11 : String := "java/lang/Character"
def TJ11 : u_T := fun k => match k with
  | _ => ("", "", "", false)
def tyJ11 : Nat → FieldType := fun k => match k with
  | _ => .int
abbrev wsJ110 : List Cond := u_ws RJ11 TJ11 0
theorem nmJ11 : ∀ a, a < 0 → ∀ b, b < 0 → a ≠ b → (TJ11 a).2.1 ≠ (TJ11 b).2.1 := by decide +kernel
theorem tyJ11_ok : ∀ k, k < 0 → parseFieldDescriptor (TJ11 k).2.2.1 = some (tyJ11 k) := by decide +kernel
abbrev cJ11_isValidCodePoint_9a6ad : ByteArray := prog_11_method_11_code
def yJ11_isValidCodePoint_9a6ad : MethodName := ⟨RJ11, "isValidCodePoint", "(I)Z"⟩
abbrev cJ11_highSurrogate_5068e : ByteArray := prog_11_method_28_code
def yJ11_highSurrogate_5068e : MethodName := ⟨RJ11, "highSurrogate", "(I)C"⟩
abbrev cJ11_lowSurrogate_5068e : ByteArray := prog_11_method_29_code
def yJ11_lowSurrogate_5068e : MethodName := ⟨RJ11, "lowSurrogate", "(I)C"⟩
def RJ6 : String := "java/lang/Integer"
def TJ6 : u_T := fun k => match k with
  | _ => ("", "", "", false)
def tyJ6 : Nat → FieldType := fun k => match k with
  | _ => .int
abbrev wsJ60 : List Cond := u_ws RJ6 TJ6 0
theorem nmJ6 : ∀ a, a < 0 → ∀ b, b < 0 → a ≠ b → (TJ6 a).2.1 ≠ (TJ6 b).2.1 := by decide +kernel
theorem tyJ6_ok : ∀ k, k < 0 → parseFieldDescriptor (TJ6 k).2.2.1 = some (tyJ6 k) := by decide +kernel
abbrev cJ6_bitCount_0f7a4 : ByteArray := prog_12_method_49_code
def yJ6_bitCount_0f7a4 : MethodName := ⟨RJ6, "bitCount", "(I)I"⟩
def RJ9 : String := "java/lang/Math"
def TJ9 : u_T := fun k => match k with
  | _ => ("", "", "", false)
def tyJ9 : Nat → FieldType := fun k => match k with
  | _ => .int
abbrev wsJ90 : List Cond := u_ws RJ9 TJ9 0
theorem nmJ9 : ∀ a, a < 0 → ∀ b, b < 0 → a ≠ b → (TJ9 a).2.1 ≠ (TJ9 b).2.1 := by decide +kernel
theorem tyJ9_ok : ∀ k, k < 0 → parseFieldDescriptor (TJ9 k).2.2.1 = some (tyJ9 k) := by decide +kernel
abbrev cJ9_max_7cf53 : ByteArray := prog_13_method_65_code
def yJ9_max_7cf53 : MethodName := ⟨RJ9, "max", "(II)I"⟩
abbrev cJ9_min_7cf53 : ByteArray := prog_13_method_69_code
def yJ9_min_7cf53 : MethodName := ⟨RJ9, "min", "(II)I"⟩
def RJ0 : String := "java/lang/String"
def TJ0 : u_T := fun k => match k with
  | _ => ("", "", "", false)
def tyJ0 : Nat → FieldType := fun k => match k with
  | _ => .int
abbrev wsJ00 : List Cond := u_ws RJ0 TJ0 0
theorem nmJ0 : ∀ a, a < 0 → ∀ b, b < 0 → a ≠ b → (TJ0 a).2.1 ≠ (TJ0 b).2.1 := by decide +kernel
theorem tyJ0_ok : ∀ k, k < 0 → parseFieldDescriptor (TJ0 k).2.2.1 = some (tyJ0 k) := by decide +kernel
abbrev cJ0_length_8abf5 : ByteArray := prog_14_method_54_code
def yJ0_length_8abf5 : MethodName := ⟨RJ0, "length", "()I"⟩
abbrev cJ0_charAt_5068e : ByteArray := prog_14_method_56_code
def yJ0_charAt_5068e : MethodName := ⟨RJ0, "charAt", "(I)C"⟩
abbrev cJ0_indexOf_0f7a4 : ByteArray := prog_14_method_79_code
def yJ0_indexOf_0f7a4 : MethodName := ⟨RJ0, "indexOf", "(I)I"⟩
abbrev cJ0_indexOf_7cf53 : ByteArray := prog_14_method_80_code
def yJ0_indexOf_7cf53 : MethodName := ⟨RJ0, "indexOf", "(II)I"⟩
abbrev cJ0_coder_7d493 : ByteArray := prog_14_method_152_code
def yJ0_coder_7d493 : MethodName := ⟨RJ0, "coder", "()B"⟩
abbrev cJ0_isLatin1_aae02 : ByteArray := prog_14_method_154_code
def yJ0_isLatin1_aae02 : MethodName := ⟨RJ0, "isLatin1", "()Z"⟩
abbrev cJ0_checkIndex_df160 : ByteArray := prog_14_method_155_code
def yJ0_checkIndex_df160 : MethodName := ⟨RJ0, "checkIndex", "(II)V"⟩
abbrev cJ0_checkBoundsBeginEnd_23922 : ByteArray := prog_14_method_158_code
def yJ0_checkBoundsBeginEnd_23922 : MethodName := ⟨RJ0, "checkBoundsBeginEnd", "(III)V"⟩
def RJ1 : String := "java/lang/StringLatin1"
def TJ1 : u_T := fun k => match k with
  | _ => ("", "", "", false)
def tyJ1 : Nat → FieldType := fun k => match k with
  | _ => .int
abbrev wsJ10 : List Cond := u_ws RJ1 TJ1 0
theorem nmJ1 : ∀ a, a < 0 → ∀ b, b < 0 → a ≠ b → (TJ1 a).2.1 ≠ (TJ1 b).2.1 := by decide +kernel
theorem tyJ1_ok : ∀ k, k < 0 → parseFieldDescriptor (TJ1 k).2.2.1 = some (tyJ1 k) := by decide +kernel
abbrev cJ1_charAt_3b067 : ByteArray := prog_15_method_2_code
def yJ1_charAt_3b067 : MethodName := ⟨RJ1, "charAt", "([BI)C"⟩
abbrev cJ1_canEncode_9a6ad : ByteArray := prog_15_method_4_code
def yJ1_canEncode_9a6ad : MethodName := ⟨RJ1, "canEncode", "(I)Z"⟩
abbrev cJ1_indexOf_4cfef : ByteArray := prog_15_method_22_code
def yJ1_indexOf_4cfef : MethodName := ⟨RJ1, "indexOf", "([BIII)I"⟩
abbrev cJ1_indexOfChar_4cfef : ByteArray := prog_15_method_23_code
def yJ1_indexOfChar_4cfef : MethodName := ⟨RJ1, "indexOfChar", "([BIII)I"⟩
def RJ2 : String := "java/lang/StringUTF16"
def TJ2 : u_T := fun k => match k with
  | _ => ("", "", "", false)
def tyJ2 : Nat → FieldType := fun k => match k with
  | _ => .int
abbrev wsJ20 : List Cond := u_ws RJ2 TJ2 0
theorem nmJ2 : ∀ a, a < 0 → ∀ b, b < 0 → a ≠ b → (TJ2 a).2.1 ≠ (TJ2 b).2.1 := by decide +kernel
theorem tyJ2_ok : ∀ k, k < 0 → parseFieldDescriptor (TJ2 k).2.2.1 = some (tyJ2 k) := by decide +kernel
abbrev cJ2_getChar_3b067 : ByteArray := prog_16_method_5_code
def yJ2_getChar_3b067 : MethodName := ⟨RJ2, "getChar", "([BI)C"⟩
abbrev cJ2_length_9d52b : ByteArray := prog_16_method_6_code
def yJ2_length_9d52b : MethodName := ⟨RJ2, "length", "([B)I"⟩
abbrev cJ2_indexOf_4cfef : ByteArray := prog_16_method_40_code
def yJ2_indexOf_4cfef : MethodName := ⟨RJ2, "indexOf", "([BIII)I"⟩
abbrev cJ2_indexOfChar_4cfef : ByteArray := prog_16_method_47_code
def yJ2_indexOfChar_4cfef : MethodName := ⟨RJ2, "indexOfChar", "([BIII)I"⟩
abbrev cJ2_indexOfCharUnsafe_4cfef : ByteArray := prog_16_method_48_code
def yJ2_indexOfCharUnsafe_4cfef : MethodName := ⟨RJ2, "indexOfCharUnsafe", "([BIII)I"⟩
abbrev cJ2_indexOfSupplementary_4cfef : ByteArray := prog_16_method_49_code
def yJ2_indexOfSupplementary_4cfef : MethodName := ⟨RJ2, "indexOfSupplementary", "([BIII)I"⟩
abbrev cJ2_charAt_3b067 : ByteArray := prog_16_method_83_code
def yJ2_charAt_3b067 : MethodName := ⟨RJ2, "charAt", "([BI)C"⟩
abbrev cJ2_checkIndex_2214a : ByteArray := prog_16_method_91_code
def yJ2_checkIndex_2214a : MethodName := ⟨RJ2, "checkIndex", "(I[B)V"⟩
abbrev cJ2_checkBoundsBeginEnd_d044e : ByteArray := prog_16_method_93_code
def yJ2_checkBoundsBeginEnd_d044e : MethodName := ⟨RJ2, "checkBoundsBeginEnd", "(II[B)V"⟩
def RJ10 : String := "java/lang/System"
def TJ10 : u_T := fun k => match k with
  | _ => ("", "", "", false)
def tyJ10 : Nat → FieldType := fun k => match k with
  | _ => .int
abbrev wsJ100 : List Cond := u_ws RJ10 TJ10 0
theorem nmJ10 : ∀ a, a < 0 → ∀ b, b < 0 → a ≠ b → (TJ10 a).2.1 ≠ (TJ10 b).2.1 := by decide +kernel
theorem tyJ10_ok : ∀ k, k < 0 → parseFieldDescriptor (TJ10 k).2.2.1 = some (tyJ10 k) := by decide +kernel
def RJ3 : String := "jdk/internal/util/Preconditions"
def TJ3 : u_T := fun k => match k with
  | _ => ("", "", "", false)
def tyJ3 : Nat → FieldType := fun k => match k with
  | _ => .int
abbrev wsJ30 : List Cond := u_ws RJ3 TJ3 0
theorem nmJ3 : ∀ a, a < 0 → ∀ b, b < 0 → a ≠ b → (TJ3 a).2.1 ≠ (TJ3 b).2.1 := by decide +kernel
theorem tyJ3_ok : ∀ k, k < 0 → parseFieldDescriptor (TJ3 k).2.2.1 = some (tyJ3 k) := by decide +kernel
abbrev cJ3_checkIndex_8e157 : ByteArray := prog_18_method_11_code
def yJ3_checkIndex_8e157 : MethodName := ⟨RJ3, "checkIndex", "(IILjava/util/function/BiFunction;)I"⟩
abbrev cJ3_checkFromToIndex_8c36e : ByteArray := prog_18_method_12_code
def yJ3_checkFromToIndex_8c36e : MethodName := ⟨RJ3, "checkFromToIndex", "(IIILjava/util/function/BiFunction;)I"⟩
def RL : String := "SandcastlesLaw"
abbrev cL_law : ByteArray := code
def yL_law : MethodName := ⟨RL, "law", "([I)Z"⟩
abbrev vwCl : List vw_C := [(RX0, TX0, 6), (RX1, TX1, 3), (RX2, TX2, 5), (RX3, TX3, 3), (RX4, TX4, 5), (RX5, TX5, 4), (RX6, TX6, 7), (RX7, TX7, 10), (RX8, TX8, 35)]
end
section
/-! THE ABSTRACT MACHINE'S WORLD: a heap of typed cells, read as two functions, ints and references -/
abbrev AH : Type := (Nat × (Nat → Nat × Nat)) × (Nat → Nat → Int32) × (Nat → Nat → Option Nat)
/-- the next address; a cell's kind and size (kinds 0 .. 8: the class of that number; 9: int[]; 10 .. 13: rows of references); ints; references -/
def hpZ (h : AH) : Nat := h.1.1
def hpS (h : AH) : Nat → Nat × Nat := h.1.2
def hpI (h : AH) : Nat → Nat → Int32 := h.2.1
def hpR (h : AH) : Nat → Nat → Option Nat := h.2.2
def u2 {α : Type} (f : Nat → Nat → α) (a k : Nat) (v : α) : Nat → Nat → α := fun a' k' => if a' = a ∧ k' = k then v else f a' k'
def iUp (h : AH) (a k : Nat) (v : Int32) : AH := (h.1, u2 h.2.1 a k v, h.2.2)
def rUp (h : AH) (a k : Nat) (v : Option Nat) : AH := (h.1, h.2.1, u2 h.2.2 a k v)
/-- a new cell, all 0 or null -/
def nUp (h : AH) (kd n : Nat) : AH := ((h.1.1 + 1, fun a => if a = h.1.1 then (kd, n) else h.1.2 a), (fun a k => if a = h.1.1 then 0 else h.2.1 a k), fun a k => if a = h.1.1 then none else h.2.2 a k)
theorem u2_same {α : Type} {f : Nat → Nat → α} {a k : Nat} {v : α} : u2 f a k v a k = v := by simp [u2]
theorem u2_ne {α : Type} {f : Nat → Nat → α} {a k a' k' : Nat} {v : α} (h : ¬ (a' = a ∧ k' = k)) : u2 f a k v a' k' = f a' k' := by simp [u2, h]
/-- the kit's contexts -/
abbrev GG : Type := va_G × (Nat → ClassId) × Nat × (Nat → Nat) × (Nat → Nat)
def gB (G : GG) : Nat := G.2.2.1
def gA (G : GG) : Nat → Prop := fun q => gB G ≤ q
def gK (G : GG) : Nat → Nat := G.2.2.2.1
def gV (G : GG) : Nat → Nat := G.2.2.2.2
def tyk : Nat → FieldType := fun k => match k with
  | 9 => .int
  | 10 => .object RX0
  | 11 => .object RX6
  | 12 => .object RX3
  | _ => .array .int
def tysL (cA : Nat → ClassId) : List (ClassId × FieldType) := [(cA 9, tyk 9), (cA 10, tyk 10), (cA 11, tyk 11), (cA 12, tyk 12), (cA 13, tyk 13)]
theorem tysL_at (cA : Nat → ClassId) {k : Nat} (h1 : 9 ≤ k) (h2 : k ≤ 13) : (tysL cA)[k - 9]? = some (cA k, tyk k) := by
  match k, h1, h2 with
  | 9, _, _ => rfl
  | 10, _, _ => rfl
  | 11, _, _ => rfl
  | 12, _, _ => rfl
  | 13, _, _ => rfl
  | k + 14, _, h => exact absurd h (by omega)
def slInt (ci k : Nat) : Bool := match vwCl[ci]? with
  | some q => (q.2.1 k).2.2.1 == "I" || (q.2.1 k).2.2.1 == "Z"
  | none => false
def slN (ci : Nat) : Nat := match vwCl[ci]? with
  | some q => q.2.2
  | none => 0
def enV (h : AH) (ci a k : Nat) : Value := if slInt ci k = true then .int (hpI h a k) else va_rf (hpR h a k)
def enO (h : AH) (ci a : Nat) : List Value := (List.range (slN ci)).map (enV h ci a)
def en (cA : Nat → ClassId) (h : AH) (a : Nat) : va_E :=
  if (hpS h a).1 < 9 then .inr ((hpS h a).1, enO h (hpS h a).1 a)
  else if (hpS h a).1 = 9 then .inl (cA 9, (hpS h a).2, .inl (hpI h a))
  else .inl (cA (hpS h a).1, (hpS h a).2, .inr (.inr (.inr (.inr (hpR h a)))))
def wsH (cA : Nat → ClassId) (b : Nat) (h : AH) : va_W := (List.range (hpZ h - b)).map fun q => (b + q, en cA h (b + q))
theorem wsH_get {cA : Nat → ClassId} {b a : Nat} {h : AH} (h1 : b ≤ a) (h2 : a < hpZ h) : (wsH cA b h)[a - b]? = some (a, en cA h a) := by
  unfold wsH
  rw [List.getElem?_map, List.getElem?_range (by omega)]
  simp only [Option.map_some]
  rw [show b + (a - b) = a by omega]
theorem wsH_of {cA : Nat → ClassId} {b k : Nat} {h : AH} {q : Nat × va_E} (hq : (wsH cA b h)[k]? = some q) : k < hpZ h - b ∧ q = (b + k, en cA h (b + k)) := by
  unfold wsH at hq
  have hk : k < hpZ h - b := by
    have := (List.getElem?_eq_some_iff.mp hq).1
    simpa using this
  rw [List.getElem?_map, List.getElem?_range hk] at hq
  simp only [Option.map_some, Option.some.injEq] at hq
  exact ⟨hk, hq.symm⟩
theorem wsH_D {cA : Nat → ClassId} {b : Nat} {h : AH} : va_D (fun q => b ≤ q) (wsH cA b h) := by
  refine ⟨fun i j p q hp hq e => ?_, fun k q hq => ?_⟩
  · obtain ⟨-, rfl⟩ := wsH_of hp
    obtain ⟨-, rfl⟩ := wsH_of hq
    have e : b + i = b + j := e
    omega
  · obtain ⟨-, rfl⟩ := wsH_of hq
    exact Nat.le_add_right _ _
theorem wsH_set {cA : Nat → ClassId} {b a : Nat} {h h' : AH} (h1 : b ≤ a) (h2 : a < hpZ h) (hz : hpZ h' = hpZ h) (ho : ∀ q, q ≠ a → en cA h' q = en cA h q) : (wsH cA b h).set (a - b) (a, en cA h' a) = wsH cA b h' := by
  apply List.ext_getElem?
  intro k
  by_cases hk : k = a - b
  · subst hk
    rw [List.getElem?_set_self (by unfold wsH; simp; omega), wsH_get h1 (by omega)]
  · rw [List.getElem?_set_ne (fun e => hk e.symm)]
    unfold wsH
    rw [List.getElem?_map, List.getElem?_map, hz]
    by_cases hl : k < hpZ h - b
    · rw [List.getElem?_range hl]
      simp only [Option.map_some]
      rw [ho (b + k) (by omega)]
    · rw [List.getElem?_eq_none (by simp; omega)]
      rfl
/-- the machine's heap is that of the abstract world, from the base on -/
def RelH (G : GG) (h : AH) (H : Heap) : Prop := (∀ a, (hpS h a).1 ≤ 13 → gB G ≤ a ∧ a < hpZ h) ∧ gB G ≤ hpZ h ∧ H.size = hpZ h ∧ va_P G.1 vwCl (wsH G.2.1 (gB G) h) H
/-- the Strings that the classes name: texts by number -/
def kTx : List (List Nat) := [[115, 116, 114, 105, 107, 101, 115, 32, 57, 32, 43, 32, 109, 111, 111, 110, 32, 45, 32, 112, 108, 97, 99, 101, 32, 45, 32, 115, 104, 101, 108, 116, 101, 114, 32, 59, 32, 114, 97, 105, 115, 101, 115, 32, 53, 32, 59, 32, 119, 111, 114, 116, 104, 32, 49, 48, 32, 59], [115, 116, 114, 105, 107, 101, 115], [114, 97, 105, 115, 101, 115], [119, 111, 114, 116, 104], [111, 114], [97, 110, 100], [110, 111, 116], [119, 97, 118, 101], [109, 111, 111, 110], [112, 108, 97, 99, 101], [110, 117, 109, 98, 101, 114], [104, 101, 105, 103, 104, 116], [115, 104, 101, 108, 116, 101, 114], [40, 41, 59, 43, 45, 42, 60, 61]]
def kTn (i : Nat) : Nat := (kTx.getD i []).length
def kTb (i : Nat) : List Int32 := (kTx.getD i []).map Int32.ofNat
/-- where they are named: class, place in its pool, text, number -/
def kRef : List (String × Nat × String × Nat) := [("Sandcastles", 41, "strikes 9 + moon - place - shelter ; raises 5 ; worth 10 ;", 0), ("Sandcastles$Tape", 42, "strikes", 1), ("Sandcastles$Tape", 48, "raises", 2), ("Sandcastles$Tape", 50, "worth", 3), ("Sandcastles$Tape", 52, "or", 4), ("Sandcastles$Tape", 56, "and", 5), ("Sandcastles$Tape", 58, "not", 6), ("Sandcastles$Tape", 60, "wave", 7), ("Sandcastles$Tape", 62, "moon", 8), ("Sandcastles$Tape", 64, "place", 9), ("Sandcastles$Tape", 66, "number", 10), ("Sandcastles$Tape", 68, "height", 11), ("Sandcastles$Tape", 70, "shelter", 12), ("SandcastlesModel", 61, "strikes 9 + moon - place - shelter ; raises 5 ; worth 10 ;", 0), ("SandcastlesModel", 126, "wave", 7), ("SandcastlesModel", 127, "moon", 8), ("SandcastlesModel", 128, "place", 9), ("SandcastlesModel", 129, "number", 10), ("SandcastlesModel", 130, "height", 11), ("SandcastlesModel", 131, "shelter", 12), ("SandcastlesModel", 146, "strikes", 1), ("SandcastlesModel", 148, "raises", 2), ("SandcastlesModel", 150, "worth", 3), ("SandcastlesModel", 152, "or", 4), ("SandcastlesModel", 154, "and", 5), ("SandcastlesModel", 156, "not", 6), ("SandcastlesModel", 164, "();+-*<=", 13)]
def isNest : Cond → Bool := fun w => match w with
  | .fieldLinkNest _ _ _ _ _ _ => true
  | .methodLinkNest _ _ _ _ => true
  | _ => false
def KStr (G : GG) (U : State) (H : Heap) : Prop := (∀ i, i < 14 → vk_S 1 [kTn i] [kTb i] (fun _ => gK G i) (fun _ => gV G i) (gA G) U H) ∧ va_Z "java/lang/String" "COMPACT_STRINGS" "Z" (.int 1) (gA G) U H ∧ va_Zq "jdk/internal/util/Preconditions" "SIOOBE_FORMATTER" "Ljava/util/function/BiFunction;" (gA G) U H
/-- the class of int[][] is there -/
def AOI (U : State) : Prop := (Cond.arrayOver (.array .int)).before #[] U = true
theorem AOI.spec {s : State} (h : AOI s) : ∃ comp c k co, s.vm.findClass (FieldType.array .int).toString = some comp ∧ (s.vm.classes.findIdx? fun (x : Class) => match x.kind with | .array component _ => component == comp | _ => false) = some c ∧ s.vm.classes[c]? = some k ∧ k.kind = .array co (.array .int) ∧ s.vm.findClass ("[" ++ (FieldType.array .int).toString) = some c := by
  unfold AOI Cond.before at h
  simp only [Cond.holds, Cond.value, beq_iff_eq] at h
  cases hc : s.vm.findClass (FieldType.array .int).toString with
  | none => simp [hc] at h
  | some comp =>
    simp only [hc, Option.bind_some, Option.bind_eq_some_iff, Option.map_eq_some_iff] at h
    obtain ⟨c, hi, k, hk, hb⟩ := h
    cases hkind : k.kind with
    | array component ty =>
      rw [hkind] at hb
      simp at hb
      exact ⟨comp, c, k, component, rfl, hi, hk, by rw [hkind, hb.1], hb.2⟩
    | _ => rw [hkind] at hb; simp at hb
theorem AOI.moved {u U : State} (hvm : u.vm.Alike U.vm) (h : AOI u) : AOI U := by
  obtain ⟨comp, c, k, co, h1, h2, h3, h4, h5⟩ := h.spec
  obtain ⟨k', hk', he⟩ := hvm.2.2 _ _ h3
  have hi : (U.vm.classes.findIdx? fun (x : Class) => match x.kind with | .array component _ => component == comp | _ => false) = some c := by
    have e3 : u.vm.bare = U.vm.bare := by first | exact hvm.bare_eq | exact hvm.bare_eq.symm
    have e1 := va_idx_bare u.vm comp
    have e2 := va_idx_bare U.vm comp
    rw [e3] at e1
    exact (e2.symm.trans e1).trans h2
  have hkind : k'.kind = .array co (.array .int) := by rw [he]; exact h4
  have f1 : U.vm.findClass (FieldType.array .int).toString = some comp := by rw [hvm.findClass]; exact h1
  have f2 : U.vm.findClass ("[" ++ (FieldType.array .int).toString) = some c := by rw [hvm.findClass]; exact h5
  unfold AOI Cond.before Cond.holds
  simp only [Cond.value]
  rw [f1, Option.bind_some]
  refine (congrArg (fun o : Option Nat => (o.bind (fun c => (U.vm.classes[c]?).map fun (k : Class) => match k.kind with | .array _ ty => decide (ty = FieldType.array .int) && decide (U.vm.findClass ("[" ++ (FieldType.array .int).toString) = some c) | _ => false) == some true)) hi).trans ?_
  simp [hk', hkind, f2]
/-- what holds at the start of every method -/
def KS (G : GG) (U : State) : Prop := va_K G.1 vwCl (tysL G.2.1) U ∧ (∀ w ∈ lw_tbl, isNest w = true → va_Nw w U) ∧ (∀ r ∈ kRef, vk_R r.1 r.2.1 r.2.2.1 (gK G r.2.2.2) U) ∧ KStr G U U.heap ∧ (va_AO RX0 U ∧ va_AO RX6 U ∧ va_AO RX3 U ∧ AOI U)
theorem KStr.kept {G : GG} {U : State} {H H1 : Heap} (h : KStr G U H) (hq : ∀ a : Nat, a < H.size → ¬ gA G a → H1[a]? = H[a]?) : KStr G U H1 := ⟨fun i hi => (h.1 i hi).kept hq, h.2.1.kept hq, h.2.2.kept hq⟩
theorem KStr.moved {G : GG} {u U : State} {H : Heap} (hvm : u.vm.Alike U.vm) (h : KStr G u H) : KStr G U H := ⟨fun i hi => (h.1 i hi).moved hvm, h.2.1.moved hvm, h.2.2.moved hvm⟩
theorem nest_warm {w : Cond} (hn : isNest w = true) {s U : State} (hW : s.WarmedH U.vm) (h : va_Nw w s) : va_Nw w U := by
  cases w <;> first | exact va_Nw.warmF hW h | exact va_Nw.warmM hW h | cases hn
theorem nest_same {w : Cond} (hn : isNest w = true) {u U : State} (hv : u.vm = U.vm) (h : va_Nw w u) : va_Nw w U := by
  cases w <;> first | exact va_Nw.same rfl hv h | cases hn
/-- from a method's start to that of one that it calls -/
theorem KS.warm {G : GG} {s U : State} (hW : s.WarmedH U.vm) (hq : ∀ a : Nat, a < s.heap.size → ¬ gA G a → U.heap[a]? = s.heap[a]?) (h : KS G s) : KS G U :=
  ⟨va_K.moved hW.alike h.1, fun w hw hn => nest_warm hn hW (h.2.1 w hw hn), fun r hr => (h.2.2.1 r hr).warm hW, (h.2.2.2.1.kept hq).moved hW.alike, va_AO.moved hW.alike h.2.2.2.2.1, va_AO.moved hW.alike h.2.2.2.2.2.1, va_AO.moved hW.alike h.2.2.2.2.2.2.1, AOI.moved hW.alike h.2.2.2.2.2.2.2⟩
theorem KS.same {G : GG} {u U : State} (hv : u.vm = U.vm) (hh : u.heap = U.heap) (h : KS G u) : KS G U := by
  have hA : u.vm.Alike U.vm := by rw [hv]; exact Vm.Alike.refl _
  exact ⟨va_K.moved hA h.1, fun w hw hn => nest_same hn hv (h.2.1 w hw hn), fun r hr => (h.2.2.1 r hr).same hv.symm, by rw [← hh]; exact h.2.2.2.1.moved hA, va_AO.moved hA h.2.2.2.2.1, va_AO.moved hA h.2.2.2.2.2.1, va_AO.moved hA h.2.2.2.2.2.2.1, AOI.moved hA h.2.2.2.2.2.2.2⟩
/-- the words that every contract asks for -/
def tblG : List Cond := lw_tbl.filter goodWord
def tw (w : Cond) : Prop := w ∈ lw_tbl ∧ goodWord w = true
theorem tw.mem {w : Cond} (h : tw w) : w ∈ tblG := List.mem_filter.mpr h
theorem tblG_good : GoodIn tblG tblG := fun w h => ⟨h, good_of_word (List.mem_filter.mp h).2⟩
def rmD (d mc ms : Nat) : Room := { frames := d, cells := mc, slots := ms, locals := 40 * d }
abbrev XK : Type := Room × (List Frame → Array Value → State → State → Prop) × (Array Value → State → Prop)
def Qd (G : GG) (Q : Option Value → AH → Prop) : Array Value → State → Outcome → State → Prop := fun _ st o t => (∃ v h', o = .returned v ∧ Q v h' ∧ RelH G h' t.heap) ∧ va_F (gA G) st t
def kM (G : GG) (d mc ms : Nat) (Q : Option Value → AH → Prop) : XK := (rmD d mc ms, fun below args s => MQ below (Qd G Q) args s mc ms (gA G), fun _ _ => True)
def Cx (G : GG) (K : XK) (y : MethodName) (cc : ByteArray) (L : Nat) (ret : Option FieldType) (p : Program) (s : State) (m : MethodId) (args : Array Value) (meth : Method) (c : Code) : Prop :=
  p.tables.exec = Jvm.exec ∧ c.code = cc ∧ c.maxLocals = L ∧ s.vm.findClass y.cls = some m.cls ∧ (∀ w ∈ tblG, w.before args s = true) ∧ meth.sig.returnType = ret ∧ meth.locks = false ∧ meth.name = y.name ∧ KS G s ∧ gB G ≤ s.heap.size ∧ K.2.2 args s
/-- THE JUDGEMENT: from this instruction on, with these locals, this stack and this world, the method comes to its end as K has it -/
def X (G : GG) (K : XK) (y : MethodName) (cc : ByteArray) (L : Nat) (ret : Option FieldType) (cs sl pc : Nat) (lv : List (Nat × Value)) (st : List Value) (h : AH) : Prop :=
  ∀ (p : Program) (l : Launch) (e : Env) (s : State) (m : MethodId) (args : Array Value) (below : List Frame) (meth : Method) (c : Code) (locs : List Loc) (H : Heap) (ls : Array Slot),
    Cx G K y cc L ret p s m args meth c → RelH G h H → va_S (gA G) s.heap H locs → lv_has ls L lv → W p l e K.1 s m args below meth c H locs cs sl (K.2.1 below args s) (F0 m pc ls st)
/-- a method's contract: from this world with these arguments it comes to an end with Q -/
def AM (G : GG) (d mc ms : Nat) (y : MethodName) (cc : ByteArray) (L : Nat) (ret : Option FieldType) (args : List Value) (h : AH) (Q : Option Value → AH → Prop) : Prop :=
  ∀ l : Launch, Met l y (Cond.code y cc L ret :: tblG) (rmD d mc ms) (va_Pc args (fun U => RelH G h U.heap ∧ KS G U)) (Qd G Q) mc ms (gA G)
theorem am_intro {G : GG} {d mc ms : Nat} {y : MethodName} {cc : ByteArray} {L : Nat} {ret : Option FieldType} {av : List Value} {h : AH} {Q : Option Value → AH → Prop} (hy : plainName y.cls = true) (hL : (lg_sl av).length ≤ L)
    (k : X G (kM G d mc ms Q) y cc L ret 0 0 0 (lv_args 0 av) [] h) : AM G d mc ms y cc L ret av h Q := by
  intro l
  refine Met.ofW (cc := cc) (maxL := L) (ret := ret) hy rfl ?_
  intro p e s m args below meth c s₁ B hml hv
  obtain ⟨rfl, hR, hK⟩ := hv
  have hts := atoms_spec (ws := Cond.code y cc L ret :: tblG) B.pre
  have hown := findClass_of_methodNamed B.named
  have hgb : gB G ≤ s.heap.size := by rw [hR.2.2.1]; exact hR.2.1
  have hl := lv_entry av (n := L) hL
  rw [lg_entry_eq]
  exact k p l e s m av.toArray below meth c [] s.heap _ ⟨B.exec, B.bytes, hml, hown, fun w hw => hts w (List.mem_cons_of_mem _ hw), B.returns, B.notSynchronized, (name_of_methodNamed B.named B.method).1, hK, hgb, trivial⟩ hR va_S.rf hl
end
section
section
variable {G : GG} {K : XK} {y : MethodName} {cc : ByteArray} {L : Nat} {ret : Option FieldType} {cs sl pc : Nat} {lv : List (Nat × Value)} {st : List Value} {h : AH}
theorem x_iconst {n : Int} {v : Int32} (hd : decode cc pc = .ok (.iconst n, 1)) (hv : Int32.ofInt n = v) (k : X G K y cc L ret cs sl (pc + 1) lv (.int v :: st) h) : X G K y cc L ret cs sl pc lv st h := fun p l e s m args below meth c locs H ls C R S V => lv_iconst C.1 C.2.1 hd hv (k p l e s m args below meth c locs H ls C R S V)
theorem x_bipush {n : Int} {v : Int32} (hd : decode cc pc = .ok (.bipush n, 2)) (hv : (Int8.ofInt n).toInt32 = v) (k : X G K y cc L ret cs sl (pc + 2) lv (.int v :: st) h) : X G K y cc L ret cs sl pc lv st h := fun p l e s m args below meth c locs H ls C R S V => lv_bipush C.1 C.2.1 hd hv (k p l e s m args below meth c locs H ls C R S V)
theorem x_sipush {n : Int} {v : Int32} (hd : decode cc pc = .ok (.sipush n, 3)) (hv : (Int16.ofInt n).toInt32 = v) (k : X G K y cc L ret cs sl (pc + 3) lv (.int v :: st) h) : X G K y cc L ret cs sl pc lv st h := fun p l e s m args below meth c locs H ls C R S V => lv_sipush C.1 C.2.1 hd hv (k p l e s m args below meth c locs H ls C R S V)
theorem x_lconst {n : Fin 2} {v : Int64} (hd : decode cc pc = .ok (.lconst n, 1)) (hv : Int64.ofNat (n : Nat) = v) (k : X G K y cc L ret cs sl (pc + 1) lv (.long v :: st) h) : X G K y cc L ret cs sl pc lv st h := fun p l e s m args below meth c locs H ls C R S V => lv_lconst C.1 C.2.1 hd hv (k p l e s m args below meth c locs H ls C R S V)
theorem x_null  (hd : decode cc pc = .ok (.aconst_null, 1))  (k : X G K y cc L ret cs sl (pc + 1) lv (.null :: st) h) : X G K y cc L ret cs sl pc lv st h := fun p l e s m args below meth c locs H ls C R S V => lv_null C.1 C.2.1 hd  (k p l e s m args below meth c locs H ls C R S V)
theorem x_ldc {index : Nat} {v : Int32} (hd : decode cc pc = .ok (.ldc index, 2)) (hw : tw (Cond.constant y.cls index v)) (k : X G K y cc L ret cs sl (pc + 2) lv (.int v :: st) h) : X G K y cc L ret cs sl pc lv st h := fun p l e s m args below meth c locs H ls C R S V => lv_ldc C.1 C.2.1 C.2.2.2.1 (C.2.2.2.2.1 _ hw.mem) hd (k p l e s m args below meth c locs H ls C R S V)
theorem x_ldcw {index : Nat} {v : Int32} (hd : decode cc pc = .ok (.ldc_w index, 3)) (hw : tw (Cond.constant y.cls index v)) (k : X G K y cc L ret cs sl (pc + 3) lv (.int v :: st) h) : X G K y cc L ret cs sl pc lv st h := fun p l e s m args below meth c locs H ls C R S V => lv_ldcw C.1 C.2.1 C.2.2.2.1 (C.2.2.2.2.1 _ hw.mem) hd (k p l e s m args below meth c locs H ls C R S V)
theorem x_ldc2 {index : Nat} {v : Int64} (hd : decode cc pc = .ok (.ldc2_w index, 3)) (hw : tw (Cond.constantLong y.cls index v)) (k : X G K y cc L ret cs sl (pc + 3) lv (.long v :: st) h) : X G K y cc L ret cs sl pc lv st h := fun p l e s m args below meth c locs H ls C R S V => lv_ldc2 C.1 C.2.1 C.2.2.2.1 (C.2.2.2.2.1 _ hw.mem) hd (k p l e s m args below meth c locs H ls C R S V)
theorem x_iload_n {k : Fin 4} {i : Nat} {x : Int32} (hd : decode cc pc = .ok (.iload_n k, 1)) (j : Nat) (hi : (k : Nat) = i) (hl : lv[j]? = some (i, .int x)) (kk : X G K y cc L ret cs sl (pc + 1) lv (.int x :: st) h) : X G K y cc L ret cs sl pc lv st h := fun p l e s m args below meth c locs H ls C R S V => lv_iload_n C.1 C.2.1 hd hi (lv_at V j hl) (kk p l e s m args below meth c locs H ls C R S V)
theorem x_iload {i : Nat} {x : Int32} (hd : decode cc pc = .ok (.iload i, 2)) (j : Nat)  (hl : lv[j]? = some (i, .int x)) (kk : X G K y cc L ret cs sl (pc + 2) lv (.int x :: st) h) : X G K y cc L ret cs sl pc lv st h := fun p l e s m args below meth c locs H ls C R S V => lv_iload C.1 C.2.1 hd  (lv_at V j hl) (kk p l e s m args below meth c locs H ls C R S V)
theorem x_aload_n {k : Fin 4} {i : Nat} {x : Nat} (hd : decode cc pc = .ok (.aload_n k, 1)) (j : Nat) (hi : (k : Nat) = i) (hl : lv[j]? = some (i, .ref x)) (kk : X G K y cc L ret cs sl (pc + 1) lv (.ref x :: st) h) : X G K y cc L ret cs sl pc lv st h := fun p l e s m args below meth c locs H ls C R S V => lv_aload_n C.1 C.2.1 hd hi (lv_at V j hl) (kk p l e s m args below meth c locs H ls C R S V)
theorem x_aload {i : Nat} {x : Nat} (hd : decode cc pc = .ok (.aload i, 2)) (j : Nat)  (hl : lv[j]? = some (i, .ref x)) (kk : X G K y cc L ret cs sl (pc + 2) lv (.ref x :: st) h) : X G K y cc L ret cs sl pc lv st h := fun p l e s m args below meth c locs H ls C R S V => lv_aload C.1 C.2.1 hd  (lv_at V j hl) (kk p l e s m args below meth c locs H ls C R S V)
theorem x_lload_n {k : Fin 4} {i : Nat} {x : Int64} (hd : decode cc pc = .ok (.lload_n k, 1)) (j : Nat) (hi : (k : Nat) = i) (hl : lv[j]? = some (i, .long x)) (kk : X G K y cc L ret cs sl (pc + 1) lv (.long x :: st) h) : X G K y cc L ret cs sl pc lv st h := fun p l e s m args below meth c locs H ls C R S V => lv_lload_n C.1 C.2.1 hd hi (lv_at V j hl) (kk p l e s m args below meth c locs H ls C R S V)
theorem x_lload {i : Nat} {x : Int64} (hd : decode cc pc = .ok (.lload i, 2)) (j : Nat)  (hl : lv[j]? = some (i, .long x)) (kk : X G K y cc L ret cs sl (pc + 2) lv (.long x :: st) h) : X G K y cc L ret cs sl pc lv st h := fun p l e s m args below meth c locs H ls C R S V => lv_lload C.1 C.2.1 hd  (lv_at V j hl) (kk p l e s m args below meth c locs H ls C R S V)
theorem x_aload_nN {k : Fin 4} {i : Nat} (hd : decode cc pc = .ok (.aload_n k, 1)) (j : Nat) (hi : (k : Nat) = i) (hl : lv[j]? = some (i, .null)) (kk : X G K y cc L ret cs sl (pc + 1) lv (.null :: st) h) : X G K y cc L ret cs sl pc lv st h := fun p l e s m args below meth c locs H ls C R S V => lv_aload_nN C.1 C.2.1 hd hi (lv_at V j hl) (kk p l e s m args below meth c locs H ls C R S V)
theorem x_aloadN {i : Nat} (hd : decode cc pc = .ok (.aload i, 2)) (j : Nat) (hl : lv[j]? = some (i, .null)) (kk : X G K y cc L ret cs sl (pc + 2) lv (.null :: st) h) : X G K y cc L ret cs sl pc lv st h := fun p l e s m args below meth c locs H ls C R S V => lv_aloadN C.1 C.2.1 hd (lv_at V j hl) (kk p l e s m args below meth c locs H ls C R S V)
theorem x_istore_n {k : Fin 4} {i : Nat} {x : Int32} {lv' : List (Nat × Value)} (hd : decode cc pc = .ok (.istore_n k, 1)) (hi : (k : Nat) = i) (hn : i < L) (hl : (i, Value.int x) :: lv.filter (fun q => !(q.1 == i) && !(q.1 + 1 == i && q.2.category == 2)) = lv') (kk : X G K y cc L ret cs sl (pc + 1) lv' st h) : X G K y cc L ret cs sl pc lv (Value.int x :: st) h := fun p l e s m args below meth c locs H ls C R S V => lv_istore_n C.1 C.2.1 hd hi V hn hl (fun ls V => kk p l e s m args below meth c locs H ls C R S V)
theorem x_istore {i : Nat} {x : Int32} {lv' : List (Nat × Value)} (hd : decode cc pc = .ok (.istore i, 2))  (hn : i < L) (hl : (i, Value.int x) :: lv.filter (fun q => !(q.1 == i) && !(q.1 + 1 == i && q.2.category == 2)) = lv') (kk : X G K y cc L ret cs sl (pc + 2) lv' st h) : X G K y cc L ret cs sl pc lv (Value.int x :: st) h := fun p l e s m args below meth c locs H ls C R S V => lv_istore C.1 C.2.1 hd  V hn hl (fun ls V => kk p l e s m args below meth c locs H ls C R S V)
theorem x_astore_n {k : Fin 4} {i : Nat} {x : Nat} {lv' : List (Nat × Value)} (hd : decode cc pc = .ok (.astore_n k, 1)) (hi : (k : Nat) = i) (hn : i < L) (hl : (i, Value.ref x) :: lv.filter (fun q => !(q.1 == i) && !(q.1 + 1 == i && q.2.category == 2)) = lv') (kk : X G K y cc L ret cs sl (pc + 1) lv' st h) : X G K y cc L ret cs sl pc lv (Value.ref x :: st) h := fun p l e s m args below meth c locs H ls C R S V => lv_astore_n C.1 C.2.1 hd hi V hn hl (fun ls V => kk p l e s m args below meth c locs H ls C R S V)
theorem x_astore {i : Nat} {x : Nat} {lv' : List (Nat × Value)} (hd : decode cc pc = .ok (.astore i, 2))  (hn : i < L) (hl : (i, Value.ref x) :: lv.filter (fun q => !(q.1 == i) && !(q.1 + 1 == i && q.2.category == 2)) = lv') (kk : X G K y cc L ret cs sl (pc + 2) lv' st h) : X G K y cc L ret cs sl pc lv (Value.ref x :: st) h := fun p l e s m args below meth c locs H ls C R S V => lv_astore C.1 C.2.1 hd  V hn hl (fun ls V => kk p l e s m args below meth c locs H ls C R S V)
theorem x_astore_nN {k : Fin 4} {i : Nat}  {lv' : List (Nat × Value)} (hd : decode cc pc = .ok (.astore_n k, 1)) (hi : (k : Nat) = i) (hn : i < L) (hl : (i, Value.null) :: lv.filter (fun q => !(q.1 == i) && !(q.1 + 1 == i && q.2.category == 2)) = lv') (kk : X G K y cc L ret cs sl (pc + 1) lv' st h) : X G K y cc L ret cs sl pc lv (Value.null :: st) h := fun p l e s m args below meth c locs H ls C R S V => lv_astore_nN C.1 C.2.1 hd hi V hn hl (fun ls V => kk p l e s m args below meth c locs H ls C R S V)
theorem x_astoreN {i : Nat}  {lv' : List (Nat × Value)} (hd : decode cc pc = .ok (.astore i, 2))  (hn : i < L) (hl : (i, Value.null) :: lv.filter (fun q => !(q.1 == i) && !(q.1 + 1 == i && q.2.category == 2)) = lv') (kk : X G K y cc L ret cs sl (pc + 2) lv' st h) : X G K y cc L ret cs sl pc lv (Value.null :: st) h := fun p l e s m args below meth c locs H ls C R S V => lv_astoreN C.1 C.2.1 hd  V hn hl (fun ls V => kk p l e s m args below meth c locs H ls C R S V)
theorem x_lstore_n {k : Fin 4} {i : Nat} {x : Int64} {lv' : List (Nat × Value)} (hd : decode cc pc = .ok (.lstore_n k, 1)) (hi : (k : Nat) = i) (hn : i + 1 < L) (hl : (i, Value.long x) :: lv.filter (fun q => !(q.1 == i) && (!(q.1 == i + 1) && !(q.1 + 1 == i && q.2.category == 2))) = lv') (kk : X G K y cc L ret cs sl (pc + 1) lv' st h) : X G K y cc L ret cs sl pc lv (Value.long x :: st) h := fun p l e s m args below meth c locs H ls C R S V => lv_lstore_n C.1 C.2.1 hd hi V hn hl (fun ls V => kk p l e s m args below meth c locs H ls C R S V)
theorem x_lstore {i : Nat} {x : Int64} {lv' : List (Nat × Value)} (hd : decode cc pc = .ok (.lstore i, 2))  (hn : i + 1 < L) (hl : (i, Value.long x) :: lv.filter (fun q => !(q.1 == i) && (!(q.1 == i + 1) && !(q.1 + 1 == i && q.2.category == 2))) = lv') (kk : X G K y cc L ret cs sl (pc + 2) lv' st h) : X G K y cc L ret cs sl pc lv (Value.long x :: st) h := fun p l e s m args below meth c locs H ls C R S V => lv_lstore C.1 C.2.1 hd  V hn hl (fun ls V => kk p l e s m args below meth c locs H ls C R S V)
theorem x_iinc {i : Nat} {n : Int} {x v : Int32} {lv' : List (Nat × Value)} (hd : decode cc pc = .ok (.iinc i n, 3)) (j : Nat) (hk : lv[j]? = some (i, .int x)) (hv : x + Int32.ofInt n = v) (hn : i < L) (hl : (i, Value.int v) :: lv.filter (fun q => !(q.1 == i) && !(q.1 + 1 == i && q.2.category == 2)) = lv') (kk : X G K y cc L ret cs sl (pc + 3) lv' st h) : X G K y cc L ret cs sl pc lv st h := fun p l e s m args below meth c locs H ls C R S V => lv_iinc C.1 C.2.1 hd V hk hv hn hl (fun ls V => kk p l e s m args below meth c locs H ls C R S V)
theorem x_iadd {x z : Int32} (hd : decode cc pc = .ok (.iadd, 1))  (k : X G K y cc L ret cs sl (pc + 1) lv (.int (x + z) :: st) h) : X G K y cc L ret cs sl pc lv (.int z :: .int x :: st) h := fun p l e s m args below meth c locs H ls C R S V => lv_iadd C.1 C.2.1 hd  (k p l e s m args below meth c locs H ls C R S V)
theorem x_isub {x z : Int32} (hd : decode cc pc = .ok (.isub, 1))  (k : X G K y cc L ret cs sl (pc + 1) lv (.int (x - z) :: st) h) : X G K y cc L ret cs sl pc lv (.int z :: .int x :: st) h := fun p l e s m args below meth c locs H ls C R S V => lv_isub C.1 C.2.1 hd  (k p l e s m args below meth c locs H ls C R S V)
theorem x_imul {x z : Int32} (hd : decode cc pc = .ok (.imul, 1))  (k : X G K y cc L ret cs sl (pc + 1) lv (.int (x * z) :: st) h) : X G K y cc L ret cs sl pc lv (.int z :: .int x :: st) h := fun p l e s m args below meth c locs H ls C R S V => lv_imul C.1 C.2.1 hd  (k p l e s m args below meth c locs H ls C R S V)
theorem x_iand {x z : Int32} (hd : decode cc pc = .ok (.iand, 1))  (k : X G K y cc L ret cs sl (pc + 1) lv (.int (x &&& z) :: st) h) : X G K y cc L ret cs sl pc lv (.int z :: .int x :: st) h := fun p l e s m args below meth c locs H ls C R S V => lv_iand C.1 C.2.1 hd  (k p l e s m args below meth c locs H ls C R S V)
theorem x_ior {x z : Int32} (hd : decode cc pc = .ok (.ior, 1))  (k : X G K y cc L ret cs sl (pc + 1) lv (.int (x ||| z) :: st) h) : X G K y cc L ret cs sl pc lv (.int z :: .int x :: st) h := fun p l e s m args below meth c locs H ls C R S V => lv_ior C.1 C.2.1 hd  (k p l e s m args below meth c locs H ls C R S V)
theorem x_ladd {x z : Int64} (hd : decode cc pc = .ok (.ladd, 1))  (k : X G K y cc L ret cs sl (pc + 1) lv (.long (x + z) :: st) h) : X G K y cc L ret cs sl pc lv (.long z :: .long x :: st) h := fun p l e s m args below meth c locs H ls C R S V => lv_ladd C.1 C.2.1 hd  (k p l e s m args below meth c locs H ls C R S V)
theorem x_lmul {x z : Int64} (hd : decode cc pc = .ok (.lmul, 1))  (k : X G K y cc L ret cs sl (pc + 1) lv (.long (x * z) :: st) h) : X G K y cc L ret cs sl pc lv (.long z :: .long x :: st) h := fun p l e s m args below meth c locs H ls C R S V => lv_lmul C.1 C.2.1 hd  (k p l e s m args below meth c locs H ls C R S V)
theorem x_lsub {x z : Int64} (hd : decode cc pc = .ok (.lsub, 1))  (k : X G K y cc L ret cs sl (pc + 1) lv (.long (x - z) :: st) h) : X G K y cc L ret cs sl pc lv (.long z :: .long x :: st) h := fun p l e s m args below meth c locs H ls C R S V => lv_lsub C.1 C.2.1 hd  (k p l e s m args below meth c locs H ls C R S V)
theorem x_ineg {x : Int32} (hd : decode cc pc = .ok (.ineg, 1))  (k : X G K y cc L ret cs sl (pc + 1) lv (.int (-x) :: st) h) : X G K y cc L ret cs sl pc lv (.int x :: st) h := fun p l e s m args below meth c locs H ls C R S V => lv_ineg C.1 C.2.1 hd  (k p l e s m args below meth c locs H ls C R S V)
--HOLE idiv irem ishl ishr iushr
theorem x_i2l {x : Int32} {v : Int64} (hd : decode cc pc = .ok (.i2l, 1)) (hv : x.toInt64 = v) (k : X G K y cc L ret cs sl (pc + 1) lv (.long v :: st) h) : X G K y cc L ret cs sl pc lv (.int x :: st) h := fun p l e s m args below meth c locs H ls C R S V => lv_i2l C.1 C.2.1 hd hv (k p l e s m args below meth c locs H ls C R S V)
theorem x_l2i {x : Int64} {v : Int32} (hd : decode cc pc = .ok (.l2i, 1)) (hv : x.toInt32 = v) (k : X G K y cc L ret cs sl (pc + 1) lv (.int v :: st) h) : X G K y cc L ret cs sl pc lv (.long x :: st) h := fun p l e s m args below meth c locs H ls C R S V => lv_l2i C.1 C.2.1 hd hv (k p l e s m args below meth c locs H ls C R S V)
theorem x_i2b {x : Int32} {v : Int32} (hd : decode cc pc = .ok (.i2b, 1)) (hv : x.toInt8.toInt32 = v) (k : X G K y cc L ret cs sl (pc + 1) lv (.int v :: st) h) : X G K y cc L ret cs sl pc lv (.int x :: st) h := fun p l e s m args below meth c locs H ls C R S V => lv_i2b C.1 C.2.1 hd hv (k p l e s m args below meth c locs H ls C R S V)
theorem x_i2s {x : Int32} {v : Int32} (hd : decode cc pc = .ok (.i2s, 1)) (hv : x.toInt16.toInt32 = v) (k : X G K y cc L ret cs sl (pc + 1) lv (.int v :: st) h) : X G K y cc L ret cs sl pc lv (.int x :: st) h := fun p l e s m args below meth c locs H ls C R S V => lv_i2s C.1 C.2.1 hd hv (k p l e s m args below meth c locs H ls C R S V)
theorem x_iushr {x z v : Int32} (hd : decode cc pc = .ok (.iushr, 1)) (hv : (x.toUInt32 >>> (z.toUInt32 &&& Int32.toUInt32 31)).toInt32 = v) (k : X G K y cc L ret cs sl (pc + 1) lv (.int v :: st) h) : X G K y cc L ret cs sl pc lv (.int z :: .int x :: st) h := fun p l e s m args below meth c locs H ls C R S V => lv_iushr C.1 C.2.1 hd hv (k p l e s m args below meth c locs H ls C R S V)
theorem x_dup {va : Value} (hd : decode cc pc = .ok (.dup, 1)) (hc : va.category = 1) (k : X G K y cc L ret cs sl (pc + 1) lv (va :: va :: st) h) : X G K y cc L ret cs sl pc lv (va :: st) h := fun p l e s m args below meth c locs H ls C R S V => lv_dup C.1 C.2.1 hd hc (k p l e s m args below meth c locs H ls C R S V)
theorem x_pop {va : Value} (hd : decode cc pc = .ok (.pop, 1)) (hc : va.category = 1) (k : X G K y cc L ret cs sl (pc + 1) lv st h) : X G K y cc L ret cs sl pc lv (va :: st) h := fun p l e s m args below meth c locs H ls C R S V => lv_pop C.1 C.2.1 hd hc (k p l e s m args below meth c locs H ls C R S V)
theorem x_dup_x1 {va vb : Value} (hd : decode cc pc = .ok (.dup_x1, 1)) (hc : va.category = 1) (hc2 : vb.category = 1) (k : X G K y cc L ret cs sl (pc + 1) lv (va :: vb :: va :: st) h) : X G K y cc L ret cs sl pc lv (va :: vb :: st) h := fun p l e s m args below meth c locs H ls C R S V => lv_dup_x1 C.1 C.2.1 hd hc hc2 (k p l e s m args below meth c locs H ls C R S V)
theorem x_if_eq {x : Int32} {off : Int} {tgt : Nat} (hd : decode cc pc = .ok (.ifCond .eq off, 3)) (ht : (pc : Int) + off = (tgt : Int)) (kt : x = 0 → X G K y cc L ret cs sl tgt lv st h) (kf : ¬ x = 0 → X G K y cc L ret cs sl (pc + 3) lv st h) : X G K y cc L ret cs sl pc lv (.int x :: st) h := fun p l e s m args below meth c locs H ls C R S V => lv_if_eq C.1 C.2.1 hd ht (fun q => kt q p l e s m args below meth c locs H ls C R S V) (fun q => kf q p l e s m args below meth c locs H ls C R S V)
theorem x_icmp_eq {x z : Int32} {off : Int} {tgt : Nat} (hd : decode cc pc = .ok (.if_icmp .eq off, 3)) (ht : (pc : Int) + off = (tgt : Int)) (kt : x = z → X G K y cc L ret cs sl tgt lv st h) (kf : ¬ x = z → X G K y cc L ret cs sl (pc + 3) lv st h) : X G K y cc L ret cs sl pc lv (.int z :: .int x :: st) h := fun p l e s m args below meth c locs H ls C R S V => lv_icmp_eq C.1 C.2.1 hd ht (fun q => kt q p l e s m args below meth c locs H ls C R S V) (fun q => kf q p l e s m args below meth c locs H ls C R S V)
theorem x_if_ne {x : Int32} {off : Int} {tgt : Nat} (hd : decode cc pc = .ok (.ifCond .ne off, 3)) (ht : (pc : Int) + off = (tgt : Int)) (kt : ¬ x = 0 → X G K y cc L ret cs sl tgt lv st h) (kf : x = 0 → X G K y cc L ret cs sl (pc + 3) lv st h) : X G K y cc L ret cs sl pc lv (.int x :: st) h := fun p l e s m args below meth c locs H ls C R S V => lv_if_ne C.1 C.2.1 hd ht (fun q => kt q p l e s m args below meth c locs H ls C R S V) (fun q => kf q p l e s m args below meth c locs H ls C R S V)
theorem x_icmp_ne {x z : Int32} {off : Int} {tgt : Nat} (hd : decode cc pc = .ok (.if_icmp .ne off, 3)) (ht : (pc : Int) + off = (tgt : Int)) (kt : ¬ x = z → X G K y cc L ret cs sl tgt lv st h) (kf : x = z → X G K y cc L ret cs sl (pc + 3) lv st h) : X G K y cc L ret cs sl pc lv (.int z :: .int x :: st) h := fun p l e s m args below meth c locs H ls C R S V => lv_icmp_ne C.1 C.2.1 hd ht (fun q => kt q p l e s m args below meth c locs H ls C R S V) (fun q => kf q p l e s m args below meth c locs H ls C R S V)
theorem x_if_lt {x : Int32} {off : Int} {tgt : Nat} (hd : decode cc pc = .ok (.ifCond .lt off, 3)) (ht : (pc : Int) + off = (tgt : Int)) (kt : x < 0 → X G K y cc L ret cs sl tgt lv st h) (kf : ¬ x < 0 → X G K y cc L ret cs sl (pc + 3) lv st h) : X G K y cc L ret cs sl pc lv (.int x :: st) h := fun p l e s m args below meth c locs H ls C R S V => lv_if_lt C.1 C.2.1 hd ht (fun q => kt q p l e s m args below meth c locs H ls C R S V) (fun q => kf q p l e s m args below meth c locs H ls C R S V)
theorem x_icmp_lt {x z : Int32} {off : Int} {tgt : Nat} (hd : decode cc pc = .ok (.if_icmp .lt off, 3)) (ht : (pc : Int) + off = (tgt : Int)) (kt : x < z → X G K y cc L ret cs sl tgt lv st h) (kf : ¬ x < z → X G K y cc L ret cs sl (pc + 3) lv st h) : X G K y cc L ret cs sl pc lv (.int z :: .int x :: st) h := fun p l e s m args below meth c locs H ls C R S V => lv_icmp_lt C.1 C.2.1 hd ht (fun q => kt q p l e s m args below meth c locs H ls C R S V) (fun q => kf q p l e s m args below meth c locs H ls C R S V)
theorem x_if_ge {x : Int32} {off : Int} {tgt : Nat} (hd : decode cc pc = .ok (.ifCond .ge off, 3)) (ht : (pc : Int) + off = (tgt : Int)) (kt : 0 ≤ x → X G K y cc L ret cs sl tgt lv st h) (kf : ¬ 0 ≤ x → X G K y cc L ret cs sl (pc + 3) lv st h) : X G K y cc L ret cs sl pc lv (.int x :: st) h := fun p l e s m args below meth c locs H ls C R S V => lv_if_ge C.1 C.2.1 hd ht (fun q => kt q p l e s m args below meth c locs H ls C R S V) (fun q => kf q p l e s m args below meth c locs H ls C R S V)
theorem x_icmp_ge {x z : Int32} {off : Int} {tgt : Nat} (hd : decode cc pc = .ok (.if_icmp .ge off, 3)) (ht : (pc : Int) + off = (tgt : Int)) (kt : z ≤ x → X G K y cc L ret cs sl tgt lv st h) (kf : ¬ z ≤ x → X G K y cc L ret cs sl (pc + 3) lv st h) : X G K y cc L ret cs sl pc lv (.int z :: .int x :: st) h := fun p l e s m args below meth c locs H ls C R S V => lv_icmp_ge C.1 C.2.1 hd ht (fun q => kt q p l e s m args below meth c locs H ls C R S V) (fun q => kf q p l e s m args below meth c locs H ls C R S V)
theorem x_if_gt {x : Int32} {off : Int} {tgt : Nat} (hd : decode cc pc = .ok (.ifCond .gt off, 3)) (ht : (pc : Int) + off = (tgt : Int)) (kt : 0 < x → X G K y cc L ret cs sl tgt lv st h) (kf : ¬ 0 < x → X G K y cc L ret cs sl (pc + 3) lv st h) : X G K y cc L ret cs sl pc lv (.int x :: st) h := fun p l e s m args below meth c locs H ls C R S V => lv_if_gt C.1 C.2.1 hd ht (fun q => kt q p l e s m args below meth c locs H ls C R S V) (fun q => kf q p l e s m args below meth c locs H ls C R S V)
theorem x_icmp_gt {x z : Int32} {off : Int} {tgt : Nat} (hd : decode cc pc = .ok (.if_icmp .gt off, 3)) (ht : (pc : Int) + off = (tgt : Int)) (kt : z < x → X G K y cc L ret cs sl tgt lv st h) (kf : ¬ z < x → X G K y cc L ret cs sl (pc + 3) lv st h) : X G K y cc L ret cs sl pc lv (.int z :: .int x :: st) h := fun p l e s m args below meth c locs H ls C R S V => lv_icmp_gt C.1 C.2.1 hd ht (fun q => kt q p l e s m args below meth c locs H ls C R S V) (fun q => kf q p l e s m args below meth c locs H ls C R S V)
theorem x_if_le {x : Int32} {off : Int} {tgt : Nat} (hd : decode cc pc = .ok (.ifCond .le off, 3)) (ht : (pc : Int) + off = (tgt : Int)) (kt : x ≤ 0 → X G K y cc L ret cs sl tgt lv st h) (kf : ¬ x ≤ 0 → X G K y cc L ret cs sl (pc + 3) lv st h) : X G K y cc L ret cs sl pc lv (.int x :: st) h := fun p l e s m args below meth c locs H ls C R S V => lv_if_le C.1 C.2.1 hd ht (fun q => kt q p l e s m args below meth c locs H ls C R S V) (fun q => kf q p l e s m args below meth c locs H ls C R S V)
theorem x_icmp_le {x z : Int32} {off : Int} {tgt : Nat} (hd : decode cc pc = .ok (.if_icmp .le off, 3)) (ht : (pc : Int) + off = (tgt : Int)) (kt : x ≤ z → X G K y cc L ret cs sl tgt lv st h) (kf : ¬ x ≤ z → X G K y cc L ret cs sl (pc + 3) lv st h) : X G K y cc L ret cs sl pc lv (.int z :: .int x :: st) h := fun p l e s m args below meth c locs H ls C R S V => lv_icmp_le C.1 C.2.1 hd ht (fun q => kt q p l e s m args below meth c locs H ls C R S V) (fun q => kf q p l e s m args below meth c locs H ls C R S V)
theorem x_goto {off : Int} {tgt : Nat} (hd : decode cc pc = .ok (.goto off, 3)) (ht : (pc : Int) + off = (tgt : Int)) (k : X G K y cc L ret cs sl tgt lv st h) : X G K y cc L ret cs sl pc lv st h := fun p l e s m args below meth c locs H ls C R S V => lv_goto C.1 C.2.1 hd ht (k p l e s m args below meth c locs H ls C R S V)
theorem x_ifnonnull {x : Nat} {off : Int} {tgt : Nat} (hd : decode cc pc = .ok (.ifnonnull off, 3)) (ht : (pc : Int) + off = (tgt : Int)) (k : X G K y cc L ret cs sl tgt lv st h) : X G K y cc L ret cs sl pc lv (.ref x :: st) h := fun p l e s m args below meth c locs H ls C R S V => lv_ifnonnull C.1 C.2.1 hd ht (k p l e s m args below meth c locs H ls C R S V)
theorem x_ifnonnullN {off : Int} (hd : decode cc pc = .ok (.ifnonnull off, 3)) (k : X G K y cc L ret cs sl (pc + 3) lv st h) : X G K y cc L ret cs sl pc lv (.null :: st) h := fun p l e s m args below meth c locs H ls C R S V => lv_ifnonnullN C.1 C.2.1 hd (k p l e s m args below meth c locs H ls C R S V)
theorem x_ifnullN {off : Int} {tgt : Nat} (hd : decode cc pc = .ok (.ifnull off, 3)) (ht : (pc : Int) + off = (tgt : Int)) (k : X G K y cc L ret cs sl tgt lv st h) : X G K y cc L ret cs sl pc lv (.null :: st) h := fun p l e s m args below meth c locs H ls C R S V => lv_ifnullN C.1 C.2.1 hd ht (k p l e s m args below meth c locs H ls C R S V)
theorem x_ifnull {x : Nat} {off : Int} (hd : decode cc pc = .ok (.ifnull off, 3)) (k : X G K y cc L ret cs sl (pc + 3) lv st h) : X G K y cc L ret cs sl pc lv (.ref x :: st) h := fun p l e s m args below meth c locs H ls C R S V => lv_ifnull C.1 C.2.1 hd (k p l e s m args below meth c locs H ls C R S V)
theorem x_lsw {dflt : Int} {ps : Array (Int × Int)} {len : Nat} {x : Int32} {off : Int} {tgt : Nat} (hd : decode cc pc = .ok (.lookupswitch dflt ps, len)) (hp : (ps.toList.zip (ps.toList.drop 1)).all (fun (a, next) => a.1 < next.1) = true) (ho : Op.lookupswitch.offset ps.toList dflt x.toInt = off) (ht : (pc : Int) + off = (tgt : Int)) (k : X G K y cc L ret cs sl tgt lv st h) : X G K y cc L ret cs sl pc lv (.int x :: st) h := fun p l e s m args below meth c locs H ls C R S V => lv_lookup C.1 C.2.1 hd hp ho ht (k p l e s m args below meth c locs H ls C R S V)
theorem x_topi {x : Int32} (k : ∀ z : Int32, z = x → X G K y cc L ret cs sl pc lv (.int z :: st) h) : X G K y cc L ret cs sl pc lv (.int x :: st) h := k x rfl
theorem x_topl {x : Int64} (k : ∀ z : Int64, z = x → X G K y cc L ret cs sl pc lv (.long z :: st) h) : X G K y cc L ret cs sl pc lv (.long x :: st) h := k x rfl
theorem x_heap (k : ∀ g : AH, g = h → X G K y cc L ret cs sl pc lv st g) : X G K y cc L ret cs sl pc lv st h := k h rfl
theorem x_sub {lv' : List (Nat × Value)} (ks : List Nat) (hl : lv_pick lv ks = lv') (k : X G K y cc L ret cs sl pc lv' st h) : X G K y cc L ret cs sl pc lv st h := fun p l e s m args below meth c locs H ls C R S V => k p l e s m args below meth c locs H ls C R S (lv_sub V ks hl)
theorem x_eq {g : AH} (e : h = g) (k : X G K y cc L ret cs sl pc lv st g) : X G K y cc L ret cs sl pc lv st h := e ▸ k
end
section
variable {G : GG} {K : XK} {y : MethodName} {cc : ByteArray} {L : Nat} {ret : Option FieldType} {cs sl pc : Nat} {lv : List (Nat × Value)} {st : List Value} {h : AH}
theorem x_idiv {x z : Int32} (hd : decode cc pc = .ok (.idiv, 1)) (hne : ¬ z = 0) (k : X G K y cc L ret cs sl (pc + 1) lv (.int (x / z) :: st) h) : X G K y cc L ret cs sl pc lv (.int z :: .int x :: st) h := fun p l e s m args below meth c locs H ls C R S V => lv_idiv C.1 C.2.1 hd hne (k p l e s m args below meth c locs H ls C R S V)
theorem x_irem {x z : Int32} (hd : decode cc pc = .ok (.irem, 1)) (hne : ¬ z = 0) (k : X G K y cc L ret cs sl (pc + 1) lv (.int (x - x / z * z) :: st) h) : X G K y cc L ret cs sl pc lv (.int z :: .int x :: st) h := fun p l e s m args below meth c locs H ls C R S V => lv_irem C.1 C.2.1 hd hne (k p l e s m args below meth c locs H ls C R S V)
theorem x_ishl {x z : Int32} (hd : decode cc pc = .ok (.ishl, 1)) (k : X G K y cc L ret cs sl (pc + 1) lv (.int (x <<< (z &&& 31)) :: st) h) : X G K y cc L ret cs sl pc lv (.int z :: .int x :: st) h := fun p l e s m args below meth c locs H ls C R S V => lv_ishl C.1 C.2.1 hd (k p l e s m args below meth c locs H ls C R S V)
theorem x_ishr {x z : Int32} (hd : decode cc pc = .ok (.ishr, 1)) (k : X G K y cc L ret cs sl (pc + 1) lv (.int (x >>> (z &&& 31)) :: st) h) : X G K y cc L ret cs sl pc lv (.int z :: .int x :: st) h := fun p l e s m args below meth c locs H ls C R S V => lv_ishr C.1 C.2.1 hd (k p l e s m args below meth c locs H ls C R S V)
end
theorem ofInt_of_toInt {x : Int32} : Int32.ofInt x.toInt = x := Int32.ofInt_toInt x
theorem toInt_ofInt {z : Int} (h1 : -2147483648 ≤ z) (h2 : z < 2147483648) : (Int32.ofInt z).toInt = z := Int32.toInt_ofInt_of_le (by simpa using h1) (by simpa using h2)
/-- a tableswitch's cases, by value and target -/
def swOK (pc : Nat) (lo hi : Int) (offs : Array Int) (cases : List (Int × Nat)) : Bool := decide (-2147483648 ≤ lo) && decide (hi < 2147483648) && decide (hi + 1 = lo + offs.size) && decide (cases = (List.range offs.size).map (fun (j : Nat) => (lo + (j : Int), ((pc : Int) + offs.getD j 0).toNat))) && (List.range offs.size).all (fun (j : Nat) => decide (0 ≤ (pc : Int) + offs.getD j 0))
section
variable {G : GG} {K : XK} {y : MethodName} {cc : ByteArray} {L : Nat} {ret : Option FieldType} {cs sl pc : Nat} {lv : List (Nat × Value)} {st : List Value} {h : AH}
theorem x_tsw {dflt lo hi : Int} {offs : Array Int} {len : Nat} {x : Int32} (cases : List (Int × Nat)) (tgt : Nat) (hd : decode cc pc = .ok (.tableswitch dflt lo hi offs, len)) (ht : (pc : Int) + dflt = (tgt : Int)) (hc : swOK pc lo hi offs cases = true) (ho : (∀ q ∈ cases, ¬ x = Int32.ofInt q.1) → X G K y cc L ret cs sl tgt lv st h) (hin : ∀ q ∈ cases, x = Int32.ofInt q.1 → X G K y cc L ret cs sl q.2 lv st h) : X G K y cc L ret cs sl pc lv (.int x :: st) h := by
  intro p l e s m args below meth c locs H ls C R S V
  simp only [swOK, Bool.and_eq_true, decide_eq_true_eq, List.all_eq_true, List.mem_range] at hc
  obtain ⟨⟨⟨⟨h1, h2⟩, h3⟩, h4⟩, h5⟩ := hc
  by_cases hx : x.toInt < lo ∨ hi < x.toInt
  · refine lv_tableOut C.1 C.2.1 hd hx ht (ho (fun q hq e1 => ?_) p l e s m args below meth c locs H ls C R S V)
    rw [h4] at hq
    obtain ⟨j, hj, rfl⟩ := List.mem_map.mp hq
    have hj := List.mem_range.mp hj
    have e2 : x.toInt = lo + (j : Int) := by rw [e1]; exact toInt_ofInt (by omega) (by omega)
    omega
  · have hj : (x.toInt - lo).toNat < offs.size := by omega
    have hm : (lo + ((x.toInt - lo).toNat : Int), ((pc : Int) + offs.getD (x.toInt - lo).toNat 0).toNat) ∈ cases := by
      rw [h4]
      exact List.mem_map.mpr ⟨_, List.mem_range.mpr hj, rfl⟩
    have hp := h5 _ hj
    have hg : offs[(x.toInt - lo).toNat]? = some (offs.getD (x.toInt - lo).toNat 0) := by
      rw [Array.getD_eq_getD_getElem?, Array.getElem?_eq_getElem hj]
      rfl
    refine lv_tableIn C.1 C.2.1 hd (fun q => hx (Or.inl q)) (fun q => hx (Or.inr q)) hg (Int.toNat_of_nonneg hp).symm (hin _ hm ?_ p l e s m args below meth c locs H ls C R S V)
    show x = Int32.ofInt _
    rw [show lo + ((x.toInt - lo).toNat : Int) = x.toInt by omega, ofInt_of_toInt]
end
/-! the fields, by class and pool -/
def FR (own : String) (idx ci k : Nat) : Prop := ∃ r : vw_C, vwCl[ci]? = some r ∧ k < r.2.2 ∧ (r.2.1 k).1 = r.1 ∧ (tw (Cond.fieldLink own idx r.1 (r.2.1 k).2.1 (r.2.1 k).2.2.1) ∨ Cond.fieldLinkNest own idx r.1 (r.2.1 k).2.1 (r.2.1 k).2.2.1 "Sandcastles" ∈ lw_tbl)
def twB (w : Cond) : Bool := decide (w ∈ lw_tbl) && goodWord w
theorem tw.of {w : Cond} (h : twB w = true) : tw w := by
  unfold twB at h
  simp only [Bool.and_eq_true, decide_eq_true_eq] at h
  exact h
def frB (own : String) (idx ci k : Nat) : Bool := match vwCl[ci]? with
  | some r => decide (k < r.2.2) && decide ((r.2.1 k).1 = r.1) && (twB (Cond.fieldLink own idx r.1 (r.2.1 k).2.1 (r.2.1 k).2.2.1) || decide (Cond.fieldLinkNest own idx r.1 (r.2.1 k).2.1 (r.2.1 k).2.2.1 "Sandcastles" ∈ lw_tbl))
  | none => false
theorem FR.of {own : String} {idx ci k : Nat} (h : frB own idx ci k = true) : FR own idx ci k := by
  unfold frB at h
  cases hr : vwCl[ci]? with
  | none => rw [hr] at h; cases h
  | some r =>
    rw [hr] at h
    simp only [Bool.and_eq_true, Bool.or_eq_true, decide_eq_true_eq] at h
    exact ⟨r, hr, h.1.1, h.1.2, h.2.elim (fun q => Or.inl (tw.of q)) Or.inr⟩
def tyAt (ci k : Nat) : FieldType := match ci with
  | 0 => tyX0 k
  | 1 => tyX1 k
  | 2 => tyX2 k
  | 3 => tyX3 k
  | 4 => tyX4 k
  | 5 => tyX5 k
  | 6 => tyX6 k
  | 7 => tyX7 k
  | _ => tyX8 k
def clB (ci : Nat) : Bool := match vwCl[ci]? with
  | some r => (u_ws r.1 r.2.1 r.2.2).all twB && (List.range r.2.2).all (fun k => decide (parseFieldDescriptor (r.2.1 k).2.2.1 = some (tyAt ci k))) && (List.range r.2.2).all (fun a => (List.range r.2.2).all (fun b => a == b || !decide ((r.2.1 a).2.1 = (r.2.1 b).2.1))) && decide (slN ci = r.2.2)
  | none => true
theorem clB_all : (List.range 9).all clB = true := by decide +kernel
theorem cl_lt {ci : Nat} {r : vw_C} (hr : vwCl[ci]? = some r) : ci < 9 := (List.getElem?_eq_some_iff.mp hr).1
theorem cl_ok {ci : Nat} {r : vw_C} (hr : vwCl[ci]? = some r) : (∀ w ∈ u_ws r.1 r.2.1 r.2.2, w ∈ tblG) ∧ (∀ k, k < r.2.2 → parseFieldDescriptor (r.2.1 k).2.2.1 = some (tyAt ci k)) ∧ (∀ a, a < r.2.2 → ∀ b, b < r.2.2 → a ≠ b → (r.2.1 a).2.1 ≠ (r.2.1 b).2.1) ∧ slN ci = r.2.2 := by
  have h := List.all_eq_true.mp clB_all ci (List.mem_range.mpr (cl_lt hr))
  unfold clB at h
  rw [hr] at h
  simp only [Bool.and_eq_true, decide_eq_true_eq, List.all_eq_true, List.mem_range, Bool.or_eq_true, beq_iff_eq, Bool.not_eq_true', decide_eq_false_iff_not] at h
  exact ⟨fun w hw => (tw.of (h.1.1.1 w hw)).mem, h.1.1.2, fun a ha b hb hne e => (h.1.2 a ha b hb).elim hne (fun q => q e), h.2⟩
theorem en_obj {cA : Nat → ClassId} {h : AH} {a ci n : Nat} (hs : hpS h a = (ci, n)) (hc : ci < 9) : en cA h a = .inr (ci, enO h ci a) := by
  unfold en
  rw [hs, if_pos hc]
theorem en_ints {cA : Nat → ClassId} {h : AH} {a n : Nat} (hs : hpS h a = (9, n)) : en cA h a = .inl (cA 9, n, .inl (hpI h a)) := by
  unfold en
  rw [hs]
  rfl
theorem en_refs {cA : Nat → ClassId} {h : AH} {a kd n : Nat} (hs : hpS h a = (kd, n)) (hk : 10 ≤ kd) : en cA h a = .inl (cA kd, n, .inr (.inr (.inr (.inr (hpR h a))))) := by
  unfold en
  rw [hs, if_neg (by show ¬ kd < 9; omega), if_neg (by show ¬ kd = 9; omega)]
theorem enO_at {h : AH} {ci a k : Nat} (hk : k < slN ci) : (enO h ci a)[k]? = some (enV h ci a k) := by
  unfold enO
  rw [List.getElem?_map, List.getElem?_range hk]
  rfl
theorem en_other {cA : Nat → ClassId} {h g : AH} {q : Nat} (hs : hpS g q = hpS h q) (hi : hpI g q = hpI h q) (hr : hpR g q = hpR h q) : en cA g q = en cA h q := by
  unfold en enO enV
  rw [hs, hi, hr]
theorem iUp_o {h : AH} {a k q : Nat} {v : Int32} (hq : q ≠ a) : hpI (iUp h a k v) q = hpI h q := funext fun j => by
  show u2 h.2.1 a k v q j = h.2.1 q j
  exact u2_ne (fun e => hq e.1)
theorem rUp_o {h : AH} {a k q : Nat} {v : Option Nat} (hq : q ≠ a) : hpR (rUp h a k v) q = hpR h q := funext fun j => by
  show u2 h.2.2 a k v q j = h.2.2 q j
  exact u2_ne (fun e => hq e.1)
theorem iUp_s {h : AH} {a k : Nat} {v : Int32} : hpI (iUp h a k v) a = upd (hpI h a) k v := funext fun j => by
  show u2 h.2.1 a k v a j = upd (h.2.1 a) k v j
  by_cases e : j = k
  · simp [u2, upd, e]
  · simp [u2, upd, e]
theorem rUp_s {h : AH} {a k : Nat} {v : Option Nat} : hpR (rUp h a k v) a = va_up (hpR h a) k v := funext fun j => by
  show u2 h.2.2 a k v a j = va_up (h.2.2 a) k v j
  by_cases e : j = k
  · simp [u2, va_up, e]
  · simp [u2, va_up, e]
theorem enO_seti {h : AH} {ci a k : Nat} {v : Int32} (hi : slInt ci k = true) : (enO h ci a).set k (.int v) = enO (iUp h a k v) ci a := by
  apply List.ext_getElem?
  intro j
  unfold enO
  by_cases hj : j < slN ci
  · by_cases e : j = k
    · subst e
      rw [List.getElem?_set_self (by simp; exact hj), List.getElem?_map, List.getElem?_range hj]
      simp only [Option.map_some, enV, hi, if_true]
      rw [iUp_s]
      simp [upd]
    · rw [List.getElem?_set_ne (fun q => e q.symm), List.getElem?_map, List.getElem?_map, List.getElem?_range hj]
      simp only [Option.map_some, enV]
      rw [iUp_s]
      simp only [upd, e, if_false]
      rfl
  · rw [List.getElem?_eq_none (by simp; omega), List.getElem?_eq_none (by simp; omega)]
theorem enO_setr {h : AH} {ci a k : Nat} {v : Option Nat} (hi : slInt ci k = false) : (enO h ci a).set k (va_rf v) = enO (rUp h a k v) ci a := by
  apply List.ext_getElem?
  intro j
  unfold enO
  by_cases hj : j < slN ci
  · by_cases e : j = k
    · subst e
      rw [List.getElem?_set_self (by simp; exact hj), List.getElem?_map, List.getElem?_range hj]
      simp only [Option.map_some, enV, hi]
      rw [rUp_s]
      simp [va_up]
    · rw [List.getElem?_set_ne (fun q => e q.symm), List.getElem?_map, List.getElem?_map, List.getElem?_range hj]
      simp only [Option.map_some, enV]
      rw [rUp_s]
      simp only [va_up, e, if_false]
      rfl
  · rw [List.getElem?_eq_none (by simp; omega), List.getElem?_eq_none (by simp; omega)]
section
variable {G : GG} {K : XK} {y : MethodName} {cc : ByteArray} {L : Nat} {ret : Option FieldType} {cs sl pc : Nat} {lv : List (Nat × Value)} {st : List Value} {h : AH}
theorem x_getV {ci k a idx n : Nat} (hd : decode cc pc = .ok (.getfield idx, 3)) (f : FR y.cls idx ci k) (hs : hpS h a = (ci, n)) (kk : X G K y cc L ret cs sl (pc + 3) lv (enV h ci a k :: st) h) : X G K y cc L ret cs sl pc lv (.ref a :: st) h := by
  intro p l e s m args below meth c locs H ls C R S V
  obtain ⟨⟨C', T, N⟩, hr, hk, hnm, hlk⟩ := f
  obtain ⟨hw, hty, hnn, hN⟩ := cl_ok hr
  have hci := cl_lt hr
  have hal := R.1 a (by rw [hs]; show ci ≤ 13; omega)
  have he := wsH_get (cA := G.2.1) hal.1 hal.2
  rw [en_obj hs hci] at he
  have hv : (enO h ci a)[k]? = some (enV h ci a k) := enO_at (by rw [hN]; exact hk)
  have hnm : (T k).1 = C' := hnm
  rcases hlk with hlk | hlk
  · exact va_get C.1 C.2.1 C.2.2.2.2.1 hw C.2.2.2.1 C.2.2.2.2.2.2.2.2.1.1 R.2.2.2 (a - gB G) he hr k hk (C.2.2.2.2.1 _ hlk.mem) (fun _ h9 => by rw [hnm] at h9; exact h9) hv hd (kk p l e s m args below meth c locs H ls C R S V)
  · exact va_getN C.1 C.2.1 C.2.2.2.2.1 hw C.2.2.2.1 C.2.2.2.2.2.2.2.2.1.1 R.2.2.2 (a - gB G) he hr k hk (va_Nw.use rfl (C.2.2.2.2.2.2.2.2.1.2.1 _ hlk rfl)) (fun _ h9 => by rw [hnm] at h9; exact h9) hv hd (kk p l e s m args below meth c locs H ls C R S V)
theorem x_getI {ci k a idx n : Nat} (hd : decode cc pc = .ok (.getfield idx, 3)) (f : FR y.cls idx ci k) (hi : slInt ci k = true) (hs : hpS h a = (ci, n)) (kk : X G K y cc L ret cs sl (pc + 3) lv (.int (hpI h a k) :: st) h) : X G K y cc L ret cs sl pc lv (.ref a :: st) h := by
  refine x_getV hd f hs ?_
  unfold enV
  rw [if_pos hi]
  exact kk
theorem x_getR {ci k a idx n b : Nat} (hd : decode cc pc = .ok (.getfield idx, 3)) (f : FR y.cls idx ci k) (hi : slInt ci k = false) (hs : hpS h a = (ci, n)) (hr : hpR h a k = some b) (kk : X G K y cc L ret cs sl (pc + 3) lv (.ref b :: st) h) : X G K y cc L ret cs sl pc lv (.ref a :: st) h := by
  refine x_getV hd f hs ?_
  unfold enV
  rw [if_neg (by rw [hi]; decide), hr]
  exact kk

end
/-- behind a change of one cell: the worlds h and g are alike but for the cell a -/
def chg (h g : AH) (a : Nat) : Prop := hpZ g = hpZ h ∧ hpS g = hpS h ∧ ∀ q, q ≠ a → hpI g q = hpI h q ∧ hpR g q = hpR h q
theorem chg_i {h : AH} {a k : Nat} {v : Int32} : chg h (iUp h a k v) a := ⟨rfl, rfl, fun _ hq => ⟨iUp_o hq, rfl⟩⟩
theorem chg_r {h : AH} {a k : Nat} {v : Option Nat} : chg h (rUp h a k v) a := ⟨rfl, rfl, fun _ hq => ⟨rfl, rUp_o hq⟩⟩
theorem rel_chg {G : GG} {h g : AH} {H H1 : Heap} {a kd n : Nat} (R : RelH G h H) (hc : chg h g a) (hs : hpS h a = (kd, n)) (hk : kd ≤ 13) (hz : H1.size = H.size) (ho : ∀ q : Nat, q ≠ a → H1[q]? = H[q]?) (he : va_at G.1 vwCl (a, en G.2.1 g a) H1) : RelH G g H1 := by
  have hal := R.1 a (by rw [hs]; exact hk)
  refine ⟨fun q hq => by rw [hc.1]; exact R.1 q (by rw [← hc.2.1]; exact hq), by rw [hc.1]; exact R.2.1, by rw [hz, hc.1]; exact R.2.2.1, ?_⟩
  have hP := R.2.2.2.set (A := fun q => gB G ≤ q) wsH_D (wsH_get hal.1 hal.2) he ho
  rw [wsH_set hal.1 hal.2 hc.1 (fun q hq => en_other (by rw [hc.2.1]) (hc.2.2 q hq).1 (hc.2.2 q hq).2)] at hP
  exact hP
section
variable {G : GG} {K : XK} {y : MethodName} {cc : ByteArray} {L : Nat} {ret : Option FieldType} {cs sl pc : Nat} {lv : List (Nat × Value)} {st : List Value} {h : AH}
theorem x_putV {g : AH} {ci k a idx n : Nat} {v : Value} (hd : decode cc pc = .ok (.putfield idx, 3)) (f : FR y.cls idx ci k) (hs : hpS h a = (ci, n)) (hc : chg h g a) (hset : (enO h ci a).set k v = enO g ci a) (hn : narrow (tyAt ci k) v = v) (hfit : fits (tyAt ci k) v = true)
    (hfin : ∀ r, vwCl[ci]? = some r → (r.2.1 k).2.2.2 = false ∨ ((r.2.1 k).2.2.2 = true ∧ y.name = "<init>" ∧ r.1 = y.cls)) (kk : X G K y cc L ret cs sl (pc + 3) lv st g) : X G K y cc L ret cs sl pc lv (v :: .ref a :: st) h := by
  intro p l e s m args below meth c locs H ls C R S V
  obtain ⟨⟨C', T, N⟩, hr, hk, hnm, hlk⟩ := f
  obtain ⟨hw, hty, hnn, hN⟩ := cl_ok hr
  have hci := cl_lt hr
  have hal := R.1 a (by rw [hs]; show ci ≤ 13; omega)
  have he := wsH_get (cA := G.2.1) hal.1 hal.2
  rw [en_obj hs hci] at he
  have hgs : hpS g a = (ci, n) := by rw [hc.2.1]; exact hs
  have hnm : (T k).1 = C' := hnm
  have hfin := hfin _ hr
  have hts := C.2.2.2.2.1
  have hK := C.2.2.2.2.2.2.2.2.1.1
  have hown := C.2.2.2.1
  have hap := va_apart (own := y.cls) hts hw (tyAt ci) hty hnn hK hr
  obtain ⟨r, h1, cell, q1, q2, q3, q4⟩ := R.2.2.2 _ _ he
  have hrr : r = (C', T, N) := Option.some.inj (h1.symm.trans hr)
  subst hrr
  obtain ⟨hS, hfc, kC, hkC, hkind⟩ := hK.1 ci _ hr
  obtain ⟨cf, kf, fi, fd, hi, hsl⟩ := hS k hk
  have hst := (u_facts hfc hkC (u_lays hts hw hk) hi).1
  have hkl : k < (enO h ci a).length := by unfold enO; simp; rw [hN]; exact hk
  have fin : ∀ (H1 : Heap), H1[a]? = some (cell.setSlot fd.slot v) → H1.size = H.size → (∀ q : Nat, q ≠ a → H1[q]? = H[q]?) → RelH G g H1 := by
    intro H1 e1 e2 e3
    refine rel_chg R hc hs (by omega) e2 e3 ?_
    rw [en_obj hgs hci, ← hset]
    rw [hsl] at e1
    exact ⟨_, hr, t_OB.to (V := updV (vp_V (enO h ci a)) k v) ⟨_, e1, q2, q3, t_set q4 hap hk v⟩ (fun j _ => vp_updV_set hkl v j)⟩
  rcases hfin with hfin | ⟨hfin, hin2, hdecl⟩
  · have hlay := hts _ (hw _ (u_in_lay hk))
    unfold u_lay at hlay
    rw [if_neg (by show ¬ (T k).2.2.2 = true; rw [show (T k).2.2.2 = false from hfin]; decide)] at hlay
    have h6 := u_store hfc hkC hkind hlay hi (hty k hk) hn hfit
    have hsame : s.fieldFound? C' (T k).2.1 (T k).2.2.1 = some (cf, kf, fi, fd) := by rw [← hnm]; exact hi
    rcases hlk with hlk | hlk
    · exact W.putK C.1 C.2.1 (f := fd) ⟨hown, hts _ hlk.mem, ⟨_, _, _, hsame⟩, hst⟩ (by rw [q2]; exact h6) q1 q3 (by rw [hsl]; exact k2_hasslot (q4 k hk)) rfl rfl hd fun H1 e1 e2 e3 => kk p l e s m args below meth c _ H1 ls C (fin H1 e1 e2 e3) (S.put e2 e3 hal.1) V
    · exact va_WputK C.1 C.2.1 (f := fd) hown (va_Nw.use rfl (C.2.2.2.2.2.2.2.2.1.2.1 _ hlk rfl)) hsame hst (by rw [q2]; exact h6) q1 q3 (by rw [hsl]; exact k2_hasslot (q4 k hk)) rfl rfl hd fun H1 e1 e2 e3 => kk p l e s m args below meth c _ H1 ls C (fin H1 e1 e2 e3) (S.put e2 e3 hal.1) V
  · have hlay := hts _ (hw _ (u_in_lay hk))
    unfold u_lay at hlay
    rw [if_pos hfin] at hlay
    have hcf : m.cls = cf := by
      obtain ⟨_, _, c', _, _, _, -, -, hf', -, -, -, hown2, -⟩ := Cond.laysFinal_spec hlay
      have e1 : c' = cf := by have := hi.symm.trans hf'; simp at this; exact this.1.symm
      have hnm2 : (T k).1 = y.cls := hnm.trans hdecl
      rw [hnm2] at hown2
      rw [← e1]; exact Option.some.inj (hown.symm.trans hown2)
    have h6 := u_fits hfc hkC hkind (Or.inr hlay) hi (hty k hk) hn hfit
    have hsame : s.fieldFound? C' (T k).2.1 (T k).2.2.1 = some (cf, kf, fi, fd) := by rw [← hnm]; exact hi
    rcases hlk with hlk | hlk
    · exact W.putFinK C.1 C.2.1 hown (hts _ hlk.mem) hsame hst hcf (C.2.2.2.2.2.2.2.1.trans hin2) (by rw [q2]; exact h6) q1 q3 (by rw [hsl]; exact k2_hasslot (q4 k hk)) rfl rfl hd fun H1 e1 e2 e3 => kk p l e s m args below meth c _ H1 ls C (fin H1 e1 e2 e3) (S.put e2 e3 hal.1) V
    · refine va_Wputf C.1 C.2.1 hown (va_Nw.use rfl (C.2.2.2.2.2.2.2.2.1.2.1 _ hlk rfl)) hsame hst (Or.inr ⟨hcf, C.2.2.2.2.2.2.2.1.trans hin2⟩) q1 (by rw [q3]; exact fun h => by cases h) (by rw [hsl]; exact k2_hasslot (q4 k hk)) h6.1 (by rw [q2, q3]; exact h6.2) rfl rfl hd ?_
      have ha : a < H.size := (Array.getElem?_eq_some_iff.mp q1).1
      have e3 : ∀ q : Nat, q ≠ a → (H.setIfInBounds a (cell.setSlot fd.slot v))[q]? = H[q]? := fun q hq => by simp [Array.getElem?_setIfInBounds, Ne.symm hq]
      exact kk p l e s m args below meth c _ _ ls C (fin _ (by simp [Array.getElem?_setIfInBounds, ha]) (by simp) e3) (S.put (by simp) e3 hal.1) V
/-- a field that isn't final -/
def nfB (ci k : Nat) : Bool := match vwCl[ci]? with
  | some r => !(r.2.1 k).2.2.2
  | none => true
theorem nf_of {ci k : Nat} {y : MethodName} (h : nfB ci k = true) : ∀ r, vwCl[ci]? = some r → (r.2.1 k).2.2.2 = false ∨ ((r.2.1 k).2.2.2 = true ∧ y.name = "<init>" ∧ r.1 = y.cls) := by
  intro r hr
  unfold nfB at h
  rw [hr] at h
  exact Or.inl (by simpa using h)
theorem x_putI {ci k a idx n : Nat} {v : Int32} (hd : decode cc pc = .ok (.putfield idx, 3)) (f : FR y.cls idx ci k) (hi : slInt ci k = true) (ht : tyAt ci k = .int) (hf : nfB ci k = true) (hs : hpS h a = (ci, n)) (kk : X G K y cc L ret cs sl (pc + 3) lv st (iUp h a k v)) : X G K y cc L ret cs sl pc lv (.int v :: .ref a :: st) h :=
  x_putV hd f hs chg_i (enO_seti hi) (by rw [ht]; rfl) (by rw [ht]; rfl) (nf_of hf) kk
theorem x_putZ {ci k a idx n : Nat} (hd : decode cc pc = .ok (.putfield idx, 3)) (f : FR y.cls idx ci k) (hi : slInt ci k = true) (ht : tyAt ci k = .boolean) (hf : nfB ci k = true) (hs : hpS h a = (ci, n)) (kk : X G K y cc L ret cs sl (pc + 3) lv st (iUp h a k 1)) : X G K y cc L ret cs sl pc lv (.int 1 :: .ref a :: st) h :=
  x_putV hd f hs chg_i (enO_seti hi) (by rw [ht]; rfl) (by rw [ht]; rfl) (nf_of hf) kk
theorem x_putR {ci k a idx n v : Nat} (hd : decode cc pc = .ok (.putfield idx, 3)) (f : FR y.cls idx ci k) (hi : slInt ci k = false) (hn : narrow (tyAt ci k) (.ref v) = .ref v) (hfit : fits (tyAt ci k) (.ref v) = true) (hf : nfB ci k = true) (hs : hpS h a = (ci, n)) (kk : X G K y cc L ret cs sl (pc + 3) lv st (rUp h a k (some v))) : X G K y cc L ret cs sl pc lv (.ref v :: .ref a :: st) h :=
  x_putV hd f hs chg_r (enO_setr (v := some v) hi) hn hfit (nf_of hf) kk
theorem x_putRF {ci k a idx n v : Nat} (hd : decode cc pc = .ok (.putfield idx, 3)) (f : FR y.cls idx ci k) (hi : slInt ci k = false) (hn : narrow (tyAt ci k) (.ref v) = .ref v) (hfit : fits (tyAt ci k) (.ref v) = true) (hfin : ∀ r, vwCl[ci]? = some r → (r.2.1 k).2.2.2 = false ∨ ((r.2.1 k).2.2.2 = true ∧ y.name = "<init>" ∧ r.1 = y.cls)) (hs : hpS h a = (ci, n)) (kk : X G K y cc L ret cs sl (pc + 3) lv st (rUp h a k (some v))) : X G K y cc L ret cs sl pc lv (.ref v :: .ref a :: st) h :=
  x_putV hd f hs chg_r (enO_setr (v := some v) hi) hn hfit hfin kk
theorem x_putIF {ci k a idx n : Nat} {v : Int32} (hd : decode cc pc = .ok (.putfield idx, 3)) (f : FR y.cls idx ci k) (hi : slInt ci k = true) (ht : tyAt ci k = .int) (hfin : ∀ r, vwCl[ci]? = some r → (r.2.1 k).2.2.2 = false ∨ ((r.2.1 k).2.2.2 = true ∧ y.name = "<init>" ∧ r.1 = y.cls)) (hs : hpS h a = (ci, n)) (kk : X G K y cc L ret cs sl (pc + 3) lv st (iUp h a k v)) : X G K y cc L ret cs sl pc lv (.int v :: .ref a :: st) h :=
  x_putV hd f hs chg_i (enO_seti hi) (by rw [ht]; rfl) (by rw [ht]; rfl) hfin kk
theorem x_iald {a n : Nat} {i : Int32} (hd : decode cc pc = .ok (.iaload, 1)) (hs : hpS h a = (9, n)) (hin : vp_in i n) (kk : X G K y cc L ret cs sl (pc + 1) lv (.int (hpI h a i.toNatClampNeg) :: st) h) : X G K y cc L ret cs sl pc lv (.int i :: .ref a :: st) h := by
  intro p l e s m args below meth c locs H ls C R S V
  have hal := R.1 a (by rw [hs]; show 9 ≤ 13; omega)
  have he := wsH_get (cA := G.2.1) hal.1 hal.2
  rw [en_ints hs] at he
  exact va_iald C.1 C.2.1 C.2.2.2.2.2.2.2.2.1.1 R.2.2.2 (a - gB G) 0 he rfl hin hd (kk p l e s m args below meth c locs H ls C R S V)
theorem x_aald {a n b kd : Nat} {i : Int32} (hd : decode cc pc = .ok (.aaload, 1)) (hs : hpS h a = (kd, n)) (hk : 10 ≤ kd) (hk2 : kd ≤ 13) (hin : vp_in i n) (hr : hpR h a i.toNatClampNeg = some b) (kk : X G K y cc L ret cs sl (pc + 1) lv (.ref b :: st) h) : X G K y cc L ret cs sl pc lv (.int i :: .ref a :: st) h := by
  intro p l e s m args below meth c locs H ls C R S V
  have hal := R.1 a (by rw [hs]; exact hk2)
  have he := wsH_get (cA := G.2.1) hal.1 hal.2
  rw [en_refs hs hk] at he
  have hlt : i.toNatClampNeg < n := Nat.not_le.mp fun q => hin (Or.inr q)
  have hty : (tyk kd).isReference = true := by
    match kd, hk, hk2 with
    | 10, _, _ => rfl
    | 11, _, _ => rfl
    | 12, _, _ => rfl
    | 13, _, _ => rfl
    | k + 14, _, q => exact absurd q (by omega)
  have hv : va_rf (hpR h a i.toNatClampNeg) = .ref b := by rw [hr]; rfl
  have hKt := C.2.2.2.2.2.2.2.2.1.1.2 (kd - 9) _ (tysL_at G.2.1 (by omega) hk2)
  exact W.aald (v := .ref b) (ty := tyk kd) C.1 C.2.1 (R.2.2.2 _ _ he) (hKt.1 n (fun j => va_rf (hpR h a j))) hty (fun q => by cases q) (by show ¬ (i < 0 ∨ (arrV _ _ _).slots.size ≤ _); rw [arrV_size]; exact hin) (by show (arrV _ _ _).slots[_]? = _; rw [arrV_read _ _ hlt, hv]) rfl rfl hd (kk p l e s m args below meth c locs H ls C R S V)
theorem x_iast {a n : Nat} {i x : Int32} (hd : decode cc pc = .ok (.iastore, 1)) (hs : hpS h a = (9, n)) (hin : vp_in i n) (kk : X G K y cc L ret cs sl (pc + 1) lv st (iUp h a i.toNatClampNeg x)) : X G K y cc L ret cs sl pc lv (.int x :: .int i :: .ref a :: st) h := by
  intro p l e s m args below meth c locs H ls C R S V
  have hal := R.1 a (by rw [hs]; show 9 ≤ 13; omega)
  have he := wsH_get (cA := G.2.1) hal.1 hal.2
  rw [en_ints hs] at he
  have hK0 := C.2.2.2.2.2.2.2.2.1.1.2 0 _ rfl
  refine W.iast C.1 C.2.1 (R.2.2.2 _ _ he) (hK0.1 n (fun j => .int (hpI h a j))) (fun q => by cases q) (by show ¬ (i < 0 ∨ (arrV _ _ _).slots.size ≤ _); rw [arrV_size]; exact hin) rfl rfl hd fun H1 e1 z oq => ?_
  refine kk p l e s m args below meth c _ H1 ls C (rel_chg R chg_i hs (by omega) z oq ?_) (S.put z oq hal.1) V
  rw [en_ints (h := iUp h a i.toNatClampNeg x) hs]
  show H1[a]? = some (vp_cell _ _)
  rw [e1, iUp_s]
  rw [vp_cell_i, vp_cell_i, arrV_store]
  congr 2
  funext q
  by_cases hq : q = i.toNatClampNeg
  · subst hq
    simp [updV, upd]
  · simp [updV, upd, hq]
theorem x_aast {a n b kd ci nb : Nat} {i : Int32} {r : vw_C} (hd : decode cc pc = .ok (.aastore, 1)) (hs : hpS h a = (kd, n)) (hk : 10 ≤ kd) (hk2 : kd ≤ 13) (hr : vwCl[ci]? = some r) (hty : tyk kd = .object r.1) (hb : hpS h b = (ci, nb)) (hin : vp_in i n) (kk : X G K y cc L ret cs sl (pc + 1) lv st (rUp h a i.toNatClampNeg (some b))) : X G K y cc L ret cs sl pc lv (.ref b :: .int i :: .ref a :: st) h := by
  intro p l e s m args below meth c locs H ls C R S V
  have hci := cl_lt hr
  have hal := R.1 a (by rw [hs]; exact hk2)
  have hbl := R.1 b (by rw [hb]; show ci ≤ 13; omega)
  have he := wsH_get (cA := G.2.1) hal.1 hal.2
  rw [en_refs hs hk] at he
  have hv := wsH_get (cA := G.2.1) hbl.1 hbl.2
  rw [en_obj hb hci] at hv
  have hlt : i.toNatClampNeg < n := Nat.not_le.mp fun q => hin (Or.inr q)
  have h0 : ¬ i < 0 := fun q => hin (Or.inl q)
  obtain ⟨r', hr', cellV, g1, g2, g3, -⟩ := R.2.2.2 _ _ hv
  have hKK := C.2.2.2.2.2.2.2.2.1.1
  have hcls := (hKK.1 ci r hr).2
  have ht := tysL_at G.2.1 (k := kd) (by omega) hk2
  rw [hty] at ht
  obtain ⟨kA, comp, k1, k2, k3, -⟩ := (hKK.2 _ _ ht).2
  have hcomp : comp = G.1.1 ci := Option.some.inj (k3.symm.trans hcls.1)
  subst hcomp
  obtain ⟨kC, hkC, -⟩ := hcls.2
  refine W.aast C.1 C.2.1 (R.2.2.2 _ _ he) (fun q h => by cases h) (fun h => by cases h) k1 k2 rfl hkC ⟨h0, by show _ < (arrV _ _ _).slots.size; rw [arrV_size]; exact hlt⟩ g1 (fun q h => by rw [g3] at h; cases h) (by rw [g2]; exact hkC) (by rw [g2]; exact va_assign hcls) rfl rfl hd fun H1 e1 z oq => ?_
  refine kk p l e s m args below meth c _ H1 ls C (rel_chg R chg_r hs hk2 z oq ?_) (S.put z oq hal.1) V
  rw [en_refs (h := rUp h a i.toNatClampNeg (some b)) hs hk]
  show H1[a]? = some (vp_cell _ _)
  rw [e1, rUp_s]
  rw [vp_cell_q, vp_cell_q, arrV_store]
  congr 2
  funext q
  by_cases hq : q = i.toNatClampNeg
  · subst hq
    simp [updV, va_up, va_rf]
  · simp [updV, va_up, hq]
end
end
section
/-! CALLS, ENDS, NEW CELLS -/
noncomputable def bI (P : Prop) : Int32 := by
  classical
  exact if P then 1 else 0
theorem bI_t {P : Prop} (h : P) : bI P = 1 := by
  unfold bI
  simp [h]
theorem bI_f {P : Prop} (h : ¬ P) : bI P = 0 := by
  unfold bI
  simp [h]
theorem bI_0 {P : Prop} : bI P = 0 ↔ ¬ P := by
  by_cases h : P
  · rw [bI_t h]
    exact ⟨fun e => absurd e (by decide), fun e => absurd h e⟩
  · rw [bI_f h]
    exact ⟨fun _ => h, fun _ => rfl⟩
theorem bI_nar (P : Prop) : narrow .boolean (.int (bI P)) = .int (bI P) := by
  by_cases h : P
  · rw [bI_t h]; rfl
  · rw [bI_f h]; rfl
def qi (Q : Int32 → AH → Prop) : Option Value → AH → Prop := fun v h => ∃ r : Int32, v = some (.int r) ∧ Q r h
def ql (Q : Int64 → AH → Prop) : Option Value → AH → Prop := fun v h => ∃ r : Int64, v = some (.long r) ∧ Q r h
def qv (Q : AH → Prop) : Option Value → AH → Prop := fun v h => v = none ∧ Q h
def qa (Q : Option Nat → AH → Prop) : Option Value → AH → Prop := fun v h => ∃ r : Option Nat, v = some (va_rf r) ∧ Q r h
section
variable {G : GG} {y : MethodName} {cc : ByteArray} {L : Nat} {ret : Option FieldType} {cs sl pc d mc ms : Nat} {lv : List (Nat × Value)} {h : AH}
theorem x_iret {Q : Int32 → AH → Prop} {x : Int32} (hd : decode cc pc = .ok (.ireturn, 1)) (hr : ret = some .int) (hc : cs ≤ mc) (hs : sl ≤ ms) (q : Q x h) : X G (kM G d mc ms (qi Q)) y cc L ret cs sl pc lv [.int x] h := by
  intro p l e s m args below meth c locs H ls C R S V
  have hlocks : meth.locks = false := C.2.2.2.2.2.2.1
  refine W.widen hc hs ?_
  exact W.iret C.1 C.2.1 (C.2.2.2.2.2.1.trans hr) (fun t ht hW => ⟨⟨_, h, rfl, ⟨x, rfl, q⟩, by rw [ht]; exact R⟩, S.F ht⟩) S.2.2 hd
theorem x_zret {Q : Int32 → AH → Prop} {x : Int32} {ty : FieldType} (hd : decode cc pc = .ok (.ireturn, 1)) (hr : ret = some ty) (hn : narrow ty (.int x) = .int x) (hc : cs ≤ mc) (hs : sl ≤ ms) (q : Q x h) : X G (kM G d mc ms (qi Q)) y cc L ret cs sl pc lv [.int x] h := by
  intro p l e s m args below meth c locs H ls C R S V
  have hlocks : meth.locks = false := C.2.2.2.2.2.2.1
  refine W.widen hc hs ?_
  exact W.zret C.1 C.2.1 (C.2.2.2.2.2.1.trans hr) hn (fun t ht hW => ⟨⟨_, h, rfl, ⟨x, rfl, q⟩, by rw [ht]; exact R⟩, S.F ht⟩) S.2.2 hd
theorem x_lret {Q : Int64 → AH → Prop} {x : Int64} (hd : decode cc pc = .ok (.lreturn, 1)) (hr : ret = some .long) (hc : cs ≤ mc) (hs : sl ≤ ms) (q : Q x h) : X G (kM G d mc ms (ql Q)) y cc L ret cs sl pc lv [.long x] h := by
  intro p l e s m args below meth c locs H ls C R S V
  have hlocks : meth.locks = false := C.2.2.2.2.2.2.1
  refine W.widen hc hs ?_
  exact W.lret C.1 C.2.1 (C.2.2.2.2.2.1.trans hr) (fun t ht hW => ⟨⟨_, h, rfl, ⟨x, rfl, q⟩, by rw [ht]; exact R⟩, S.F ht⟩) S.2.2 hd
theorem x_vret {Q : AH → Prop} (hd : decode cc pc = .ok (.return_, 1)) (hr : ret = none) (hc : cs ≤ mc) (hs : sl ≤ ms) (q : Q h) : X G (kM G d mc ms (qv Q)) y cc L ret cs sl pc lv [] h := by
  intro p l e s m args below meth c locs H ls C R S V
  have hlocks : meth.locks = false := C.2.2.2.2.2.2.1
  refine W.widen hc hs ?_
  exact W.vret C.1 C.2.1 (C.2.2.2.2.2.1.trans hr) (fun t ht hW => ⟨⟨_, h, rfl, ⟨rfl, q⟩, by rw [ht]; exact R⟩, S.F ht⟩) S.2.2 hd
theorem x_aret {Q : Option Nat → AH → Prop} {x : Nat} {rt : FieldType} (hd : decode cc pc = .ok (.areturn, 1)) (hr : ret = some rt) (hrt : (∃ n, rt = .object n) ∨ ∃ t, rt = .array t) (hc : cs ≤ mc) (hs : sl ≤ ms) (q : Q (some x) h) : X G (kM G d mc ms (qa Q)) y cc L ret cs sl pc lv [.ref x] h := by
  intro p l e s m args below meth c locs H ls C R S V
  have hlocks : meth.locks = false := C.2.2.2.2.2.2.1
  refine W.widen hc hs ?_
  exact W.aret C.1 C.2.1 (C.2.2.2.2.2.1.trans hr) hrt (Or.inr ⟨x, rfl⟩) (fun t ht hW => ⟨⟨_, h, rfl, ⟨some x, rfl, q⟩, by rw [ht]; exact R⟩, S.F ht⟩) S.2.2 hd
theorem x_aretN {Q : Option Nat → AH → Prop} {rt : FieldType} (hd : decode cc pc = .ok (.areturn, 1)) (hr : ret = some rt) (hrt : (∃ n, rt = .object n) ∨ ∃ t, rt = .array t) (hc : cs ≤ mc) (hs : sl ≤ ms) (q : Q none h) : X G (kM G d mc ms (qa Q)) y cc L ret cs sl pc lv [.null] h := by
  intro p l e s m args below meth c locs H ls C R S V
  have hlocks : meth.locks = false := C.2.2.2.2.2.2.1
  refine W.widen hc hs ?_
  exact W.aret C.1 C.2.1 (C.2.2.2.2.2.1.trans hr) hrt (Or.inl rfl) (fun t ht hW => ⟨⟨_, h, rfl, ⟨none, rfl, q⟩, by rw [ht]; exact R⟩, S.F ht⟩) S.2.2 hd
end
/-! what the tables say of a call -/
def CRc (y' : MethodName) (cc' : ByteArray) (L' : Nat) (ret' : Option FieldType) (n : Nat) : Prop := tw (Cond.code y' cc' L' ret') ∧ tw (Cond.initialized y'.cls) ∧ y'.cls ≠ "java/lang/invoke/MethodHandle" ∧ y'.cls ≠ "java/lang/invoke/VarHandle" ∧ (parseMethodDescriptor y'.desc).map (fun d => d.parameters.length) = some n
def crcB (y' : MethodName) (cc' : ByteArray) (L' : Nat) (ret' : Option FieldType) (n : Nat) : Bool := twB (Cond.code y' cc' L' ret') && twB (Cond.initialized y'.cls) && !decide (y'.cls = "java/lang/invoke/MethodHandle") && !decide (y'.cls = "java/lang/invoke/VarHandle") && decide ((parseMethodDescriptor y'.desc).map (fun d => d.parameters.length) = some n)
theorem CRc.of {y' : MethodName} {cc' : ByteArray} {L' : Nat} {ret' : Option FieldType} {n : Nat} (h : crcB y' cc' L' ret' n = true) : CRc y' cc' L' ret' n := by
  unfold crcB at h
  simp only [Bool.and_eq_true, decide_eq_true_eq, Bool.not_eq_true', decide_eq_false_iff_not] at h
  exact ⟨tw.of h.1.1.1.1, tw.of h.1.1.1.2, h.1.1.2, h.1.2, h.2⟩
def VC (own : String) (idx : Nat) (y' : MethodName) : Prop := (tw (Cond.methodLink own idx y') ∨ Cond.methodLinkNest own idx y' "Sandcastles" ∈ lw_tbl) ∧ tw (Cond.instanceMethod y') ∧ tw (Cond.selects y'.cls y' y')
def vcB (own : String) (idx : Nat) (y' : MethodName) : Bool := (twB (Cond.methodLink own idx y') || decide (Cond.methodLinkNest own idx y' "Sandcastles" ∈ lw_tbl)) && twB (Cond.instanceMethod y') && twB (Cond.selects y'.cls y' y')
theorem VC.of {own : String} {idx : Nat} {y' : MethodName} (h : vcB own idx y' = true) : VC own idx y' := by
  unfold vcB at h
  simp only [Bool.and_eq_true, Bool.or_eq_true, decide_eq_true_eq] at h
  exact ⟨h.1.1.elim (fun q => Or.inl (tw.of q)) Or.inr, tw.of h.1.2, tw.of h.2⟩
def SC (own : String) (idx : Nat) (y' : MethodName) : Prop := tw (Cond.methodLink own idx y') ∧ tw (Cond.static y')
theorem SC.of {own : String} {idx : Nat} {y' : MethodName} (h : (twB (Cond.methodLink own idx y') && twB (Cond.static y')) = true) : SC own idx y' := by
  simp only [Bool.and_eq_true] at h
  exact ⟨tw.of h.1, tw.of h.2⟩
def IC (own : String) (idx : Nat) (y' : MethodName) : Prop := (tw (Cond.methodLink own idx y') ∨ Cond.methodLinkNest own idx y' "Sandcastles" ∈ lw_tbl) ∧ tw (Cond.instanceMethod y') ∧ y'.name = "<init>"
def icB (own : String) (idx : Nat) (y' : MethodName) : Bool := (twB (Cond.methodLink own idx y') || decide (Cond.methodLinkNest own idx y' "Sandcastles" ∈ lw_tbl)) && twB (Cond.instanceMethod y') && decide (y'.name = "<init>")
theorem IC.of {own : String} {idx : Nat} {y' : MethodName} (h : icB own idx y' = true) : IC own idx y' := by
  unfold icB at h
  simp only [Bool.and_eq_true, Bool.or_eq_true, decide_eq_true_eq] at h
  exact ⟨h.1.1.elim (fun q => Or.inl (tw.of q)) Or.inr, tw.of h.1.2, h.2⟩
theorem good_code {y' : MethodName} {cc' : ByteArray} {L' : Nat} {ret' : Option FieldType} {n : Nat} (h : CRc y' cc' L' ret' n) : GoodIn tblG (Cond.code y' cc' L' ret' :: tblG) := by
  intro w hw
  rcases List.mem_cons.mp hw with e | e
  · rw [e]
    exact ⟨h.1.mem, good_of_word h.1.2⟩
  · exact tblG_good w e
theorem blind {G : GG} {h : AH} {av : List Value} : FrameBlind (va_Pc av (fun U => RelH G h U.heap ∧ KS G U)) := fun _ U g mk q => ⟨q.1, q.2.1, KS.same (u := U) rfl rfl q.2.2⟩
section
variable {G : GG} {K : XK} {y : MethodName} {cc : ByteArray} {L : Nat} {ret : Option FieldType} {cs sl pc : Nat} {lv : List (Nat × Value)} {st rest : List Value} {h : AH}
variable {p : Program} {l : Launch} {e : Env} {s : State} {m : MethodId} {args : Array Value} {below : List Frame} {meth : Method} {c : Code} {locs : List Loc} {H : Heap} {ls : Array Slot}
theorem x_behind {a : Array Value} {mc' ms' : Nat} {Q' : Option Value → AH → Prop} {st0 : List Value} (hr : va_Run p l e K.1 s m args below meth c H locs cs sl mc' ms' (F0 m pc ls st0) rest (Qd G Q' a) (gA G)) (C : Cx G K y cc L ret p s m args meth c) (S : va_S (gA G) s.heap H locs) (V : lv_has ls L lv)
    (k : ∀ v h', Q' v h' → X G K y cc L ret (cs + mc') (sl + ms') (pc + 3) lv (v.toList ++ rest) h') : W p l e K.1 s m args below meth c H locs cs sl (K.2.1 below args s) (F0 m pc ls st0) := by
  intro T hT X0
  obtain ⟨v, st₀, t, T', L', h0, X', hL, e1, e2, ⟨⟨v', h', hv, hq, hRel⟩, hz, hk⟩, stp⟩ := hr T hT X0
  cases hv
  rw [h0] at hz hk
  obtain ⟨t2, a1, b1⟩ := k v h' hq p l e s m args below meth c (locs ++ L') T'.heap ls C (by rw [e1]; exact hRel)
    ⟨Nat.le_trans S.1 (by rw [e1]; exact hz), fun q h1 h2 => by rw [e1, hk q (Nat.lt_of_lt_of_le h1 S.1) h2]; exact S.2.1 q h1 h2, fun q hq => by
      rcases List.mem_append.mp hq with w | w
      · exact S.2.2 q w
      · exact hL q w⟩ V T' rfl X'
  exact ⟨t2, stp t2 a1, b1⟩
theorem pre_of {av : List Value} (C : Cx G K y cc L ret p s m args meth c) (R : RelH G h H) (S : va_S (gA G) s.heap H locs) : ∀ U : State, U.heap = H → s.WarmedH U.vm → va_Pc av (fun U => RelH G h U.heap ∧ KS G U) av.toArray U :=
  fun U hU hW => ⟨rfl, by rw [hU]; exact R, KS.warm hW (fun a h1 h2 => by rw [hU]; exact S.2.1 a h1 h2) C.2.2.2.2.2.2.2.2.1⟩
end
theorem rm_ok {d d' mc ms mc' ms' L' : Nat} (h1 : d' + 1 ≤ d) (h2 : L' ≤ 21) : (rmD d' mc' ms').frames + 1 ≤ (rmD d mc ms).frames ∧ 8 + (L' + 11) + (rmD d' mc' ms').locals ≤ (rmD d mc ms).locals := by
  unfold rmD
  refine ⟨h1, ?_⟩
  show 8 + (L' + 11) + 40 * d' ≤ 40 * d
  omega
/-- the room that a call finds -/
def roomy (K : XK) (d' L' : Nat) : Prop := d' + 1 ≤ K.1.frames ∧ 8 + (L' + 11) + 40 * d' ≤ K.1.locals
theorem roomy_k {G : GG} {d mc ms d' L' : Nat} {Q : Option Value → AH → Prop} (h1 : d' + 1 ≤ d) (h2 : L' ≤ 21) : roomy (kM G d mc ms Q) d' L' := rm_ok (mc := mc) (ms := ms) (mc' := 0) (ms' := 0) h1 h2
section
variable {G : GG} {K : XK} {y : MethodName} {cc : ByteArray} {L : Nat} {ret : Option FieldType} {cs sl pc : Nat} {lv : List (Nat × Value)} {st : List Value} {h : AH}
theorem x_callV {y' : MethodName} {cc' : ByteArray} {L' n d' mc' ms' idx b ci nb : Nat} {ret' : Option FieldType} {As rest : List Value} {Q' : Option Value → AH → Prop} {r : vw_C} (hA : AM G d' mc' ms' y' cc' L' ret' (.ref b :: As) h Q') (hd : decode cc pc = .ok (.invokevirtual idx, 3)) (hc : CRc y' cc' L' ret' n) (hv : VC y.cls idx y') (hb : hpS h b = (ci, nb)) (hcl : vwCl[ci]? = some r) (hcy : r.1 = y'.cls) (hn : As.length = n) (hst : st = As.reverse ++ .ref b :: rest) (hW : (rest.map fun v => v.category).sum ≤ 8) (hroom : roomy K d' L') (hcs : cs + mc' ≤ K.1.cells) (hsl : sl + ms' ≤ K.1.slots)
    (k : ∀ v h', Q' v h' → X G K y cc L ret (cs + mc') (sl + ms') (pc + 3) lv (v.toList ++ rest) h') : X G K y cc L ret cs sl pc lv st h := by
  subst hst
  intro p l e s m args below meth c locs H ls C R S V
  have hts := C.2.2.2.2.1
  have hci := cl_lt hcl
  have hbl := R.1 b (by rw [hb]; show ci ≤ 13; omega)
  have hv0 := wsH_get (cA := G.2.1) hbl.1 hbl.2
  rw [en_obj hb hci] at hv0
  have hrecv := va_recv C.2.2.2.2.2.2.2.2.1.1 R.2.2.2 hcl hv0
  rw [hcy] at hrecv
  have hg : ({ F0 m pc ls (As.reverse ++ .ref b :: rest) with stack := [] } : JFrame).monitorRoom = 0 := rfl
  rcases hv.1 with hl | hl
  · refine x_behind (va_runV (As := As) (rest := rest) (b := b) (C := y'.cls) (index := idx) (n := n) ⟨C.1, C.2.1, rfl, C.2.2.2.1, hts⟩ (hA l) ⟨callB_of n hts (good_code hc) rfl rfl rfl (hts _ hc.2.1.mem) (hts _ hl.mem) ⟨hc.2.2.1, hc.2.2.2.1, hc.2.2.2.2⟩ hroom, hts _ hv.2.1.mem, hts _ hv.2.2.mem⟩ ⟨blind, hrecv, pre_of C R S⟩ rfl hn (V.1.trans C.2.2.1.symm) rfl (by show 2 * 0 + _ ≤ 8; omega) hd ⟨hcs, hsl⟩) C S V k
  · refine x_behind (va_runVN (host := "Sandcastles") (As := As) (rest := rest) (b := b) (C := y'.cls) (index := idx) (n := n) ⟨C.1, C.2.1, rfl, C.2.2.2.1, hts⟩ (hA l) ⟨va_cnB n hts (good_code hc) rfl rfl rfl (C.2.2.2.2.2.2.2.2.1.2.1 _ hl rfl) (hts _ hc.2.1.mem) ⟨hc.2.2.1, hc.2.2.2.1, hc.2.2.2.2⟩ hroom, hts _ hv.2.1.mem, hts _ hv.2.2.mem⟩ ⟨blind, hrecv, pre_of C R S⟩ rfl hn (V.1.trans C.2.2.1.symm) rfl (by show 2 * 0 + _ ≤ 8; omega) hd ⟨hcs, hsl⟩) C S V k
theorem x_callS {y' : MethodName} {cc' : ByteArray} {L' n d' mc' ms' idx : Nat} {ret' : Option FieldType} {As rest : List Value} {Q' : Option Value → AH → Prop} (hA : AM G d' mc' ms' y' cc' L' ret' As h Q') (hd : decode cc pc = .ok (.invokestatic idx, 3)) (hc : CRc y' cc' L' ret' n) (hv : SC y.cls idx y') (hn : As.length = n) (hst : st = As.reverse ++ rest) (hW : (rest.map fun v => v.category).sum ≤ 8) (hroom : roomy K d' L') (hcs : cs + mc' ≤ K.1.cells) (hsl : sl + ms' ≤ K.1.slots)
    (k : ∀ v h', Q' v h' → X G K y cc L ret (cs + mc') (sl + ms') (pc + 3) lv (v.toList ++ rest) h') : X G K y cc L ret cs sl pc lv st h := by
  subst hst
  intro p l e s m args below meth c locs H ls C R S V
  have hts := C.2.2.2.2.1
  exact x_behind (va_runS (As := As) (rest := rest) (index := idx) (n := n) ⟨C.1, C.2.1, rfl, C.2.2.2.1, hts⟩ (hA l) ⟨callB_of n hts (good_code hc) rfl rfl rfl (hts _ hc.2.1.mem) (hts _ hv.1.mem) ⟨hc.2.2.1, hc.2.2.2.1, hc.2.2.2.2⟩ hroom, hts _ hv.2.mem⟩ ⟨blind, pre_of C R S⟩ rfl hn (V.1.trans C.2.2.1.symm) rfl (by show 2 * 0 + _ ≤ 8; omega) hd ⟨hcs, hsl⟩) C S V k
theorem x_callI {y' : MethodName} {cc' : ByteArray} {L' n d' mc' ms' idx b : Nat} {As rest : List Value} {Q' : Option Value → AH → Prop} (hA : AM G d' mc' ms' y' cc' L' none (.ref b :: As) h Q') (hd : decode cc pc = .ok (.invokespecial idx, 3)) (hc : CRc y' cc' L' none n) (hv : IC y.cls idx y') (hn : As.length = n) (hst : st = As.reverse ++ .ref b :: rest) (hW : (rest.map fun v => v.category).sum ≤ 8) (hroom : roomy K d' L') (hcs : cs + mc' ≤ K.1.cells) (hsl : sl + ms' ≤ K.1.slots)
    (k : ∀ v h', Q' v h' → X G K y cc L ret (cs + mc') (sl + ms') (pc + 3) lv (v.toList ++ rest) h') : X G K y cc L ret cs sl pc lv st h := by
  subst hst
  intro p l e s m args below meth c locs H ls C R S V
  have hts := C.2.2.2.2.1
  rcases hv.1 with hl | hl
  · exact x_behind (va_runI (As := As) (rest := rest) (b := b) (index := idx) (n := n) ⟨C.1, C.2.1, rfl, C.2.2.2.1, hts⟩ (hA l) ⟨callB_of n hts (good_code hc) rfl rfl rfl (hts _ hc.2.1.mem) (hts _ hl.mem) ⟨hc.2.2.1, hc.2.2.2.1, hc.2.2.2.2⟩ hroom, hv.2.2, hts _ hv.2.1.mem⟩ ⟨blind, pre_of C R S⟩ rfl hn (V.1.trans C.2.2.1.symm) rfl (by show 2 * 0 + _ ≤ 8; omega) hd ⟨hcs, hsl⟩) C S V k
  · exact x_behind (va_runIN (host := "Sandcastles") (As := As) (rest := rest) (b := b) (index := idx) (n := n) ⟨C.1, C.2.1, rfl, C.2.2.2.1, hts⟩ (hA l) ⟨va_cnB n hts (good_code hc) rfl rfl rfl (C.2.2.2.2.2.2.2.2.1.2.1 _ hl rfl) (hts _ hc.2.1.mem) ⟨hc.2.2.1, hc.2.2.2.1, hc.2.2.2.2⟩ hroom, hv.2.2, hts _ hv.2.1.mem⟩ ⟨blind, pre_of C R S⟩ rfl hn (V.1.trans C.2.2.1.symm) rfl (by show 2 * 0 + _ ≤ 8; omega) hd ⟨hcs, hsl⟩) C S V k
end
end
