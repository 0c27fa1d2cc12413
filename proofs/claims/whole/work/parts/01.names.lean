-- ===== PART A: goes FIRST, ahead of the names: the tables' words, and 'selects' of the private methods out of them =====
/-- a private method of a class that the tables say can be made, by its rows of tables_1 -/
def lw_okq (q : MethodName × Nat) : Prop := (q.1.cls ≠ "java/lang/invoke/MethodHandle" ∧ q.1.cls ≠ "java/lang/invoke/VarHandle") ∧ Cond.instantiable q.1.cls q.2 ∈ tables_1 ∧ Cond.privateMethod q.1 ∈ tables_1 ∧ Cond.instanceMethod q.1 ∈ tables_1
theorem lw_p0 : lw_okq (⟨"RuleRunner$Tape", "append", "(I)V"⟩, 2) := ⟨⟨by decide +kernel, by decide +kernel⟩, List.mem_of_getElem? (i := 24) (by decide +kernel), List.mem_of_getElem? (i := 171) (by decide +kernel), List.mem_of_getElem? (i := 172) (by decide +kernel)⟩
theorem lw_p1 : lw_okq (⟨"RuleRunner$Reader", "read", "(LRuleRunner$Tape;)I"⟩, 4) := ⟨⟨by decide +kernel, by decide +kernel⟩, List.mem_of_getElem? (i := 41) (by decide +kernel), List.mem_of_getElem? (i := 183) (by decide +kernel), List.mem_of_getElem? (i := 184) (by decide +kernel)⟩
theorem lw_p2 : lw_okq (⟨"RuleRunner$Tokens", "split", "(LRuleRunner$Tape;)V"⟩, 4) := ⟨⟨by decide +kernel, by decide +kernel⟩, List.mem_of_getElem? (i := 47) (by decide +kernel), List.mem_of_getElem? (i := 187) (by decide +kernel), List.mem_of_getElem? (i := 188) (by decide +kernel)⟩
theorem lw_p3 : lw_okq (⟨"RuleRunner$Tokens", "splitOne", "(LRuleRunner$Tape;I)I"⟩, 4) := ⟨⟨by decide +kernel, by decide +kernel⟩, List.mem_of_getElem? (i := 47) (by decide +kernel), List.mem_of_getElem? (i := 191) (by decide +kernel), List.mem_of_getElem? (i := 192) (by decide +kernel)⟩
theorem lw_p4 : lw_okq (⟨"RuleRunner$Tokens", "splitWord", "(LRuleRunner$Tape;I)I"⟩, 4) := ⟨⟨by decide +kernel, by decide +kernel⟩, List.mem_of_getElem? (i := 47) (by decide +kernel), List.mem_of_getElem? (i := 198) (by decide +kernel), List.mem_of_getElem? (i := 199) (by decide +kernel)⟩
theorem lw_p5 : lw_okq (⟨"RuleRunner$Tape", "spells", "(Ljava/lang/String;II)Z"⟩, 2) := ⟨⟨by decide +kernel, by decide +kernel⟩, List.mem_of_getElem? (i := 24) (by decide +kernel), List.mem_of_getElem? (i := 206) (by decide +kernel), List.mem_of_getElem? (i := 207) (by decide +kernel)⟩
theorem lw_p6 : lw_okq (⟨"RuleRunner$Tokens", "add", "(III)V"⟩, 4) := ⟨⟨by decide +kernel, by decide +kernel⟩, List.mem_of_getElem? (i := 47) (by decide +kernel), List.mem_of_getElem? (i := 264) (by decide +kernel), List.mem_of_getElem? (i := 265) (by decide +kernel)⟩
theorem lw_p7 : lw_okq (⟨"RuleRunner$Tokens", "splitNumber", "(LRuleRunner$Tape;I)I"⟩, 4) := ⟨⟨by decide +kernel, by decide +kernel⟩, List.mem_of_getElem? (i := 47) (by decide +kernel), List.mem_of_getElem? (i := 271) (by decide +kernel), List.mem_of_getElem? (i := 272) (by decide +kernel)⟩
theorem lw_p8 : lw_okq (⟨"RuleRunner$Code", "clear", "()V"⟩, 5) := ⟨⟨by decide +kernel, by decide +kernel⟩, List.mem_of_getElem? (i := 70) (by decide +kernel), List.mem_of_getElem? (i := 284) (by decide +kernel), List.mem_of_getElem? (i := 285) (by decide +kernel)⟩
theorem lw_p9 : lw_okq (⟨"RuleRunner$Reader", "readRule", "()Z"⟩, 4) := ⟨⟨by decide +kernel, by decide +kernel⟩, List.mem_of_getElem? (i := 41) (by decide +kernel), List.mem_of_getElem? (i := 288) (by decide +kernel), List.mem_of_getElem? (i := 289) (by decide +kernel)⟩
theorem lw_p10 : lw_okq (⟨"RuleRunner$Reader", "pass", "(I)Z"⟩, 4) := ⟨⟨by decide +kernel, by decide +kernel⟩, List.mem_of_getElem? (i := 41) (by decide +kernel), List.mem_of_getElem? (i := 292) (by decide +kernel), List.mem_of_getElem? (i := 293) (by decide +kernel)⟩
theorem lw_p11 : lw_okq (⟨"RuleRunner$Reader", "readTest", "()Z"⟩, 4) := ⟨⟨by decide +kernel, by decide +kernel⟩, List.mem_of_getElem? (i := 41) (by decide +kernel), List.mem_of_getElem? (i := 296) (by decide +kernel), List.mem_of_getElem? (i := 297) (by decide +kernel)⟩
theorem lw_p12 : lw_okq (⟨"RuleRunner$Reader", "readSum", "(I)Z"⟩, 4) := ⟨⟨by decide +kernel, by decide +kernel⟩, List.mem_of_getElem? (i := 41) (by decide +kernel), List.mem_of_getElem? (i := 300) (by decide +kernel), List.mem_of_getElem? (i := 301) (by decide +kernel)⟩
theorem lw_p13 : lw_okq (⟨"RuleRunner$Reader", "readTerm", "(I)Z"⟩, 4) := ⟨⟨by decide +kernel, by decide +kernel⟩, List.mem_of_getElem? (i := 41) (by decide +kernel), List.mem_of_getElem? (i := 304) (by decide +kernel), List.mem_of_getElem? (i := 305) (by decide +kernel)⟩
theorem lw_p14 : lw_okq (⟨"RuleRunner$Reader", "readPart", "(I)Z"⟩, 4) := ⟨⟨by decide +kernel, by decide +kernel⟩, List.mem_of_getElem? (i := 41) (by decide +kernel), List.mem_of_getElem? (i := 308) (by decide +kernel), List.mem_of_getElem? (i := 309) (by decide +kernel)⟩
theorem lw_p15 : lw_okq (⟨"RuleRunner$Reader", "looksAt", "(I)Z"⟩, 4) := ⟨⟨by decide +kernel, by decide +kernel⟩, List.mem_of_getElem? (i := 41) (by decide +kernel), List.mem_of_getElem? (i := 312) (by decide +kernel), List.mem_of_getElem? (i := 313) (by decide +kernel)⟩
def lw_privs_1 : List (MethodName × Nat) := [(⟨"RuleRunner$Tape", "append", "(I)V"⟩, 2), (⟨"RuleRunner$Reader", "read", "(LRuleRunner$Tape;)I"⟩, 4), (⟨"RuleRunner$Tokens", "split", "(LRuleRunner$Tape;)V"⟩, 4), (⟨"RuleRunner$Tokens", "splitOne", "(LRuleRunner$Tape;I)I"⟩, 4), (⟨"RuleRunner$Tokens", "splitWord", "(LRuleRunner$Tape;I)I"⟩, 4), (⟨"RuleRunner$Tape", "spells", "(Ljava/lang/String;II)Z"⟩, 2), (⟨"RuleRunner$Tokens", "add", "(III)V"⟩, 4), (⟨"RuleRunner$Tokens", "splitNumber", "(LRuleRunner$Tape;I)I"⟩, 4), (⟨"RuleRunner$Code", "clear", "()V"⟩, 5), (⟨"RuleRunner$Reader", "readRule", "()Z"⟩, 4), (⟨"RuleRunner$Reader", "pass", "(I)Z"⟩, 4), (⟨"RuleRunner$Reader", "readTest", "()Z"⟩, 4), (⟨"RuleRunner$Reader", "readSum", "(I)Z"⟩, 4), (⟨"RuleRunner$Reader", "readTerm", "(I)Z"⟩, 4), (⟨"RuleRunner$Reader", "readPart", "(I)Z"⟩, 4), (⟨"RuleRunner$Reader", "looksAt", "(I)Z"⟩, 4)]
theorem lw_r1 : ∀ q ∈ lw_privs_1, lw_okq q := List.forall_mem_cons.mpr ⟨lw_p0, List.forall_mem_cons.mpr ⟨lw_p1, List.forall_mem_cons.mpr ⟨lw_p2, List.forall_mem_cons.mpr ⟨lw_p3, List.forall_mem_cons.mpr ⟨lw_p4, List.forall_mem_cons.mpr ⟨lw_p5, List.forall_mem_cons.mpr ⟨lw_p6, List.forall_mem_cons.mpr ⟨lw_p7, List.forall_mem_cons.mpr ⟨lw_p8, List.forall_mem_cons.mpr ⟨lw_p9, List.forall_mem_cons.mpr ⟨lw_p10, List.forall_mem_cons.mpr ⟨lw_p11, List.forall_mem_cons.mpr ⟨lw_p12, List.forall_mem_cons.mpr ⟨lw_p13, List.forall_mem_cons.mpr ⟨lw_p14, List.forall_mem_cons.mpr ⟨lw_p15, fun _ h => absurd h List.not_mem_nil⟩⟩⟩⟩⟩⟩⟩⟩⟩⟩⟩⟩⟩⟩⟩⟩
theorem lw_p16 : lw_okq (⟨"RuleRunner$Reader", "looksAtCellNumber", "()Z"⟩, 4) := ⟨⟨by decide +kernel, by decide +kernel⟩, List.mem_of_getElem? (i := 41) (by decide +kernel), List.mem_of_getElem? (i := 316) (by decide +kernel), List.mem_of_getElem? (i := 317) (by decide +kernel)⟩
theorem lw_p17 : lw_okq (⟨"RuleRunner$Code", "add", "(II)V"⟩, 5) := ⟨⟨by decide +kernel, by decide +kernel⟩, List.mem_of_getElem? (i := 70) (by decide +kernel), List.mem_of_getElem? (i := 320) (by decide +kernel), List.mem_of_getElem? (i := 321) (by decide +kernel)⟩
theorem lw_p18 : lw_okq (⟨"RuleRunner$Reader", "readEffect", "()Z"⟩, 4) := ⟨⟨by decide +kernel, by decide +kernel⟩, List.mem_of_getElem? (i := 41) (by decide +kernel), List.mem_of_getElem? (i := 324) (by decide +kernel), List.mem_of_getElem? (i := 325) (by decide +kernel)⟩
theorem lw_p19 : lw_okq (⟨"RuleRunner$Code", "closeRule", "()V"⟩, 5) := ⟨⟨by decide +kernel, by decide +kernel⟩, List.mem_of_getElem? (i := 70) (by decide +kernel), List.mem_of_getElem? (i := 328) (by decide +kernel), List.mem_of_getElem? (i := 329) (by decide +kernel)⟩
theorem lw_p20 : lw_okq (⟨"RuleRunner$Reader", "exchange", "(LRuleRunner$Code;)LRuleRunner$Code;"⟩, 4) := ⟨⟨by decide +kernel, by decide +kernel⟩, List.mem_of_getElem? (i := 41) (by decide +kernel), List.mem_of_getElem? (i := 332) (by decide +kernel), List.mem_of_getElem? (i := 333) (by decide +kernel)⟩
theorem lw_p21 : lw_okq (⟨"RuleRunner$Machine", "perform", "(LRuleRunner$Code;II)I"⟩, 11) := ⟨⟨by decide +kernel, by decide +kernel⟩, List.mem_of_getElem? (i := 110) (by decide +kernel), List.mem_of_getElem? (i := 340) (by decide +kernel), List.mem_of_getElem? (i := 341) (by decide +kernel)⟩
theorem lw_p22 : lw_okq (⟨"RuleRunner$Machine", "isTaken", "(LRuleRunner$Code;IIII)Z"⟩, 11) := ⟨⟨by decide +kernel, by decide +kernel⟩, List.mem_of_getElem? (i := 110) (by decide +kernel), List.mem_of_getElem? (i := 344) (by decide +kernel), List.mem_of_getElem? (i := 345) (by decide +kernel)⟩
theorem lw_p23 : lw_okq (⟨"RuleRunner$Machine", "push", "(I)V"⟩, 11) := ⟨⟨by decide +kernel, by decide +kernel⟩, List.mem_of_getElem? (i := 110) (by decide +kernel), List.mem_of_getElem? (i := 348) (by decide +kernel), List.mem_of_getElem? (i := 349) (by decide +kernel)⟩
theorem lw_p24 : lw_okq (⟨"RuleRunner$Machine", "pop", "()I"⟩, 11) := ⟨⟨by decide +kernel, by decide +kernel⟩, List.mem_of_getElem? (i := 110) (by decide +kernel), List.mem_of_getElem? (i := 352) (by decide +kernel), List.mem_of_getElem? (i := 353) (by decide +kernel)⟩
theorem lw_p25 : lw_okq (⟨"RuleRunner$Machine", "addEffect", "(II)V"⟩, 11) := ⟨⟨by decide +kernel, by decide +kernel⟩, List.mem_of_getElem? (i := 110) (by decide +kernel), List.mem_of_getElem? (i := 356) (by decide +kernel), List.mem_of_getElem? (i := 357) (by decide +kernel)⟩
theorem lw_p26 : lw_okq (⟨"RuleRunner$Machine", "calculate", "(I)V"⟩, 11) := ⟨⟨by decide +kernel, by decide +kernel⟩, List.mem_of_getElem? (i := 110) (by decide +kernel), List.mem_of_getElem? (i := 360) (by decide +kernel), List.mem_of_getElem? (i := 361) (by decide +kernel)⟩
theorem lw_p27 : lw_okq (⟨"RuleRunner$Machine", "holds", "(I)Z"⟩, 11) := ⟨⟨by decide +kernel, by decide +kernel⟩, List.mem_of_getElem? (i := 110) (by decide +kernel), List.mem_of_getElem? (i := 364) (by decide +kernel), List.mem_of_getElem? (i := 365) (by decide +kernel)⟩
theorem lw_p28 : lw_okq (⟨"RuleRunner$Machine", "applyEffects", "()V"⟩, 11) := ⟨⟨by decide +kernel, by decide +kernel⟩, List.mem_of_getElem? (i := 110) (by decide +kernel), List.mem_of_getElem? (i := 368) (by decide +kernel), List.mem_of_getElem? (i := 369) (by decide +kernel)⟩
theorem lw_p29 : lw_okq (⟨"RuleRunner$Machine", "change", "(II)V"⟩, 11) := ⟨⟨by decide +kernel, by decide +kernel⟩, List.mem_of_getElem? (i := 110) (by decide +kernel), List.mem_of_getElem? (i := 372) (by decide +kernel), List.mem_of_getElem? (i := 373) (by decide +kernel)⟩
theorem lw_p30 : lw_okq (⟨"RuleRunner$Machine", "takeBack", "()I"⟩, 11) := ⟨⟨by decide +kernel, by decide +kernel⟩, List.mem_of_getElem? (i := 110) (by decide +kernel), List.mem_of_getElem? (i := 383) (by decide +kernel), List.mem_of_getElem? (i := 384) (by decide +kernel)⟩
theorem lw_p31 : lw_okq (⟨"RuleRunnerModel", "step", "()V"⟩, 20) := ⟨⟨by decide +kernel, by decide +kernel⟩, List.mem_of_getElem? (i := 401) (by decide +kernel), List.mem_of_getElem? (i := 483) (by decide +kernel), List.mem_of_getElem? (i := 484) (by decide +kernel)⟩
def lw_privs_2 : List (MethodName × Nat) := [(⟨"RuleRunner$Reader", "looksAtCellNumber", "()Z"⟩, 4), (⟨"RuleRunner$Code", "add", "(II)V"⟩, 5), (⟨"RuleRunner$Reader", "readEffect", "()Z"⟩, 4), (⟨"RuleRunner$Code", "closeRule", "()V"⟩, 5), (⟨"RuleRunner$Reader", "exchange", "(LRuleRunner$Code;)LRuleRunner$Code;"⟩, 4), (⟨"RuleRunner$Machine", "perform", "(LRuleRunner$Code;II)I"⟩, 11), (⟨"RuleRunner$Machine", "isTaken", "(LRuleRunner$Code;IIII)Z"⟩, 11), (⟨"RuleRunner$Machine", "push", "(I)V"⟩, 11), (⟨"RuleRunner$Machine", "pop", "()I"⟩, 11), (⟨"RuleRunner$Machine", "addEffect", "(II)V"⟩, 11), (⟨"RuleRunner$Machine", "calculate", "(I)V"⟩, 11), (⟨"RuleRunner$Machine", "holds", "(I)Z"⟩, 11), (⟨"RuleRunner$Machine", "applyEffects", "()V"⟩, 11), (⟨"RuleRunner$Machine", "change", "(II)V"⟩, 11), (⟨"RuleRunner$Machine", "takeBack", "()I"⟩, 11), (⟨"RuleRunnerModel", "step", "()V"⟩, 20)]
theorem lw_r2 : ∀ q ∈ lw_privs_2, lw_okq q := List.forall_mem_cons.mpr ⟨lw_p16, List.forall_mem_cons.mpr ⟨lw_p17, List.forall_mem_cons.mpr ⟨lw_p18, List.forall_mem_cons.mpr ⟨lw_p19, List.forall_mem_cons.mpr ⟨lw_p20, List.forall_mem_cons.mpr ⟨lw_p21, List.forall_mem_cons.mpr ⟨lw_p22, List.forall_mem_cons.mpr ⟨lw_p23, List.forall_mem_cons.mpr ⟨lw_p24, List.forall_mem_cons.mpr ⟨lw_p25, List.forall_mem_cons.mpr ⟨lw_p26, List.forall_mem_cons.mpr ⟨lw_p27, List.forall_mem_cons.mpr ⟨lw_p28, List.forall_mem_cons.mpr ⟨lw_p29, List.forall_mem_cons.mpr ⟨lw_p30, List.forall_mem_cons.mpr ⟨lw_p31, fun _ h => absurd h List.not_mem_nil⟩⟩⟩⟩⟩⟩⟩⟩⟩⟩⟩⟩⟩⟩⟩⟩
theorem lw_p32 : lw_okq (⟨"RuleRunnerModel", "is", "(Ljava/lang/String;)Z"⟩, 20) := ⟨⟨by decide +kernel, by decide +kernel⟩, List.mem_of_getElem? (i := 401) (by decide +kernel), List.mem_of_getElem? (i := 491) (by decide +kernel), List.mem_of_getElem? (i := 492) (by decide +kernel)⟩
theorem lw_p33 : lw_okq (⟨"RuleRunnerModel", "rule", "()Z"⟩, 20) := ⟨⟨by decide +kernel, by decide +kernel⟩, List.mem_of_getElem? (i := 401) (by decide +kernel), List.mem_of_getElem? (i := 511) (by decide +kernel), List.mem_of_getElem? (i := 512) (by decide +kernel)⟩
theorem lw_p34 : lw_okq (⟨"RuleRunnerModel", "bad", "()Z"⟩, 20) := ⟨⟨by decide +kernel, by decide +kernel⟩, List.mem_of_getElem? (i := 401) (by decide +kernel), List.mem_of_getElem? (i := 515) (by decide +kernel), List.mem_of_getElem? (i := 516) (by decide +kernel)⟩
theorem lw_p35 : lw_okq (⟨"RuleRunnerModel", "put", "(I)V"⟩, 20) := ⟨⟨by decide +kernel, by decide +kernel⟩, List.mem_of_getElem? (i := 401) (by decide +kernel), List.mem_of_getElem? (i := 519) (by decide +kernel), List.mem_of_getElem? (i := 520) (by decide +kernel)⟩
theorem lw_p36 : lw_okq (⟨"RuleRunnerModel", "compare", "()Z"⟩, 20) := ⟨⟨by decide +kernel, by decide +kernel⟩, List.mem_of_getElem? (i := 401) (by decide +kernel), List.mem_of_getElem? (i := 523) (by decide +kernel), List.mem_of_getElem? (i := 524) (by decide +kernel)⟩
theorem lw_p37 : lw_okq (⟨"RuleRunnerModel", "whole", "()Z"⟩, 20) := ⟨⟨by decide +kernel, by decide +kernel⟩, List.mem_of_getElem? (i := 401) (by decide +kernel), List.mem_of_getElem? (i := 527) (by decide +kernel), List.mem_of_getElem? (i := 528) (by decide +kernel)⟩
theorem lw_p38 : lw_okq (⟨"RuleRunnerModel", "sum", "(I)Z"⟩, 20) := ⟨⟨by decide +kernel, by decide +kernel⟩, List.mem_of_getElem? (i := 401) (by decide +kernel), List.mem_of_getElem? (i := 531) (by decide +kernel), List.mem_of_getElem? (i := 532) (by decide +kernel)⟩
theorem lw_p39 : lw_okq (⟨"RuleRunnerModel", "term", "(I)Z"⟩, 20) := ⟨⟨by decide +kernel, by decide +kernel⟩, List.mem_of_getElem? (i := 401) (by decide +kernel), List.mem_of_getElem? (i := 535) (by decide +kernel), List.mem_of_getElem? (i := 536) (by decide +kernel)⟩
theorem lw_p40 : lw_okq (⟨"RuleRunnerModel", "part", "(I)Z"⟩, 20) := ⟨⟨by decide +kernel, by decide +kernel⟩, List.mem_of_getElem? (i := 401) (by decide +kernel), List.mem_of_getElem? (i := 539) (by decide +kernel), List.mem_of_getElem? (i := 540) (by decide +kernel)⟩
theorem lw_p41 : lw_okq (⟨"RuleRunnerModel", "take", "(Ljava/lang/String;)Z"⟩, 20) := ⟨⟨by decide +kernel, by decide +kernel⟩, List.mem_of_getElem? (i := 401) (by decide +kernel), List.mem_of_getElem? (i := 545) (by decide +kernel), List.mem_of_getElem? (i := 546) (by decide +kernel)⟩
theorem lw_p42 : lw_okq (⟨"RuleRunnerModel", "cell", "()Z"⟩, 20) := ⟨⟨by decide +kernel, by decide +kernel⟩, List.mem_of_getElem? (i := 401) (by decide +kernel), List.mem_of_getElem? (i := 549) (by decide +kernel), List.mem_of_getElem? (i := 550) (by decide +kernel)⟩
theorem lw_p43 : lw_okq (⟨"RuleRunnerModel", "perform", "(II)I"⟩, 20) := ⟨⟨by decide +kernel, by decide +kernel⟩, List.mem_of_getElem? (i := 401) (by decide +kernel), List.mem_of_getElem? (i := 584) (by decide +kernel), List.mem_of_getElem? (i := 585) (by decide +kernel)⟩
theorem lw_p44 : lw_okq (⟨"RuleRunnerModel", "holds", "(II)Z"⟩, 20) := ⟨⟨by decide +kernel, by decide +kernel⟩, List.mem_of_getElem? (i := 401) (by decide +kernel), List.mem_of_getElem? (i := 588) (by decide +kernel), List.mem_of_getElem? (i := 589) (by decide +kernel)⟩
theorem lw_p45 : lw_okq (⟨"RuleRunnerModel", "value", "(II)I"⟩, 20) := ⟨⟨by decide +kernel, by decide +kernel⟩, List.mem_of_getElem? (i := 401) (by decide +kernel), List.mem_of_getElem? (i := 592) (by decide +kernel), List.mem_of_getElem? (i := 593) (by decide +kernel)⟩
def lw_privs_3 : List (MethodName × Nat) := [(⟨"RuleRunnerModel", "is", "(Ljava/lang/String;)Z"⟩, 20), (⟨"RuleRunnerModel", "rule", "()Z"⟩, 20), (⟨"RuleRunnerModel", "bad", "()Z"⟩, 20), (⟨"RuleRunnerModel", "put", "(I)V"⟩, 20), (⟨"RuleRunnerModel", "compare", "()Z"⟩, 20), (⟨"RuleRunnerModel", "whole", "()Z"⟩, 20), (⟨"RuleRunnerModel", "sum", "(I)Z"⟩, 20), (⟨"RuleRunnerModel", "term", "(I)Z"⟩, 20), (⟨"RuleRunnerModel", "part", "(I)Z"⟩, 20), (⟨"RuleRunnerModel", "take", "(Ljava/lang/String;)Z"⟩, 20), (⟨"RuleRunnerModel", "cell", "()Z"⟩, 20), (⟨"RuleRunnerModel", "perform", "(II)I"⟩, 20), (⟨"RuleRunnerModel", "holds", "(II)Z"⟩, 20), (⟨"RuleRunnerModel", "value", "(II)I"⟩, 20)]
theorem lw_r3 : ∀ q ∈ lw_privs_3, lw_okq q := List.forall_mem_cons.mpr ⟨lw_p32, List.forall_mem_cons.mpr ⟨lw_p33, List.forall_mem_cons.mpr ⟨lw_p34, List.forall_mem_cons.mpr ⟨lw_p35, List.forall_mem_cons.mpr ⟨lw_p36, List.forall_mem_cons.mpr ⟨lw_p37, List.forall_mem_cons.mpr ⟨lw_p38, List.forall_mem_cons.mpr ⟨lw_p39, List.forall_mem_cons.mpr ⟨lw_p40, List.forall_mem_cons.mpr ⟨lw_p41, List.forall_mem_cons.mpr ⟨lw_p42, List.forall_mem_cons.mpr ⟨lw_p43, List.forall_mem_cons.mpr ⟨lw_p44, List.forall_mem_cons.mpr ⟨lw_p45, fun _ h => absurd h List.not_mem_nil⟩⟩⟩⟩⟩⟩⟩⟩⟩⟩⟩⟩⟩⟩
def lw_privs : List (MethodName × Nat) := lw_privs_1 ++ (lw_privs_2 ++ (lw_privs_3))
def lw_tbl : List Cond := k2_sels lw_privs ++ tables_1
theorem lw_privs_ok : ∀ q ∈ lw_privs, lw_okq q := by
  show ∀ q ∈ lw_privs_1 ++ (lw_privs_2 ++ (lw_privs_3)), lw_okq q
  exact List.forall_mem_append.mpr ⟨lw_r1, List.forall_mem_append.mpr ⟨lw_r2, lw_r3⟩⟩
-- ===== names: by wip/gen/names.py out of the Statement =====
def R_Co : String := "RuleRunner$Code"
def R_Ma : String := "RuleRunner$Machine"
def R_Re : String := "RuleRunner$Reader"
def R_Ta : String := "RuleRunner$Tape"
def R_To : String := "RuleRunner$Tokens"
def R_Ru : String := "RuleRunner"
def R_Mo : String := "RuleRunnerModel"
def R_La : String := "RuleRunnerLaw"
def R_St : String := "java/lang/String"
def R_Sl : String := "java/lang/StringLatin1"
def R_Pr : String := "jdk/internal/util/Preconditions"
def R_Mt : String := "java/lang/Math"
def R_Ar : String := "java/util/Arrays"
def R_Sy : String := "java/lang/System"
def R_Ob : String := "java/lang/Object"
def T_Co : u_T := fun k => match k with
  | 0 => ("RuleRunner$Code", "kinds", "[I", true)
  | 1 => ("RuleRunner$Code", "values", "[I", true)
  | 2 => ("RuleRunner$Code", "ruleEnds", "[I", true)
  | 3 => ("RuleRunner$Code", "steps", "I", false)
  | _ => ("RuleRunner$Code", "rules", "I", false)
def t_Co : Nat → FieldType := fun k => match k with
  | 0 => .array .int
  | 1 => .array .int
  | 2 => .array .int
  | 3 => .int
  | _ => .int
theorem nm_Co : ∀ a, a < 5 → ∀ b, b < 5 → a ≠ b → (T_Co a).2.1 ≠ (T_Co b).2.1 := by decide +kernel
theorem ty_Co : ∀ k, k < 5 → parseFieldDescriptor (T_Co k).2.2.1 = some (t_Co k) := by decide +kernel
def T_Ma : u_T := fun k => match k with
  | 0 => ("RuleRunner$Machine", "cells", "[I", true)
  | 1 => ("RuleRunner$Machine", "stack", "[I", true)
  | 2 => ("RuleRunner$Machine", "height", "I", false)
  | 3 => ("RuleRunner$Machine", "effectCells", "[I", true)
  | 4 => ("RuleRunner$Machine", "effectValues", "[I", true)
  | 5 => ("RuleRunner$Machine", "effects", "I", false)
  | 6 => ("RuleRunner$Machine", "changedCells", "[I", true)
  | 7 => ("RuleRunner$Machine", "changedFrom", "[I", true)
  | 8 => ("RuleRunner$Machine", "changes", "I", false)
  | 9 => ("RuleRunner$Machine", "changesBefore", "[I", true)
  | _ => ("RuleRunner$Machine", "runs", "I", false)
def t_Ma : Nat → FieldType := fun k => match k with
  | 0 => .array .int
  | 1 => .array .int
  | 2 => .int
  | 3 => .array .int
  | 4 => .array .int
  | 5 => .int
  | 6 => .array .int
  | 7 => .array .int
  | 8 => .int
  | 9 => .array .int
  | _ => .int
theorem nm_Ma : ∀ a, a < 11 → ∀ b, b < 11 → a ≠ b → (T_Ma a).2.1 ≠ (T_Ma b).2.1 := by decide +kernel
theorem ty_Ma : ∀ k, k < 11 → parseFieldDescriptor (T_Ma k).2.2.1 = some (t_Ma k) := by decide +kernel
def T_Re : u_T := fun k => match k with
  | 0 => ("RuleRunner$Reader", "tokens", "LRuleRunner$Tokens;", true)
  | 1 => ("RuleRunner$Reader", "code", "LRuleRunner$Code;", false)
  | 2 => ("RuleRunner$Reader", "at", "I", false)
  | _ => ("RuleRunner$Reader", "parts", "I", false)
def t_Re : Nat → FieldType := fun k => match k with
  | 0 => .object "RuleRunner$Tokens"
  | 1 => .object "RuleRunner$Code"
  | 2 => .int
  | _ => .int
theorem nm_Re : ∀ a, a < 4 → ∀ b, b < 4 → a ≠ b → (T_Re a).2.1 ≠ (T_Re b).2.1 := by decide +kernel
theorem ty_Re : ∀ k, k < 4 → parseFieldDescriptor (T_Re k).2.2.1 = some (t_Re k) := by decide +kernel
def T_Ta : u_T := fun k => match k with
  | 0 => ("RuleRunner$Tape", "bytes", "[B", true)
  | _ => ("RuleRunner$Tape", "length", "I", false)
def t_Ta : Nat → FieldType := fun k => match k with
  | 0 => .array .byte
  | _ => .int
theorem nm_Ta : ∀ a, a < 2 → ∀ b, b < 2 → a ≠ b → (T_Ta a).2.1 ≠ (T_Ta b).2.1 := by decide +kernel
theorem ty_Ta : ∀ k, k < 2 → parseFieldDescriptor (T_Ta k).2.2.1 = some (t_Ta k) := by decide +kernel
def T_To : u_T := fun k => match k with
  | 0 => ("RuleRunner$Tokens", "kinds", "[I", true)
  | 1 => ("RuleRunner$Tokens", "values", "[I", true)
  | 2 => ("RuleRunner$Tokens", "places", "[I", true)
  | _ => ("RuleRunner$Tokens", "size", "I", false)
def t_To : Nat → FieldType := fun k => match k with
  | 0 => .array .int
  | 1 => .array .int
  | 2 => .array .int
  | _ => .int
theorem nm_To : ∀ a, a < 4 → ∀ b, b < 4 → a ≠ b → (T_To a).2.1 ≠ (T_To b).2.1 := by decide +kernel
theorem ty_To : ∀ k, k < 4 → parseFieldDescriptor (T_To k).2.2.1 = some (t_To k) := by decide +kernel
def T_Ru : u_T := fun k => match k with
  | 0 => ("RuleRunner", "tape", "LRuleRunner$Tape;", true)
  | 1 => ("RuleRunner", "reader", "LRuleRunner$Reader;", true)
  | 2 => ("RuleRunner", "machine", "LRuleRunner$Machine;", true)
  | _ => ("RuleRunner", "current", "LRuleRunner$Code;", false)
def t_Ru : Nat → FieldType := fun k => match k with
  | 0 => .object "RuleRunner$Tape"
  | 1 => .object "RuleRunner$Reader"
  | 2 => .object "RuleRunner$Machine"
  | _ => .object "RuleRunner$Code"
theorem nm_Ru : ∀ a, a < 4 → ∀ b, b < 4 → a ≠ b → (T_Ru a).2.1 ≠ (T_Ru b).2.1 := by decide +kernel
theorem ty_Ru : ∀ k, k < 4 → parseFieldDescriptor (T_Ru k).2.2.1 = some (t_Ru k) := by decide +kernel
def T_Mo : u_T := fun k => match k with
  | 0 => ("RuleRunnerModel", "tape", "[B", true)
  | 1 => ("RuleRunnerModel", "tapeMany", "I", false)
  | 2 => ("RuleRunnerModel", "latest", "[I", false)
  | 3 => ("RuleRunnerModel", "before", "[I", true)
  | 4 => ("RuleRunnerModel", "runs", "I", false)
  | 5 => ("RuleRunnerModel", "at", "I", false)
  | 6 => ("RuleRunnerModel", "size", "I", false)
  | 7 => ("RuleRunnerModel", "kind", "I", false)
  | 8 => ("RuleRunnerModel", "from", "I", false)
  | 9 => ("RuleRunnerModel", "to", "I", false)
  | 10 => ("RuleRunnerModel", "fault", "I", false)
  | 11 => ("RuleRunnerModel", "parts", "I", false)
  | 12 => ("RuleRunnerModel", "number", "J", false)
  | 13 => ("RuleRunnerModel", "code", "[I", true)
  | 14 => ("RuleRunnerModel", "many", "I", false)
  | 15 => ("RuleRunnerModel", "cells", "[I", true)
  | 16 => ("RuleRunnerModel", "stack", "[I", true)
  | 17 => ("RuleRunnerModel", "found", "[I", true)
  | 18 => ("RuleRunnerModel", "goal", "[I", true)
  | _ => ("RuleRunnerModel", "pc", "I", false)
def t_Mo : Nat → FieldType := fun k => match k with
  | 0 => .array .byte
  | 1 => .int
  | 2 => .array .int
  | 3 => .array .int
  | 4 => .int
  | 5 => .int
  | 6 => .int
  | 7 => .int
  | 8 => .int
  | 9 => .int
  | 10 => .int
  | 11 => .int
  | 12 => .long
  | 13 => .array .int
  | 14 => .int
  | 15 => .array .int
  | 16 => .array .int
  | 17 => .array .int
  | 18 => .array .int
  | _ => .int
theorem nm_Mo : ∀ a, a < 20 → ∀ b, b < 20 → a ≠ b → (T_Mo a).2.1 ≠ (T_Mo b).2.1 := by decide +kernel
theorem ty_Mo : ∀ k, k < 20 → parseFieldDescriptor (T_Mo k).2.2.1 = some (t_Mo k) := by decide +kernel
abbrev rr_cl : List vw_C := [(R_Co, T_Co, 5), (R_Ma, T_Ma, 11), (R_Re, T_Re, 4), (R_Ta, T_Ta, 2), (R_To, T_To, 4), (R_Ru, T_Ru, 4), (R_Mo, T_Mo, 20)]
def rr_ty : Nat → Nat → FieldType := fun ci => match ci with
  | 0 => t_Co
  | 1 => t_Ma
  | 2 => t_Re
  | 3 => t_Ta
  | 4 => t_To
  | 5 => t_Ru
  | _ => t_Mo
/-- the good words of the tables (they stay when the machine warms), and those of nest mates -/
def rr_ws : List Cond := lw_tbl.filter goodWord
def rr_isN : Cond → Bool
  | .fieldLinkNest _ _ _ _ _ _ => true
  | .methodLinkNest _ _ _ _ => true
  | _ => false
def rr_nw : List Cond := lw_tbl.filter rr_isN
theorem rr_inw {w : Cond} (i : Nat) (h : lw_tbl[i]? = some w) (hg : goodWord w = true) : w ∈ rr_ws := List.mem_filter.mpr ⟨List.mem_of_getElem? h, hg⟩
theorem rr_inn {w : Cond} (i : Nat) (h : lw_tbl[i]? = some w) (hg : rr_isN w = true) : w ∈ rr_nw := List.mem_filter.mpr ⟨List.mem_of_getElem? h, hg⟩
theorem wi_Co : ∀ w ∈ u_ws R_Co T_Co 5, w ∈ rr_ws := by
  have h : u_ws R_Co T_Co 5 = [131, 133, 135, 137, 139].filterMap (fun i => lw_tbl[i]?) := by decide +kernel
  have h2 : (u_ws R_Co T_Co 5).all goodWord = true := by decide +kernel
  intro w hw
  have hg := List.all_eq_true.mp h2 w hw
  rw [h] at hw
  obtain ⟨i, -, hi⟩ := List.mem_filterMap.mp hw
  exact rr_inw i hi hg
theorem wi_Ma : ∀ w ∈ u_ws R_Ma T_Ma 11, w ∈ rr_ws := by
  have h : u_ws R_Ma T_Ma 11 = [174, 176, 178, 180, 182, 184, 186, 188, 190, 192, 194].filterMap (fun i => lw_tbl[i]?) := by decide +kernel
  have h2 : (u_ws R_Ma T_Ma 11).all goodWord = true := by decide +kernel
  intro w hw
  have hg := List.all_eq_true.mp h2 w hw
  rw [h] at hw
  obtain ⟨i, -, hi⟩ := List.mem_filterMap.mp hw
  exact rr_inw i hi hg
theorem wi_Re : ∀ w ∈ u_ws R_Re T_Re 4, w ∈ rr_ws := by
  have h : u_ws R_Re T_Re 4 = [146, 148, 150, 152].filterMap (fun i => lw_tbl[i]?) := by decide +kernel
  have h2 : (u_ws R_Re T_Re 4).all goodWord = true := by decide +kernel
  intro w hw
  have hg := List.all_eq_true.mp h2 w hw
  rw [h] at hw
  obtain ⟨i, -, hi⟩ := List.mem_filterMap.mp hw
  exact rr_inw i hi hg
theorem wi_Ta : ∀ w ∈ u_ws R_Ta T_Ta 2, w ∈ rr_ws := by
  have h : u_ws R_Ta T_Ta 2 = [80, 82].filterMap (fun i => lw_tbl[i]?) := by decide +kernel
  have h2 : (u_ws R_Ta T_Ta 2).all goodWord = true := by decide +kernel
  intro w hw
  have hg := List.all_eq_true.mp h2 w hw
  rw [h] at hw
  obtain ⟨i, -, hi⟩ := List.mem_filterMap.mp hw
  exact rr_inw i hi hg
theorem wi_To : ∀ w ∈ u_ws R_To T_To 4, w ∈ rr_ws := by
  have h : u_ws R_To T_To 4 = [105, 107, 109, 111].filterMap (fun i => lw_tbl[i]?) := by decide +kernel
  have h2 : (u_ws R_To T_To 4).all goodWord = true := by decide +kernel
  intro w hw
  have hg := List.all_eq_true.mp h2 w hw
  rw [h] at hw
  obtain ⟨i, -, hi⟩ := List.mem_filterMap.mp hw
  exact rr_inw i hi hg
theorem wi_Ru : ∀ w ∈ u_ws R_Ru T_Ru 4, w ∈ rr_ws := by
  have h : u_ws R_Ru T_Ru 4 = [203, 205, 207, 209].filterMap (fun i => lw_tbl[i]?) := by decide +kernel
  have h2 : (u_ws R_Ru T_Ru 4).all goodWord = true := by decide +kernel
  intro w hw
  have hg := List.all_eq_true.mp h2 w hw
  rw [h] at hw
  obtain ⟨i, -, hi⟩ := List.mem_filterMap.mp hw
  exact rr_inw i hi hg
theorem wi_Mo : ∀ w ∈ u_ws R_Mo T_Mo 20, w ∈ rr_ws := by
  have h : u_ws R_Mo T_Mo 20 = [472, 474, 476, 478, 480, 482, 484, 486, 488, 490, 492, 494, 496, 498, 500, 502, 504, 506, 508, 510].filterMap (fun i => lw_tbl[i]?) := by decide +kernel
  have h2 : (u_ws R_Mo T_Mo 20).all goodWord = true := by decide +kernel
  intro w hw
  have hg := List.all_eq_true.mp h2 w hw
  rw [h] at hw
  obtain ⟨i, -, hi⟩ := List.mem_filterMap.mp hw
  exact rr_inw i hi hg
abbrev c_Ru_init : ByteArray := prog_1_method_1_code
def y_Ru_init : MethodName := ⟨R_Ru, "<init>", "()V"⟩
abbrev c_Ta_init : ByteArray := prog_5_method_1_code
def y_Ta_init : MethodName := ⟨R_Ta, "<init>", "()V"⟩
abbrev c_Re_init : ByteArray := prog_4_method_1_code
def y_Re_init : MethodName := ⟨R_Re, "<init>", "()V"⟩
abbrev c_To_init : ByteArray := prog_6_method_1_code
def y_To_init : MethodName := ⟨R_To, "<init>", "()V"⟩
abbrev c_Co_init : ByteArray := prog_2_method_1_code
def y_Co_init : MethodName := ⟨R_Co, "<init>", "()V"⟩
abbrev c_Ma_init : ByteArray := prog_3_method_1_code
def y_Ma_init : MethodName := ⟨R_Ma, "<init>", "()V"⟩
abbrev c_Ru_feed : ByteArray := prog_1_method_2_code
def y_Ru_feed : MethodName := ⟨R_Ru, "feed", "(IIIII)I"⟩
abbrev c_Ta_append : ByteArray := prog_5_method_2_code
def y_Ta_append : MethodName := ⟨R_Ta, "append", "(I)V"⟩
abbrev c_Ru_end : ByteArray := prog_1_method_3_code
def y_Ru_end : MethodName := ⟨R_Ru, "end", "(I)I"⟩
abbrev c_Ru_program : ByteArray := prog_1_method_4_code
def y_Ru_program : MethodName := ⟨R_Ru, "program", "()I"⟩
abbrev c_Re_read : ByteArray := prog_4_method_2_code
def y_Re_read : MethodName := ⟨R_Re, "read", "(LRuleRunner$Tape;)I"⟩
abbrev c_To_split : ByteArray := prog_6_method_2_code
def y_To_split : MethodName := ⟨R_To, "split", "(LRuleRunner$Tape;)V"⟩
abbrev c_To_splitOne : ByteArray := prog_6_method_3_code
def y_To_splitOne : MethodName := ⟨R_To, "splitOne", "(LRuleRunner$Tape;I)I"⟩
abbrev c_To_isLetter : ByteArray := prog_6_method_7_code
def y_To_isLetter : MethodName := ⟨R_To, "isLetter", "(I)Z"⟩
abbrev c_To_splitWord : ByteArray := prog_6_method_4_code
def y_To_splitWord : MethodName := ⟨R_To, "splitWord", "(LRuleRunner$Tape;I)I"⟩
abbrev c_To_wordKind : ByteArray := prog_6_method_9_code
def y_To_wordKind : MethodName := ⟨R_To, "wordKind", "(LRuleRunner$Tape;II)I"⟩
abbrev c_Ta_spells : ByteArray := prog_5_method_3_code
def y_Ta_spells : MethodName := ⟨R_Ta, "spells", "(Ljava/lang/String;II)Z"⟩
abbrev c_St_length : ByteArray := prog_11_method_54_code
def y_St_length : MethodName := ⟨R_St, "length", "()I"⟩
abbrev c_St_coder : ByteArray := prog_11_method_152_code
def y_St_coder : MethodName := ⟨R_St, "coder", "()B"⟩
abbrev c_St_charAt : ByteArray := prog_11_method_56_code
def y_St_charAt : MethodName := ⟨R_St, "charAt", "(I)C"⟩
abbrev c_St_isLatin1 : ByteArray := prog_11_method_154_code
def y_St_isLatin1 : MethodName := ⟨R_St, "isLatin1", "()Z"⟩
abbrev c_Sl_charAt : ByteArray := prog_12_method_2_code
def y_Sl_charAt : MethodName := ⟨R_Sl, "charAt", "([BI)C"⟩
abbrev c_St_checkIndex : ByteArray := prog_11_method_155_code
def y_St_checkIndex : MethodName := ⟨R_St, "checkIndex", "(II)V"⟩
abbrev c_Pr_checkIndex : ByteArray := prog_16_method_11_code
def y_Pr_checkIndex : MethodName := ⟨R_Pr, "checkIndex", "(IILjava/util/function/BiFunction;)I"⟩
abbrev c_To_add : ByteArray := prog_6_method_6_code
def y_To_add : MethodName := ⟨R_To, "add", "(III)V"⟩
abbrev c_To_isDigit : ByteArray := prog_6_method_8_code
def y_To_isDigit : MethodName := ⟨R_To, "isDigit", "(I)Z"⟩
abbrev c_To_splitNumber : ByteArray := prog_6_method_5_code
def y_To_splitNumber : MethodName := ⟨R_To, "splitNumber", "(LRuleRunner$Tape;I)I"⟩
abbrev c_Mt_minJ : ByteArray := prog_10_method_70_code
def y_Mt_minJ : MethodName := ⟨R_Mt, "min", "(JJ)J"⟩
abbrev c_To_signKind : ByteArray := prog_6_method_10_code
def y_To_signKind : MethodName := ⟨R_To, "signKind", "(I)I"⟩
abbrev c_Co_clear : ByteArray := prog_2_method_2_code
def y_Co_clear : MethodName := ⟨R_Co, "clear", "()V"⟩
abbrev c_Re_readRule : ByteArray := prog_4_method_4_code
def y_Re_readRule : MethodName := ⟨R_Re, "readRule", "()Z"⟩
abbrev c_Re_pass : ByteArray := prog_4_method_12_code
def y_Re_pass : MethodName := ⟨R_Re, "pass", "(I)Z"⟩
abbrev c_Re_readTest : ByteArray := prog_4_method_5_code
def y_Re_readTest : MethodName := ⟨R_Re, "readTest", "()Z"⟩
abbrev c_Re_readSum : ByteArray := prog_4_method_7_code
def y_Re_readSum : MethodName := ⟨R_Re, "readSum", "(I)Z"⟩
abbrev c_Re_readTerm : ByteArray := prog_4_method_8_code
def y_Re_readTerm : MethodName := ⟨R_Re, "readTerm", "(I)Z"⟩
abbrev c_Re_readPart : ByteArray := prog_4_method_9_code
def y_Re_readPart : MethodName := ⟨R_Re, "readPart", "(I)Z"⟩
abbrev c_Re_looksAt : ByteArray := prog_4_method_10_code
def y_Re_looksAt : MethodName := ⟨R_Re, "looksAt", "(I)Z"⟩
abbrev c_Re_looksAtCellNumber : ByteArray := prog_4_method_11_code
def y_Re_looksAtCellNumber : MethodName := ⟨R_Re, "looksAtCellNumber", "()Z"⟩
abbrev c_Co_add : ByteArray := prog_2_method_3_code
def y_Co_add : MethodName := ⟨R_Co, "add", "(II)V"⟩
abbrev c_Re_readEffect : ByteArray := prog_4_method_6_code
def y_Re_readEffect : MethodName := ⟨R_Re, "readEffect", "()Z"⟩
abbrev c_Co_closeRule : ByteArray := prog_2_method_4_code
def y_Co_closeRule : MethodName := ⟨R_Co, "closeRule", "()V"⟩
abbrev c_Re_exchange : ByteArray := prog_4_method_3_code
def y_Re_exchange : MethodName := ⟨R_Re, "exchange", "(LRuleRunner$Code;)LRuleRunner$Code;"⟩
abbrev c_Ru_run : ByteArray := prog_1_method_5_code
def y_Ru_run : MethodName := ⟨R_Ru, "run", "(II)I"⟩
abbrev c_Ma_perform : ByteArray := prog_3_method_2_code
def y_Ma_perform : MethodName := ⟨R_Ma, "perform", "(LRuleRunner$Code;II)I"⟩
abbrev c_Ma_isTaken : ByteArray := prog_3_method_3_code
def y_Ma_isTaken : MethodName := ⟨R_Ma, "isTaken", "(LRuleRunner$Code;IIII)Z"⟩
abbrev c_Ma_push : ByteArray := prog_3_method_6_code
def y_Ma_push : MethodName := ⟨R_Ma, "push", "(I)V"⟩
abbrev c_Ma_pop : ByteArray := prog_3_method_7_code
def y_Ma_pop : MethodName := ⟨R_Ma, "pop", "()I"⟩
abbrev c_Ma_addEffect : ByteArray := prog_3_method_8_code
def y_Ma_addEffect : MethodName := ⟨R_Ma, "addEffect", "(II)V"⟩
abbrev c_Ma_calculate : ByteArray := prog_3_method_4_code
def y_Ma_calculate : MethodName := ⟨R_Ma, "calculate", "(I)V"⟩
abbrev c_Ma_holds : ByteArray := prog_3_method_5_code
def y_Ma_holds : MethodName := ⟨R_Ma, "holds", "(I)Z"⟩
abbrev c_Ma_applyEffects : ByteArray := prog_3_method_9_code
def y_Ma_applyEffects : MethodName := ⟨R_Ma, "applyEffects", "()V"⟩
abbrev c_Ma_change : ByteArray := prog_3_method_10_code
def y_Ma_change : MethodName := ⟨R_Ma, "change", "(II)V"⟩
abbrev c_Ru_isCell : ByteArray := prog_1_method_10_code
def y_Ru_isCell : MethodName := ⟨R_Ru, "isCell", "(I)Z"⟩
abbrev c_Ru_undo : ByteArray := prog_1_method_6_code
def y_Ru_undo : MethodName := ⟨R_Ru, "undo", "()I"⟩
abbrev c_Ma_takeBack : ByteArray := prog_3_method_11_code
def y_Ma_takeBack : MethodName := ⟨R_Ma, "takeBack", "()I"⟩
abbrev c_Ru_cell : ByteArray := prog_1_method_7_code
def y_Ru_cell : MethodName := ⟨R_Ru, "cell", "(I)J"⟩
abbrev c_Ru_set : ByteArray := prog_1_method_8_code
def y_Ru_set : MethodName := ⟨R_Ru, "set", "(II)I"⟩
abbrev c_Ru_count : ByteArray := prog_1_method_9_code
def y_Ru_count : MethodName := ⟨R_Ru, "count", "(I)I"⟩
abbrev c_Mo_init : ByteArray := prog_8_method_2_code
def y_Mo_init : MethodName := ⟨R_Mo, "<init>", "()V"⟩
abbrev c_Mo_feed : ByteArray := prog_8_method_3_code
def y_Mo_feed : MethodName := ⟨R_Mo, "feed", "(IIIII)I"⟩
abbrev c_Mo_end : ByteArray := prog_8_method_4_code
def y_Mo_end : MethodName := ⟨R_Mo, "end", "(I)I"⟩
abbrev c_Mo_in : ByteArray := prog_8_method_1_code
def y_Mo_in : MethodName := ⟨R_Mo, "in", "(III)Z"⟩
abbrev c_Mo_program : ByteArray := prog_8_method_12_code
def y_Mo_program : MethodName := ⟨R_Mo, "program", "()I"⟩
abbrev c_Mo_step : ByteArray := prog_8_method_7_code
def y_Mo_step : MethodName := ⟨R_Mo, "step", "()V"⟩
abbrev c_Mo_isLetter : ByteArray := prog_8_method_5_code
def y_Mo_isLetter : MethodName := ⟨R_Mo, "isLetter", "(I)Z"⟩
abbrev c_Mo_is : ByteArray := prog_8_method_8_code
def y_Mo_is : MethodName := ⟨R_Mo, "is", "(Ljava/lang/String;)Z"⟩
abbrev c_Mo_isDigit : ByteArray := prog_8_method_6_code
def y_Mo_isDigit : MethodName := ⟨R_Mo, "isDigit", "(I)Z"⟩
abbrev c_Mo_rule : ByteArray := prog_8_method_13_code
def y_Mo_rule : MethodName := ⟨R_Mo, "rule", "()Z"⟩
abbrev c_Mo_bad : ByteArray := prog_8_method_9_code
def y_Mo_bad : MethodName := ⟨R_Mo, "bad", "()Z"⟩
abbrev c_Mo_put : ByteArray := prog_8_method_11_code
def y_Mo_put : MethodName := ⟨R_Mo, "put", "(I)V"⟩
abbrev c_Mo_compare : ByteArray := prog_8_method_15_code
def y_Mo_compare : MethodName := ⟨R_Mo, "compare", "()Z"⟩
abbrev c_Mo_whole : ByteArray := prog_8_method_16_code
def y_Mo_whole : MethodName := ⟨R_Mo, "whole", "()Z"⟩
abbrev c_Mo_sum : ByteArray := prog_8_method_17_code
def y_Mo_sum : MethodName := ⟨R_Mo, "sum", "(I)Z"⟩
abbrev c_Mo_term : ByteArray := prog_8_method_18_code
def y_Mo_term : MethodName := ⟨R_Mo, "term", "(I)Z"⟩
abbrev c_Mo_part : ByteArray := prog_8_method_19_code
def y_Mo_part : MethodName := ⟨R_Mo, "part", "(I)Z"⟩
abbrev c_Mo_take : ByteArray := prog_8_method_10_code
def y_Mo_take : MethodName := ⟨R_Mo, "take", "(Ljava/lang/String;)Z"⟩
abbrev c_Mo_cellZ : ByteArray := prog_8_method_14_code
def y_Mo_cellZ : MethodName := ⟨R_Mo, "cell", "()Z"⟩
abbrev c_Ar_copyOf : ByteArray := prog_15_method_123_code
def y_Ar_copyOf : MethodName := ⟨R_Ar, "copyOf", "([II)[I"⟩
abbrev c_Mt_min : ByteArray := prog_10_method_69_code
def y_Mt_min : MethodName := ⟨R_Mt, "min", "(II)I"⟩
abbrev c_Mo_run : ByteArray := prog_8_method_23_code
def y_Mo_run : MethodName := ⟨R_Mo, "run", "(II)I"⟩
abbrev c_Mo_perform : ByteArray := prog_8_method_22_code
def y_Mo_perform : MethodName := ⟨R_Mo, "perform", "(II)I"⟩
abbrev c_Mo_holds : ByteArray := prog_8_method_21_code
def y_Mo_holds : MethodName := ⟨R_Mo, "holds", "(II)Z"⟩
abbrev c_Mo_value : ByteArray := prog_8_method_20_code
def y_Mo_value : MethodName := ⟨R_Mo, "value", "(II)I"⟩
abbrev c_Mo_undo : ByteArray := prog_8_method_24_code
def y_Mo_undo : MethodName := ⟨R_Mo, "undo", "()I"⟩
abbrev c_Mo_cell : ByteArray := prog_8_method_25_code
def y_Mo_cell : MethodName := ⟨R_Mo, "cell", "(I)J"⟩
abbrev c_Mo_set : ByteArray := prog_8_method_26_code
def y_Mo_set : MethodName := ⟨R_Mo, "set", "(II)I"⟩
abbrev c_Mo_count : ByteArray := prog_8_method_27_code
def y_Mo_count : MethodName := ⟨R_Mo, "count", "(I)I"⟩
/-- the texts, by their places: 0 if 1 then 2 else 3 and 4 server 5 stamp 6 c 7 ( 8 ) 9 * 10 + 11 - 12 = 13 # 14 < 15 > 16 := 17 , -/
def rr_nS : Nat := 18
def rr_len : List Nat := [2, 4, 4, 3, 6, 5, 1, 1, 1, 1, 1, 1, 1, 1, 1, 1, 2, 1]
def rr_byt : List (List Int32) := [[105, 102], [116, 104, 101, 110], [101, 108, 115, 101], [97, 110, 100], [115, 101, 114, 118, 101, 114], [115, 116, 97, 109, 112], [99], [40], [41], [42], [43], [45], [61], [35], [60], [62], [58, 61], [44]]
def rr_str : List (String × Nat × String × Nat) := [(R_To, 75, "c", 6), (R_To, 81, "if", 0), (R_To, 83, "then", 1), (R_To, 85, "else", 2), (R_To, 87, "and", 3), (R_To, 89, "server", 4), (R_To, 91, "stamp", 5), (R_Mo, 59, "if", 0), (R_Mo, 65, "then", 1), (R_Mo, 67, "else", 2), (R_Mo, 69, "and", 3), (R_Mo, 71, "server", 4), (R_Mo, 73, "stamp", 5), (R_Mo, 75, "c", 6), (R_Mo, 183, "(", 7), (R_Mo, 185, ")", 8), (R_Mo, 181, "*", 9), (R_Mo, 174, "+", 10), (R_Mo, 176, "-", 11), (R_Mo, 160, "=", 12), (R_Mo, 162, "#", 13), (R_Mo, 164, "<", 14), (R_Mo, 166, ">", 15), (R_Mo, 151, ":=", 16), (R_Mo, 156, ",", 17)]
theorem rr_wI : Cond.arrayClass .int ∈ rr_ws := rr_inw 114 (by decide +kernel) (by decide +kernel)
theorem rr_wB : Cond.arrayClass .byte ∈ rr_ws := rr_inw 85 (by decide +kernel) (by decide +kernel)
theorem rr_wO1 : Cond.instanceMethod objectInit ∈ rr_ws := rr_inw 67 (by decide +kernel) (by decide +kernel)
theorem rr_wO2 : Cond.code objectInit ⟨#[0xb1]⟩ 1 none ∈ rr_ws := rr_inw 68 (by decide +kernel) (by decide +kernel)
/-- links: a field, a new object, a method by its entry in a class -/
def rr_plain : Value → Bool
  | .ref _ => false
  | _ => true
def rr_FL (own : String) (idx ci k : Nat) : Prop := ∃ (C : String) (T : u_T) (N : Nat), rr_cl[ci]? = some (C, T, N) ∧ k < N ∧ (Cond.fieldLink own idx (T k).1 (T k).2.1 (T k).2.2.1 ∈ rr_ws ∨ ∃ host, Cond.fieldLinkNest own idx (T k).1 (T k).2.1 (T k).2.2.1 host ∈ rr_nw)
def rr_NL (own : String) (idx ci : Nat) (fs : List Value) : Prop := ∃ (C : String) (T : u_T), rr_cl[ci]? = some (C, T, fs.length) ∧ Cond.classLink own idx C ∈ rr_ws ∧ Cond.instantiable C fs.length ∈ rr_ws ∧ Cond.initialized C ∈ rr_ws ∧ (∀ j, j < fs.length → defaultValue (rr_ty ci j) = vp_V fs j) ∧ fs.all rr_plain = true
def rr_pc (y : MethodName) (n : Nat) : Prop := y.cls ≠ "java/lang/invoke/MethodHandle" ∧ y.cls ≠ "java/lang/invoke/VarHandle" ∧ (parseMethodDescriptor y.desc).map (fun d => d.parameters.length) = some n
def rr_lk (own : String) (idx : Nat) (y : MethodName) : Prop := Cond.methodLink own idx y ∈ rr_ws ∨ ∃ host, Cond.methodLinkNest own idx y host ∈ rr_nw
def rr_LV (own : String) (idx : Nat) (y : MethodName) (n : Nat) : Prop := rr_lk own idx y ∧ Cond.instanceMethod y ∈ rr_ws ∧ Cond.selects y.cls y y ∈ rr_ws ∧ Cond.initialized y.cls ∈ rr_ws ∧ rr_pc y n
def rr_LS (own : String) (idx : Nat) (y : MethodName) (n : Nat) : Prop := rr_lk own idx y ∧ Cond.static y ∈ rr_ws ∧ Cond.initialized y.cls ∈ rr_ws ∧ rr_pc y n
def rr_LI (own : String) (idx : Nat) (y : MethodName) (n : Nat) : Prop := rr_lk own idx y ∧ Cond.instanceMethod y ∈ rr_ws ∧ y.name = "<init>" ∧ Cond.initialized y.cls ∈ rr_ws ∧ rr_pc y n
-- ===== end of names =====
