section
-- ===== PART A: goes FIRST, ahead of the names: the tables' words, and 'selects' of the private methods out of them =====
/-- a private method of a class that the tables say can be made, by its rows of tables_1 -/
def lw_okq (q : MethodName × Nat) : Prop := (q.1.cls ≠ "java/lang/invoke/MethodHandle" ∧ q.1.cls ≠ "java/lang/invoke/VarHandle") ∧ Cond.instantiable q.1.cls q.2 ∈ tables_1 ∧ Cond.privateMethod q.1 ∈ tables_1 ∧ Cond.instanceMethod q.1 ∈ tables_1
theorem lw_p0 : lw_okq (⟨"RuleRunner$Tape", "append", "(I)V"⟩, 2) := ⟨⟨by decide +kernel, by decide +kernel⟩, List.mem_of_getElem? (i := 24) (by decide +kernel), List.mem_of_getElem? (i := 171) (by decide +kernel), List.mem_of_getElem? (i := 172) (by decide +kernel)⟩
theorem lw_p1 : lw_okq (⟨"RuleRunner$Reader", "read", "(LRuleRunner$Tape;)I"⟩, 4) := ⟨⟨by decide +kernel, by decide +kernel⟩, List.mem_of_getElem? (i := 41) (by decide +kernel), List.mem_of_getElem? (i := 183) (by decide +kernel), List.mem_of_getElem? (i := 184) (by decide +kernel)⟩
theorem lw_p2 : lw_okq (⟨"RuleRunner$Tokens", "split", "(LRuleRunner$Tape;)V"⟩, 4) := ⟨⟨by decide +kernel, by decide +kernel⟩, List.mem_of_getElem? (i := 47) (by decide +kernel), List.mem_of_getElem? (i := 187) (by decide +kernel), List.mem_of_getElem? (i := 188) (by decide +kernel)⟩
theorem lw_p3 : lw_okq (⟨"RuleRunner$Tokens", "splitOne", "(LRuleRunner$Tape;I)I"⟩, 4) := ⟨⟨by decide +kernel, by decide +kernel⟩, List.mem_of_getElem? (i := 47) (by decide +kernel), List.mem_of_getElem? (i := 191) (by decide +kernel), List.mem_of_getElem? (i := 192) (by decide +kernel)⟩
theorem lw_p4 : lw_okq (⟨"RuleRunner$Tokens", "splitWord", "(LRuleRunner$Tape;I)I"⟩, 4) := ⟨⟨by decide +kernel, by decide +kernel⟩, List.mem_of_getElem? (i := 47) (by decide +kernel), List.mem_of_getElem? (i := 198) (by decide +kernel), List.mem_of_getElem? (i := 199) (by decide +kernel)⟩
theorem lw_p5 : lw_okq (⟨"RuleRunner$Tape", "spells", "(Ljava/lang/String;II)Z"⟩, 2) := ⟨⟨by decide +kernel, by decide +kernel⟩, List.mem_of_getElem? (i := 24) (by decide +kernel), List.mem_of_getElem? (i := 206) (by decide +kernel), List.mem_of_getElem? (i := 207) (by decide +kernel)⟩
theorem lw_p6 : lw_okq (⟨"RuleRunner$Tokens", "add", "(III)V"⟩, 4) := ⟨⟨by decide +kernel, by decide +kernel⟩, List.mem_of_getElem? (i := 47) (by decide +kernel), List.mem_of_getElem? (i := 264) (by decide +kernel), List.mem_of_getElem? (i := 265) (by decide +kernel)⟩
theorem lw_p7 : lw_okq (⟨"RuleRunner$Tokens", "splitNumber", "(LRuleRunner$Tape;I)I"⟩, 4) := ⟨⟨by decide +kernel, by decide +kernel⟩, List.mem_of_getElem? (i := 47) (by decide +kernel), List.mem_of_getElem? (i := 271) (by decide +kernel), List.mem_of_getElem? (i := 272) (by decide +kernel)⟩
theorem lw_p8 : lw_okq (⟨"RuleRunner$Code", "clear", "()V"⟩, 5) := ⟨⟨by decide +kernel, by decide +kernel⟩, List.mem_of_getElem? (i := 70) (by decide +kernel), List.mem_of_getElem? (i := 284) (by decide +kernel), List.mem_of_getElem? (i := 285) (by decide +kernel)⟩
theorem lw_p9 : lw_okq (⟨"RuleRunner$Reader", "readRule", "()Z"⟩, 4) := ⟨⟨by decide +kernel, by decide +kernel⟩, List.mem_of_getElem? (i := 41) (by decide +kernel), List.mem_of_getElem? (i := 288) (by decide +kernel), List.mem_of_getElem? (i := 289) (by decide +kernel)⟩
theorem lw_p10 : lw_okq (⟨"RuleRunner$Reader", "pass", "(I)Z"⟩, 4) := ⟨⟨by decide +kernel, by decide +kernel⟩, List.mem_of_getElem? (i := 41) (by decide +kernel), List.mem_of_getElem? (i := 292) (by decide +kernel), List.mem_of_getElem? (i := 293) (by decide +kernel)⟩
theorem lw_p11 : lw_okq (⟨"RuleRunner$Reader", "readTest", "()Z"⟩, 4) := ⟨⟨by decide +kernel, by decide +kernel⟩, List.mem_of_getElem? (i := 41) (by decide +kernel), List.mem_of_getElem? (i := 296) (by decide +kernel), List.mem_of_getElem? (i := 297) (by decide +kernel)⟩
theorem lw_p12 : lw_okq (⟨"RuleRunner$Reader", "readSum", "(I)Z"⟩, 4) := ⟨⟨by decide +kernel, by decide +kernel⟩, List.mem_of_getElem? (i := 41) (by decide +kernel), List.mem_of_getElem? (i := 300) (by decide +kernel), List.mem_of_getElem? (i := 301) (by decide +kernel)⟩
theorem lw_p13 : lw_okq (⟨"RuleRunner$Reader", "readTerm", "(I)Z"⟩, 4) := ⟨⟨by decide +kernel, by decide +kernel⟩, List.mem_of_getElem? (i := 41) (by decide +kernel), List.mem_of_getElem? (i := 304) (by decide +kernel), List.mem_of_getElem? (i := 305) (by decide +kernel)⟩
theorem lw_p14 : lw_okq (⟨"RuleRunner$Reader", "readPart", "(I)Z"⟩, 4) := ⟨⟨by decide +kernel, by decide +kernel⟩, List.mem_of_getElem? (i := 41) (by decide +kernel), List.mem_of_getElem? (i := 308) (by decide +kernel), List.mem_of_getElem? (i := 309) (by decide +kernel)⟩
theorem lw_p15 : lw_okq (⟨"RuleRunner$Reader", "looksAt", "(I)Z"⟩, 4) := ⟨⟨by decide +kernel, by decide +kernel⟩, List.mem_of_getElem? (i := 41) (by decide +kernel), List.mem_of_getElem? (i := 312) (by decide +kernel), List.mem_of_getElem? (i := 313) (by decide +kernel)⟩
def lw_privs_1 : List (MethodName × Nat) := [(⟨"RuleRunner$Tape", "append", "(I)V"⟩, 2), (⟨"RuleRunner$Reader", "read", "(LRuleRunner$Tape;)I"⟩, 4), (⟨"RuleRunner$Tokens", "split", "(LRuleRunner$Tape;)V"⟩, 4), (⟨"RuleRunner$Tokens", "splitOne", "(LRuleRunner$Tape;I)I"⟩, 4), (⟨"RuleRunner$Tokens", "splitWord", "(LRuleRunner$Tape;I)I"⟩, 4), (⟨"RuleRunner$Tape", "spells", "(Ljava/lang/String;II)Z"⟩, 2), (⟨"RuleRunner$Tokens", "add", "(III)V"⟩, 4), (⟨"RuleRunner$Tokens", "splitNumber", "(LRuleRunner$Tape;I)I"⟩, 4), (⟨"RuleRunner$Code", "clear", "()V"⟩, 5), (⟨"RuleRunner$Reader", "readRule", "()Z"⟩, 4), (⟨"RuleRunner$Reader", "pass", "(I)Z"⟩, 4), (⟨"RuleRunner$Reader", "readTest", "()Z"⟩, 4), (⟨"RuleRunner$Reader", "readSum", "(I)Z"⟩, 4), (⟨"RuleRunner$Reader", "readTerm", "(I)Z"⟩, 4), (⟨"RuleRunner$Reader", "readPart", "(I)Z"⟩, 4), (⟨"RuleRunner$Reader", "looksAt", "(I)Z"⟩, 4)]
theorem lw_r1 : ∀ q ∈ lw_privs_1, lw_okq q := List.forall_mem_cons.mpr ⟨lw_p0, List.forall_mem_cons.mpr ⟨lw_p1, List.forall_mem_cons.mpr ⟨lw_p2, List.forall_mem_cons.mpr ⟨lw_p3, List.forall_mem_cons.mpr ⟨lw_p4, List.forall_mem_cons.mpr ⟨lw_p5, List.forall_mem_cons.mpr ⟨lw_p6, List.forall_mem_cons.mpr ⟨lw_p7, List.forall_mem_cons.mpr ⟨lw_p8, List.forall_mem_cons.mpr ⟨lw_p9, List.forall_mem_cons.mpr ⟨lw_p10, List.forall_mem_cons.mpr ⟨lw_p11, List.forall_mem_cons.mpr ⟨lw_p12, List.forall_mem_cons.mpr ⟨lw_p13, List.forall_mem_cons.mpr ⟨lw_p14, List.forall_mem_cons.mpr ⟨lw_p15, fun _ h => absurd h List.not_mem_nil⟩⟩⟩⟩⟩⟩⟩⟩⟩⟩⟩⟩⟩⟩⟩⟩
theorem lw_p16 : lw_okq (⟨"RuleRunner$Reader", "looksAtCellNumber", "()Z"⟩, 4) := ⟨⟨by decide +kernel, by decide +kernel⟩, List.mem_of_getElem? (i := 41) (by decide +kernel), List.mem_of_getElem? (i := 316) (by decide +kernel), List.mem_of_getElem? (i := 317) (by decide +kernel)⟩
theorem lw_p17 : lw_okq (⟨"RuleRunner$Code", "add", "(II)V"⟩, 5) := ⟨⟨by decide +kernel, by decide +kernel⟩, List.mem_of_getElem? (i := 70) (by decide +kernel), List.mem_of_getElem? (i := 320) (by decide +kernel), List.mem_of_getElem? (i := 321) (by decide +kernel)⟩
theorem lw_p18 : lw_okq (⟨"RuleRunner$Reader", "readEffect", "()Z"⟩, 4) := ⟨⟨by decide +kernel, by decide +kernel⟩, List.mem_of_getElem? (i := 41) (by decide +kernel), List.mem_of_getElem? (i := 324) (by decide +kernel), List.mem_of_getElem? (i := 325) (by decide +kernel)⟩
theorem lw_p19 : lw_okq (⟨"RuleRunner$Code", "closeRule", "()V"⟩, 5) := ⟨⟨by decide +kernel, by decide +kernel⟩, List.mem_of_getElem? (i := 70) (by decide +kernel), List.mem_of_getElem? (i := 328) (by decide +kernel), List.mem_of_getElem? (i := 329) (by decide +kernel)⟩
theorem lw_p20 : lw_okq (⟨"RuleRunner$Reader", "exchange", "(LRuleRunner$Code;)LRuleRunner$Code;"⟩, 4) := ⟨⟨by decide +kernel, by decide +kernel⟩, List.mem_of_getElem? (i := 41) (by decide +kernel), List.mem_of_getElem? (i := 332) (by decide +kernel), List.mem_of_getElem? (i := 333) (by decide +kernel)⟩
theorem lw_p21 : lw_okq (⟨"RuleRunner$Machine", "perform", "(LRuleRunner$Code;II)I"⟩, 11) := ⟨⟨by decide +kernel, by decide +kernel⟩, List.mem_of_getElem? (i := 110) (by decide +kernel), List.mem_of_getElem? (i := 340) (by decide +kernel), List.mem_of_getElem? (i := 341) (by decide +kernel)⟩
theorem lw_p22 : lw_okq (⟨"RuleRunner$Machine", "isTaken", "(LRuleRunner$Code;IIII)Z"⟩, 11) := ⟨⟨by decide +kernel, by decide +kernel⟩, List.mem_of_getElem? (i := 110) (by decide +kernel), List.mem_of_getElem? (i := 344) (by decide +kernel), List.mem_of_getElem? (i := 345) (by decide +kernel)⟩
theorem lw_p23 : lw_okq (⟨"RuleRunner$Machine", "push", "(I)V"⟩, 11) := ⟨⟨by decide +kernel, by decide +kernel⟩, List.mem_of_getElem? (i := 110) (by decide +kernel), List.mem_of_getElem? (i := 348) (by decide +kernel), List.mem_of_getElem? (i := 349) (by decide +kernel)⟩
theorem lw_p24 : lw_okq (⟨"RuleRunner$Machine", "pop", "()I"⟩, 11) := ⟨⟨by decide +kernel, by decide +kernel⟩, List.mem_of_getElem? (i := 110) (by decide +kernel), List.mem_of_getElem? (i := 352) (by decide +kernel), List.mem_of_getElem? (i := 353) (by decide +kernel)⟩
theorem lw_p25 : lw_okq (⟨"RuleRunner$Machine", "addEffect", "(II)V"⟩, 11) := ⟨⟨by decide +kernel, by decide +kernel⟩, List.mem_of_getElem? (i := 110) (by decide +kernel), List.mem_of_getElem? (i := 356) (by decide +kernel), List.mem_of_getElem? (i := 357) (by decide +kernel)⟩
theorem lw_p26 : lw_okq (⟨"RuleRunner$Machine", "calculate", "(I)V"⟩, 11) := ⟨⟨by decide +kernel, by decide +kernel⟩, List.mem_of_getElem? (i := 110) (by decide +kernel), List.mem_of_getElem? (i := 360) (by decide +kernel), List.mem_of_getElem? (i := 361) (by decide +kernel)⟩
theorem lw_p27 : lw_okq (⟨"RuleRunner$Machine", "holds", "(I)Z"⟩, 11) := ⟨⟨by decide +kernel, by decide +kernel⟩, List.mem_of_getElem? (i := 110) (by decide +kernel), List.mem_of_getElem? (i := 364) (by decide +kernel), List.mem_of_getElem? (i := 365) (by decide +kernel)⟩
theorem lw_p28 : lw_okq (⟨"RuleRunner$Machine", "applyEffects", "()V"⟩, 11) := ⟨⟨by decide +kernel, by decide +kernel⟩, List.mem_of_getElem? (i := 110) (by decide +kernel), List.mem_of_getElem? (i := 368) (by decide +kernel), List.mem_of_getElem? (i := 369) (by decide +kernel)⟩
theorem lw_p29 : lw_okq (⟨"RuleRunner$Machine", "change", "(II)V"⟩, 11) := ⟨⟨by decide +kernel, by decide +kernel⟩, List.mem_of_getElem? (i := 110) (by decide +kernel), List.mem_of_getElem? (i := 372) (by decide +kernel), List.mem_of_getElem? (i := 373) (by decide +kernel)⟩
theorem lw_p30 : lw_okq (⟨"RuleRunner$Machine", "takeBack", "()I"⟩, 11) := ⟨⟨by decide +kernel, by decide +kernel⟩, List.mem_of_getElem? (i := 110) (by decide +kernel), List.mem_of_getElem? (i := 383) (by decide +kernel), List.mem_of_getElem? (i := 384) (by decide +kernel)⟩
theorem lw_p31 : lw_okq (⟨"RuleRunnerModel", "step", "()V"⟩, 20) := ⟨⟨by decide +kernel, by decide +kernel⟩, List.mem_of_getElem? (i := 401) (by decide +kernel), List.mem_of_getElem? (i := 483) (by decide +kernel), List.mem_of_getElem? (i := 484) (by decide +kernel)⟩
def lw_privs_2 : List (MethodName × Nat) := [(⟨"RuleRunner$Reader", "looksAtCellNumber", "()Z"⟩, 4), (⟨"RuleRunner$Code", "add", "(II)V"⟩, 5), (⟨"RuleRunner$Reader", "readEffect", "()Z"⟩, 4), (⟨"RuleRunner$Code", "closeRule", "()V"⟩, 5), (⟨"RuleRunner$Reader", "exchange", "(LRuleRunner$Code;)LRuleRunner$Code;"⟩, 4), (⟨"RuleRunner$Machine", "perform", "(LRuleRunner$Code;II)I"⟩, 11), (⟨"RuleRunner$Machine", "isTaken", "(LRuleRunner$Code;IIII)Z"⟩, 11), (⟨"RuleRunner$Machine", "push", "(I)V"⟩, 11), (⟨"RuleRunner$Machine", "pop", "()I"⟩, 11), (⟨"RuleRunner$Machine", "addEffect", "(II)V"⟩, 11), (⟨"RuleRunner$Machine", "calculate", "(I)V"⟩, 11), (⟨"RuleRunner$Machine", "holds", "(I)Z"⟩, 11), (⟨"RuleRunner$Machine", "applyEffects", "()V"⟩, 11), (⟨"RuleRunner$Machine", "change", "(II)V"⟩, 11), (⟨"RuleRunner$Machine", "takeBack", "()I"⟩, 11), (⟨"RuleRunnerModel", "step", "()V"⟩, 20)]
theorem lw_r2 : ∀ q ∈ lw_privs_2, lw_okq q := List.forall_mem_cons.mpr ⟨lw_p16, List.forall_mem_cons.mpr ⟨lw_p17, List.forall_mem_cons.mpr ⟨lw_p18, List.forall_mem_cons.mpr ⟨lw_p19, List.forall_mem_cons.mpr ⟨lw_p20, List.forall_mem_cons.mpr ⟨lw_p21, List.forall_mem_cons.mpr ⟨lw_p22, List.forall_mem_cons.mpr ⟨lw_p23, List.forall_mem_cons.mpr ⟨lw_p24, List.forall_mem_cons.mpr ⟨lw_p25, List.forall_mem_cons.mpr ⟨lw_p26, List.forall_mem_cons.mpr ⟨lw_p27, List.forall_mem_cons.mpr ⟨lw_p28, List.forall_mem_cons.mpr ⟨lw_p29, List.forall_mem_cons.mpr ⟨lw_p30, List.forall_mem_cons.mpr ⟨lw_p31, fun _ h => absurd h List.not_mem_nil⟩⟩⟩⟩⟩⟩⟩⟩⟩⟩⟩⟩⟩⟩⟩⟩
theorem lw_p32 : lw_okq (⟨"RuleRunnerModel", "is", "(Ljava/lang/String;)Z"⟩, 20) := ⟨⟨by decide +kernel, by decide +kernel⟩, List.mem_of_getElem? (i := 401) (by decide +kernel), List.mem_of_getElem? (i := 491) (by decide +kernel), List.mem_of_getElem? (i := 492) (by decide +kernel)⟩
theorem lw_p33 : lw_okq (⟨"RuleRunnerModel", "rule", "()Z"⟩, 20) := ⟨⟨by decide +kernel, by decide +kernel⟩, List.mem_of_getElem? (i := 401) (by decide +kernel), List.mem_of_getElem? (i := 511) (by decide +kernel), List.mem_of_getElem? (i := 512) (by decide +kernel)⟩
theorem lw_p34 : lw_okq (⟨"RuleRunnerModel", "bad", "()Z"⟩, 20) := ⟨⟨by decide +kernel, by decide +kernel⟩, List.mem_of_getElem? (i := 401) (by decide +kernel), List.mem_of_getElem? (i := 515) (by decide +kernel), List.mem_of_getElem? (i := 516) (by decide +kernel)⟩
theorem lw_p35 : lw_okq (⟨"RuleRunnerModel", "put", "(I)V"⟩, 20) := ⟨⟨by decide +kernel, by decide +kernel⟩, List.mem_of_getElem? (i := 401) (by decide +kernel), List.mem_of_getElem? (i := 519) (by decide +kernel), List.mem_of_getElem? (i := 520) (by decide +kernel)⟩
theorem lw_p36 : lw_okq (⟨"RuleRunnerModel", "compare", "()Z"⟩, 20) := ⟨⟨by decide +kernel, by decide +kernel⟩, List.mem_of_getElem? (i := 401) (by decide +kernel), List.mem_of_getElem? (i := 523) (by decide +kernel), List.mem_of_getElem? (i := 524) (by decide +kernel)⟩
theorem lw_p37 : lw_okq (⟨"RuleRunnerModel", "whole", "()Z"⟩, 20) := ⟨⟨by decide +kernel, by decide +kernel⟩, List.mem_of_getElem? (i := 401) (by decide +kernel), List.mem_of_getElem? (i := 527) (by decide +kernel), List.mem_of_getElem? (i := 528) (by decide +kernel)⟩
theorem lw_p38 : lw_okq (⟨"RuleRunnerModel", "sum", "(I)Z"⟩, 20) := ⟨⟨by decide +kernel, by decide +kernel⟩, List.mem_of_getElem? (i := 401) (by decide +kernel), List.mem_of_getElem? (i := 531) (by decide +kernel), List.mem_of_getElem? (i := 532) (by decide +kernel)⟩
theorem lw_p39 : lw_okq (⟨"RuleRunnerModel", "term", "(I)Z"⟩, 20) := ⟨⟨by decide +kernel, by decide +kernel⟩, List.mem_of_getElem? (i := 401) (by decide +kernel), List.mem_of_getElem? (i := 535) (by decide +kernel), List.mem_of_getElem? (i := 536) (by decide +kernel)⟩
theorem lw_p40 : lw_okq (⟨"RuleRunnerModel", "part", "(I)Z"⟩, 20) := ⟨⟨by decide +kernel, by decide +kernel⟩, List.mem_of_getElem? (i := 401) (by decide +kernel), List.mem_of_getElem? (i := 539) (by decide +kernel), List.mem_of_getElem? (i := 540) (by decide +kernel)⟩
theorem lw_p41 : lw_okq (⟨"RuleRunnerModel", "take", "(Ljava/lang/String;)Z"⟩, 20) := ⟨⟨by decide +kernel, by decide +kernel⟩, List.mem_of_getElem? (i := 401) (by decide +kernel), List.mem_of_getElem? (i := 545) (by decide +kernel), List.mem_of_getElem? (i := 546) (by decide +kernel)⟩
theorem lw_p42 : lw_okq (⟨"RuleRunnerModel", "cell", "()Z"⟩, 20) := ⟨⟨by decide +kernel, by decide +kernel⟩, List.mem_of_getElem? (i := 401) (by decide +kernel), List.mem_of_getElem? (i := 549) (by decide +kernel), List.mem_of_getElem? (i := 550) (by decide +kernel)⟩
theorem lw_p43 : lw_okq (⟨"RuleRunnerModel", "perform", "(II)I"⟩, 20) := ⟨⟨by decide +kernel, by decide +kernel⟩, List.mem_of_getElem? (i := 401) (by decide +kernel), List.mem_of_getElem? (i := 584) (by decide +kernel), List.mem_of_getElem? (i := 585) (by decide +kernel)⟩
theorem lw_p44 : lw_okq (⟨"RuleRunnerModel", "holds", "(II)Z"⟩, 20) := ⟨⟨by decide +kernel, by decide +kernel⟩, List.mem_of_getElem? (i := 401) (by decide +kernel), List.mem_of_getElem? (i := 588) (by decide +kernel), List.mem_of_getElem? (i := 589) (by decide +kernel)⟩
theorem lw_p45 : lw_okq (⟨"RuleRunnerModel", "value", "(II)I"⟩, 20) := ⟨⟨by decide +kernel, by decide +kernel⟩, List.mem_of_getElem? (i := 401) (by decide +kernel), List.mem_of_getElem? (i := 592) (by decide +kernel), List.mem_of_getElem? (i := 593) (by decide +kernel)⟩
def lw_privs_3 : List (MethodName × Nat) := [(⟨"RuleRunnerModel", "is", "(Ljava/lang/String;)Z"⟩, 20), (⟨"RuleRunnerModel", "rule", "()Z"⟩, 20), (⟨"RuleRunnerModel", "bad", "()Z"⟩, 20), (⟨"RuleRunnerModel", "put", "(I)V"⟩, 20), (⟨"RuleRunnerModel", "compare", "()Z"⟩, 20), (⟨"RuleRunnerModel", "whole", "()Z"⟩, 20), (⟨"RuleRunnerModel", "sum", "(I)Z"⟩, 20), (⟨"RuleRunnerModel", "term", "(I)Z"⟩, 20), (⟨"RuleRunnerModel", "part", "(I)Z"⟩, 20), (⟨"RuleRunnerModel", "take", "(Ljava/lang/String;)Z"⟩, 20), (⟨"RuleRunnerModel", "cell", "()Z"⟩, 20), (⟨"RuleRunnerModel", "perform", "(II)I"⟩, 20), (⟨"RuleRunnerModel", "holds", "(II)Z"⟩, 20), (⟨"RuleRunnerModel", "value", "(II)I"⟩, 20)]
theorem lw_r3 : ∀ q ∈ lw_privs_3, lw_okq q := List.forall_mem_cons.mpr ⟨lw_p32, List.forall_mem_cons.mpr ⟨lw_p33, List.forall_mem_cons.mpr ⟨lw_p34, List.forall_mem_cons.mpr ⟨lw_p35, List.forall_mem_cons.mpr ⟨lw_p36, List.forall_mem_cons.mpr ⟨lw_p37, List.forall_mem_cons.mpr ⟨lw_p38, List.forall_mem_cons.mpr ⟨lw_p39, List.forall_mem_cons.mpr ⟨lw_p40, List.forall_mem_cons.mpr ⟨lw_p41, List.forall_mem_cons.mpr ⟨lw_p42, List.forall_mem_cons.mpr ⟨lw_p43, List.forall_mem_cons.mpr ⟨lw_p44, List.forall_mem_cons.mpr ⟨lw_p45, fun _ h => absurd h List.not_mem_nil⟩⟩⟩⟩⟩⟩⟩⟩⟩⟩⟩⟩⟩⟩
def lw_privs : List (MethodName × Nat) := lw_privs_1 ++ (lw_privs_2 ++ (lw_privs_3))
def lw_tbl : List Cond := k2_sels lw_privs ++ tables_1
theorem lw_privs_ok : ∀ q ∈ lw_privs, lw_okq q := by
  show ∀ q ∈ lw_privs_1 ++ (lw_privs_2 ++ (lw_privs_3)), lw_okq q
  exact List.forall_mem_append.mpr ⟨lw_r1, List.forall_mem_append.mpr ⟨lw_r2, lw_r3⟩⟩
-- ===== names: by wip/gen/names.py out of the Statement =====
def R_Co : String := "RuleRunner$Code"
def R_Ma : String := "RuleRunner$Machine"
def R_Re : String := "RuleRunner$Reader"
def R_Ta : String := "RuleRunner$Tape"
def R_To : String := "RuleRunner$Tokens"
def R_Ru : String := "RuleRunner"
def R_Mo : String := "RuleRunnerModel"
def R_La : String := "RuleRunnerLaw"
def R_St : String := "java/lang/String"
def R_Sl : String := "java/lang/StringLatin1"
def R_Pr : String := "jdk/internal/util/Preconditions"
def R_Mt : String := "java/lang/Math"
def R_Ar : String := "java/util/Arrays"
def R_Sy : String := "java/lang/System"
def R_Ob : String := "java/lang/Object"
def T_Co : u_T := fun k => match k with
  | 0 => ("RuleRunner$Code", "kinds", "[I", true)
  | 1 => ("RuleRunner$Code", "values", "[I", true)
  | 2 => ("RuleRunner$Code", "ruleEnds", "[I", true)
  | 3 => ("RuleRunner$Code", "steps", "I", false)
  | _ => ("RuleRunner$Code", "rules", "I", false)
def t_Co : Nat → FieldType := fun k => match k with
  | 0 => .array .int
  | 1 => .array .int
  | 2 => .array .int
  | 3 => .int
  | _ => .int
theorem nm_Co : ∀ a, a < 5 → ∀ b, b < 5 → a ≠ b → (T_Co a).2.1 ≠ (T_Co b).2.1 := by decide +kernel
theorem ty_Co : ∀ k, k < 5 → parseFieldDescriptor (T_Co k).2.2.1 = some (t_Co k) := by decide +kernel
def T_Ma : u_T := fun k => match k with
  | 0 => ("RuleRunner$Machine", "cells", "[I", true)
  | 1 => ("RuleRunner$Machine", "stack", "[I", true)
  | 2 => ("RuleRunner$Machine", "height", "I", false)
  | 3 => ("RuleRunner$Machine", "effectCells", "[I", true)
  | 4 => ("RuleRunner$Machine", "effectValues", "[I", true)
  | 5 => ("RuleRunner$Machine", "effects", "I", false)
  | 6 => ("RuleRunner$Machine", "changedCells", "[I", true)
  | 7 => ("RuleRunner$Machine", "changedFrom", "[I", true)
  | 8 => ("RuleRunner$Machine", "changes", "I", false)
  | 9 => ("RuleRunner$Machine", "changesBefore", "[I", true)
  | _ => ("RuleRunner$Machine", "runs", "I", false)
def t_Ma : Nat → FieldType := fun k => match k with
  | 0 => .array .int
  | 1 => .array .int
  | 2 => .int
  | 3 => .array .int
  | 4 => .array .int
  | 5 => .int
  | 6 => .array .int
  | 7 => .array .int
  | 8 => .int
  | 9 => .array .int
  | _ => .int
theorem nm_Ma : ∀ a, a < 11 → ∀ b, b < 11 → a ≠ b → (T_Ma a).2.1 ≠ (T_Ma b).2.1 := by decide +kernel
theorem ty_Ma : ∀ k, k < 11 → parseFieldDescriptor (T_Ma k).2.2.1 = some (t_Ma k) := by decide +kernel
def T_Re : u_T := fun k => match k with
  | 0 => ("RuleRunner$Reader", "tokens", "LRuleRunner$Tokens;", true)
  | 1 => ("RuleRunner$Reader", "code", "LRuleRunner$Code;", false)
  | 2 => ("RuleRunner$Reader", "at", "I", false)
  | _ => ("RuleRunner$Reader", "parts", "I", false)
def t_Re : Nat → FieldType := fun k => match k with
  | 0 => .object "RuleRunner$Tokens"
  | 1 => .object "RuleRunner$Code"
  | 2 => .int
  | _ => .int
theorem nm_Re : ∀ a, a < 4 → ∀ b, b < 4 → a ≠ b → (T_Re a).2.1 ≠ (T_Re b).2.1 := by decide +kernel
theorem ty_Re : ∀ k, k < 4 → parseFieldDescriptor (T_Re k).2.2.1 = some (t_Re k) := by decide +kernel
def T_Ta : u_T := fun k => match k with
  | 0 => ("RuleRunner$Tape", "bytes", "[B", true)
  | _ => ("RuleRunner$Tape", "length", "I", false)
def t_Ta : Nat → FieldType := fun k => match k with
  | 0 => .array .byte
  | _ => .int
theorem nm_Ta : ∀ a, a < 2 → ∀ b, b < 2 → a ≠ b → (T_Ta a).2.1 ≠ (T_Ta b).2.1 := by decide +kernel
theorem ty_Ta : ∀ k, k < 2 → parseFieldDescriptor (T_Ta k).2.2.1 = some (t_Ta k) := by decide +kernel
def T_To : u_T := fun k => match k with
  | 0 => ("RuleRunner$Tokens", "kinds", "[I", true)
  | 1 => ("RuleRunner$Tokens", "values", "[I", true)
  | 2 => ("RuleRunner$Tokens", "places", "[I", true)
  | _ => ("RuleRunner$Tokens", "size", "I", false)
def t_To : Nat → FieldType := fun k => match k with
  | 0 => .array .int
  | 1 => .array .int
  | 2 => .array .int
  | _ => .int
theorem nm_To : ∀ a, a < 4 → ∀ b, b < 4 → a ≠ b → (T_To a).2.1 ≠ (T_To b).2.1 := by decide +kernel
theorem ty_To : ∀ k, k < 4 → parseFieldDescriptor (T_To k).2.2.1 = some (t_To k) := by decide +kernel
def T_Ru : u_T := fun k => match k with
  | 0 => ("RuleRunner", "tape", "LRuleRunner$Tape;", true)
  | 1 => ("RuleRunner", "reader", "LRuleRunner$Reader;", true)
  | 2 => ("RuleRunner", "machine", "LRuleRunner$Machine;", true)
  | _ => ("RuleRunner", "current", "LRuleRunner$Code;", false)
def t_Ru : Nat → FieldType := fun k => match k with
  | 0 => .object "RuleRunner$Tape"
  | 1 => .object "RuleRunner$Reader"
  | 2 => .object "RuleRunner$Machine"
  | _ => .object "RuleRunner$Code"
theorem nm_Ru : ∀ a, a < 4 → ∀ b, b < 4 → a ≠ b → (T_Ru a).2.1 ≠ (T_Ru b).2.1 := by decide +kernel
theorem ty_Ru : ∀ k, k < 4 → parseFieldDescriptor (T_Ru k).2.2.1 = some (t_Ru k) := by decide +kernel
def T_Mo : u_T := fun k => match k with
  | 0 => ("RuleRunnerModel", "tape", "[B", true)
  | 1 => ("RuleRunnerModel", "tapeMany", "I", false)
  | 2 => ("RuleRunnerModel", "latest", "[I", false)
  | 3 => ("RuleRunnerModel", "before", "[I", true)
  | 4 => ("RuleRunnerModel", "runs", "I", false)
  | 5 => ("RuleRunnerModel", "at", "I", false)
  | 6 => ("RuleRunnerModel", "size", "I", false)
  | 7 => ("RuleRunnerModel", "kind", "I", false)
  | 8 => ("RuleRunnerModel", "from", "I", false)
  | 9 => ("RuleRunnerModel", "to", "I", false)
  | 10 => ("RuleRunnerModel", "fault", "I", false)
  | 11 => ("RuleRunnerModel", "parts", "I", false)
  | 12 => ("RuleRunnerModel", "number", "J", false)
  | 13 => ("RuleRunnerModel", "code", "[I", true)
  | 14 => ("RuleRunnerModel", "many", "I", false)
  | 15 => ("RuleRunnerModel", "cells", "[I", true)
  | 16 => ("RuleRunnerModel", "stack", "[I", true)
  | 17 => ("RuleRunnerModel", "found", "[I", true)
  | 18 => ("RuleRunnerModel", "goal", "[I", true)
  | _ => ("RuleRunnerModel", "pc", "I", false)
def t_Mo : Nat → FieldType := fun k => match k with
  | 0 => .array .byte
  | 1 => .int
  | 2 => .array .int
  | 3 => .array .int
  | 4 => .int
  | 5 => .int
  | 6 => .int
  | 7 => .int
  | 8 => .int
  | 9 => .int
  | 10 => .int
  | 11 => .int
  | 12 => .long
  | 13 => .array .int
  | 14 => .int
  | 15 => .array .int
  | 16 => .array .int
  | 17 => .array .int
  | 18 => .array .int
  | _ => .int
theorem nm_Mo : ∀ a, a < 20 → ∀ b, b < 20 → a ≠ b → (T_Mo a).2.1 ≠ (T_Mo b).2.1 := by decide +kernel
theorem ty_Mo : ∀ k, k < 20 → parseFieldDescriptor (T_Mo k).2.2.1 = some (t_Mo k) := by decide +kernel
abbrev rr_cl : List vw_C := [(R_Co, T_Co, 5), (R_Ma, T_Ma, 11), (R_Re, T_Re, 4), (R_Ta, T_Ta, 2), (R_To, T_To, 4), (R_Ru, T_Ru, 4), (R_Mo, T_Mo, 20)]
def rr_ty : Nat → Nat → FieldType := fun ci => match ci with
  | 0 => t_Co
  | 1 => t_Ma
  | 2 => t_Re
  | 3 => t_Ta
  | 4 => t_To
  | 5 => t_Ru
  | _ => t_Mo
/-- the good words of the tables (they stay when the machine warms), and those of nest mates -/
def rr_ws : List Cond := lw_tbl.filter goodWord
def rr_isN : Cond → Bool
  | .fieldLinkNest _ _ _ _ _ _ => true
  | .methodLinkNest _ _ _ _ => true
  | _ => false
def rr_nw : List Cond := lw_tbl.filter rr_isN
theorem rr_inw {w : Cond} (i : Nat) (h : lw_tbl[i]? = some w) (hg : goodWord w = true) : w ∈ rr_ws := List.mem_filter.mpr ⟨List.mem_of_getElem? h, hg⟩
theorem rr_inn {w : Cond} (i : Nat) (h : lw_tbl[i]? = some w) (hg : rr_isN w = true) : w ∈ rr_nw := List.mem_filter.mpr ⟨List.mem_of_getElem? h, hg⟩
theorem wi_Co : ∀ w ∈ u_ws R_Co T_Co 5, w ∈ rr_ws := by
  have h : u_ws R_Co T_Co 5 = [131, 133, 135, 137, 139].filterMap (fun i => lw_tbl[i]?) := by decide +kernel
  have h2 : (u_ws R_Co T_Co 5).all goodWord = true := by decide +kernel
  intro w hw
  have hg := List.all_eq_true.mp h2 w hw
  rw [h] at hw
  obtain ⟨i, -, hi⟩ := List.mem_filterMap.mp hw
  exact rr_inw i hi hg
theorem wi_Ma : ∀ w ∈ u_ws R_Ma T_Ma 11, w ∈ rr_ws := by
  have h : u_ws R_Ma T_Ma 11 = [174, 176, 178, 180, 182, 184, 186, 188, 190, 192, 194].filterMap (fun i => lw_tbl[i]?) := by decide +kernel
  have h2 : (u_ws R_Ma T_Ma 11).all goodWord = true := by decide +kernel
  intro w hw
  have hg := List.all_eq_true.mp h2 w hw
  rw [h] at hw
  obtain ⟨i, -, hi⟩ := List.mem_filterMap.mp hw
  exact rr_inw i hi hg
theorem wi_Re : ∀ w ∈ u_ws R_Re T_Re 4, w ∈ rr_ws := by
  have h : u_ws R_Re T_Re 4 = [146, 148, 150, 152].filterMap (fun i => lw_tbl[i]?) := by decide +kernel
  have h2 : (u_ws R_Re T_Re 4).all goodWord = true := by decide +kernel
  intro w hw
  have hg := List.all_eq_true.mp h2 w hw
  rw [h] at hw
  obtain ⟨i, -, hi⟩ := List.mem_filterMap.mp hw
  exact rr_inw i hi hg
theorem wi_Ta : ∀ w ∈ u_ws R_Ta T_Ta 2, w ∈ rr_ws := by
  have h : u_ws R_Ta T_Ta 2 = [80, 82].filterMap (fun i => lw_tbl[i]?) := by decide +kernel
  have h2 : (u_ws R_Ta T_Ta 2).all goodWord = true := by decide +kernel
  intro w hw
  have hg := List.all_eq_true.mp h2 w hw
  rw [h] at hw
  obtain ⟨i, -, hi⟩ := List.mem_filterMap.mp hw
  exact rr_inw i hi hg
theorem wi_To : ∀ w ∈ u_ws R_To T_To 4, w ∈ rr_ws := by
  have h : u_ws R_To T_To 4 = [105, 107, 109, 111].filterMap (fun i => lw_tbl[i]?) := by decide +kernel
  have h2 : (u_ws R_To T_To 4).all goodWord = true := by decide +kernel
  intro w hw
  have hg := List.all_eq_true.mp h2 w hw
  rw [h] at hw
  obtain ⟨i, -, hi⟩ := List.mem_filterMap.mp hw
  exact rr_inw i hi hg
theorem wi_Ru : ∀ w ∈ u_ws R_Ru T_Ru 4, w ∈ rr_ws := by
  have h : u_ws R_Ru T_Ru 4 = [203, 205, 207, 209].filterMap (fun i => lw_tbl[i]?) := by decide +kernel
  have h2 : (u_ws R_Ru T_Ru 4).all goodWord = true := by decide +kernel
  intro w hw
  have hg := List.all_eq_true.mp h2 w hw
  rw [h] at hw
  obtain ⟨i, -, hi⟩ := List.mem_filterMap.mp hw
  exact rr_inw i hi hg
theorem wi_Mo : ∀ w ∈ u_ws R_Mo T_Mo 20, w ∈ rr_ws := by
  have h : u_ws R_Mo T_Mo 20 = [472, 474, 476, 478, 480, 482, 484, 486, 488, 490, 492, 494, 496, 498, 500, 502, 504, 506, 508, 510].filterMap (fun i => lw_tbl[i]?) := by decide +kernel
  have h2 : (u_ws R_Mo T_Mo 20).all goodWord = true := by decide +kernel
  intro w hw
  have hg := List.all_eq_true.mp h2 w hw
  rw [h] at hw
  obtain ⟨i, -, hi⟩ := List.mem_filterMap.mp hw
  exact rr_inw i hi hg
abbrev c_Ru_init : ByteArray := prog_1_method_1_code
def y_Ru_init : MethodName := ⟨R_Ru, "<init>", "()V"⟩
abbrev c_Ta_init : ByteArray := prog_5_method_1_code
def y_Ta_init : MethodName := ⟨R_Ta, "<init>", "()V"⟩
abbrev c_Re_init : ByteArray := prog_4_method_1_code
def y_Re_init : MethodName := ⟨R_Re, "<init>", "()V"⟩
abbrev c_To_init : ByteArray := prog_6_method_1_code
def y_To_init : MethodName := ⟨R_To, "<init>", "()V"⟩
abbrev c_Co_init : ByteArray := prog_2_method_1_code
def y_Co_init : MethodName := ⟨R_Co, "<init>", "()V"⟩
abbrev c_Ma_init : ByteArray := prog_3_method_1_code
def y_Ma_init : MethodName := ⟨R_Ma, "<init>", "()V"⟩
abbrev c_Ru_feed : ByteArray := prog_1_method_2_code
def y_Ru_feed : MethodName := ⟨R_Ru, "feed", "(IIIII)I"⟩
abbrev c_Ta_append : ByteArray := prog_5_method_2_code
def y_Ta_append : MethodName := ⟨R_Ta, "append", "(I)V"⟩
abbrev c_Ru_end : ByteArray := prog_1_method_3_code
def y_Ru_end : MethodName := ⟨R_Ru, "end", "(I)I"⟩
abbrev c_Ru_program : ByteArray := prog_1_method_4_code
def y_Ru_program : MethodName := ⟨R_Ru, "program", "()I"⟩
abbrev c_Re_read : ByteArray := prog_4_method_2_code
def y_Re_read : MethodName := ⟨R_Re, "read", "(LRuleRunner$Tape;)I"⟩
abbrev c_To_split : ByteArray := prog_6_method_2_code
def y_To_split : MethodName := ⟨R_To, "split", "(LRuleRunner$Tape;)V"⟩
abbrev c_To_splitOne : ByteArray := prog_6_method_3_code
def y_To_splitOne : MethodName := ⟨R_To, "splitOne", "(LRuleRunner$Tape;I)I"⟩
abbrev c_To_isLetter : ByteArray := prog_6_method_7_code
def y_To_isLetter : MethodName := ⟨R_To, "isLetter", "(I)Z"⟩
abbrev c_To_splitWord : ByteArray := prog_6_method_4_code
def y_To_splitWord : MethodName := ⟨R_To, "splitWord", "(LRuleRunner$Tape;I)I"⟩
abbrev c_To_wordKind : ByteArray := prog_6_method_9_code
def y_To_wordKind : MethodName := ⟨R_To, "wordKind", "(LRuleRunner$Tape;II)I"⟩
abbrev c_Ta_spells : ByteArray := prog_5_method_3_code
def y_Ta_spells : MethodName := ⟨R_Ta, "spells", "(Ljava/lang/String;II)Z"⟩
abbrev c_St_length : ByteArray := prog_11_method_54_code
def y_St_length : MethodName := ⟨R_St, "length", "()I"⟩
abbrev c_St_coder : ByteArray := prog_11_method_152_code
def y_St_coder : MethodName := ⟨R_St, "coder", "()B"⟩
abbrev c_St_charAt : ByteArray := prog_11_method_56_code
def y_St_charAt : MethodName := ⟨R_St, "charAt", "(I)C"⟩
abbrev c_St_isLatin1 : ByteArray := prog_11_method_154_code
def y_St_isLatin1 : MethodName := ⟨R_St, "isLatin1", "()Z"⟩
abbrev c_Sl_charAt : ByteArray := prog_12_method_2_code
def y_Sl_charAt : MethodName := ⟨R_Sl, "charAt", "([BI)C"⟩
abbrev c_St_checkIndex : ByteArray := prog_11_method_155_code
def y_St_checkIndex : MethodName := ⟨R_St, "checkIndex", "(II)V"⟩
abbrev c_Pr_checkIndex : ByteArray := prog_16_method_11_code
def y_Pr_checkIndex : MethodName := ⟨R_Pr, "checkIndex", "(IILjava/util/function/BiFunction;)I"⟩
abbrev c_To_add : ByteArray := prog_6_method_6_code
def y_To_add : MethodName := ⟨R_To, "add", "(III)V"⟩
abbrev c_To_isDigit : ByteArray := prog_6_method_8_code
def y_To_isDigit : MethodName := ⟨R_To, "isDigit", "(I)Z"⟩
abbrev c_To_splitNumber : ByteArray := prog_6_method_5_code
def y_To_splitNumber : MethodName := ⟨R_To, "splitNumber", "(LRuleRunner$Tape;I)I"⟩
abbrev c_Mt_minJ : ByteArray := prog_10_method_70_code
def y_Mt_minJ : MethodName := ⟨R_Mt, "min", "(JJ)J"⟩
abbrev c_To_signKind : ByteArray := prog_6_method_10_code
def y_To_signKind : MethodName := ⟨R_To, "signKind", "(I)I"⟩
abbrev c_Co_clear : ByteArray := prog_2_method_2_code
def y_Co_clear : MethodName := ⟨R_Co, "clear", "()V"⟩
abbrev c_Re_readRule : ByteArray := prog_4_method_4_code
def y_Re_readRule : MethodName := ⟨R_Re, "readRule", "()Z"⟩
abbrev c_Re_pass : ByteArray := prog_4_method_12_code
def y_Re_pass : MethodName := ⟨R_Re, "pass", "(I)Z"⟩
abbrev c_Re_readTest : ByteArray := prog_4_method_5_code
def y_Re_readTest : MethodName := ⟨R_Re, "readTest", "()Z"⟩
abbrev c_Re_readSum : ByteArray := prog_4_method_7_code
def y_Re_readSum : MethodName := ⟨R_Re, "readSum", "(I)Z"⟩
abbrev c_Re_readTerm : ByteArray := prog_4_method_8_code
def y_Re_readTerm : MethodName := ⟨R_Re, "readTerm", "(I)Z"⟩
abbrev c_Re_readPart : ByteArray := prog_4_method_9_code
def y_Re_readPart : MethodName := ⟨R_Re, "readPart", "(I)Z"⟩
abbrev c_Re_looksAt : ByteArray := prog_4_method_10_code
def y_Re_looksAt : MethodName := ⟨R_Re, "looksAt", "(I)Z"⟩
abbrev c_Re_looksAtCellNumber : ByteArray := prog_4_method_11_code
def y_Re_looksAtCellNumber : MethodName := ⟨R_Re, "looksAtCellNumber", "()Z"⟩
abbrev c_Co_add : ByteArray := prog_2_method_3_code
def y_Co_add : MethodName := ⟨R_Co, "add", "(II)V"⟩
abbrev c_Re_readEffect : ByteArray := prog_4_method_6_code
def y_Re_readEffect : MethodName := ⟨R_Re, "readEffect", "()Z"⟩
abbrev c_Co_closeRule : ByteArray := prog_2_method_4_code
def y_Co_closeRule : MethodName := ⟨R_Co, "closeRule", "()V"⟩
abbrev c_Re_exchange : ByteArray := prog_4_method_3_code
def y_Re_exchange : MethodName := ⟨R_Re, "exchange", "(LRuleRunner$Code;)LRuleRunner$Code;"⟩
abbrev c_Ru_run : ByteArray := prog_1_method_5_code
def y_Ru_run : MethodName := ⟨R_Ru, "run", "(II)I"⟩
abbrev c_Ma_perform : ByteArray := prog_3_method_2_code
def y_Ma_perform : MethodName := ⟨R_Ma, "perform", "(LRuleRunner$Code;II)I"⟩
abbrev c_Ma_isTaken : ByteArray := prog_3_method_3_code
def y_Ma_isTaken : MethodName := ⟨R_Ma, "isTaken", "(LRuleRunner$Code;IIII)Z"⟩
abbrev c_Ma_push : ByteArray := prog_3_method_6_code
def y_Ma_push : MethodName := ⟨R_Ma, "push", "(I)V"⟩
abbrev c_Ma_pop : ByteArray := prog_3_method_7_code
def y_Ma_pop : MethodName := ⟨R_Ma, "pop", "()I"⟩
abbrev c_Ma_addEffect : ByteArray := prog_3_method_8_code
def y_Ma_addEffect : MethodName := ⟨R_Ma, "addEffect", "(II)V"⟩
abbrev c_Ma_calculate : ByteArray := prog_3_method_4_code
def y_Ma_calculate : MethodName := ⟨R_Ma, "calculate", "(I)V"⟩
abbrev c_Ma_holds : ByteArray := prog_3_method_5_code
def y_Ma_holds : MethodName := ⟨R_Ma, "holds", "(I)Z"⟩
abbrev c_Ma_applyEffects : ByteArray := prog_3_method_9_code
def y_Ma_applyEffects : MethodName := ⟨R_Ma, "applyEffects", "()V"⟩
abbrev c_Ma_change : ByteArray := prog_3_method_10_code
def y_Ma_change : MethodName := ⟨R_Ma, "change", "(II)V"⟩
abbrev c_Ru_isCell : ByteArray := prog_1_method_10_code
def y_Ru_isCell : MethodName := ⟨R_Ru, "isCell", "(I)Z"⟩
abbrev c_Ru_undo : ByteArray := prog_1_method_6_code
def y_Ru_undo : MethodName := ⟨R_Ru, "undo", "()I"⟩
abbrev c_Ma_takeBack : ByteArray := prog_3_method_11_code
def y_Ma_takeBack : MethodName := ⟨R_Ma, "takeBack", "()I"⟩
abbrev c_Ru_cell : ByteArray := prog_1_method_7_code
def y_Ru_cell : MethodName := ⟨R_Ru, "cell", "(I)J"⟩
abbrev c_Ru_set : ByteArray := prog_1_method_8_code
def y_Ru_set : MethodName := ⟨R_Ru, "set", "(II)I"⟩
abbrev c_Ru_count : ByteArray := prog_1_method_9_code
def y_Ru_count : MethodName := ⟨R_Ru, "count", "(I)I"⟩
abbrev c_Mo_init : ByteArray := prog_8_method_2_code
def y_Mo_init : MethodName := ⟨R_Mo, "<init>", "()V"⟩
abbrev c_Mo_feed : ByteArray := prog_8_method_3_code
def y_Mo_feed : MethodName := ⟨R_Mo, "feed", "(IIIII)I"⟩
abbrev c_Mo_end : ByteArray := prog_8_method_4_code
def y_Mo_end : MethodName := ⟨R_Mo, "end", "(I)I"⟩
abbrev c_Mo_in : ByteArray := prog_8_method_1_code
def y_Mo_in : MethodName := ⟨R_Mo, "in", "(III)Z"⟩
abbrev c_Mo_program : ByteArray := prog_8_method_12_code
def y_Mo_program : MethodName := ⟨R_Mo, "program", "()I"⟩
abbrev c_Mo_step : ByteArray := prog_8_method_7_code
def y_Mo_step : MethodName := ⟨R_Mo, "step", "()V"⟩
abbrev c_Mo_isLetter : ByteArray := prog_8_method_5_code
def y_Mo_isLetter : MethodName := ⟨R_Mo, "isLetter", "(I)Z"⟩
abbrev c_Mo_is : ByteArray := prog_8_method_8_code
def y_Mo_is : MethodName := ⟨R_Mo, "is", "(Ljava/lang/String;)Z"⟩
abbrev c_Mo_isDigit : ByteArray := prog_8_method_6_code
def y_Mo_isDigit : MethodName := ⟨R_Mo, "isDigit", "(I)Z"⟩
abbrev c_Mo_rule : ByteArray := prog_8_method_13_code
def y_Mo_rule : MethodName := ⟨R_Mo, "rule", "()Z"⟩
abbrev c_Mo_bad : ByteArray := prog_8_method_9_code
def y_Mo_bad : MethodName := ⟨R_Mo, "bad", "()Z"⟩
abbrev c_Mo_put : ByteArray := prog_8_method_11_code
def y_Mo_put : MethodName := ⟨R_Mo, "put", "(I)V"⟩
abbrev c_Mo_compare : ByteArray := prog_8_method_15_code
def y_Mo_compare : MethodName := ⟨R_Mo, "compare", "()Z"⟩
abbrev c_Mo_whole : ByteArray := prog_8_method_16_code
def y_Mo_whole : MethodName := ⟨R_Mo, "whole", "()Z"⟩
abbrev c_Mo_sum : ByteArray := prog_8_method_17_code
def y_Mo_sum : MethodName := ⟨R_Mo, "sum", "(I)Z"⟩
abbrev c_Mo_term : ByteArray := prog_8_method_18_code
def y_Mo_term : MethodName := ⟨R_Mo, "term", "(I)Z"⟩
abbrev c_Mo_part : ByteArray := prog_8_method_19_code
def y_Mo_part : MethodName := ⟨R_Mo, "part", "(I)Z"⟩
abbrev c_Mo_take : ByteArray := prog_8_method_10_code
def y_Mo_take : MethodName := ⟨R_Mo, "take", "(Ljava/lang/String;)Z"⟩
abbrev c_Mo_cellZ : ByteArray := prog_8_method_14_code
def y_Mo_cellZ : MethodName := ⟨R_Mo, "cell", "()Z"⟩
abbrev c_Ar_copyOf : ByteArray := prog_15_method_123_code
def y_Ar_copyOf : MethodName := ⟨R_Ar, "copyOf", "([II)[I"⟩
abbrev c_Mt_min : ByteArray := prog_10_method_69_code
def y_Mt_min : MethodName := ⟨R_Mt, "min", "(II)I"⟩
abbrev c_Mo_run : ByteArray := prog_8_method_23_code
def y_Mo_run : MethodName := ⟨R_Mo, "run", "(II)I"⟩
abbrev c_Mo_perform : ByteArray := prog_8_method_22_code
def y_Mo_perform : MethodName := ⟨R_Mo, "perform", "(II)I"⟩
abbrev c_Mo_holds : ByteArray := prog_8_method_21_code
def y_Mo_holds : MethodName := ⟨R_Mo, "holds", "(II)Z"⟩
abbrev c_Mo_value : ByteArray := prog_8_method_20_code
def y_Mo_value : MethodName := ⟨R_Mo, "value", "(II)I"⟩
abbrev c_Mo_undo : ByteArray := prog_8_method_24_code
def y_Mo_undo : MethodName := ⟨R_Mo, "undo", "()I"⟩
abbrev c_Mo_cell : ByteArray := prog_8_method_25_code
def y_Mo_cell : MethodName := ⟨R_Mo, "cell", "(I)J"⟩
abbrev c_Mo_set : ByteArray := prog_8_method_26_code
def y_Mo_set : MethodName := ⟨R_Mo, "set", "(II)I"⟩
abbrev c_Mo_count : ByteArray := prog_8_method_27_code
def y_Mo_count : MethodName := ⟨R_Mo, "count", "(I)I"⟩
/-- the texts, by their places: 0 if 1 then 2 else 3 and 4 server 5 stamp 6 c 7 ( 8 ) 9 * 10 + 11 - 12 = 13 # 14 < 15 > 16 := 17 , -/
def rr_nS : Nat := 18
def rr_len : List Nat := [2, 4, 4, 3, 6, 5, 1, 1, 1, 1, 1, 1, 1, 1, 1, 1, 2, 1]
def rr_byt : List (List Int32) := [[105, 102], [116, 104, 101, 110], [101, 108, 115, 101], [97, 110, 100], [115, 101, 114, 118, 101, 114], [115, 116, 97, 109, 112], [99], [40], [41], [42], [43], [45], [61], [35], [60], [62], [58, 61], [44]]
def rr_str : List (String × Nat × String × Nat) := [(R_To, 75, "c", 6), (R_To, 81, "if", 0), (R_To, 83, "then", 1), (R_To, 85, "else", 2), (R_To, 87, "and", 3), (R_To, 89, "server", 4), (R_To, 91, "stamp", 5), (R_Mo, 59, "if", 0), (R_Mo, 65, "then", 1), (R_Mo, 67, "else", 2), (R_Mo, 69, "and", 3), (R_Mo, 71, "server", 4), (R_Mo, 73, "stamp", 5), (R_Mo, 75, "c", 6), (R_Mo, 183, "(", 7), (R_Mo, 185, ")", 8), (R_Mo, 181, "*", 9), (R_Mo, 174, "+", 10), (R_Mo, 176, "-", 11), (R_Mo, 160, "=", 12), (R_Mo, 162, "#", 13), (R_Mo, 164, "<", 14), (R_Mo, 166, ">", 15), (R_Mo, 151, ":=", 16), (R_Mo, 156, ",", 17)]
theorem rr_wI : Cond.arrayClass .int ∈ rr_ws := rr_inw 114 (by decide +kernel) (by decide +kernel)
theorem rr_wB : Cond.arrayClass .byte ∈ rr_ws := rr_inw 85 (by decide +kernel) (by decide +kernel)
theorem rr_wO1 : Cond.instanceMethod objectInit ∈ rr_ws := rr_inw 67 (by decide +kernel) (by decide +kernel)
theorem rr_wO2 : Cond.code objectInit ⟨#[0xb1]⟩ 1 none ∈ rr_ws := rr_inw 68 (by decide +kernel) (by decide +kernel)
/-- links: a field, a new object, a method by its entry in a class -/
def rr_plain : Value → Bool
  | .ref _ => false
  | _ => true
def rr_FL (own : String) (idx ci k : Nat) : Prop := ∃ (C : String) (T : u_T) (N : Nat), rr_cl[ci]? = some (C, T, N) ∧ k < N ∧ (Cond.fieldLink own idx (T k).1 (T k).2.1 (T k).2.2.1 ∈ rr_ws ∨ ∃ host, Cond.fieldLinkNest own idx (T k).1 (T k).2.1 (T k).2.2.1 host ∈ rr_nw)
def rr_NL (own : String) (idx ci : Nat) (fs : List Value) : Prop := ∃ (C : String) (T : u_T), rr_cl[ci]? = some (C, T, fs.length) ∧ Cond.classLink own idx C ∈ rr_ws ∧ Cond.instantiable C fs.length ∈ rr_ws ∧ Cond.initialized C ∈ rr_ws ∧ (∀ j, j < fs.length → defaultValue (rr_ty ci j) = vp_V fs j) ∧ fs.all rr_plain = true
def rr_pc (y : MethodName) (n : Nat) : Prop := y.cls ≠ "java/lang/invoke/MethodHandle" ∧ y.cls ≠ "java/lang/invoke/VarHandle" ∧ (parseMethodDescriptor y.desc).map (fun d => d.parameters.length) = some n
def rr_lk (own : String) (idx : Nat) (y : MethodName) : Prop := Cond.methodLink own idx y ∈ rr_ws ∨ ∃ host, Cond.methodLinkNest own idx y host ∈ rr_nw
def rr_LV (own : String) (idx : Nat) (y : MethodName) (n : Nat) : Prop := rr_lk own idx y ∧ Cond.instanceMethod y ∈ rr_ws ∧ Cond.selects y.cls y y ∈ rr_ws ∧ Cond.initialized y.cls ∈ rr_ws ∧ rr_pc y n
def rr_LS (own : String) (idx : Nat) (y : MethodName) (n : Nat) : Prop := rr_lk own idx y ∧ Cond.static y ∈ rr_ws ∧ Cond.initialized y.cls ∈ rr_ws ∧ rr_pc y n
def rr_LI (own : String) (idx : Nat) (y : MethodName) (n : Nat) : Prop := rr_lk own idx y ∧ Cond.instanceMethod y ∈ rr_ws ∧ y.name = "<init>" ∧ Cond.initialized y.cls ∈ rr_ws ∧ rr_pc y n
-- ===== end of names =====
end
section
theorem d_Ru_init_0 : decode c_Ru_init 0 = .ok (.aload_n 0, 1) := by decide +kernel
theorem d_Ru_init_1 : decode c_Ru_init 1 = .ok (.invokespecial 3, 3) := by decide +kernel
theorem d_Ru_init_4 : decode c_Ru_init 4 = .ok (.aload_n 0, 1) := by decide +kernel
theorem d_Ru_init_5 : decode c_Ru_init 5 = .ok (.new 9, 3) := by decide +kernel
theorem d_Ru_init_8 : decode c_Ru_init 8 = .ok (.dup, 1) := by decide +kernel
theorem d_Ru_init_9 : decode c_Ru_init 9 = .ok (.invokespecial 11, 3) := by decide +kernel
theorem d_Ru_init_12 : decode c_Ru_init 12 = .ok (.putfield 12, 3) := by decide +kernel
theorem d_Ru_init_15 : decode c_Ru_init 15 = .ok (.aload_n 0, 1) := by decide +kernel
theorem d_Ru_init_16 : decode c_Ru_init 16 = .ok (.new 16, 3) := by decide +kernel
theorem d_Ru_init_19 : decode c_Ru_init 19 = .ok (.dup, 1) := by decide +kernel
theorem d_Ru_init_20 : decode c_Ru_init 20 = .ok (.invokespecial 18, 3) := by decide +kernel
theorem d_Ru_init_23 : decode c_Ru_init 23 = .ok (.putfield 19, 3) := by decide +kernel
theorem d_Ru_init_26 : decode c_Ru_init 26 = .ok (.aload_n 0, 1) := by decide +kernel
theorem d_Ru_init_27 : decode c_Ru_init 27 = .ok (.new 23, 3) := by decide +kernel
theorem d_Ru_init_30 : decode c_Ru_init 30 = .ok (.dup, 1) := by decide +kernel
theorem d_Ru_init_31 : decode c_Ru_init 31 = .ok (.invokespecial 25, 3) := by decide +kernel
theorem d_Ru_init_34 : decode c_Ru_init 34 = .ok (.putfield 26, 3) := by decide +kernel
theorem d_Ru_init_37 : decode c_Ru_init 37 = .ok (.aload_n 0, 1) := by decide +kernel
theorem d_Ru_init_38 : decode c_Ru_init 38 = .ok (.new 30, 3) := by decide +kernel
theorem d_Ru_init_41 : decode c_Ru_init 41 = .ok (.dup, 1) := by decide +kernel
theorem d_Ru_init_42 : decode c_Ru_init 42 = .ok (.invokespecial 32, 3) := by decide +kernel
theorem d_Ru_init_45 : decode c_Ru_init 45 = .ok (.putfield 33, 3) := by decide +kernel
theorem d_Ru_init_48 : decode c_Ru_init 48 = .ok (.return_, 1) := by decide +kernel
theorem d_Ta_init_0 : decode c_Ta_init 0 = .ok (.aload_n 0, 1) := by decide +kernel
theorem d_Ta_init_1 : decode c_Ta_init 1 = .ok (.invokespecial 3, 3) := by decide +kernel
theorem d_Ta_init_4 : decode c_Ta_init 4 = .ok (.aload_n 0, 1) := by decide +kernel
theorem d_Ta_init_5 : decode c_Ta_init 5 = .ok (.sipush 400, 3) := by decide +kernel
theorem d_Ta_init_8 : decode c_Ta_init 8 = .ok (.newarray .byte, 2) := by decide +kernel
theorem d_Ta_init_10 : decode c_Ta_init 10 = .ok (.putfield 9, 3) := by decide +kernel
theorem d_Ta_init_13 : decode c_Ta_init 13 = .ok (.return_, 1) := by decide +kernel
theorem d_Re_init_0 : decode c_Re_init 0 = .ok (.aload_n 0, 1) := by decide +kernel
theorem d_Re_init_1 : decode c_Re_init 1 = .ok (.invokespecial 3, 3) := by decide +kernel
theorem d_Re_init_4 : decode c_Re_init 4 = .ok (.aload_n 0, 1) := by decide +kernel
theorem d_Re_init_5 : decode c_Re_init 5 = .ok (.new 9, 3) := by decide +kernel
theorem d_Re_init_8 : decode c_Re_init 8 = .ok (.dup, 1) := by decide +kernel
theorem d_Re_init_9 : decode c_Re_init 9 = .ok (.invokespecial 11, 3) := by decide +kernel
theorem d_Re_init_12 : decode c_Re_init 12 = .ok (.putfield 12, 3) := by decide +kernel
theorem d_Re_init_15 : decode c_Re_init 15 = .ok (.aload_n 0, 1) := by decide +kernel
theorem d_Re_init_16 : decode c_Re_init 16 = .ok (.new 18, 3) := by decide +kernel
theorem d_Re_init_19 : decode c_Re_init 19 = .ok (.dup, 1) := by decide +kernel
theorem d_Re_init_20 : decode c_Re_init 20 = .ok (.invokespecial 20, 3) := by decide +kernel
theorem d_Re_init_23 : decode c_Re_init 23 = .ok (.putfield 21, 3) := by decide +kernel
theorem d_Re_init_26 : decode c_Re_init 26 = .ok (.return_, 1) := by decide +kernel
theorem d_To_init_0 : decode c_To_init 0 = .ok (.aload_n 0, 1) := by decide +kernel
theorem d_To_init_1 : decode c_To_init 1 = .ok (.invokespecial 3, 3) := by decide +kernel
theorem d_To_init_4 : decode c_To_init 4 = .ok (.aload_n 0, 1) := by decide +kernel
theorem d_To_init_5 : decode c_To_init 5 = .ok (.sipush 401, 3) := by decide +kernel
theorem d_To_init_8 : decode c_To_init 8 = .ok (.newarray .int, 2) := by decide +kernel
theorem d_To_init_10 : decode c_To_init 10 = .ok (.putfield 9, 3) := by decide +kernel
theorem d_To_init_13 : decode c_To_init 13 = .ok (.aload_n 0, 1) := by decide +kernel
theorem d_To_init_14 : decode c_To_init 14 = .ok (.sipush 401, 3) := by decide +kernel
theorem d_To_init_17 : decode c_To_init 17 = .ok (.newarray .int, 2) := by decide +kernel
theorem d_To_init_19 : decode c_To_init 19 = .ok (.putfield 15, 3) := by decide +kernel
theorem d_To_init_22 : decode c_To_init 22 = .ok (.aload_n 0, 1) := by decide +kernel
theorem d_To_init_23 : decode c_To_init 23 = .ok (.sipush 401, 3) := by decide +kernel
theorem d_To_init_26 : decode c_To_init 26 = .ok (.newarray .int, 2) := by decide +kernel
theorem d_To_init_28 : decode c_To_init 28 = .ok (.putfield 18, 3) := by decide +kernel
theorem d_To_init_31 : decode c_To_init 31 = .ok (.return_, 1) := by decide +kernel
theorem d_Co_init_0 : decode c_Co_init 0 = .ok (.aload_n 0, 1) := by decide +kernel
theorem d_Co_init_1 : decode c_Co_init 1 = .ok (.invokespecial 3, 3) := by decide +kernel
theorem d_Co_init_4 : decode c_Co_init 4 = .ok (.aload_n 0, 1) := by decide +kernel
theorem d_Co_init_5 : decode c_Co_init 5 = .ok (.sipush 160, 3) := by decide +kernel
theorem d_Co_init_8 : decode c_Co_init 8 = .ok (.newarray .int, 2) := by decide +kernel
theorem d_Co_init_10 : decode c_Co_init 10 = .ok (.putfield 9, 3) := by decide +kernel
theorem d_Co_init_13 : decode c_Co_init 13 = .ok (.aload_n 0, 1) := by decide +kernel
theorem d_Co_init_14 : decode c_Co_init 14 = .ok (.sipush 160, 3) := by decide +kernel
theorem d_Co_init_17 : decode c_Co_init 17 = .ok (.newarray .int, 2) := by decide +kernel
theorem d_Co_init_19 : decode c_Co_init 19 = .ok (.putfield 15, 3) := by decide +kernel
theorem d_Co_init_22 : decode c_Co_init 22 = .ok (.aload_n 0, 1) := by decide +kernel
theorem d_Co_init_23 : decode c_Co_init 23 = .ok (.bipush 6, 2) := by decide +kernel
theorem d_Co_init_25 : decode c_Co_init 25 = .ok (.newarray .int, 2) := by decide +kernel
theorem d_Co_init_27 : decode c_Co_init 27 = .ok (.putfield 18, 3) := by decide +kernel
theorem d_Co_init_30 : decode c_Co_init 30 = .ok (.return_, 1) := by decide +kernel
theorem d_Ma_init_0 : decode c_Ma_init 0 = .ok (.aload_n 0, 1) := by decide +kernel
theorem d_Ma_init_1 : decode c_Ma_init 1 = .ok (.invokespecial 3, 3) := by decide +kernel
theorem d_Ma_init_4 : decode c_Ma_init 4 = .ok (.aload_n 0, 1) := by decide +kernel
theorem d_Ma_init_5 : decode c_Ma_init 5 = .ok (.bipush 32, 2) := by decide +kernel
theorem d_Ma_init_7 : decode c_Ma_init 7 = .ok (.newarray .int, 2) := by decide +kernel
theorem d_Ma_init_9 : decode c_Ma_init 9 = .ok (.putfield 9, 3) := by decide +kernel
theorem d_Ma_init_12 : decode c_Ma_init 12 = .ok (.aload_n 0, 1) := by decide +kernel
theorem d_Ma_init_13 : decode c_Ma_init 13 = .ok (.bipush 80, 2) := by decide +kernel
theorem d_Ma_init_15 : decode c_Ma_init 15 = .ok (.newarray .int, 2) := by decide +kernel
theorem d_Ma_init_17 : decode c_Ma_init 17 = .ok (.putfield 15, 3) := by decide +kernel
theorem d_Ma_init_20 : decode c_Ma_init 20 = .ok (.aload_n 0, 1) := by decide +kernel
theorem d_Ma_init_21 : decode c_Ma_init 21 = .ok (.bipush 8, 2) := by decide +kernel
theorem d_Ma_init_23 : decode c_Ma_init 23 = .ok (.newarray .int, 2) := by decide +kernel
theorem d_Ma_init_25 : decode c_Ma_init 25 = .ok (.putfield 18, 3) := by decide +kernel
theorem d_Ma_init_28 : decode c_Ma_init 28 = .ok (.aload_n 0, 1) := by decide +kernel
theorem d_Ma_init_29 : decode c_Ma_init 29 = .ok (.bipush 8, 2) := by decide +kernel
theorem d_Ma_init_31 : decode c_Ma_init 31 = .ok (.newarray .int, 2) := by decide +kernel
theorem d_Ma_init_33 : decode c_Ma_init 33 = .ok (.putfield 21, 3) := by decide +kernel
theorem d_Ma_init_36 : decode c_Ma_init 36 = .ok (.aload_n 0, 1) := by decide +kernel
theorem d_Ma_init_37 : decode c_Ma_init 37 = .ok (.sipush 1600, 3) := by decide +kernel
theorem d_Ma_init_40 : decode c_Ma_init 40 = .ok (.newarray .int, 2) := by decide +kernel
theorem d_Ma_init_42 : decode c_Ma_init 42 = .ok (.putfield 24, 3) := by decide +kernel
theorem d_Ma_init_45 : decode c_Ma_init 45 = .ok (.aload_n 0, 1) := by decide +kernel
theorem d_Ma_init_46 : decode c_Ma_init 46 = .ok (.sipush 1600, 3) := by decide +kernel
theorem d_Ma_init_49 : decode c_Ma_init 49 = .ok (.newarray .int, 2) := by decide +kernel
theorem d_Ma_init_51 : decode c_Ma_init 51 = .ok (.putfield 27, 3) := by decide +kernel
theorem d_Ma_init_54 : decode c_Ma_init 54 = .ok (.aload_n 0, 1) := by decide +kernel
theorem d_Ma_init_55 : decode c_Ma_init 55 = .ok (.sipush 200, 3) := by decide +kernel
theorem d_Ma_init_58 : decode c_Ma_init 58 = .ok (.newarray .int, 2) := by decide +kernel
theorem d_Ma_init_60 : decode c_Ma_init 60 = .ok (.putfield 30, 3) := by decide +kernel
theorem d_Ma_init_63 : decode c_Ma_init 63 = .ok (.return_, 1) := by decide +kernel
theorem d_Ru_feed_0 : decode c_Ru_feed 0 = .ok (.aload_n 0, 1) := by decide +kernel
theorem d_Ru_feed_1 : decode c_Ru_feed 1 = .ok (.getfield 12, 3) := by decide +kernel
theorem d_Ru_feed_4 : decode c_Ru_feed 4 = .ok (.getfield 37, 3) := by decide +kernel
theorem d_Ru_feed_7 : decode c_Ru_feed 7 = .ok (.bipush 20, 2) := by decide +kernel
theorem d_Ru_feed_9 : decode c_Ru_feed 9 = .ok (.iadd, 1) := by decide +kernel
theorem d_Ru_feed_10 : decode c_Ru_feed 10 = .ok (.sipush 400, 3) := by decide +kernel
theorem d_Ru_feed_13 : decode c_Ru_feed 13 = .ok (.if_icmp .le 6, 3) := by decide +kernel
theorem d_Ru_feed_16 : decode c_Ru_feed 16 = .ok (.bipush (-3), 2) := by decide +kernel
theorem d_Ru_feed_18 : decode c_Ru_feed 18 = .ok (.ireturn, 1) := by decide +kernel
theorem d_Ru_feed_19 : decode c_Ru_feed 19 = .ok (.aload_n 0, 1) := by decide +kernel
theorem d_Ru_feed_20 : decode c_Ru_feed 20 = .ok (.getfield 12, 3) := by decide +kernel
theorem d_Ru_feed_23 : decode c_Ru_feed 23 = .ok (.iload_n 1, 1) := by decide +kernel
theorem d_Ru_feed_24 : decode c_Ru_feed 24 = .ok (.invokevirtual 41, 3) := by decide +kernel
theorem d_Ru_feed_27 : decode c_Ru_feed 27 = .ok (.aload_n 0, 1) := by decide +kernel
theorem d_Ru_feed_28 : decode c_Ru_feed 28 = .ok (.getfield 12, 3) := by decide +kernel
theorem d_Ru_feed_31 : decode c_Ru_feed 31 = .ok (.iload_n 2, 1) := by decide +kernel
theorem d_Ru_feed_32 : decode c_Ru_feed 32 = .ok (.invokevirtual 41, 3) := by decide +kernel
theorem d_Ru_feed_35 : decode c_Ru_feed 35 = .ok (.aload_n 0, 1) := by decide +kernel
theorem d_Ru_feed_36 : decode c_Ru_feed 36 = .ok (.getfield 12, 3) := by decide +kernel
theorem d_Ru_feed_39 : decode c_Ru_feed 39 = .ok (.iload_n 3, 1) := by decide +kernel
theorem d_Ru_feed_40 : decode c_Ru_feed 40 = .ok (.invokevirtual 41, 3) := by decide +kernel
theorem d_Ru_feed_43 : decode c_Ru_feed 43 = .ok (.aload_n 0, 1) := by decide +kernel
theorem d_Ru_feed_44 : decode c_Ru_feed 44 = .ok (.getfield 12, 3) := by decide +kernel
theorem d_Ru_feed_47 : decode c_Ru_feed 47 = .ok (.iload 4, 2) := by decide +kernel
theorem d_Ru_feed_49 : decode c_Ru_feed 49 = .ok (.invokevirtual 41, 3) := by decide +kernel
theorem d_Ru_feed_52 : decode c_Ru_feed 52 = .ok (.aload_n 0, 1) := by decide +kernel
theorem d_Ru_feed_53 : decode c_Ru_feed 53 = .ok (.getfield 12, 3) := by decide +kernel
theorem d_Ru_feed_56 : decode c_Ru_feed 56 = .ok (.iload 5, 2) := by decide +kernel
theorem d_Ru_feed_58 : decode c_Ru_feed 58 = .ok (.invokevirtual 41, 3) := by decide +kernel
theorem d_Ru_feed_61 : decode c_Ru_feed 61 = .ok (.aload_n 0, 1) := by decide +kernel
theorem d_Ru_feed_62 : decode c_Ru_feed 62 = .ok (.getfield 12, 3) := by decide +kernel
theorem d_Ru_feed_65 : decode c_Ru_feed 65 = .ok (.getfield 37, 3) := by decide +kernel
theorem d_Ru_feed_68 : decode c_Ru_feed 68 = .ok (.ireturn, 1) := by decide +kernel
theorem d_Ta_append_0 : decode c_Ta_append 0 = .ok (.bipush 24, 2) := by decide +kernel
theorem d_Ta_append_2 : decode c_Ta_append 2 = .ok (.istore_n 2, 1) := by decide +kernel
theorem d_Ta_append_3 : decode c_Ta_append 3 = .ok (.iload_n 2, 1) := by decide +kernel
theorem d_Ta_append_4 : decode c_Ta_append 4 = .ok (.ifCond .lt 42, 3) := by decide +kernel
theorem d_Ta_append_7 : decode c_Ta_append 7 = .ok (.aload_n 0, 1) := by decide +kernel
theorem d_Ta_append_8 : decode c_Ta_append 8 = .ok (.getfield 15, 3) := by decide +kernel
theorem d_Ta_append_11 : decode c_Ta_append 11 = .ok (.sipush 400, 3) := by decide +kernel
theorem d_Ta_append_14 : decode c_Ta_append 14 = .ok (.if_icmp .ge 26, 3) := by decide +kernel
theorem d_Ta_append_17 : decode c_Ta_append 17 = .ok (.aload_n 0, 1) := by decide +kernel
theorem d_Ta_append_18 : decode c_Ta_append 18 = .ok (.getfield 9, 3) := by decide +kernel
theorem d_Ta_append_21 : decode c_Ta_append 21 = .ok (.aload_n 0, 1) := by decide +kernel
theorem d_Ta_append_22 : decode c_Ta_append 22 = .ok (.getfield 15, 3) := by decide +kernel
theorem d_Ta_append_25 : decode c_Ta_append 25 = .ok (.iload_n 1, 1) := by decide +kernel
theorem d_Ta_append_26 : decode c_Ta_append 26 = .ok (.iload_n 2, 1) := by decide +kernel
theorem d_Ta_append_27 : decode c_Ta_append 27 = .ok (.ishr, 1) := by decide +kernel
theorem d_Ta_append_28 : decode c_Ta_append 28 = .ok (.i2b, 1) := by decide +kernel
theorem d_Ta_append_29 : decode c_Ta_append 29 = .ok (.bastore, 1) := by decide +kernel
theorem d_Ta_append_30 : decode c_Ta_append 30 = .ok (.aload_n 0, 1) := by decide +kernel
theorem d_Ta_append_31 : decode c_Ta_append 31 = .ok (.dup, 1) := by decide +kernel
theorem d_Ta_append_32 : decode c_Ta_append 32 = .ok (.getfield 15, 3) := by decide +kernel
theorem d_Ta_append_35 : decode c_Ta_append 35 = .ok (.iconst 1, 1) := by decide +kernel
theorem d_Ta_append_36 : decode c_Ta_append 36 = .ok (.iadd, 1) := by decide +kernel
theorem d_Ta_append_37 : decode c_Ta_append 37 = .ok (.putfield 15, 3) := by decide +kernel
theorem d_Ta_append_40 : decode c_Ta_append 40 = .ok (.iinc 2 (-8), 3) := by decide +kernel
theorem d_Ta_append_43 : decode c_Ta_append 43 = .ok (.goto (-40), 3) := by decide +kernel
theorem d_Ta_append_46 : decode c_Ta_append 46 = .ok (.return_, 1) := by decide +kernel
theorem d_Ru_end_0 : decode c_Ru_end 0 = .ok (.iload_n 1, 1) := by decide +kernel
theorem d_Ru_end_1 : decode c_Ru_end 1 = .ok (.ifCond .lt 14, 3) := by decide +kernel
theorem d_Ru_end_4 : decode c_Ru_end 4 = .ok (.iload_n 1, 1) := by decide +kernel
theorem d_Ru_end_5 : decode c_Ru_end 5 = .ok (.aload_n 0, 1) := by decide +kernel
theorem d_Ru_end_6 : decode c_Ru_end 6 = .ok (.getfield 12, 3) := by decide +kernel
theorem d_Ru_end_9 : decode c_Ru_end 9 = .ok (.getfield 37, 3) := by decide +kernel
theorem d_Ru_end_12 : decode c_Ru_end 12 = .ok (.if_icmp .le 5, 3) := by decide +kernel
theorem d_Ru_end_15 : decode c_Ru_end 15 = .ok (.iconst (-1), 1) := by decide +kernel
theorem d_Ru_end_16 : decode c_Ru_end 16 = .ok (.ireturn, 1) := by decide +kernel
theorem d_Ru_end_17 : decode c_Ru_end 17 = .ok (.aload_n 0, 1) := by decide +kernel
theorem d_Ru_end_18 : decode c_Ru_end 18 = .ok (.getfield 12, 3) := by decide +kernel
theorem d_Ru_end_21 : decode c_Ru_end 21 = .ok (.iload_n 1, 1) := by decide +kernel
theorem d_Ru_end_22 : decode c_Ru_end 22 = .ok (.putfield 37, 3) := by decide +kernel
theorem d_Ru_end_25 : decode c_Ru_end 25 = .ok (.iload_n 1, 1) := by decide +kernel
theorem d_Ru_end_26 : decode c_Ru_end 26 = .ok (.ireturn, 1) := by decide +kernel
theorem d_Ru_program_0 : decode c_Ru_program 0 = .ok (.aload_n 0, 1) := by decide +kernel
theorem d_Ru_program_1 : decode c_Ru_program 1 = .ok (.getfield 19, 3) := by decide +kernel
theorem d_Ru_program_4 : decode c_Ru_program 4 = .ok (.aload_n 0, 1) := by decide +kernel
theorem d_Ru_program_5 : decode c_Ru_program 5 = .ok (.getfield 12, 3) := by decide +kernel
theorem d_Ru_program_8 : decode c_Ru_program 8 = .ok (.invokevirtual 45, 3) := by decide +kernel
theorem d_Ru_program_11 : decode c_Ru_program 11 = .ok (.istore_n 1, 1) := by decide +kernel
theorem d_Ru_program_12 : decode c_Ru_program 12 = .ok (.aload_n 0, 1) := by decide +kernel
theorem d_Ru_program_13 : decode c_Ru_program 13 = .ok (.getfield 12, 3) := by decide +kernel
theorem d_Ru_program_16 : decode c_Ru_program 16 = .ok (.iconst 0, 1) := by decide +kernel
theorem d_Ru_program_17 : decode c_Ru_program 17 = .ok (.putfield 37, 3) := by decide +kernel
theorem d_Ru_program_20 : decode c_Ru_program 20 = .ok (.iload_n 1, 1) := by decide +kernel
theorem d_Ru_program_21 : decode c_Ru_program 21 = .ok (.bipush (-2), 2) := by decide +kernel
theorem d_Ru_program_23 : decode c_Ru_program 23 = .ok (.if_icmp .ne 18, 3) := by decide +kernel
theorem d_Ru_program_26 : decode c_Ru_program 26 = .ok (.aload_n 0, 1) := by decide +kernel
theorem d_Ru_program_27 : decode c_Ru_program 27 = .ok (.aload_n 0, 1) := by decide +kernel
theorem d_Ru_program_28 : decode c_Ru_program 28 = .ok (.getfield 19, 3) := by decide +kernel
theorem d_Ru_program_31 : decode c_Ru_program 31 = .ok (.aload_n 0, 1) := by decide +kernel
theorem d_Ru_program_32 : decode c_Ru_program 32 = .ok (.getfield 33, 3) := by decide +kernel
theorem d_Ru_program_35 : decode c_Ru_program 35 = .ok (.invokevirtual 49, 3) := by decide +kernel
theorem d_Ru_program_38 : decode c_Ru_program 38 = .ok (.putfield 33, 3) := by decide +kernel
theorem d_Ru_program_41 : decode c_Ru_program 41 = .ok (.iload_n 1, 1) := by decide +kernel
theorem d_Ru_program_42 : decode c_Ru_program 42 = .ok (.ireturn, 1) := by decide +kernel
theorem d_Re_read_0 : decode c_Re_read 0 = .ok (.aload_n 0, 1) := by decide +kernel
theorem d_Re_read_1 : decode c_Re_read 1 = .ok (.getfield 12, 3) := by decide +kernel
theorem d_Re_read_4 : decode c_Re_read 4 = .ok (.aload_n 1, 1) := by decide +kernel
theorem d_Re_read_5 : decode c_Re_read 5 = .ok (.invokevirtual 25, 3) := by decide +kernel
theorem d_Re_read_8 : decode c_Re_read 8 = .ok (.aload_n 0, 1) := by decide +kernel
theorem d_Re_read_9 : decode c_Re_read 9 = .ok (.getfield 21, 3) := by decide +kernel
theorem d_Re_read_12 : decode c_Re_read 12 = .ok (.invokevirtual 29, 3) := by decide +kernel
theorem d_Re_read_15 : decode c_Re_read 15 = .ok (.aload_n 0, 1) := by decide +kernel
theorem d_Re_read_16 : decode c_Re_read 16 = .ok (.iconst 0, 1) := by decide +kernel
theorem d_Re_read_17 : decode c_Re_read 17 = .ok (.putfield 32, 3) := by decide +kernel
theorem d_Re_read_20 : decode c_Re_read 20 = .ok (.aload_n 0, 1) := by decide +kernel
theorem d_Re_read_21 : decode c_Re_read 21 = .ok (.iconst 0, 1) := by decide +kernel
theorem d_Re_read_22 : decode c_Re_read 22 = .ok (.putfield 36, 3) := by decide +kernel
theorem d_Re_read_25 : decode c_Re_read 25 = .ok (.iconst 0, 1) := by decide +kernel
theorem d_Re_read_26 : decode c_Re_read 26 = .ok (.istore_n 2, 1) := by decide +kernel
theorem d_Re_read_27 : decode c_Re_read 27 = .ok (.iload_n 2, 1) := by decide +kernel
theorem d_Re_read_28 : decode c_Re_read 28 = .ok (.bipush 6, 2) := by decide +kernel
theorem d_Re_read_30 : decode c_Re_read 30 = .ok (.if_icmp .ge 48, 3) := by decide +kernel
theorem d_Re_read_33 : decode c_Re_read 33 = .ok (.aload_n 0, 1) := by decide +kernel
theorem d_Re_read_34 : decode c_Re_read 34 = .ok (.invokevirtual 39, 3) := by decide +kernel
theorem d_Re_read_37 : decode c_Re_read 37 = .ok (.ifCond .ne 6, 3) := by decide +kernel
theorem d_Re_read_40 : decode c_Re_read 40 = .ok (.goto 38, 3) := by decide +kernel
theorem d_Re_read_43 : decode c_Re_read 43 = .ok (.aload_n 0, 1) := by decide +kernel
theorem d_Re_read_44 : decode c_Re_read 44 = .ok (.getfield 21, 3) := by decide +kernel
theorem d_Re_read_47 : decode c_Re_read 47 = .ok (.invokevirtual 43, 3) := by decide +kernel
theorem d_Re_read_50 : decode c_Re_read 50 = .ok (.aload_n 0, 1) := by decide +kernel
theorem d_Re_read_51 : decode c_Re_read 51 = .ok (.iconst 0, 1) := by decide +kernel
theorem d_Re_read_52 : decode c_Re_read 52 = .ok (.invokevirtual 46, 3) := by decide +kernel
theorem d_Re_read_55 : decode c_Re_read 55 = .ok (.ifCond .eq 6, 3) := by decide +kernel
theorem d_Re_read_58 : decode c_Re_read 58 = .ok (.bipush (-2), 2) := by decide +kernel
theorem d_Re_read_60 : decode c_Re_read 60 = .ok (.ireturn, 1) := by decide +kernel
theorem d_Re_read_61 : decode c_Re_read 61 = .ok (.aload_n 0, 1) := by decide +kernel
theorem d_Re_read_62 : decode c_Re_read 62 = .ok (.iconst 4, 1) := by decide +kernel
theorem d_Re_read_63 : decode c_Re_read 63 = .ok (.invokevirtual 50, 3) := by decide +kernel
theorem d_Re_read_66 : decode c_Re_read 66 = .ok (.ifCond .ne 6, 3) := by decide +kernel
theorem d_Re_read_69 : decode c_Re_read 69 = .ok (.goto 9, 3) := by decide +kernel
theorem d_Re_read_72 : decode c_Re_read 72 = .ok (.iinc 2 1, 3) := by decide +kernel
theorem d_Re_read_75 : decode c_Re_read 75 = .ok (.goto (-48), 3) := by decide +kernel
theorem d_Re_read_78 : decode c_Re_read 78 = .ok (.aload_n 0, 1) := by decide +kernel
theorem d_Re_read_79 : decode c_Re_read 79 = .ok (.getfield 12, 3) := by decide +kernel
theorem d_Re_read_82 : decode c_Re_read 82 = .ok (.getfield 53, 3) := by decide +kernel
theorem d_Re_read_85 : decode c_Re_read 85 = .ok (.aload_n 0, 1) := by decide +kernel
theorem d_Re_read_86 : decode c_Re_read 86 = .ok (.getfield 32, 3) := by decide +kernel
theorem d_Re_read_89 : decode c_Re_read 89 = .ok (.iaload, 1) := by decide +kernel
theorem d_Re_read_90 : decode c_Re_read 90 = .ok (.ireturn, 1) := by decide +kernel
theorem d_To_split_0 : decode c_To_split 0 = .ok (.aload_n 0, 1) := by decide +kernel
theorem d_To_split_1 : decode c_To_split 1 = .ok (.iconst 0, 1) := by decide +kernel
theorem d_To_split_2 : decode c_To_split 2 = .ok (.putfield 21, 3) := by decide +kernel
theorem d_To_split_5 : decode c_To_split 5 = .ok (.iconst 0, 1) := by decide +kernel
theorem d_To_split_6 : decode c_To_split 6 = .ok (.istore_n 2, 1) := by decide +kernel
theorem d_To_split_7 : decode c_To_split 7 = .ok (.iconst 0, 1) := by decide +kernel
theorem d_To_split_8 : decode c_To_split 8 = .ok (.istore_n 3, 1) := by decide +kernel
theorem d_To_split_9 : decode c_To_split 9 = .ok (.iload_n 3, 1) := by decide +kernel
theorem d_To_split_10 : decode c_To_split 10 = .ok (.aload_n 1, 1) := by decide +kernel
theorem d_To_split_11 : decode c_To_split 11 = .ok (.getfield 25, 3) := by decide +kernel
theorem d_To_split_14 : decode c_To_split 14 = .ok (.if_icmp .ge 32, 3) := by decide +kernel
theorem d_To_split_17 : decode c_To_split 17 = .ok (.iload_n 3, 1) := by decide +kernel
theorem d_To_split_18 : decode c_To_split 18 = .ok (.iload_n 2, 1) := by decide +kernel
theorem d_To_split_19 : decode c_To_split 19 = .ok (.if_icmp .lt 21, 3) := by decide +kernel
theorem d_To_split_22 : decode c_To_split 22 = .ok (.aload_n 1, 1) := by decide +kernel
theorem d_To_split_23 : decode c_To_split 23 = .ok (.getfield 30, 3) := by decide +kernel
theorem d_To_split_26 : decode c_To_split 26 = .ok (.iload_n 3, 1) := by decide +kernel
theorem d_To_split_27 : decode c_To_split 27 = .ok (.baload, 1) := by decide +kernel
theorem d_To_split_28 : decode c_To_split 28 = .ok (.bipush 32, 2) := by decide +kernel
theorem d_To_split_30 : decode c_To_split 30 = .ok (.if_icmp .eq 10, 3) := by decide +kernel
theorem d_To_split_33 : decode c_To_split 33 = .ok (.aload_n 0, 1) := by decide +kernel
theorem d_To_split_34 : decode c_To_split 34 = .ok (.aload_n 1, 1) := by decide +kernel
theorem d_To_split_35 : decode c_To_split 35 = .ok (.iload_n 3, 1) := by decide +kernel
theorem d_To_split_36 : decode c_To_split 36 = .ok (.invokevirtual 34, 3) := by decide +kernel
theorem d_To_split_39 : decode c_To_split 39 = .ok (.istore_n 2, 1) := by decide +kernel
theorem d_To_split_40 : decode c_To_split 40 = .ok (.iinc 3 1, 3) := by decide +kernel
theorem d_To_split_43 : decode c_To_split 43 = .ok (.goto (-34), 3) := by decide +kernel
theorem d_To_split_46 : decode c_To_split 46 = .ok (.aload_n 0, 1) := by decide +kernel
theorem d_To_split_47 : decode c_To_split 47 = .ok (.iconst 0, 1) := by decide +kernel
theorem d_To_split_48 : decode c_To_split 48 = .ok (.iconst 0, 1) := by decide +kernel
theorem d_To_split_49 : decode c_To_split 49 = .ok (.aload_n 1, 1) := by decide +kernel
theorem d_To_split_50 : decode c_To_split 50 = .ok (.getfield 25, 3) := by decide +kernel
theorem d_To_split_53 : decode c_To_split 53 = .ok (.invokevirtual 38, 3) := by decide +kernel
theorem d_To_split_56 : decode c_To_split 56 = .ok (.return_, 1) := by decide +kernel
theorem d_To_splitOne_0 : decode c_To_splitOne 0 = .ok (.aload_n 1, 1) := by decide +kernel
theorem d_To_splitOne_1 : decode c_To_splitOne 1 = .ok (.getfield 30, 3) := by decide +kernel
theorem d_To_splitOne_4 : decode c_To_splitOne 4 = .ok (.iload_n 2, 1) := by decide +kernel
theorem d_To_splitOne_5 : decode c_To_splitOne 5 = .ok (.baload, 1) := by decide +kernel
theorem d_To_splitOne_6 : decode c_To_splitOne 6 = .ok (.istore_n 3, 1) := by decide +kernel
theorem d_To_splitOne_7 : decode c_To_splitOne 7 = .ok (.iload_n 3, 1) := by decide +kernel
theorem d_To_splitOne_8 : decode c_To_splitOne 8 = .ok (.invokestatic 42, 3) := by decide +kernel
theorem d_To_splitOne_11 : decode c_To_splitOne 11 = .ok (.ifCond .eq 10, 3) := by decide +kernel
theorem d_To_splitOne_14 : decode c_To_splitOne 14 = .ok (.aload_n 0, 1) := by decide +kernel
theorem d_To_splitOne_15 : decode c_To_splitOne 15 = .ok (.aload_n 1, 1) := by decide +kernel
theorem d_To_splitOne_16 : decode c_To_splitOne 16 = .ok (.iload_n 2, 1) := by decide +kernel
theorem d_To_splitOne_17 : decode c_To_splitOne 17 = .ok (.invokevirtual 46, 3) := by decide +kernel
theorem d_To_splitOne_20 : decode c_To_splitOne 20 = .ok (.ireturn, 1) := by decide +kernel
theorem d_To_splitOne_21 : decode c_To_splitOne 21 = .ok (.iload_n 3, 1) := by decide +kernel
theorem d_To_splitOne_22 : decode c_To_splitOne 22 = .ok (.invokestatic 49, 3) := by decide +kernel
theorem d_To_splitOne_25 : decode c_To_splitOne 25 = .ok (.ifCond .eq 10, 3) := by decide +kernel
theorem d_To_splitOne_28 : decode c_To_splitOne 28 = .ok (.aload_n 0, 1) := by decide +kernel
theorem d_To_splitOne_29 : decode c_To_splitOne 29 = .ok (.aload_n 1, 1) := by decide +kernel
theorem d_To_splitOne_30 : decode c_To_splitOne 30 = .ok (.iload_n 2, 1) := by decide +kernel
theorem d_To_splitOne_31 : decode c_To_splitOne 31 = .ok (.invokevirtual 52, 3) := by decide +kernel
theorem d_To_splitOne_34 : decode c_To_splitOne 34 = .ok (.ireturn, 1) := by decide +kernel
theorem d_To_splitOne_35 : decode c_To_splitOne 35 = .ok (.iload_n 3, 1) := by decide +kernel
theorem d_To_splitOne_36 : decode c_To_splitOne 36 = .ok (.bipush 58, 2) := by decide +kernel
theorem d_To_splitOne_38 : decode c_To_splitOne 38 = .ok (.if_icmp .ne 38, 3) := by decide +kernel
theorem d_To_splitOne_41 : decode c_To_splitOne 41 = .ok (.iload_n 2, 1) := by decide +kernel
theorem d_To_splitOne_42 : decode c_To_splitOne 42 = .ok (.iconst 1, 1) := by decide +kernel
theorem d_To_splitOne_43 : decode c_To_splitOne 43 = .ok (.iadd, 1) := by decide +kernel
theorem d_To_splitOne_44 : decode c_To_splitOne 44 = .ok (.aload_n 1, 1) := by decide +kernel
theorem d_To_splitOne_45 : decode c_To_splitOne 45 = .ok (.getfield 25, 3) := by decide +kernel
theorem d_To_splitOne_48 : decode c_To_splitOne 48 = .ok (.if_icmp .ge 28, 3) := by decide +kernel
theorem d_To_splitOne_51 : decode c_To_splitOne 51 = .ok (.aload_n 1, 1) := by decide +kernel
theorem d_To_splitOne_52 : decode c_To_splitOne 52 = .ok (.getfield 30, 3) := by decide +kernel
theorem d_To_splitOne_55 : decode c_To_splitOne 55 = .ok (.iload_n 2, 1) := by decide +kernel
theorem d_To_splitOne_56 : decode c_To_splitOne 56 = .ok (.iconst 1, 1) := by decide +kernel
theorem d_To_splitOne_57 : decode c_To_splitOne 57 = .ok (.iadd, 1) := by decide +kernel
theorem d_To_splitOne_58 : decode c_To_splitOne 58 = .ok (.baload, 1) := by decide +kernel
theorem d_To_splitOne_59 : decode c_To_splitOne 59 = .ok (.bipush 61, 2) := by decide +kernel
theorem d_To_splitOne_61 : decode c_To_splitOne 61 = .ok (.if_icmp .ne 15, 3) := by decide +kernel
theorem d_To_splitOne_64 : decode c_To_splitOne 64 = .ok (.aload_n 0, 1) := by decide +kernel
theorem d_To_splitOne_65 : decode c_To_splitOne 65 = .ok (.bipush 17, 2) := by decide +kernel
theorem d_To_splitOne_67 : decode c_To_splitOne 67 = .ok (.iconst 0, 1) := by decide +kernel
theorem d_To_splitOne_68 : decode c_To_splitOne 68 = .ok (.iload_n 2, 1) := by decide +kernel
theorem d_To_splitOne_69 : decode c_To_splitOne 69 = .ok (.invokevirtual 38, 3) := by decide +kernel
theorem d_To_splitOne_72 : decode c_To_splitOne 72 = .ok (.iload_n 2, 1) := by decide +kernel
theorem d_To_splitOne_73 : decode c_To_splitOne 73 = .ok (.iconst 2, 1) := by decide +kernel
theorem d_To_splitOne_74 : decode c_To_splitOne 74 = .ok (.iadd, 1) := by decide +kernel
theorem d_To_splitOne_75 : decode c_To_splitOne 75 = .ok (.ireturn, 1) := by decide +kernel
theorem d_To_splitOne_76 : decode c_To_splitOne 76 = .ok (.aload_n 0, 1) := by decide +kernel
theorem d_To_splitOne_77 : decode c_To_splitOne 77 = .ok (.iload_n 3, 1) := by decide +kernel
theorem d_To_splitOne_78 : decode c_To_splitOne 78 = .ok (.invokestatic 55, 3) := by decide +kernel
theorem d_To_splitOne_81 : decode c_To_splitOne 81 = .ok (.iconst 0, 1) := by decide +kernel
theorem d_To_splitOne_82 : decode c_To_splitOne 82 = .ok (.iload_n 2, 1) := by decide +kernel
theorem d_To_splitOne_83 : decode c_To_splitOne 83 = .ok (.invokevirtual 38, 3) := by decide +kernel
theorem d_To_splitOne_86 : decode c_To_splitOne 86 = .ok (.iload_n 2, 1) := by decide +kernel
theorem d_To_splitOne_87 : decode c_To_splitOne 87 = .ok (.iconst 1, 1) := by decide +kernel
theorem d_To_splitOne_88 : decode c_To_splitOne 88 = .ok (.iadd, 1) := by decide +kernel
theorem d_To_splitOne_89 : decode c_To_splitOne 89 = .ok (.ireturn, 1) := by decide +kernel
theorem d_To_isLetter_0 : decode c_To_isLetter 0 = .ok (.iload_n 0, 1) := by decide +kernel
theorem d_To_isLetter_1 : decode c_To_isLetter 1 = .ok (.bipush 97, 2) := by decide +kernel
theorem d_To_isLetter_3 : decode c_To_isLetter 3 = .ok (.if_icmp .lt 13, 3) := by decide +kernel
theorem d_To_isLetter_6 : decode c_To_isLetter 6 = .ok (.iload_n 0, 1) := by decide +kernel
theorem d_To_isLetter_7 : decode c_To_isLetter 7 = .ok (.bipush 122, 2) := by decide +kernel
theorem d_To_isLetter_9 : decode c_To_isLetter 9 = .ok (.if_icmp .gt 7, 3) := by decide +kernel
theorem d_To_isLetter_12 : decode c_To_isLetter 12 = .ok (.iconst 1, 1) := by decide +kernel
theorem d_To_isLetter_13 : decode c_To_isLetter 13 = .ok (.goto 4, 3) := by decide +kernel
theorem d_To_isLetter_16 : decode c_To_isLetter 16 = .ok (.iconst 0, 1) := by decide +kernel
theorem d_To_isLetter_17 : decode c_To_isLetter 17 = .ok (.ireturn, 1) := by decide +kernel
theorem d_To_splitWord_0 : decode c_To_splitWord 0 = .ok (.iload_n 2, 1) := by decide +kernel
theorem d_To_splitWord_1 : decode c_To_splitWord 1 = .ok (.istore_n 3, 1) := by decide +kernel
theorem d_To_splitWord_2 : decode c_To_splitWord 2 = .ok (.iload_n 3, 1) := by decide +kernel
theorem d_To_splitWord_3 : decode c_To_splitWord 3 = .ok (.aload_n 1, 1) := by decide +kernel
theorem d_To_splitWord_4 : decode c_To_splitWord 4 = .ok (.getfield 25, 3) := by decide +kernel
theorem d_To_splitWord_7 : decode c_To_splitWord 7 = .ok (.if_icmp .ge 21, 3) := by decide +kernel
theorem d_To_splitWord_10 : decode c_To_splitWord 10 = .ok (.aload_n 1, 1) := by decide +kernel
theorem d_To_splitWord_11 : decode c_To_splitWord 11 = .ok (.getfield 30, 3) := by decide +kernel
theorem d_To_splitWord_14 : decode c_To_splitWord 14 = .ok (.iload_n 3, 1) := by decide +kernel
theorem d_To_splitWord_15 : decode c_To_splitWord 15 = .ok (.baload, 1) := by decide +kernel
theorem d_To_splitWord_16 : decode c_To_splitWord 16 = .ok (.invokestatic 42, 3) := by decide +kernel
theorem d_To_splitWord_19 : decode c_To_splitWord 19 = .ok (.ifCond .eq 9, 3) := by decide +kernel
theorem d_To_splitWord_22 : decode c_To_splitWord 22 = .ok (.iinc 3 1, 3) := by decide +kernel
theorem d_To_splitWord_25 : decode c_To_splitWord 25 = .ok (.goto (-23), 3) := by decide +kernel
theorem d_To_splitWord_28 : decode c_To_splitWord 28 = .ok (.aload_n 0, 1) := by decide +kernel
theorem d_To_splitWord_29 : decode c_To_splitWord 29 = .ok (.aload_n 1, 1) := by decide +kernel
theorem d_To_splitWord_30 : decode c_To_splitWord 30 = .ok (.iload_n 2, 1) := by decide +kernel
theorem d_To_splitWord_31 : decode c_To_splitWord 31 = .ok (.iload_n 3, 1) := by decide +kernel
theorem d_To_splitWord_32 : decode c_To_splitWord 32 = .ok (.invokestatic 59, 3) := by decide +kernel
theorem d_To_splitWord_35 : decode c_To_splitWord 35 = .ok (.iconst 0, 1) := by decide +kernel
theorem d_To_splitWord_36 : decode c_To_splitWord 36 = .ok (.iload_n 2, 1) := by decide +kernel
theorem d_To_splitWord_37 : decode c_To_splitWord 37 = .ok (.invokevirtual 38, 3) := by decide +kernel
theorem d_To_splitWord_40 : decode c_To_splitWord 40 = .ok (.iload_n 3, 1) := by decide +kernel
theorem d_To_splitWord_41 : decode c_To_splitWord 41 = .ok (.ireturn, 1) := by decide +kernel
theorem d_To_wordKind_0 : decode c_To_wordKind 0 = .ok (.aload_n 0, 1) := by decide +kernel
theorem d_To_wordKind_1 : decode c_To_wordKind 1 = .ok (.ldc 75, 2) := by decide +kernel
theorem d_To_wordKind_3 : decode c_To_wordKind 3 = .ok (.iload_n 1, 1) := by decide +kernel
theorem d_To_wordKind_4 : decode c_To_wordKind 4 = .ok (.iload_n 2, 1) := by decide +kernel
theorem d_To_wordKind_5 : decode c_To_wordKind 5 = .ok (.invokevirtual 77, 3) := by decide +kernel
theorem d_To_wordKind_8 : decode c_To_wordKind 8 = .ok (.ifCond .eq 6, 3) := by decide +kernel
theorem d_To_wordKind_11 : decode c_To_wordKind 11 = .ok (.bipush 8, 2) := by decide +kernel
theorem d_To_wordKind_13 : decode c_To_wordKind 13 = .ok (.ireturn, 1) := by decide +kernel
theorem d_To_wordKind_14 : decode c_To_wordKind 14 = .ok (.aload_n 0, 1) := by decide +kernel
theorem d_To_wordKind_15 : decode c_To_wordKind 15 = .ok (.ldc 81, 2) := by decide +kernel
theorem d_To_wordKind_17 : decode c_To_wordKind 17 = .ok (.iload_n 1, 1) := by decide +kernel
theorem d_To_wordKind_18 : decode c_To_wordKind 18 = .ok (.iload_n 2, 1) := by decide +kernel
theorem d_To_wordKind_19 : decode c_To_wordKind 19 = .ok (.invokevirtual 77, 3) := by decide +kernel
theorem d_To_wordKind_22 : decode c_To_wordKind 22 = .ok (.ifCond .eq 5, 3) := by decide +kernel
theorem d_To_wordKind_25 : decode c_To_wordKind 25 = .ok (.iconst 2, 1) := by decide +kernel
theorem d_To_wordKind_26 : decode c_To_wordKind 26 = .ok (.ireturn, 1) := by decide +kernel
theorem d_To_wordKind_27 : decode c_To_wordKind 27 = .ok (.aload_n 0, 1) := by decide +kernel
theorem d_To_wordKind_28 : decode c_To_wordKind 28 = .ok (.ldc 83, 2) := by decide +kernel
theorem d_To_wordKind_30 : decode c_To_wordKind 30 = .ok (.iload_n 1, 1) := by decide +kernel
theorem d_To_wordKind_31 : decode c_To_wordKind 31 = .ok (.iload_n 2, 1) := by decide +kernel
theorem d_To_wordKind_32 : decode c_To_wordKind 32 = .ok (.invokevirtual 77, 3) := by decide +kernel
theorem d_To_wordKind_35 : decode c_To_wordKind 35 = .ok (.ifCond .eq 5, 3) := by decide +kernel
theorem d_To_wordKind_38 : decode c_To_wordKind 38 = .ok (.iconst 3, 1) := by decide +kernel
theorem d_To_wordKind_39 : decode c_To_wordKind 39 = .ok (.ireturn, 1) := by decide +kernel
theorem d_To_wordKind_40 : decode c_To_wordKind 40 = .ok (.aload_n 0, 1) := by decide +kernel
theorem d_To_wordKind_41 : decode c_To_wordKind 41 = .ok (.ldc 85, 2) := by decide +kernel
theorem d_To_wordKind_43 : decode c_To_wordKind 43 = .ok (.iload_n 1, 1) := by decide +kernel
theorem d_To_wordKind_44 : decode c_To_wordKind 44 = .ok (.iload_n 2, 1) := by decide +kernel
theorem d_To_wordKind_45 : decode c_To_wordKind 45 = .ok (.invokevirtual 77, 3) := by decide +kernel
theorem d_To_wordKind_48 : decode c_To_wordKind 48 = .ok (.ifCond .eq 5, 3) := by decide +kernel
theorem d_To_wordKind_51 : decode c_To_wordKind 51 = .ok (.iconst 4, 1) := by decide +kernel
theorem d_To_wordKind_52 : decode c_To_wordKind 52 = .ok (.ireturn, 1) := by decide +kernel
theorem d_To_wordKind_53 : decode c_To_wordKind 53 = .ok (.aload_n 0, 1) := by decide +kernel
theorem d_To_wordKind_54 : decode c_To_wordKind 54 = .ok (.ldc 87, 2) := by decide +kernel
theorem d_To_wordKind_56 : decode c_To_wordKind 56 = .ok (.iload_n 1, 1) := by decide +kernel
theorem d_To_wordKind_57 : decode c_To_wordKind 57 = .ok (.iload_n 2, 1) := by decide +kernel
theorem d_To_wordKind_58 : decode c_To_wordKind 58 = .ok (.invokevirtual 77, 3) := by decide +kernel
theorem d_To_wordKind_61 : decode c_To_wordKind 61 = .ok (.ifCond .eq 5, 3) := by decide +kernel
theorem d_To_wordKind_64 : decode c_To_wordKind 64 = .ok (.iconst 5, 1) := by decide +kernel
theorem d_To_wordKind_65 : decode c_To_wordKind 65 = .ok (.ireturn, 1) := by decide +kernel
theorem d_To_wordKind_66 : decode c_To_wordKind 66 = .ok (.aload_n 0, 1) := by decide +kernel
theorem d_To_wordKind_67 : decode c_To_wordKind 67 = .ok (.ldc 89, 2) := by decide +kernel
theorem d_To_wordKind_69 : decode c_To_wordKind 69 = .ok (.iload_n 1, 1) := by decide +kernel
theorem d_To_wordKind_70 : decode c_To_wordKind 70 = .ok (.iload_n 2, 1) := by decide +kernel
theorem d_To_wordKind_71 : decode c_To_wordKind 71 = .ok (.invokevirtual 77, 3) := by decide +kernel
theorem d_To_wordKind_74 : decode c_To_wordKind 74 = .ok (.ifCond .eq 6, 3) := by decide +kernel
theorem d_To_wordKind_77 : decode c_To_wordKind 77 = .ok (.bipush 6, 2) := by decide +kernel
theorem d_To_wordKind_79 : decode c_To_wordKind 79 = .ok (.ireturn, 1) := by decide +kernel
theorem d_To_wordKind_80 : decode c_To_wordKind 80 = .ok (.aload_n 0, 1) := by decide +kernel
theorem d_To_wordKind_81 : decode c_To_wordKind 81 = .ok (.ldc 91, 2) := by decide +kernel
theorem d_To_wordKind_83 : decode c_To_wordKind 83 = .ok (.iload_n 1, 1) := by decide +kernel
theorem d_To_wordKind_84 : decode c_To_wordKind 84 = .ok (.iload_n 2, 1) := by decide +kernel
theorem d_To_wordKind_85 : decode c_To_wordKind 85 = .ok (.invokevirtual 77, 3) := by decide +kernel
theorem d_To_wordKind_88 : decode c_To_wordKind 88 = .ok (.ifCond .eq 6, 3) := by decide +kernel
theorem d_To_wordKind_91 : decode c_To_wordKind 91 = .ok (.bipush 7, 2) := by decide +kernel
theorem d_To_wordKind_93 : decode c_To_wordKind 93 = .ok (.ireturn, 1) := by decide +kernel
theorem d_To_wordKind_94 : decode c_To_wordKind 94 = .ok (.iconst 1, 1) := by decide +kernel
theorem d_To_wordKind_95 : decode c_To_wordKind 95 = .ok (.ireturn, 1) := by decide +kernel
theorem d_Ta_spells_0 : decode c_Ta_spells 0 = .ok (.aload_n 1, 1) := by decide +kernel
theorem d_Ta_spells_1 : decode c_Ta_spells 1 = .ok (.invokevirtual 19, 3) := by decide +kernel
theorem d_Ta_spells_4 : decode c_Ta_spells 4 = .ok (.iload_n 3, 1) := by decide +kernel
theorem d_Ta_spells_5 : decode c_Ta_spells 5 = .ok (.iload_n 2, 1) := by decide +kernel
theorem d_Ta_spells_6 : decode c_Ta_spells 6 = .ok (.isub, 1) := by decide +kernel
theorem d_Ta_spells_7 : decode c_Ta_spells 7 = .ok (.if_icmp .eq 5, 3) := by decide +kernel
theorem d_Ta_spells_10 : decode c_Ta_spells 10 = .ok (.iconst 0, 1) := by decide +kernel
theorem d_Ta_spells_11 : decode c_Ta_spells 11 = .ok (.ireturn, 1) := by decide +kernel
theorem d_Ta_spells_12 : decode c_Ta_spells 12 = .ok (.iconst 0, 1) := by decide +kernel
theorem d_Ta_spells_13 : decode c_Ta_spells 13 = .ok (.istore 4, 2) := by decide +kernel
theorem d_Ta_spells_15 : decode c_Ta_spells 15 = .ok (.iload 4, 2) := by decide +kernel
theorem d_Ta_spells_17 : decode c_Ta_spells 17 = .ok (.aload_n 1, 1) := by decide +kernel
theorem d_Ta_spells_18 : decode c_Ta_spells 18 = .ok (.invokevirtual 19, 3) := by decide +kernel
theorem d_Ta_spells_21 : decode c_Ta_spells 21 = .ok (.if_icmp .ge 29, 3) := by decide +kernel
theorem d_Ta_spells_24 : decode c_Ta_spells 24 = .ok (.aload_n 0, 1) := by decide +kernel
theorem d_Ta_spells_25 : decode c_Ta_spells 25 = .ok (.getfield 9, 3) := by decide +kernel
theorem d_Ta_spells_28 : decode c_Ta_spells 28 = .ok (.iload_n 2, 1) := by decide +kernel
theorem d_Ta_spells_29 : decode c_Ta_spells 29 = .ok (.iload 4, 2) := by decide +kernel
theorem d_Ta_spells_31 : decode c_Ta_spells 31 = .ok (.iadd, 1) := by decide +kernel
theorem d_Ta_spells_32 : decode c_Ta_spells 32 = .ok (.baload, 1) := by decide +kernel
theorem d_Ta_spells_33 : decode c_Ta_spells 33 = .ok (.aload_n 1, 1) := by decide +kernel
theorem d_Ta_spells_34 : decode c_Ta_spells 34 = .ok (.iload 4, 2) := by decide +kernel
theorem d_Ta_spells_36 : decode c_Ta_spells 36 = .ok (.invokevirtual 24, 3) := by decide +kernel
theorem d_Ta_spells_39 : decode c_Ta_spells 39 = .ok (.if_icmp .eq 5, 3) := by decide +kernel
theorem d_Ta_spells_42 : decode c_Ta_spells 42 = .ok (.iconst 0, 1) := by decide +kernel
theorem d_Ta_spells_43 : decode c_Ta_spells 43 = .ok (.ireturn, 1) := by decide +kernel
theorem d_Ta_spells_44 : decode c_Ta_spells 44 = .ok (.iinc 4 1, 3) := by decide +kernel
theorem d_Ta_spells_47 : decode c_Ta_spells 47 = .ok (.goto (-32), 3) := by decide +kernel
theorem d_Ta_spells_50 : decode c_Ta_spells 50 = .ok (.iconst 1, 1) := by decide +kernel
theorem d_Ta_spells_51 : decode c_Ta_spells 51 = .ok (.ireturn, 1) := by decide +kernel
theorem d_St_length_0 : decode c_St_length 0 = .ok (.aload_n 0, 1) := by decide +kernel
theorem d_St_length_1 : decode c_St_length 1 = .ok (.getfield 9, 3) := by decide +kernel
theorem d_St_length_4 : decode c_St_length 4 = .ok (.arraylength, 1) := by decide +kernel
theorem d_St_length_5 : decode c_St_length 5 = .ok (.aload_n 0, 1) := by decide +kernel
theorem d_St_length_6 : decode c_St_length 6 = .ok (.invokevirtual 335, 3) := by decide +kernel
theorem d_St_length_9 : decode c_St_length 9 = .ok (.ishr, 1) := by decide +kernel
theorem d_St_length_10 : decode c_St_length 10 = .ok (.ireturn, 1) := by decide +kernel
theorem d_St_coder_0 : decode c_St_coder 0 = .ok (.getstatic 38, 3) := by decide +kernel
theorem d_St_coder_3 : decode c_St_coder 3 = .ok (.ifCond .eq 10, 3) := by decide +kernel
theorem d_St_coder_6 : decode c_St_coder 6 = .ok (.aload_n 0, 1) := by decide +kernel
theorem d_St_coder_7 : decode c_St_coder 7 = .ok (.getfield 15, 3) := by decide +kernel
theorem d_St_coder_10 : decode c_St_coder 10 = .ok (.goto 4, 3) := by decide +kernel
theorem d_St_coder_13 : decode c_St_coder 13 = .ok (.iconst 1, 1) := by decide +kernel
theorem d_St_coder_14 : decode c_St_coder 14 = .ok (.ireturn, 1) := by decide +kernel
theorem d_St_charAt_0 : decode c_St_charAt 0 = .ok (.aload_n 0, 1) := by decide +kernel
theorem d_St_charAt_1 : decode c_St_charAt 1 = .ok (.invokevirtual 492, 3) := by decide +kernel
theorem d_St_charAt_4 : decode c_St_charAt 4 = .ok (.ifCond .eq 12, 3) := by decide +kernel
theorem d_St_charAt_7 : decode c_St_charAt 7 = .ok (.aload_n 0, 1) := by decide +kernel
theorem d_St_charAt_8 : decode c_St_charAt 8 = .ok (.getfield 9, 3) := by decide +kernel
theorem d_St_charAt_11 : decode c_St_charAt 11 = .ok (.iload_n 1, 1) := by decide +kernel
theorem d_St_charAt_12 : decode c_St_charAt 12 = .ok (.invokestatic 495, 3) := by decide +kernel
theorem d_St_charAt_15 : decode c_St_charAt 15 = .ok (.ireturn, 1) := by decide +kernel
theorem d_St_charAt_16 : decode c_St_charAt 16 = .ok (.aload_n 0, 1) := by decide +kernel
theorem d_St_charAt_17 : decode c_St_charAt 17 = .ok (.getfield 9, 3) := by decide +kernel
theorem d_St_charAt_20 : decode c_St_charAt 20 = .ok (.iload_n 1, 1) := by decide +kernel
theorem d_St_charAt_21 : decode c_St_charAt 21 = .ok (.invokestatic 498, 3) := by decide +kernel
theorem d_St_charAt_24 : decode c_St_charAt 24 = .ok (.ireturn, 1) := by decide +kernel
theorem d_St_isLatin1_0 : decode c_St_isLatin1 0 = .ok (.getstatic 38, 3) := by decide +kernel
theorem d_St_isLatin1_3 : decode c_St_isLatin1 3 = .ok (.ifCond .eq 14, 3) := by decide +kernel
theorem d_St_isLatin1_6 : decode c_St_isLatin1 6 = .ok (.aload_n 0, 1) := by decide +kernel
theorem d_St_isLatin1_7 : decode c_St_isLatin1 7 = .ok (.getfield 15, 3) := by decide +kernel
theorem d_St_isLatin1_10 : decode c_St_isLatin1 10 = .ok (.ifCond .ne 7, 3) := by decide +kernel
theorem d_St_isLatin1_13 : decode c_St_isLatin1 13 = .ok (.iconst 1, 1) := by decide +kernel
theorem d_St_isLatin1_14 : decode c_St_isLatin1 14 = .ok (.goto 4, 3) := by decide +kernel
theorem d_St_isLatin1_17 : decode c_St_isLatin1 17 = .ok (.iconst 0, 1) := by decide +kernel
theorem d_St_isLatin1_18 : decode c_St_isLatin1 18 = .ok (.ireturn, 1) := by decide +kernel
theorem d_Sl_charAt_0 : decode c_Sl_charAt 0 = .ok (.iload_n 1, 1) := by decide +kernel
theorem d_Sl_charAt_1 : decode c_Sl_charAt 1 = .ok (.aload_n 0, 1) := by decide +kernel
theorem d_Sl_charAt_2 : decode c_Sl_charAt 2 = .ok (.arraylength, 1) := by decide +kernel
theorem d_Sl_charAt_3 : decode c_Sl_charAt 3 = .ok (.invokestatic 9, 3) := by decide +kernel
theorem d_Sl_charAt_6 : decode c_Sl_charAt 6 = .ok (.aload_n 0, 1) := by decide +kernel
theorem d_Sl_charAt_7 : decode c_Sl_charAt 7 = .ok (.iload_n 1, 1) := by decide +kernel
theorem d_Sl_charAt_8 : decode c_Sl_charAt 8 = .ok (.baload, 1) := by decide +kernel
theorem d_Sl_charAt_9 : decode c_Sl_charAt 9 = .ok (.sipush 255, 3) := by decide +kernel
theorem d_Sl_charAt_12 : decode c_Sl_charAt 12 = .ok (.iand, 1) := by decide +kernel
theorem d_Sl_charAt_13 : decode c_Sl_charAt 13 = .ok (.i2c, 1) := by decide +kernel
theorem d_Sl_charAt_14 : decode c_Sl_charAt 14 = .ok (.ireturn, 1) := by decide +kernel
theorem d_St_checkIndex_0 : decode c_St_checkIndex 0 = .ok (.iload_n 0, 1) := by decide +kernel
theorem d_St_checkIndex_1 : decode c_St_checkIndex 1 = .ok (.iload_n 1, 1) := by decide +kernel
theorem d_St_checkIndex_2 : decode c_St_checkIndex 2 = .ok (.getstatic 1053, 3) := by decide +kernel
theorem d_St_checkIndex_5 : decode c_St_checkIndex 5 = .ok (.invokestatic 1059, 3) := by decide +kernel
theorem d_St_checkIndex_8 : decode c_St_checkIndex 8 = .ok (.pop, 1) := by decide +kernel
theorem d_St_checkIndex_9 : decode c_St_checkIndex 9 = .ok (.return_, 1) := by decide +kernel
theorem d_Pr_checkIndex_0 : decode c_Pr_checkIndex 0 = .ok (.iload_n 0, 1) := by decide +kernel
theorem d_Pr_checkIndex_1 : decode c_Pr_checkIndex 1 = .ok (.ifCond .lt 8, 3) := by decide +kernel
theorem d_Pr_checkIndex_4 : decode c_Pr_checkIndex 4 = .ok (.iload_n 0, 1) := by decide +kernel
theorem d_Pr_checkIndex_5 : decode c_Pr_checkIndex 5 = .ok (.iload_n 1, 1) := by decide +kernel
theorem d_Pr_checkIndex_6 : decode c_Pr_checkIndex 6 = .ok (.if_icmp .lt 10, 3) := by decide +kernel
theorem d_Pr_checkIndex_9 : decode c_Pr_checkIndex 9 = .ok (.aload_n 2, 1) := by decide +kernel
theorem d_Pr_checkIndex_10 : decode c_Pr_checkIndex 10 = .ok (.iload_n 0, 1) := by decide +kernel
theorem d_Pr_checkIndex_11 : decode c_Pr_checkIndex 11 = .ok (.iload_n 1, 1) := by decide +kernel
theorem d_Pr_checkIndex_12 : decode c_Pr_checkIndex 12 = .ok (.invokestatic 95, 3) := by decide +kernel
theorem d_Pr_checkIndex_15 : decode c_Pr_checkIndex 15 = .ok (.athrow, 1) := by decide +kernel
theorem d_Pr_checkIndex_16 : decode c_Pr_checkIndex 16 = .ok (.iload_n 0, 1) := by decide +kernel
theorem d_Pr_checkIndex_17 : decode c_Pr_checkIndex 17 = .ok (.ireturn, 1) := by decide +kernel
theorem d_To_add_0 : decode c_To_add 0 = .ok (.aload_n 0, 1) := by decide +kernel
theorem d_To_add_1 : decode c_To_add 1 = .ok (.getfield 21, 3) := by decide +kernel
theorem d_To_add_4 : decode c_To_add 4 = .ok (.sipush 400, 3) := by decide +kernel
theorem d_To_add_7 : decode c_To_add 7 = .ok (.if_icmp .gt 43, 3) := by decide +kernel
theorem d_To_add_10 : decode c_To_add 10 = .ok (.aload_n 0, 1) := by decide +kernel
theorem d_To_add_11 : decode c_To_add 11 = .ok (.getfield 9, 3) := by decide +kernel
theorem d_To_add_14 : decode c_To_add 14 = .ok (.aload_n 0, 1) := by decide +kernel
theorem d_To_add_15 : decode c_To_add 15 = .ok (.getfield 21, 3) := by decide +kernel
theorem d_To_add_18 : decode c_To_add 18 = .ok (.iload_n 1, 1) := by decide +kernel
theorem d_To_add_19 : decode c_To_add 19 = .ok (.iastore, 1) := by decide +kernel
theorem d_To_add_20 : decode c_To_add 20 = .ok (.aload_n 0, 1) := by decide +kernel
theorem d_To_add_21 : decode c_To_add 21 = .ok (.getfield 15, 3) := by decide +kernel
theorem d_To_add_24 : decode c_To_add 24 = .ok (.aload_n 0, 1) := by decide +kernel
theorem d_To_add_25 : decode c_To_add 25 = .ok (.getfield 21, 3) := by decide +kernel
theorem d_To_add_28 : decode c_To_add 28 = .ok (.iload_n 2, 1) := by decide +kernel
theorem d_To_add_29 : decode c_To_add 29 = .ok (.iastore, 1) := by decide +kernel
theorem d_To_add_30 : decode c_To_add 30 = .ok (.aload_n 0, 1) := by decide +kernel
theorem d_To_add_31 : decode c_To_add 31 = .ok (.getfield 18, 3) := by decide +kernel
theorem d_To_add_34 : decode c_To_add 34 = .ok (.aload_n 0, 1) := by decide +kernel
theorem d_To_add_35 : decode c_To_add 35 = .ok (.getfield 21, 3) := by decide +kernel
theorem d_To_add_38 : decode c_To_add 38 = .ok (.iload_n 3, 1) := by decide +kernel
theorem d_To_add_39 : decode c_To_add 39 = .ok (.iastore, 1) := by decide +kernel
theorem d_To_add_40 : decode c_To_add 40 = .ok (.aload_n 0, 1) := by decide +kernel
theorem d_To_add_41 : decode c_To_add 41 = .ok (.dup, 1) := by decide +kernel
theorem d_To_add_42 : decode c_To_add 42 = .ok (.getfield 21, 3) := by decide +kernel
theorem d_To_add_45 : decode c_To_add 45 = .ok (.iconst 1, 1) := by decide +kernel
theorem d_To_add_46 : decode c_To_add 46 = .ok (.iadd, 1) := by decide +kernel
theorem d_To_add_47 : decode c_To_add 47 = .ok (.putfield 21, 3) := by decide +kernel
theorem d_To_add_50 : decode c_To_add 50 = .ok (.return_, 1) := by decide +kernel
theorem d_To_isDigit_0 : decode c_To_isDigit 0 = .ok (.iload_n 0, 1) := by decide +kernel
theorem d_To_isDigit_1 : decode c_To_isDigit 1 = .ok (.bipush 48, 2) := by decide +kernel
theorem d_To_isDigit_3 : decode c_To_isDigit 3 = .ok (.if_icmp .lt 13, 3) := by decide +kernel
theorem d_To_isDigit_6 : decode c_To_isDigit 6 = .ok (.iload_n 0, 1) := by decide +kernel
theorem d_To_isDigit_7 : decode c_To_isDigit 7 = .ok (.bipush 57, 2) := by decide +kernel
theorem d_To_isDigit_9 : decode c_To_isDigit 9 = .ok (.if_icmp .gt 7, 3) := by decide +kernel
theorem d_To_isDigit_12 : decode c_To_isDigit 12 = .ok (.iconst 1, 1) := by decide +kernel
theorem d_To_isDigit_13 : decode c_To_isDigit 13 = .ok (.goto 4, 3) := by decide +kernel
theorem d_To_isDigit_16 : decode c_To_isDigit 16 = .ok (.iconst 0, 1) := by decide +kernel
theorem d_To_isDigit_17 : decode c_To_isDigit 17 = .ok (.ireturn, 1) := by decide +kernel
theorem d_To_splitNumber_0 : decode c_To_splitNumber 0 = .ok (.lconst 0, 1) := by decide +kernel
theorem d_To_splitNumber_1 : decode c_To_splitNumber 1 = .ok (.lstore_n 3, 1) := by decide +kernel
theorem d_To_splitNumber_2 : decode c_To_splitNumber 2 = .ok (.iload_n 2, 1) := by decide +kernel
theorem d_To_splitNumber_3 : decode c_To_splitNumber 3 = .ok (.istore 5, 2) := by decide +kernel
theorem d_To_splitNumber_5 : decode c_To_splitNumber 5 = .ok (.iload 5, 2) := by decide +kernel
theorem d_To_splitNumber_7 : decode c_To_splitNumber 7 = .ok (.aload_n 1, 1) := by decide +kernel
theorem d_To_splitNumber_8 : decode c_To_splitNumber 8 = .ok (.getfield 25, 3) := by decide +kernel
theorem d_To_splitNumber_11 : decode c_To_splitNumber 11 = .ok (.if_icmp .ge 46, 3) := by decide +kernel
theorem d_To_splitNumber_14 : decode c_To_splitNumber 14 = .ok (.aload_n 1, 1) := by decide +kernel
theorem d_To_splitNumber_15 : decode c_To_splitNumber 15 = .ok (.getfield 30, 3) := by decide +kernel
theorem d_To_splitNumber_18 : decode c_To_splitNumber 18 = .ok (.iload 5, 2) := by decide +kernel
theorem d_To_splitNumber_20 : decode c_To_splitNumber 20 = .ok (.baload, 1) := by decide +kernel
theorem d_To_splitNumber_21 : decode c_To_splitNumber 21 = .ok (.invokestatic 49, 3) := by decide +kernel
theorem d_To_splitNumber_24 : decode c_To_splitNumber 24 = .ok (.ifCond .eq 33, 3) := by decide +kernel
theorem d_To_splitNumber_27 : decode c_To_splitNumber 27 = .ok (.lload_n 3, 1) := by decide +kernel
theorem d_To_splitNumber_28 : decode c_To_splitNumber 28 = .ok (.ldc2_w 63, 3) := by decide +kernel
theorem d_To_splitNumber_31 : decode c_To_splitNumber 31 = .ok (.lmul, 1) := by decide +kernel
theorem d_To_splitNumber_32 : decode c_To_splitNumber 32 = .ok (.aload_n 1, 1) := by decide +kernel
theorem d_To_splitNumber_33 : decode c_To_splitNumber 33 = .ok (.getfield 30, 3) := by decide +kernel
theorem d_To_splitNumber_36 : decode c_To_splitNumber 36 = .ok (.iload 5, 2) := by decide +kernel
theorem d_To_splitNumber_38 : decode c_To_splitNumber 38 = .ok (.baload, 1) := by decide +kernel
theorem d_To_splitNumber_39 : decode c_To_splitNumber 39 = .ok (.bipush 48, 2) := by decide +kernel
theorem d_To_splitNumber_41 : decode c_To_splitNumber 41 = .ok (.isub, 1) := by decide +kernel
theorem d_To_splitNumber_42 : decode c_To_splitNumber 42 = .ok (.i2l, 1) := by decide +kernel
theorem d_To_splitNumber_43 : decode c_To_splitNumber 43 = .ok (.ladd, 1) := by decide +kernel
theorem d_To_splitNumber_44 : decode c_To_splitNumber 44 = .ok (.ldc2_w 65, 3) := by decide +kernel
theorem d_To_splitNumber_47 : decode c_To_splitNumber 47 = .ok (.invokestatic 67, 3) := by decide +kernel
theorem d_To_splitNumber_50 : decode c_To_splitNumber 50 = .ok (.lstore_n 3, 1) := by decide +kernel
theorem d_To_splitNumber_51 : decode c_To_splitNumber 51 = .ok (.iinc 5 1, 3) := by decide +kernel
theorem d_To_splitNumber_54 : decode c_To_splitNumber 54 = .ok (.goto (-49), 3) := by decide +kernel
theorem d_To_splitNumber_57 : decode c_To_splitNumber 57 = .ok (.lload_n 3, 1) := by decide +kernel
theorem d_To_splitNumber_58 : decode c_To_splitNumber 58 = .ok (.ldc2_w 73, 3) := by decide +kernel
theorem d_To_splitNumber_61 : decode c_To_splitNumber 61 = .ok (.lcmp, 1) := by decide +kernel
theorem d_To_splitNumber_62 : decode c_To_splitNumber 62 = .ok (.ifCond .le 13, 3) := by decide +kernel
theorem d_To_splitNumber_65 : decode c_To_splitNumber 65 = .ok (.aload_n 0, 1) := by decide +kernel
theorem d_To_splitNumber_66 : decode c_To_splitNumber 66 = .ok (.iconst 1, 1) := by decide +kernel
theorem d_To_splitNumber_67 : decode c_To_splitNumber 67 = .ok (.iconst 0, 1) := by decide +kernel
theorem d_To_splitNumber_68 : decode c_To_splitNumber 68 = .ok (.iload_n 2, 1) := by decide +kernel
theorem d_To_splitNumber_69 : decode c_To_splitNumber 69 = .ok (.invokevirtual 38, 3) := by decide +kernel
theorem d_To_splitNumber_72 : decode c_To_splitNumber 72 = .ok (.goto 12, 3) := by decide +kernel
theorem d_To_splitNumber_75 : decode c_To_splitNumber 75 = .ok (.aload_n 0, 1) := by decide +kernel
theorem d_To_splitNumber_76 : decode c_To_splitNumber 76 = .ok (.bipush 9, 2) := by decide +kernel
theorem d_To_splitNumber_78 : decode c_To_splitNumber 78 = .ok (.lload_n 3, 1) := by decide +kernel
theorem d_To_splitNumber_79 : decode c_To_splitNumber 79 = .ok (.l2i, 1) := by decide +kernel
theorem d_To_splitNumber_80 : decode c_To_splitNumber 80 = .ok (.iload_n 2, 1) := by decide +kernel
theorem d_To_splitNumber_81 : decode c_To_splitNumber 81 = .ok (.invokevirtual 38, 3) := by decide +kernel
theorem d_To_splitNumber_84 : decode c_To_splitNumber 84 = .ok (.iload 5, 2) := by decide +kernel
theorem d_To_splitNumber_86 : decode c_To_splitNumber 86 = .ok (.ireturn, 1) := by decide +kernel
theorem d_Mt_minJ_0 : decode c_Mt_minJ 0 = .ok (.lload_n 0, 1) := by decide +kernel
theorem d_Mt_minJ_1 : decode c_Mt_minJ 1 = .ok (.lload_n 2, 1) := by decide +kernel
theorem d_Mt_minJ_2 : decode c_Mt_minJ 2 = .ok (.lcmp, 1) := by decide +kernel
theorem d_Mt_minJ_3 : decode c_Mt_minJ 3 = .ok (.ifCond .gt 7, 3) := by decide +kernel
theorem d_Mt_minJ_6 : decode c_Mt_minJ 6 = .ok (.lload_n 0, 1) := by decide +kernel
theorem d_Mt_minJ_7 : decode c_Mt_minJ 7 = .ok (.goto 4, 3) := by decide +kernel
theorem d_Mt_minJ_10 : decode c_Mt_minJ 10 = .ok (.lload_n 2, 1) := by decide +kernel
theorem d_Mt_minJ_11 : decode c_Mt_minJ 11 = .ok (.lreturn, 1) := by decide +kernel
theorem d_To_signKind_0 : decode c_To_signKind 0 = .ok (.iload_n 0, 1) := by decide +kernel
theorem d_To_signKind_1 : decode c_To_signKind 1 = .ok (.tableswitch 157 35 62 #[130, 157, 157, 157, 157, 151, 154, 145, 139, 148, 142, 157, 157, 157, 157, 157, 157, 157, 157, 157, 157, 157, 157, 157, 157, 133, 127, 136], 127) := by decide +kernel
theorem d_To_signKind_128 : decode c_To_signKind 128 = .ok (.bipush 10, 2) := by decide +kernel
theorem d_To_signKind_130 : decode c_To_signKind 130 = .ok (.ireturn, 1) := by decide +kernel
theorem d_To_signKind_131 : decode c_To_signKind 131 = .ok (.bipush 11, 2) := by decide +kernel
theorem d_To_signKind_133 : decode c_To_signKind 133 = .ok (.ireturn, 1) := by decide +kernel
theorem d_To_signKind_134 : decode c_To_signKind 134 = .ok (.bipush 12, 2) := by decide +kernel
theorem d_To_signKind_136 : decode c_To_signKind 136 = .ok (.ireturn, 1) := by decide +kernel
theorem d_To_signKind_137 : decode c_To_signKind 137 = .ok (.bipush 13, 2) := by decide +kernel
theorem d_To_signKind_139 : decode c_To_signKind 139 = .ok (.ireturn, 1) := by decide +kernel
theorem d_To_signKind_140 : decode c_To_signKind 140 = .ok (.bipush 14, 2) := by decide +kernel
theorem d_To_signKind_142 : decode c_To_signKind 142 = .ok (.ireturn, 1) := by decide +kernel
theorem d_To_signKind_143 : decode c_To_signKind 143 = .ok (.bipush 15, 2) := by decide +kernel
theorem d_To_signKind_145 : decode c_To_signKind 145 = .ok (.ireturn, 1) := by decide +kernel
theorem d_To_signKind_146 : decode c_To_signKind 146 = .ok (.bipush 16, 2) := by decide +kernel
theorem d_To_signKind_148 : decode c_To_signKind 148 = .ok (.ireturn, 1) := by decide +kernel
theorem d_To_signKind_149 : decode c_To_signKind 149 = .ok (.bipush 18, 2) := by decide +kernel
theorem d_To_signKind_151 : decode c_To_signKind 151 = .ok (.ireturn, 1) := by decide +kernel
theorem d_To_signKind_152 : decode c_To_signKind 152 = .ok (.bipush 19, 2) := by decide +kernel
theorem d_To_signKind_154 : decode c_To_signKind 154 = .ok (.ireturn, 1) := by decide +kernel
theorem d_To_signKind_155 : decode c_To_signKind 155 = .ok (.bipush 20, 2) := by decide +kernel
theorem d_To_signKind_157 : decode c_To_signKind 157 = .ok (.ireturn, 1) := by decide +kernel
theorem d_To_signKind_158 : decode c_To_signKind 158 = .ok (.iconst 1, 1) := by decide +kernel
theorem d_To_signKind_159 : decode c_To_signKind 159 = .ok (.ireturn, 1) := by decide +kernel
theorem d_Co_clear_0 : decode c_Co_clear 0 = .ok (.aload_n 0, 1) := by decide +kernel
theorem d_Co_clear_1 : decode c_Co_clear 1 = .ok (.iconst 0, 1) := by decide +kernel
theorem d_Co_clear_2 : decode c_Co_clear 2 = .ok (.putfield 21, 3) := by decide +kernel
theorem d_Co_clear_5 : decode c_Co_clear 5 = .ok (.aload_n 0, 1) := by decide +kernel
theorem d_Co_clear_6 : decode c_Co_clear 6 = .ok (.iconst 0, 1) := by decide +kernel
theorem d_Co_clear_7 : decode c_Co_clear 7 = .ok (.putfield 25, 3) := by decide +kernel
theorem d_Co_clear_10 : decode c_Co_clear 10 = .ok (.return_, 1) := by decide +kernel
theorem d_Re_readRule_0 : decode c_Re_readRule 0 = .ok (.aload_n 0, 1) := by decide +kernel
theorem d_Re_readRule_1 : decode c_Re_readRule 1 = .ok (.iconst 2, 1) := by decide +kernel
theorem d_Re_readRule_2 : decode c_Re_readRule 2 = .ok (.invokevirtual 50, 3) := by decide +kernel
theorem d_Re_readRule_5 : decode c_Re_readRule 5 = .ok (.ifCond .eq 12, 3) := by decide +kernel
theorem d_Re_readRule_8 : decode c_Re_readRule 8 = .ok (.aload_n 0, 1) := by decide +kernel
theorem d_Re_readRule_9 : decode c_Re_readRule 9 = .ok (.invokevirtual 57, 3) := by decide +kernel
theorem d_Re_readRule_12 : decode c_Re_readRule 12 = .ok (.ifCond .ne 5, 3) := by decide +kernel
theorem d_Re_readRule_15 : decode c_Re_readRule 15 = .ok (.iconst 0, 1) := by decide +kernel
theorem d_Re_readRule_16 : decode c_Re_readRule 16 = .ok (.ireturn, 1) := by decide +kernel
theorem d_Re_readRule_17 : decode c_Re_readRule 17 = .ok (.iconst 0, 1) := by decide +kernel
theorem d_Re_readRule_18 : decode c_Re_readRule 18 = .ok (.istore_n 1, 1) := by decide +kernel
theorem d_Re_readRule_19 : decode c_Re_readRule 19 = .ok (.iload_n 1, 1) := by decide +kernel
theorem d_Re_readRule_20 : decode c_Re_readRule 20 = .ok (.bipush 8, 2) := by decide +kernel
theorem d_Re_readRule_22 : decode c_Re_readRule 22 = .ok (.if_icmp .ge 29, 3) := by decide +kernel
theorem d_Re_readRule_25 : decode c_Re_readRule 25 = .ok (.aload_n 0, 1) := by decide +kernel
theorem d_Re_readRule_26 : decode c_Re_readRule 26 = .ok (.invokevirtual 60, 3) := by decide +kernel
theorem d_Re_readRule_29 : decode c_Re_readRule 29 = .ok (.ifCond .ne 5, 3) := by decide +kernel
theorem d_Re_readRule_32 : decode c_Re_readRule 32 = .ok (.iconst 0, 1) := by decide +kernel
theorem d_Re_readRule_33 : decode c_Re_readRule 33 = .ok (.ireturn, 1) := by decide +kernel
theorem d_Re_readRule_34 : decode c_Re_readRule 34 = .ok (.aload_n 0, 1) := by decide +kernel
theorem d_Re_readRule_35 : decode c_Re_readRule 35 = .ok (.bipush 18, 2) := by decide +kernel
theorem d_Re_readRule_37 : decode c_Re_readRule 37 = .ok (.invokevirtual 50, 3) := by decide +kernel
theorem d_Re_readRule_40 : decode c_Re_readRule 40 = .ok (.ifCond .ne 5, 3) := by decide +kernel
theorem d_Re_readRule_43 : decode c_Re_readRule 43 = .ok (.iconst 1, 1) := by decide +kernel
theorem d_Re_readRule_44 : decode c_Re_readRule 44 = .ok (.ireturn, 1) := by decide +kernel
theorem d_Re_readRule_45 : decode c_Re_readRule 45 = .ok (.iinc 1 1, 3) := by decide +kernel
theorem d_Re_readRule_48 : decode c_Re_readRule 48 = .ok (.goto (-29), 3) := by decide +kernel
theorem d_Re_readRule_51 : decode c_Re_readRule 51 = .ok (.iconst 0, 1) := by decide +kernel
theorem d_Re_readRule_52 : decode c_Re_readRule 52 = .ok (.ireturn, 1) := by decide +kernel
theorem d_Re_pass_0 : decode c_Re_pass 0 = .ok (.aload_n 0, 1) := by decide +kernel
theorem d_Re_pass_1 : decode c_Re_pass 1 = .ok (.getfield 12, 3) := by decide +kernel
theorem d_Re_pass_4 : decode c_Re_pass 4 = .ok (.getfield 66, 3) := by decide +kernel
theorem d_Re_pass_7 : decode c_Re_pass 7 = .ok (.aload_n 0, 1) := by decide +kernel
theorem d_Re_pass_8 : decode c_Re_pass 8 = .ok (.getfield 32, 3) := by decide +kernel
theorem d_Re_pass_11 : decode c_Re_pass 11 = .ok (.iaload, 1) := by decide +kernel
theorem d_Re_pass_12 : decode c_Re_pass 12 = .ok (.iload_n 1, 1) := by decide +kernel
theorem d_Re_pass_13 : decode c_Re_pass 13 = .ok (.if_icmp .eq 5, 3) := by decide +kernel
theorem d_Re_pass_16 : decode c_Re_pass 16 = .ok (.iconst 0, 1) := by decide +kernel
theorem d_Re_pass_17 : decode c_Re_pass 17 = .ok (.ireturn, 1) := by decide +kernel
theorem d_Re_pass_18 : decode c_Re_pass 18 = .ok (.aload_n 0, 1) := by decide +kernel
theorem d_Re_pass_19 : decode c_Re_pass 19 = .ok (.dup, 1) := by decide +kernel
theorem d_Re_pass_20 : decode c_Re_pass 20 = .ok (.getfield 32, 3) := by decide +kernel
theorem d_Re_pass_23 : decode c_Re_pass 23 = .ok (.iconst 1, 1) := by decide +kernel
theorem d_Re_pass_24 : decode c_Re_pass 24 = .ok (.iadd, 1) := by decide +kernel
theorem d_Re_pass_25 : decode c_Re_pass 25 = .ok (.putfield 32, 3) := by decide +kernel
theorem d_Re_pass_28 : decode c_Re_pass 28 = .ok (.iconst 1, 1) := by decide +kernel
theorem d_Re_pass_29 : decode c_Re_pass 29 = .ok (.ireturn, 1) := by decide +kernel
theorem d_Re_readTest_0 : decode c_Re_readTest 0 = .ok (.iconst 0, 1) := by decide +kernel
theorem d_Re_readTest_1 : decode c_Re_readTest 1 = .ok (.istore_n 1, 1) := by decide +kernel
theorem d_Re_readTest_2 : decode c_Re_readTest 2 = .ok (.iload_n 1, 1) := by decide +kernel
theorem d_Re_readTest_3 : decode c_Re_readTest 3 = .ok (.bipush 80, 2) := by decide +kernel
end
section
theorem d_Re_readTest_5 : decode c_Re_readTest 5 = .ok (.if_icmp .ge 103, 3) := by decide +kernel
theorem d_Re_readTest_8 : decode c_Re_readTest 8 = .ok (.aload_n 0, 1) := by decide +kernel
theorem d_Re_readTest_9 : decode c_Re_readTest 9 = .ok (.iconst 0, 1) := by decide +kernel
theorem d_Re_readTest_10 : decode c_Re_readTest 10 = .ok (.invokevirtual 63, 3) := by decide +kernel
theorem d_Re_readTest_13 : decode c_Re_readTest 13 = .ok (.ifCond .ne 5, 3) := by decide +kernel
theorem d_Re_readTest_16 : decode c_Re_readTest 16 = .ok (.iconst 0, 1) := by decide +kernel
theorem d_Re_readTest_17 : decode c_Re_readTest 17 = .ok (.ireturn, 1) := by decide +kernel
theorem d_Re_readTest_18 : decode c_Re_readTest 18 = .ok (.aload_n 0, 1) := by decide +kernel
theorem d_Re_readTest_19 : decode c_Re_readTest 19 = .ok (.getfield 12, 3) := by decide +kernel
theorem d_Re_readTest_22 : decode c_Re_readTest 22 = .ok (.getfield 66, 3) := by decide +kernel
theorem d_Re_readTest_25 : decode c_Re_readTest 25 = .ok (.aload_n 0, 1) := by decide +kernel
theorem d_Re_readTest_26 : decode c_Re_readTest 26 = .ok (.getfield 32, 3) := by decide +kernel
theorem d_Re_readTest_29 : decode c_Re_readTest 29 = .ok (.iaload, 1) := by decide +kernel
theorem d_Re_readTest_30 : decode c_Re_readTest 30 = .ok (.istore_n 2, 1) := by decide +kernel
theorem d_Re_readTest_31 : decode c_Re_readTest 31 = .ok (.aload_n 0, 1) := by decide +kernel
theorem d_Re_readTest_32 : decode c_Re_readTest 32 = .ok (.bipush 10, 2) := by decide +kernel
theorem d_Re_readTest_34 : decode c_Re_readTest 34 = .ok (.invokevirtual 50, 3) := by decide +kernel
theorem d_Re_readTest_37 : decode c_Re_readTest 37 = .ok (.ifCond .ne 32, 3) := by decide +kernel
theorem d_Re_readTest_40 : decode c_Re_readTest 40 = .ok (.aload_n 0, 1) := by decide +kernel
theorem d_Re_readTest_41 : decode c_Re_readTest 41 = .ok (.bipush 11, 2) := by decide +kernel
theorem d_Re_readTest_43 : decode c_Re_readTest 43 = .ok (.invokevirtual 50, 3) := by decide +kernel
theorem d_Re_readTest_46 : decode c_Re_readTest 46 = .ok (.ifCond .ne 23, 3) := by decide +kernel
theorem d_Re_readTest_49 : decode c_Re_readTest 49 = .ok (.aload_n 0, 1) := by decide +kernel
theorem d_Re_readTest_50 : decode c_Re_readTest 50 = .ok (.bipush 12, 2) := by decide +kernel
theorem d_Re_readTest_52 : decode c_Re_readTest 52 = .ok (.invokevirtual 50, 3) := by decide +kernel
theorem d_Re_readTest_55 : decode c_Re_readTest 55 = .ok (.ifCond .ne 14, 3) := by decide +kernel
theorem d_Re_readTest_58 : decode c_Re_readTest 58 = .ok (.aload_n 0, 1) := by decide +kernel
theorem d_Re_readTest_59 : decode c_Re_readTest 59 = .ok (.bipush 13, 2) := by decide +kernel
theorem d_Re_readTest_61 : decode c_Re_readTest 61 = .ok (.invokevirtual 50, 3) := by decide +kernel
theorem d_Re_readTest_64 : decode c_Re_readTest 64 = .ok (.ifCond .ne 5, 3) := by decide +kernel
theorem d_Re_readTest_67 : decode c_Re_readTest 67 = .ok (.iconst 0, 1) := by decide +kernel
theorem d_Re_readTest_68 : decode c_Re_readTest 68 = .ok (.ireturn, 1) := by decide +kernel
theorem d_Re_readTest_69 : decode c_Re_readTest 69 = .ok (.aload_n 0, 1) := by decide +kernel
theorem d_Re_readTest_70 : decode c_Re_readTest 70 = .ok (.iconst 0, 1) := by decide +kernel
theorem d_Re_readTest_71 : decode c_Re_readTest 71 = .ok (.invokevirtual 63, 3) := by decide +kernel
theorem d_Re_readTest_74 : decode c_Re_readTest 74 = .ok (.ifCond .ne 5, 3) := by decide +kernel
theorem d_Re_readTest_77 : decode c_Re_readTest 77 = .ok (.iconst 0, 1) := by decide +kernel
theorem d_Re_readTest_78 : decode c_Re_readTest 78 = .ok (.ireturn, 1) := by decide +kernel
theorem d_Re_readTest_79 : decode c_Re_readTest 79 = .ok (.aload_n 0, 1) := by decide +kernel
theorem d_Re_readTest_80 : decode c_Re_readTest 80 = .ok (.getfield 21, 3) := by decide +kernel
theorem d_Re_readTest_83 : decode c_Re_readTest 83 = .ok (.iload_n 2, 1) := by decide +kernel
theorem d_Re_readTest_84 : decode c_Re_readTest 84 = .ok (.iconst 0, 1) := by decide +kernel
theorem d_Re_readTest_85 : decode c_Re_readTest 85 = .ok (.invokevirtual 69, 3) := by decide +kernel
theorem d_Re_readTest_88 : decode c_Re_readTest 88 = .ok (.aload_n 0, 1) := by decide +kernel
theorem d_Re_readTest_89 : decode c_Re_readTest 89 = .ok (.iconst 5, 1) := by decide +kernel
theorem d_Re_readTest_90 : decode c_Re_readTest 90 = .ok (.invokevirtual 50, 3) := by decide +kernel
theorem d_Re_readTest_93 : decode c_Re_readTest 93 = .ok (.ifCond .ne 9, 3) := by decide +kernel
theorem d_Re_readTest_96 : decode c_Re_readTest 96 = .ok (.aload_n 0, 1) := by decide +kernel
theorem d_Re_readTest_97 : decode c_Re_readTest 97 = .ok (.iconst 3, 1) := by decide +kernel
theorem d_Re_readTest_98 : decode c_Re_readTest 98 = .ok (.invokevirtual 50, 3) := by decide +kernel
theorem d_Re_readTest_101 : decode c_Re_readTest 101 = .ok (.ireturn, 1) := by decide +kernel
theorem d_Re_readTest_102 : decode c_Re_readTest 102 = .ok (.iinc 1 1, 3) := by decide +kernel
theorem d_Re_readTest_105 : decode c_Re_readTest 105 = .ok (.goto (-103), 3) := by decide +kernel
theorem d_Re_readTest_108 : decode c_Re_readTest 108 = .ok (.iconst 0, 1) := by decide +kernel
theorem d_Re_readTest_109 : decode c_Re_readTest 109 = .ok (.ireturn, 1) := by decide +kernel
theorem d_Re_readSum_0 : decode c_Re_readSum 0 = .ok (.aload_n 0, 1) := by decide +kernel
theorem d_Re_readSum_1 : decode c_Re_readSum 1 = .ok (.iload_n 1, 1) := by decide +kernel
theorem d_Re_readSum_2 : decode c_Re_readSum 2 = .ok (.invokevirtual 79, 3) := by decide +kernel
theorem d_Re_readSum_5 : decode c_Re_readSum 5 = .ok (.ifCond .ne 5, 3) := by decide +kernel
theorem d_Re_readSum_8 : decode c_Re_readSum 8 = .ok (.iconst 0, 1) := by decide +kernel
theorem d_Re_readSum_9 : decode c_Re_readSum 9 = .ok (.ireturn, 1) := by decide +kernel
theorem d_Re_readSum_10 : decode c_Re_readSum 10 = .ok (.iconst 1, 1) := by decide +kernel
theorem d_Re_readSum_11 : decode c_Re_readSum 11 = .ok (.istore_n 2, 1) := by decide +kernel
theorem d_Re_readSum_12 : decode c_Re_readSum 12 = .ok (.iload_n 2, 1) := by decide +kernel
theorem d_Re_readSum_13 : decode c_Re_readSum 13 = .ok (.bipush 80, 2) := by decide +kernel
theorem d_Re_readSum_15 : decode c_Re_readSum 15 = .ok (.if_icmp .gt 61, 3) := by decide +kernel
theorem d_Re_readSum_18 : decode c_Re_readSum 18 = .ok (.aload_n 0, 1) := by decide +kernel
theorem d_Re_readSum_19 : decode c_Re_readSum 19 = .ok (.getfield 12, 3) := by decide +kernel
theorem d_Re_readSum_22 : decode c_Re_readSum 22 = .ok (.getfield 66, 3) := by decide +kernel
theorem d_Re_readSum_25 : decode c_Re_readSum 25 = .ok (.aload_n 0, 1) := by decide +kernel
theorem d_Re_readSum_26 : decode c_Re_readSum 26 = .ok (.getfield 32, 3) := by decide +kernel
theorem d_Re_readSum_29 : decode c_Re_readSum 29 = .ok (.iaload, 1) := by decide +kernel
theorem d_Re_readSum_30 : decode c_Re_readSum 30 = .ok (.istore_n 3, 1) := by decide +kernel
theorem d_Re_readSum_31 : decode c_Re_readSum 31 = .ok (.aload_n 0, 1) := by decide +kernel
theorem d_Re_readSum_32 : decode c_Re_readSum 32 = .ok (.bipush 14, 2) := by decide +kernel
theorem d_Re_readSum_34 : decode c_Re_readSum 34 = .ok (.invokevirtual 50, 3) := by decide +kernel
theorem d_Re_readSum_37 : decode c_Re_readSum 37 = .ok (.ifCond .ne 14, 3) := by decide +kernel
theorem d_Re_readSum_40 : decode c_Re_readSum 40 = .ok (.aload_n 0, 1) := by decide +kernel
theorem d_Re_readSum_41 : decode c_Re_readSum 41 = .ok (.bipush 15, 2) := by decide +kernel
theorem d_Re_readSum_43 : decode c_Re_readSum 43 = .ok (.invokevirtual 50, 3) := by decide +kernel
theorem d_Re_readSum_46 : decode c_Re_readSum 46 = .ok (.ifCond .ne 5, 3) := by decide +kernel
theorem d_Re_readSum_49 : decode c_Re_readSum 49 = .ok (.iconst 1, 1) := by decide +kernel
theorem d_Re_readSum_50 : decode c_Re_readSum 50 = .ok (.ireturn, 1) := by decide +kernel
theorem d_Re_readSum_51 : decode c_Re_readSum 51 = .ok (.aload_n 0, 1) := by decide +kernel
theorem d_Re_readSum_52 : decode c_Re_readSum 52 = .ok (.iload_n 1, 1) := by decide +kernel
theorem d_Re_readSum_53 : decode c_Re_readSum 53 = .ok (.invokevirtual 79, 3) := by decide +kernel
theorem d_Re_readSum_56 : decode c_Re_readSum 56 = .ok (.ifCond .ne 5, 3) := by decide +kernel
theorem d_Re_readSum_59 : decode c_Re_readSum 59 = .ok (.iconst 0, 1) := by decide +kernel
theorem d_Re_readSum_60 : decode c_Re_readSum 60 = .ok (.ireturn, 1) := by decide +kernel
theorem d_Re_readSum_61 : decode c_Re_readSum 61 = .ok (.aload_n 0, 1) := by decide +kernel
theorem d_Re_readSum_62 : decode c_Re_readSum 62 = .ok (.getfield 21, 3) := by decide +kernel
theorem d_Re_readSum_65 : decode c_Re_readSum 65 = .ok (.iload_n 3, 1) := by decide +kernel
theorem d_Re_readSum_66 : decode c_Re_readSum 66 = .ok (.iconst 0, 1) := by decide +kernel
theorem d_Re_readSum_67 : decode c_Re_readSum 67 = .ok (.invokevirtual 69, 3) := by decide +kernel
theorem d_Re_readSum_70 : decode c_Re_readSum 70 = .ok (.iinc 2 1, 3) := by decide +kernel
theorem d_Re_readSum_73 : decode c_Re_readSum 73 = .ok (.goto (-61), 3) := by decide +kernel
theorem d_Re_readSum_76 : decode c_Re_readSum 76 = .ok (.iconst 0, 1) := by decide +kernel
theorem d_Re_readSum_77 : decode c_Re_readSum 77 = .ok (.ireturn, 1) := by decide +kernel
theorem d_Re_readTerm_0 : decode c_Re_readTerm 0 = .ok (.aload_n 0, 1) := by decide +kernel
theorem d_Re_readTerm_1 : decode c_Re_readTerm 1 = .ok (.iload_n 1, 1) := by decide +kernel
theorem d_Re_readTerm_2 : decode c_Re_readTerm 2 = .ok (.invokevirtual 82, 3) := by decide +kernel
theorem d_Re_readTerm_5 : decode c_Re_readTerm 5 = .ok (.ifCond .ne 5, 3) := by decide +kernel
theorem d_Re_readTerm_8 : decode c_Re_readTerm 8 = .ok (.iconst 0, 1) := by decide +kernel
theorem d_Re_readTerm_9 : decode c_Re_readTerm 9 = .ok (.ireturn, 1) := by decide +kernel
theorem d_Re_readTerm_10 : decode c_Re_readTerm 10 = .ok (.iconst 1, 1) := by decide +kernel
theorem d_Re_readTerm_11 : decode c_Re_readTerm 11 = .ok (.istore_n 2, 1) := by decide +kernel
theorem d_Re_readTerm_12 : decode c_Re_readTerm 12 = .ok (.iload_n 2, 1) := by decide +kernel
theorem d_Re_readTerm_13 : decode c_Re_readTerm 13 = .ok (.bipush 80, 2) := by decide +kernel
theorem d_Re_readTerm_15 : decode c_Re_readTerm 15 = .ok (.if_icmp .gt 40, 3) := by decide +kernel
theorem d_Re_readTerm_18 : decode c_Re_readTerm 18 = .ok (.aload_n 0, 1) := by decide +kernel
theorem d_Re_readTerm_19 : decode c_Re_readTerm 19 = .ok (.bipush 16, 2) := by decide +kernel
theorem d_Re_readTerm_21 : decode c_Re_readTerm 21 = .ok (.invokevirtual 50, 3) := by decide +kernel
theorem d_Re_readTerm_24 : decode c_Re_readTerm 24 = .ok (.ifCond .ne 5, 3) := by decide +kernel
theorem d_Re_readTerm_27 : decode c_Re_readTerm 27 = .ok (.iconst 1, 1) := by decide +kernel
theorem d_Re_readTerm_28 : decode c_Re_readTerm 28 = .ok (.ireturn, 1) := by decide +kernel
theorem d_Re_readTerm_29 : decode c_Re_readTerm 29 = .ok (.aload_n 0, 1) := by decide +kernel
theorem d_Re_readTerm_30 : decode c_Re_readTerm 30 = .ok (.iload_n 1, 1) := by decide +kernel
theorem d_Re_readTerm_31 : decode c_Re_readTerm 31 = .ok (.invokevirtual 82, 3) := by decide +kernel
theorem d_Re_readTerm_34 : decode c_Re_readTerm 34 = .ok (.ifCond .ne 5, 3) := by decide +kernel
theorem d_Re_readTerm_37 : decode c_Re_readTerm 37 = .ok (.iconst 0, 1) := by decide +kernel
theorem d_Re_readTerm_38 : decode c_Re_readTerm 38 = .ok (.ireturn, 1) := by decide +kernel
theorem d_Re_readTerm_39 : decode c_Re_readTerm 39 = .ok (.aload_n 0, 1) := by decide +kernel
theorem d_Re_readTerm_40 : decode c_Re_readTerm 40 = .ok (.getfield 21, 3) := by decide +kernel
theorem d_Re_readTerm_43 : decode c_Re_readTerm 43 = .ok (.bipush 16, 2) := by decide +kernel
theorem d_Re_readTerm_45 : decode c_Re_readTerm 45 = .ok (.iconst 0, 1) := by decide +kernel
theorem d_Re_readTerm_46 : decode c_Re_readTerm 46 = .ok (.invokevirtual 69, 3) := by decide +kernel
theorem d_Re_readTerm_49 : decode c_Re_readTerm 49 = .ok (.iinc 2 1, 3) := by decide +kernel
theorem d_Re_readTerm_52 : decode c_Re_readTerm 52 = .ok (.goto (-40), 3) := by decide +kernel
theorem d_Re_readTerm_55 : decode c_Re_readTerm 55 = .ok (.iconst 0, 1) := by decide +kernel
theorem d_Re_readTerm_56 : decode c_Re_readTerm 56 = .ok (.ireturn, 1) := by decide +kernel
theorem d_Re_readPart_0 : decode c_Re_readPart 0 = .ok (.aload_n 0, 1) := by decide +kernel
theorem d_Re_readPart_1 : decode c_Re_readPart 1 = .ok (.bipush 19, 2) := by decide +kernel
theorem d_Re_readPart_3 : decode c_Re_readPart 3 = .ok (.invokevirtual 46, 3) := by decide +kernel
theorem d_Re_readPart_6 : decode c_Re_readPart 6 = .ok (.ifCond .eq 43, 3) := by decide +kernel
theorem d_Re_readPart_9 : decode c_Re_readPart 9 = .ok (.iload_n 1, 1) := by decide +kernel
theorem d_Re_readPart_10 : decode c_Re_readPart 10 = .ok (.bipush 6, 2) := by decide +kernel
theorem d_Re_readPart_12 : decode c_Re_readPart 12 = .ok (.if_icmp .ge 35, 3) := by decide +kernel
theorem d_Re_readPart_15 : decode c_Re_readPart 15 = .ok (.aload_n 0, 1) := by decide +kernel
theorem d_Re_readPart_16 : decode c_Re_readPart 16 = .ok (.bipush 19, 2) := by decide +kernel
theorem d_Re_readPart_18 : decode c_Re_readPart 18 = .ok (.invokevirtual 50, 3) := by decide +kernel
theorem d_Re_readPart_21 : decode c_Re_readPart 21 = .ok (.ifCond .eq 26, 3) := by decide +kernel
theorem d_Re_readPart_24 : decode c_Re_readPart 24 = .ok (.aload_n 0, 1) := by decide +kernel
theorem d_Re_readPart_25 : decode c_Re_readPart 25 = .ok (.iload_n 1, 1) := by decide +kernel
theorem d_Re_readPart_26 : decode c_Re_readPart 26 = .ok (.iconst 1, 1) := by decide +kernel
theorem d_Re_readPart_27 : decode c_Re_readPart 27 = .ok (.iadd, 1) := by decide +kernel
theorem d_Re_readPart_28 : decode c_Re_readPart 28 = .ok (.invokevirtual 63, 3) := by decide +kernel
theorem d_Re_readPart_31 : decode c_Re_readPart 31 = .ok (.ifCond .eq 16, 3) := by decide +kernel
theorem d_Re_readPart_34 : decode c_Re_readPart 34 = .ok (.aload_n 0, 1) := by decide +kernel
theorem d_Re_readPart_35 : decode c_Re_readPart 35 = .ok (.bipush 20, 2) := by decide +kernel
theorem d_Re_readPart_37 : decode c_Re_readPart 37 = .ok (.invokevirtual 50, 3) := by decide +kernel
theorem d_Re_readPart_40 : decode c_Re_readPart 40 = .ok (.ifCond .eq 7, 3) := by decide +kernel
theorem d_Re_readPart_43 : decode c_Re_readPart 43 = .ok (.iconst 1, 1) := by decide +kernel
theorem d_Re_readPart_44 : decode c_Re_readPart 44 = .ok (.goto 4, 3) := by decide +kernel
theorem d_Re_readPart_47 : decode c_Re_readPart 47 = .ok (.iconst 0, 1) := by decide +kernel
theorem d_Re_readPart_48 : decode c_Re_readPart 48 = .ok (.ireturn, 1) := by decide +kernel
theorem d_Re_readPart_49 : decode c_Re_readPart 49 = .ok (.aload_n 0, 1) := by decide +kernel
theorem d_Re_readPart_50 : decode c_Re_readPart 50 = .ok (.getfield 36, 3) := by decide +kernel
theorem d_Re_readPart_53 : decode c_Re_readPart 53 = .ok (.bipush 80, 2) := by decide +kernel
theorem d_Re_readPart_55 : decode c_Re_readPart 55 = .ok (.if_icmp .lt 5, 3) := by decide +kernel
theorem d_Re_readPart_58 : decode c_Re_readPart 58 = .ok (.iconst 0, 1) := by decide +kernel
theorem d_Re_readPart_59 : decode c_Re_readPart 59 = .ok (.ireturn, 1) := by decide +kernel
theorem d_Re_readPart_60 : decode c_Re_readPart 60 = .ok (.aload_n 0, 1) := by decide +kernel
theorem d_Re_readPart_61 : decode c_Re_readPart 61 = .ok (.dup, 1) := by decide +kernel
theorem d_Re_readPart_62 : decode c_Re_readPart 62 = .ok (.getfield 36, 3) := by decide +kernel
theorem d_Re_readPart_65 : decode c_Re_readPart 65 = .ok (.iconst 1, 1) := by decide +kernel
theorem d_Re_readPart_66 : decode c_Re_readPart 66 = .ok (.iadd, 1) := by decide +kernel
theorem d_Re_readPart_67 : decode c_Re_readPart 67 = .ok (.putfield 36, 3) := by decide +kernel
theorem d_Re_readPart_70 : decode c_Re_readPart 70 = .ok (.aload_n 0, 1) := by decide +kernel
theorem d_Re_readPart_71 : decode c_Re_readPart 71 = .ok (.getfield 12, 3) := by decide +kernel
theorem d_Re_readPart_74 : decode c_Re_readPart 74 = .ok (.getfield 66, 3) := by decide +kernel
theorem d_Re_readPart_77 : decode c_Re_readPart 77 = .ok (.aload_n 0, 1) := by decide +kernel
theorem d_Re_readPart_78 : decode c_Re_readPart 78 = .ok (.getfield 32, 3) := by decide +kernel
theorem d_Re_readPart_81 : decode c_Re_readPart 81 = .ok (.iaload, 1) := by decide +kernel
theorem d_Re_readPart_82 : decode c_Re_readPart 82 = .ok (.istore_n 2, 1) := by decide +kernel
theorem d_Re_readPart_83 : decode c_Re_readPart 83 = .ok (.aload_n 0, 1) := by decide +kernel
theorem d_Re_readPart_84 : decode c_Re_readPart 84 = .ok (.bipush 8, 2) := by decide +kernel
theorem d_Re_readPart_86 : decode c_Re_readPart 86 = .ok (.invokevirtual 50, 3) := by decide +kernel
theorem d_Re_readPart_89 : decode c_Re_readPart 89 = .ok (.ifCond .eq 12, 3) := by decide +kernel
theorem d_Re_readPart_92 : decode c_Re_readPart 92 = .ok (.aload_n 0, 1) := by decide +kernel
theorem d_Re_readPart_93 : decode c_Re_readPart 93 = .ok (.invokevirtual 73, 3) := by decide +kernel
theorem d_Re_readPart_96 : decode c_Re_readPart 96 = .ok (.ifCond .ne 25, 3) := by decide +kernel
theorem d_Re_readPart_99 : decode c_Re_readPart 99 = .ok (.iconst 0, 1) := by decide +kernel
theorem d_Re_readPart_100 : decode c_Re_readPart 100 = .ok (.ireturn, 1) := by decide +kernel
theorem d_Re_readPart_101 : decode c_Re_readPart 101 = .ok (.iload_n 2, 1) := by decide +kernel
theorem d_Re_readPart_102 : decode c_Re_readPart 102 = .ok (.bipush 9, 2) := by decide +kernel
theorem d_Re_readPart_104 : decode c_Re_readPart 104 = .ok (.if_icmp .eq 17, 3) := by decide +kernel
theorem d_Re_readPart_107 : decode c_Re_readPart 107 = .ok (.iload_n 2, 1) := by decide +kernel
theorem d_Re_readPart_108 : decode c_Re_readPart 108 = .ok (.bipush 6, 2) := by decide +kernel
theorem d_Re_readPart_110 : decode c_Re_readPart 110 = .ok (.if_icmp .eq 11, 3) := by decide +kernel
theorem d_Re_readPart_113 : decode c_Re_readPart 113 = .ok (.iload_n 2, 1) := by decide +kernel
theorem d_Re_readPart_114 : decode c_Re_readPart 114 = .ok (.bipush 7, 2) := by decide +kernel
theorem d_Re_readPart_116 : decode c_Re_readPart 116 = .ok (.if_icmp .eq 5, 3) := by decide +kernel
theorem d_Re_readPart_119 : decode c_Re_readPart 119 = .ok (.iconst 0, 1) := by decide +kernel
theorem d_Re_readPart_120 : decode c_Re_readPart 120 = .ok (.ireturn, 1) := by decide +kernel
theorem d_Re_readPart_121 : decode c_Re_readPart 121 = .ok (.aload_n 0, 1) := by decide +kernel
theorem d_Re_readPart_122 : decode c_Re_readPart 122 = .ok (.getfield 21, 3) := by decide +kernel
theorem d_Re_readPart_125 : decode c_Re_readPart 125 = .ok (.iload_n 2, 1) := by decide +kernel
theorem d_Re_readPart_126 : decode c_Re_readPart 126 = .ok (.aload_n 0, 1) := by decide +kernel
theorem d_Re_readPart_127 : decode c_Re_readPart 127 = .ok (.getfield 12, 3) := by decide +kernel
theorem d_Re_readPart_130 : decode c_Re_readPart 130 = .ok (.getfield 76, 3) := by decide +kernel
theorem d_Re_readPart_133 : decode c_Re_readPart 133 = .ok (.aload_n 0, 1) := by decide +kernel
theorem d_Re_readPart_134 : decode c_Re_readPart 134 = .ok (.getfield 32, 3) := by decide +kernel
theorem d_Re_readPart_137 : decode c_Re_readPart 137 = .ok (.iaload, 1) := by decide +kernel
theorem d_Re_readPart_138 : decode c_Re_readPart 138 = .ok (.invokevirtual 69, 3) := by decide +kernel
theorem d_Re_readPart_141 : decode c_Re_readPart 141 = .ok (.aload_n 0, 1) := by decide +kernel
theorem d_Re_readPart_142 : decode c_Re_readPart 142 = .ok (.dup, 1) := by decide +kernel
theorem d_Re_readPart_143 : decode c_Re_readPart 143 = .ok (.getfield 32, 3) := by decide +kernel
theorem d_Re_readPart_146 : decode c_Re_readPart 146 = .ok (.iconst 1, 1) := by decide +kernel
theorem d_Re_readPart_147 : decode c_Re_readPart 147 = .ok (.iadd, 1) := by decide +kernel
theorem d_Re_readPart_148 : decode c_Re_readPart 148 = .ok (.putfield 32, 3) := by decide +kernel
theorem d_Re_readPart_151 : decode c_Re_readPart 151 = .ok (.iconst 1, 1) := by decide +kernel
theorem d_Re_readPart_152 : decode c_Re_readPart 152 = .ok (.ireturn, 1) := by decide +kernel
theorem d_Re_looksAt_0 : decode c_Re_looksAt 0 = .ok (.aload_n 0, 1) := by decide +kernel
theorem d_Re_looksAt_1 : decode c_Re_looksAt 1 = .ok (.getfield 12, 3) := by decide +kernel
theorem d_Re_looksAt_4 : decode c_Re_looksAt 4 = .ok (.getfield 66, 3) := by decide +kernel
theorem d_Re_looksAt_7 : decode c_Re_looksAt 7 = .ok (.aload_n 0, 1) := by decide +kernel
theorem d_Re_looksAt_8 : decode c_Re_looksAt 8 = .ok (.getfield 32, 3) := by decide +kernel
theorem d_Re_looksAt_11 : decode c_Re_looksAt 11 = .ok (.iaload, 1) := by decide +kernel
theorem d_Re_looksAt_12 : decode c_Re_looksAt 12 = .ok (.iload_n 1, 1) := by decide +kernel
theorem d_Re_looksAt_13 : decode c_Re_looksAt 13 = .ok (.if_icmp .ne 7, 3) := by decide +kernel
theorem d_Re_looksAt_16 : decode c_Re_looksAt 16 = .ok (.iconst 1, 1) := by decide +kernel
theorem d_Re_looksAt_17 : decode c_Re_looksAt 17 = .ok (.goto 4, 3) := by decide +kernel
theorem d_Re_looksAt_20 : decode c_Re_looksAt 20 = .ok (.iconst 0, 1) := by decide +kernel
theorem d_Re_looksAt_21 : decode c_Re_looksAt 21 = .ok (.ireturn, 1) := by decide +kernel
theorem d_Re_looksAtCellNumber_0 : decode c_Re_looksAtCellNumber 0 = .ok (.aload_n 0, 1) := by decide +kernel
theorem d_Re_looksAtCellNumber_1 : decode c_Re_looksAtCellNumber 1 = .ok (.getfield 12, 3) := by decide +kernel
theorem d_Re_looksAtCellNumber_4 : decode c_Re_looksAtCellNumber 4 = .ok (.getfield 66, 3) := by decide +kernel
theorem d_Re_looksAtCellNumber_7 : decode c_Re_looksAtCellNumber 7 = .ok (.aload_n 0, 1) := by decide +kernel
theorem d_Re_looksAtCellNumber_8 : decode c_Re_looksAtCellNumber 8 = .ok (.getfield 32, 3) := by decide +kernel
theorem d_Re_looksAtCellNumber_11 : decode c_Re_looksAtCellNumber 11 = .ok (.iaload, 1) := by decide +kernel
theorem d_Re_looksAtCellNumber_12 : decode c_Re_looksAtCellNumber 12 = .ok (.bipush 9, 2) := by decide +kernel
theorem d_Re_looksAtCellNumber_14 : decode c_Re_looksAtCellNumber 14 = .ok (.if_icmp .ne 24, 3) := by decide +kernel
theorem d_Re_looksAtCellNumber_17 : decode c_Re_looksAtCellNumber 17 = .ok (.aload_n 0, 1) := by decide +kernel
theorem d_Re_looksAtCellNumber_18 : decode c_Re_looksAtCellNumber 18 = .ok (.getfield 12, 3) := by decide +kernel
theorem d_Re_looksAtCellNumber_21 : decode c_Re_looksAtCellNumber 21 = .ok (.getfield 76, 3) := by decide +kernel
theorem d_Re_looksAtCellNumber_24 : decode c_Re_looksAtCellNumber 24 = .ok (.aload_n 0, 1) := by decide +kernel
theorem d_Re_looksAtCellNumber_25 : decode c_Re_looksAtCellNumber 25 = .ok (.getfield 32, 3) := by decide +kernel
theorem d_Re_looksAtCellNumber_28 : decode c_Re_looksAtCellNumber 28 = .ok (.iaload, 1) := by decide +kernel
theorem d_Re_looksAtCellNumber_29 : decode c_Re_looksAtCellNumber 29 = .ok (.bipush 32, 2) := by decide +kernel
theorem d_Re_looksAtCellNumber_31 : decode c_Re_looksAtCellNumber 31 = .ok (.if_icmp .ge 7, 3) := by decide +kernel
theorem d_Re_looksAtCellNumber_34 : decode c_Re_looksAtCellNumber 34 = .ok (.iconst 1, 1) := by decide +kernel
theorem d_Re_looksAtCellNumber_35 : decode c_Re_looksAtCellNumber 35 = .ok (.goto 4, 3) := by decide +kernel
theorem d_Re_looksAtCellNumber_38 : decode c_Re_looksAtCellNumber 38 = .ok (.iconst 0, 1) := by decide +kernel
theorem d_Re_looksAtCellNumber_39 : decode c_Re_looksAtCellNumber 39 = .ok (.ireturn, 1) := by decide +kernel
theorem d_Co_add_0 : decode c_Co_add 0 = .ok (.aload_n 0, 1) := by decide +kernel
theorem d_Co_add_1 : decode c_Co_add 1 = .ok (.getfield 21, 3) := by decide +kernel
theorem d_Co_add_4 : decode c_Co_add 4 = .ok (.sipush 160, 3) := by decide +kernel
theorem d_Co_add_7 : decode c_Co_add 7 = .ok (.if_icmp .ge 33, 3) := by decide +kernel
theorem d_Co_add_10 : decode c_Co_add 10 = .ok (.aload_n 0, 1) := by decide +kernel
theorem d_Co_add_11 : decode c_Co_add 11 = .ok (.getfield 9, 3) := by decide +kernel
theorem d_Co_add_14 : decode c_Co_add 14 = .ok (.aload_n 0, 1) := by decide +kernel
theorem d_Co_add_15 : decode c_Co_add 15 = .ok (.getfield 21, 3) := by decide +kernel
theorem d_Co_add_18 : decode c_Co_add 18 = .ok (.iload_n 1, 1) := by decide +kernel
theorem d_Co_add_19 : decode c_Co_add 19 = .ok (.iastore, 1) := by decide +kernel
theorem d_Co_add_20 : decode c_Co_add 20 = .ok (.aload_n 0, 1) := by decide +kernel
theorem d_Co_add_21 : decode c_Co_add 21 = .ok (.getfield 15, 3) := by decide +kernel
theorem d_Co_add_24 : decode c_Co_add 24 = .ok (.aload_n 0, 1) := by decide +kernel
theorem d_Co_add_25 : decode c_Co_add 25 = .ok (.getfield 21, 3) := by decide +kernel
theorem d_Co_add_28 : decode c_Co_add 28 = .ok (.iload_n 2, 1) := by decide +kernel
theorem d_Co_add_29 : decode c_Co_add 29 = .ok (.iastore, 1) := by decide +kernel
theorem d_Co_add_30 : decode c_Co_add 30 = .ok (.aload_n 0, 1) := by decide +kernel
theorem d_Co_add_31 : decode c_Co_add 31 = .ok (.dup, 1) := by decide +kernel
theorem d_Co_add_32 : decode c_Co_add 32 = .ok (.getfield 21, 3) := by decide +kernel
theorem d_Co_add_35 : decode c_Co_add 35 = .ok (.iconst 1, 1) := by decide +kernel
theorem d_Co_add_36 : decode c_Co_add 36 = .ok (.iadd, 1) := by decide +kernel
theorem d_Co_add_37 : decode c_Co_add 37 = .ok (.putfield 21, 3) := by decide +kernel
theorem d_Co_add_40 : decode c_Co_add 40 = .ok (.return_, 1) := by decide +kernel
theorem d_Re_readEffect_0 : decode c_Re_readEffect 0 = .ok (.aload_n 0, 1) := by decide +kernel
theorem d_Re_readEffect_1 : decode c_Re_readEffect 1 = .ok (.bipush 8, 2) := by decide +kernel
theorem d_Re_readEffect_3 : decode c_Re_readEffect 3 = .ok (.invokevirtual 50, 3) := by decide +kernel
theorem d_Re_readEffect_6 : decode c_Re_readEffect 6 = .ok (.ifCond .eq 10, 3) := by decide +kernel
theorem d_Re_readEffect_9 : decode c_Re_readEffect 9 = .ok (.aload_n 0, 1) := by decide +kernel
theorem d_Re_readEffect_10 : decode c_Re_readEffect 10 = .ok (.invokevirtual 73, 3) := by decide +kernel
theorem d_Re_readEffect_13 : decode c_Re_readEffect 13 = .ok (.ifCond .ne 5, 3) := by decide +kernel
theorem d_Re_readEffect_16 : decode c_Re_readEffect 16 = .ok (.iconst 0, 1) := by decide +kernel
theorem d_Re_readEffect_17 : decode c_Re_readEffect 17 = .ok (.ireturn, 1) := by decide +kernel
theorem d_Re_readEffect_18 : decode c_Re_readEffect 18 = .ok (.aload_n 0, 1) := by decide +kernel
theorem d_Re_readEffect_19 : decode c_Re_readEffect 19 = .ok (.getfield 12, 3) := by decide +kernel
theorem d_Re_readEffect_22 : decode c_Re_readEffect 22 = .ok (.getfield 76, 3) := by decide +kernel
theorem d_Re_readEffect_25 : decode c_Re_readEffect 25 = .ok (.aload_n 0, 1) := by decide +kernel
theorem d_Re_readEffect_26 : decode c_Re_readEffect 26 = .ok (.getfield 32, 3) := by decide +kernel
theorem d_Re_readEffect_29 : decode c_Re_readEffect 29 = .ok (.iaload, 1) := by decide +kernel
theorem d_Re_readEffect_30 : decode c_Re_readEffect 30 = .ok (.istore_n 1, 1) := by decide +kernel
theorem d_Re_readEffect_31 : decode c_Re_readEffect 31 = .ok (.aload_n 0, 1) := by decide +kernel
theorem d_Re_readEffect_32 : decode c_Re_readEffect 32 = .ok (.dup, 1) := by decide +kernel
theorem d_Re_readEffect_33 : decode c_Re_readEffect 33 = .ok (.getfield 32, 3) := by decide +kernel
theorem d_Re_readEffect_36 : decode c_Re_readEffect 36 = .ok (.iconst 1, 1) := by decide +kernel
theorem d_Re_readEffect_37 : decode c_Re_readEffect 37 = .ok (.iadd, 1) := by decide +kernel
theorem d_Re_readEffect_38 : decode c_Re_readEffect 38 = .ok (.putfield 32, 3) := by decide +kernel
theorem d_Re_readEffect_41 : decode c_Re_readEffect 41 = .ok (.aload_n 0, 1) := by decide +kernel
theorem d_Re_readEffect_42 : decode c_Re_readEffect 42 = .ok (.bipush 17, 2) := by decide +kernel
theorem d_Re_readEffect_44 : decode c_Re_readEffect 44 = .ok (.invokevirtual 50, 3) := by decide +kernel
theorem d_Re_readEffect_47 : decode c_Re_readEffect 47 = .ok (.ifCond .eq 11, 3) := by decide +kernel
theorem d_Re_readEffect_50 : decode c_Re_readEffect 50 = .ok (.aload_n 0, 1) := by decide +kernel
theorem d_Re_readEffect_51 : decode c_Re_readEffect 51 = .ok (.iconst 0, 1) := by decide +kernel
theorem d_Re_readEffect_52 : decode c_Re_readEffect 52 = .ok (.invokevirtual 63, 3) := by decide +kernel
theorem d_Re_readEffect_55 : decode c_Re_readEffect 55 = .ok (.ifCond .ne 5, 3) := by decide +kernel
theorem d_Re_readEffect_58 : decode c_Re_readEffect 58 = .ok (.iconst 0, 1) := by decide +kernel
theorem d_Re_readEffect_59 : decode c_Re_readEffect 59 = .ok (.ireturn, 1) := by decide +kernel
theorem d_Re_readEffect_60 : decode c_Re_readEffect 60 = .ok (.aload_n 0, 1) := by decide +kernel
theorem d_Re_readEffect_61 : decode c_Re_readEffect 61 = .ok (.getfield 21, 3) := by decide +kernel
theorem d_Re_readEffect_64 : decode c_Re_readEffect 64 = .ok (.bipush 17, 2) := by decide +kernel
theorem d_Re_readEffect_66 : decode c_Re_readEffect 66 = .ok (.iload_n 1, 1) := by decide +kernel
theorem d_Re_readEffect_67 : decode c_Re_readEffect 67 = .ok (.invokevirtual 69, 3) := by decide +kernel
theorem d_Re_readEffect_70 : decode c_Re_readEffect 70 = .ok (.iconst 1, 1) := by decide +kernel
theorem d_Re_readEffect_71 : decode c_Re_readEffect 71 = .ok (.ireturn, 1) := by decide +kernel
theorem d_Co_closeRule_0 : decode c_Co_closeRule 0 = .ok (.aload_n 0, 1) := by decide +kernel
theorem d_Co_closeRule_1 : decode c_Co_closeRule 1 = .ok (.getfield 25, 3) := by decide +kernel
theorem d_Co_closeRule_4 : decode c_Co_closeRule 4 = .ok (.bipush 6, 2) := by decide +kernel
theorem d_Co_closeRule_6 : decode c_Co_closeRule 6 = .ok (.if_icmp .ge 26, 3) := by decide +kernel
theorem d_Co_closeRule_9 : decode c_Co_closeRule 9 = .ok (.aload_n 0, 1) := by decide +kernel
theorem d_Co_closeRule_10 : decode c_Co_closeRule 10 = .ok (.getfield 18, 3) := by decide +kernel
theorem d_Co_closeRule_13 : decode c_Co_closeRule 13 = .ok (.aload_n 0, 1) := by decide +kernel
theorem d_Co_closeRule_14 : decode c_Co_closeRule 14 = .ok (.getfield 25, 3) := by decide +kernel
theorem d_Co_closeRule_17 : decode c_Co_closeRule 17 = .ok (.aload_n 0, 1) := by decide +kernel
theorem d_Co_closeRule_18 : decode c_Co_closeRule 18 = .ok (.getfield 21, 3) := by decide +kernel
theorem d_Co_closeRule_21 : decode c_Co_closeRule 21 = .ok (.iastore, 1) := by decide +kernel
theorem d_Co_closeRule_22 : decode c_Co_closeRule 22 = .ok (.aload_n 0, 1) := by decide +kernel
theorem d_Co_closeRule_23 : decode c_Co_closeRule 23 = .ok (.dup, 1) := by decide +kernel
theorem d_Co_closeRule_24 : decode c_Co_closeRule 24 = .ok (.getfield 25, 3) := by decide +kernel
theorem d_Co_closeRule_27 : decode c_Co_closeRule 27 = .ok (.iconst 1, 1) := by decide +kernel
theorem d_Co_closeRule_28 : decode c_Co_closeRule 28 = .ok (.iadd, 1) := by decide +kernel
theorem d_Co_closeRule_29 : decode c_Co_closeRule 29 = .ok (.putfield 25, 3) := by decide +kernel
theorem d_Co_closeRule_32 : decode c_Co_closeRule 32 = .ok (.return_, 1) := by decide +kernel
theorem d_Re_exchange_0 : decode c_Re_exchange 0 = .ok (.aload_n 0, 1) := by decide +kernel
theorem d_Re_exchange_1 : decode c_Re_exchange 1 = .ok (.getfield 21, 3) := by decide +kernel
theorem d_Re_exchange_4 : decode c_Re_exchange 4 = .ok (.astore_n 2, 1) := by decide +kernel
theorem d_Re_exchange_5 : decode c_Re_exchange 5 = .ok (.aload_n 0, 1) := by decide +kernel
theorem d_Re_exchange_6 : decode c_Re_exchange 6 = .ok (.aload_n 1, 1) := by decide +kernel
theorem d_Re_exchange_7 : decode c_Re_exchange 7 = .ok (.putfield 21, 3) := by decide +kernel
theorem d_Re_exchange_10 : decode c_Re_exchange 10 = .ok (.aload_n 2, 1) := by decide +kernel
theorem d_Re_exchange_11 : decode c_Re_exchange 11 = .ok (.areturn, 1) := by decide +kernel
theorem d_Ru_run_0 : decode c_Ru_run 0 = .ok (.aload_n 0, 1) := by decide +kernel
theorem d_Ru_run_1 : decode c_Ru_run 1 = .ok (.getfield 33, 3) := by decide +kernel
theorem d_Ru_run_4 : decode c_Ru_run 4 = .ok (.getfield 53, 3) := by decide +kernel
theorem d_Ru_run_7 : decode c_Ru_run 7 = .ok (.ifCond .ne 8, 3) := by decide +kernel
theorem d_Ru_run_10 : decode c_Ru_run 10 = .ok (.bipush (-2), 2) := by decide +kernel
theorem d_Ru_run_12 : decode c_Ru_run 12 = .ok (.goto 16, 3) := by decide +kernel
theorem d_Ru_run_15 : decode c_Ru_run 15 = .ok (.aload_n 0, 1) := by decide +kernel
theorem d_Ru_run_16 : decode c_Ru_run 16 = .ok (.getfield 26, 3) := by decide +kernel
theorem d_Ru_run_19 : decode c_Ru_run 19 = .ok (.aload_n 0, 1) := by decide +kernel
theorem d_Ru_run_20 : decode c_Ru_run 20 = .ok (.getfield 33, 3) := by decide +kernel
theorem d_Ru_run_23 : decode c_Ru_run 23 = .ok (.iload_n 1, 1) := by decide +kernel
theorem d_Ru_run_24 : decode c_Ru_run 24 = .ok (.iload_n 2, 1) := by decide +kernel
theorem d_Ru_run_25 : decode c_Ru_run 25 = .ok (.invokevirtual 56, 3) := by decide +kernel
theorem d_Ru_run_28 : decode c_Ru_run 28 = .ok (.ireturn, 1) := by decide +kernel
theorem d_Ma_perform_0 : decode c_Ma_perform 0 = .ok (.aload_n 0, 1) := by decide +kernel
theorem d_Ma_perform_1 : decode c_Ma_perform 1 = .ok (.getfield 33, 3) := by decide +kernel
theorem d_Ma_perform_4 : decode c_Ma_perform 4 = .ok (.sipush 200, 3) := by decide +kernel
theorem d_Ma_perform_7 : decode c_Ma_perform 7 = .ok (.if_icmp .lt 6, 3) := by decide +kernel
theorem d_Ma_perform_10 : decode c_Ma_perform 10 = .ok (.bipush (-3), 2) := by decide +kernel
theorem d_Ma_perform_12 : decode c_Ma_perform 12 = .ok (.ireturn, 1) := by decide +kernel
theorem d_Ma_perform_13 : decode c_Ma_perform 13 = .ok (.aload_n 0, 1) := by decide +kernel
theorem d_Ma_perform_14 : decode c_Ma_perform 14 = .ok (.getfield 30, 3) := by decide +kernel
theorem d_Ma_perform_17 : decode c_Ma_perform 17 = .ok (.aload_n 0, 1) := by decide +kernel
theorem d_Ma_perform_18 : decode c_Ma_perform 18 = .ok (.getfield 33, 3) := by decide +kernel
theorem d_Ma_perform_21 : decode c_Ma_perform 21 = .ok (.aload_n 0, 1) := by decide +kernel
theorem d_Ma_perform_22 : decode c_Ma_perform 22 = .ok (.getfield 37, 3) := by decide +kernel
theorem d_Ma_perform_25 : decode c_Ma_perform 25 = .ok (.iastore, 1) := by decide +kernel
theorem d_Ma_perform_26 : decode c_Ma_perform 26 = .ok (.aload_n 0, 1) := by decide +kernel
theorem d_Ma_perform_27 : decode c_Ma_perform 27 = .ok (.dup, 1) := by decide +kernel
theorem d_Ma_perform_28 : decode c_Ma_perform 28 = .ok (.getfield 33, 3) := by decide +kernel
theorem d_Ma_perform_31 : decode c_Ma_perform 31 = .ok (.iconst 1, 1) := by decide +kernel
theorem d_Ma_perform_32 : decode c_Ma_perform 32 = .ok (.iadd, 1) := by decide +kernel
theorem d_Ma_perform_33 : decode c_Ma_perform 33 = .ok (.putfield 33, 3) := by decide +kernel
theorem d_Ma_perform_36 : decode c_Ma_perform 36 = .ok (.iconst 0, 1) := by decide +kernel
theorem d_Ma_perform_37 : decode c_Ma_perform 37 = .ok (.istore 4, 2) := by decide +kernel
theorem d_Ma_perform_39 : decode c_Ma_perform 39 = .ok (.iconst 0, 1) := by decide +kernel
theorem d_Ma_perform_40 : decode c_Ma_perform 40 = .ok (.istore 5, 2) := by decide +kernel
theorem d_Ma_perform_42 : decode c_Ma_perform 42 = .ok (.iload 5, 2) := by decide +kernel
theorem d_Ma_perform_44 : decode c_Ma_perform 44 = .ok (.aload_n 1, 1) := by decide +kernel
theorem d_Ma_perform_45 : decode c_Ma_perform 45 = .ok (.getfield 40, 3) := by decide +kernel
theorem d_Ma_perform_48 : decode c_Ma_perform 48 = .ok (.if_icmp .ge 46, 3) := by decide +kernel
theorem d_Ma_perform_51 : decode c_Ma_perform 51 = .ok (.aload_n 0, 1) := by decide +kernel
theorem d_Ma_perform_52 : decode c_Ma_perform 52 = .ok (.aload_n 1, 1) := by decide +kernel
theorem d_Ma_perform_53 : decode c_Ma_perform 53 = .ok (.iload 4, 2) := by decide +kernel
theorem d_Ma_perform_55 : decode c_Ma_perform 55 = .ok (.aload_n 1, 1) := by decide +kernel
theorem d_Ma_perform_56 : decode c_Ma_perform 56 = .ok (.getfield 45, 3) := by decide +kernel
theorem d_Ma_perform_59 : decode c_Ma_perform 59 = .ok (.iload 5, 2) := by decide +kernel
theorem d_Ma_perform_61 : decode c_Ma_perform 61 = .ok (.iaload, 1) := by decide +kernel
theorem d_Ma_perform_62 : decode c_Ma_perform 62 = .ok (.iload_n 2, 1) := by decide +kernel
theorem d_Ma_perform_63 : decode c_Ma_perform 63 = .ok (.iload_n 3, 1) := by decide +kernel
theorem d_Ma_perform_64 : decode c_Ma_perform 64 = .ok (.invokevirtual 48, 3) := by decide +kernel
theorem d_Ma_perform_67 : decode c_Ma_perform 67 = .ok (.ifCond .eq 12, 3) := by decide +kernel
theorem d_Ma_perform_70 : decode c_Ma_perform 70 = .ok (.aload_n 0, 1) := by decide +kernel
theorem d_Ma_perform_71 : decode c_Ma_perform 71 = .ok (.invokevirtual 52, 3) := by decide +kernel
theorem d_Ma_perform_74 : decode c_Ma_perform 74 = .ok (.iload 5, 2) := by decide +kernel
theorem d_Ma_perform_76 : decode c_Ma_perform 76 = .ok (.iconst 1, 1) := by decide +kernel
theorem d_Ma_perform_77 : decode c_Ma_perform 77 = .ok (.iadd, 1) := by decide +kernel
theorem d_Ma_perform_78 : decode c_Ma_perform 78 = .ok (.ireturn, 1) := by decide +kernel
theorem d_Ma_perform_79 : decode c_Ma_perform 79 = .ok (.aload_n 1, 1) := by decide +kernel
theorem d_Ma_perform_80 : decode c_Ma_perform 80 = .ok (.getfield 45, 3) := by decide +kernel
theorem d_Ma_perform_83 : decode c_Ma_perform 83 = .ok (.iload 5, 2) := by decide +kernel
theorem d_Ma_perform_85 : decode c_Ma_perform 85 = .ok (.iaload, 1) := by decide +kernel
theorem d_Ma_perform_86 : decode c_Ma_perform 86 = .ok (.istore 4, 2) := by decide +kernel
theorem d_Ma_perform_88 : decode c_Ma_perform 88 = .ok (.iinc 5 1, 3) := by decide +kernel
theorem d_Ma_perform_91 : decode c_Ma_perform 91 = .ok (.goto (-49), 3) := by decide +kernel
theorem d_Ma_perform_94 : decode c_Ma_perform 94 = .ok (.iconst 0, 1) := by decide +kernel
theorem d_Ma_perform_95 : decode c_Ma_perform 95 = .ok (.ireturn, 1) := by decide +kernel
theorem d_Ma_isTaken_0 : decode c_Ma_isTaken 0 = .ok (.aload_n 0, 1) := by decide +kernel
theorem d_Ma_isTaken_1 : decode c_Ma_isTaken 1 = .ok (.iconst 0, 1) := by decide +kernel
theorem d_Ma_isTaken_2 : decode c_Ma_isTaken 2 = .ok (.putfield 55, 3) := by decide +kernel
theorem d_Ma_isTaken_5 : decode c_Ma_isTaken 5 = .ok (.aload_n 0, 1) := by decide +kernel
theorem d_Ma_isTaken_6 : decode c_Ma_isTaken 6 = .ok (.iconst 0, 1) := by decide +kernel
theorem d_Ma_isTaken_7 : decode c_Ma_isTaken 7 = .ok (.putfield 58, 3) := by decide +kernel
theorem d_Ma_isTaken_10 : decode c_Ma_isTaken 10 = .ok (.iload_n 2, 1) := by decide +kernel
theorem d_Ma_isTaken_11 : decode c_Ma_isTaken 11 = .ok (.istore 6, 2) := by decide +kernel
theorem d_Ma_isTaken_13 : decode c_Ma_isTaken 13 = .ok (.iload 6, 2) := by decide +kernel
theorem d_Ma_isTaken_15 : decode c_Ma_isTaken 15 = .ok (.iload_n 3, 1) := by decide +kernel
theorem d_Ma_isTaken_16 : decode c_Ma_isTaken 16 = .ok (.if_icmp .ge 177, 3) := by decide +kernel
theorem d_Ma_isTaken_19 : decode c_Ma_isTaken 19 = .ok (.aload_n 1, 1) := by decide +kernel
theorem d_Ma_isTaken_20 : decode c_Ma_isTaken 20 = .ok (.getfield 61, 3) := by decide +kernel
theorem d_Ma_isTaken_23 : decode c_Ma_isTaken 23 = .ok (.iload 6, 2) := by decide +kernel
theorem d_Ma_isTaken_25 : decode c_Ma_isTaken 25 = .ok (.iaload, 1) := by decide +kernel
theorem d_Ma_isTaken_26 : decode c_Ma_isTaken 26 = .ok (.tableswitch 145 6 17 #[95, 104, 76, 62, 145, 145, 145, 145, 131, 131, 131, 113], 62) := by decide +kernel
theorem d_Ma_isTaken_88 : decode c_Ma_isTaken 88 = .ok (.aload_n 0, 1) := by decide +kernel
theorem d_Ma_isTaken_89 : decode c_Ma_isTaken 89 = .ok (.aload_n 1, 1) := by decide +kernel
theorem d_Ma_isTaken_90 : decode c_Ma_isTaken 90 = .ok (.getfield 64, 3) := by decide +kernel
theorem d_Ma_isTaken_93 : decode c_Ma_isTaken 93 = .ok (.iload 6, 2) := by decide +kernel
theorem d_Ma_isTaken_95 : decode c_Ma_isTaken 95 = .ok (.iaload, 1) := by decide +kernel
theorem d_Ma_isTaken_96 : decode c_Ma_isTaken 96 = .ok (.invokevirtual 67, 3) := by decide +kernel
theorem d_Ma_isTaken_99 : decode c_Ma_isTaken 99 = .ok (.goto 88, 3) := by decide +kernel
theorem d_Ma_isTaken_102 : decode c_Ma_isTaken 102 = .ok (.aload_n 0, 1) := by decide +kernel
theorem d_Ma_isTaken_103 : decode c_Ma_isTaken 103 = .ok (.aload_n 0, 1) := by decide +kernel
theorem d_Ma_isTaken_104 : decode c_Ma_isTaken 104 = .ok (.getfield 9, 3) := by decide +kernel
theorem d_Ma_isTaken_107 : decode c_Ma_isTaken 107 = .ok (.aload_n 1, 1) := by decide +kernel
theorem d_Ma_isTaken_108 : decode c_Ma_isTaken 108 = .ok (.getfield 64, 3) := by decide +kernel
theorem d_Ma_isTaken_111 : decode c_Ma_isTaken 111 = .ok (.iload 6, 2) := by decide +kernel
theorem d_Ma_isTaken_113 : decode c_Ma_isTaken 113 = .ok (.iaload, 1) := by decide +kernel
theorem d_Ma_isTaken_114 : decode c_Ma_isTaken 114 = .ok (.iaload, 1) := by decide +kernel
theorem d_Ma_isTaken_115 : decode c_Ma_isTaken 115 = .ok (.invokevirtual 67, 3) := by decide +kernel
theorem d_Ma_isTaken_118 : decode c_Ma_isTaken 118 = .ok (.goto 69, 3) := by decide +kernel
theorem d_Ma_isTaken_121 : decode c_Ma_isTaken 121 = .ok (.aload_n 0, 1) := by decide +kernel
theorem d_Ma_isTaken_122 : decode c_Ma_isTaken 122 = .ok (.iload 4, 2) := by decide +kernel
theorem d_Ma_isTaken_124 : decode c_Ma_isTaken 124 = .ok (.invokevirtual 67, 3) := by decide +kernel
theorem d_Ma_isTaken_127 : decode c_Ma_isTaken 127 = .ok (.goto 60, 3) := by decide +kernel
theorem d_Ma_isTaken_130 : decode c_Ma_isTaken 130 = .ok (.aload_n 0, 1) := by decide +kernel
theorem d_Ma_isTaken_131 : decode c_Ma_isTaken 131 = .ok (.iload 5, 2) := by decide +kernel
theorem d_Ma_isTaken_133 : decode c_Ma_isTaken 133 = .ok (.invokevirtual 67, 3) := by decide +kernel
theorem d_Ma_isTaken_136 : decode c_Ma_isTaken 136 = .ok (.goto 51, 3) := by decide +kernel
theorem d_Ma_isTaken_139 : decode c_Ma_isTaken 139 = .ok (.aload_n 0, 1) := by decide +kernel
theorem d_Ma_isTaken_140 : decode c_Ma_isTaken 140 = .ok (.aload_n 1, 1) := by decide +kernel
theorem d_Ma_isTaken_141 : decode c_Ma_isTaken 141 = .ok (.getfield 64, 3) := by decide +kernel
theorem d_Ma_isTaken_144 : decode c_Ma_isTaken 144 = .ok (.iload 6, 2) := by decide +kernel
theorem d_Ma_isTaken_146 : decode c_Ma_isTaken 146 = .ok (.iaload, 1) := by decide +kernel
theorem d_Ma_isTaken_147 : decode c_Ma_isTaken 147 = .ok (.aload_n 0, 1) := by decide +kernel
theorem d_Ma_isTaken_148 : decode c_Ma_isTaken 148 = .ok (.invokevirtual 71, 3) := by decide +kernel
theorem d_Ma_isTaken_151 : decode c_Ma_isTaken 151 = .ok (.invokevirtual 75, 3) := by decide +kernel
theorem d_Ma_isTaken_154 : decode c_Ma_isTaken 154 = .ok (.goto 33, 3) := by decide +kernel
theorem d_Ma_isTaken_157 : decode c_Ma_isTaken 157 = .ok (.aload_n 0, 1) := by decide +kernel
theorem d_Ma_isTaken_158 : decode c_Ma_isTaken 158 = .ok (.aload_n 1, 1) := by decide +kernel
theorem d_Ma_isTaken_159 : decode c_Ma_isTaken 159 = .ok (.getfield 61, 3) := by decide +kernel
theorem d_Ma_isTaken_162 : decode c_Ma_isTaken 162 = .ok (.iload 6, 2) := by decide +kernel
theorem d_Ma_isTaken_164 : decode c_Ma_isTaken 164 = .ok (.iaload, 1) := by decide +kernel
theorem d_Ma_isTaken_165 : decode c_Ma_isTaken 165 = .ok (.invokevirtual 79, 3) := by decide +kernel
theorem d_Ma_isTaken_168 : decode c_Ma_isTaken 168 = .ok (.goto 19, 3) := by decide +kernel
theorem d_Ma_isTaken_171 : decode c_Ma_isTaken 171 = .ok (.aload_n 0, 1) := by decide +kernel
theorem d_Ma_isTaken_172 : decode c_Ma_isTaken 172 = .ok (.aload_n 1, 1) := by decide +kernel
theorem d_Ma_isTaken_173 : decode c_Ma_isTaken 173 = .ok (.getfield 61, 3) := by decide +kernel
theorem d_Ma_isTaken_176 : decode c_Ma_isTaken 176 = .ok (.iload 6, 2) := by decide +kernel
theorem d_Ma_isTaken_178 : decode c_Ma_isTaken 178 = .ok (.iaload, 1) := by decide +kernel
theorem d_Ma_isTaken_179 : decode c_Ma_isTaken 179 = .ok (.invokevirtual 82, 3) := by decide +kernel
theorem d_Ma_isTaken_182 : decode c_Ma_isTaken 182 = .ok (.ifCond .ne 5, 3) := by decide +kernel
theorem d_Ma_isTaken_185 : decode c_Ma_isTaken 185 = .ok (.iconst 0, 1) := by decide +kernel
theorem d_Ma_isTaken_186 : decode c_Ma_isTaken 186 = .ok (.ireturn, 1) := by decide +kernel
theorem d_Ma_isTaken_187 : decode c_Ma_isTaken 187 = .ok (.iinc 6 1, 3) := by decide +kernel
theorem d_Ma_isTaken_190 : decode c_Ma_isTaken 190 = .ok (.goto (-177), 3) := by decide +kernel
theorem d_Ma_isTaken_193 : decode c_Ma_isTaken 193 = .ok (.iconst 1, 1) := by decide +kernel
theorem d_Ma_isTaken_194 : decode c_Ma_isTaken 194 = .ok (.ireturn, 1) := by decide +kernel
theorem d_Ma_push_0 : decode c_Ma_push 0 = .ok (.aload_n 0, 1) := by decide +kernel
theorem d_Ma_push_1 : decode c_Ma_push 1 = .ok (.getfield 55, 3) := by decide +kernel
theorem d_Ma_push_4 : decode c_Ma_push 4 = .ok (.bipush 80, 2) := by decide +kernel
theorem d_Ma_push_6 : decode c_Ma_push 6 = .ok (.if_icmp .ge 23, 3) := by decide +kernel
theorem d_Ma_push_9 : decode c_Ma_push 9 = .ok (.aload_n 0, 1) := by decide +kernel
theorem d_Ma_push_10 : decode c_Ma_push 10 = .ok (.getfield 15, 3) := by decide +kernel
theorem d_Ma_push_13 : decode c_Ma_push 13 = .ok (.aload_n 0, 1) := by decide +kernel
theorem d_Ma_push_14 : decode c_Ma_push 14 = .ok (.getfield 55, 3) := by decide +kernel
theorem d_Ma_push_17 : decode c_Ma_push 17 = .ok (.iload_n 1, 1) := by decide +kernel
theorem d_Ma_push_18 : decode c_Ma_push 18 = .ok (.iastore, 1) := by decide +kernel
theorem d_Ma_push_19 : decode c_Ma_push 19 = .ok (.aload_n 0, 1) := by decide +kernel
theorem d_Ma_push_20 : decode c_Ma_push 20 = .ok (.dup, 1) := by decide +kernel
theorem d_Ma_push_21 : decode c_Ma_push 21 = .ok (.getfield 55, 3) := by decide +kernel
theorem d_Ma_push_24 : decode c_Ma_push 24 = .ok (.iconst 1, 1) := by decide +kernel
theorem d_Ma_push_25 : decode c_Ma_push 25 = .ok (.iadd, 1) := by decide +kernel
theorem d_Ma_push_26 : decode c_Ma_push 26 = .ok (.putfield 55, 3) := by decide +kernel
theorem d_Ma_push_29 : decode c_Ma_push 29 = .ok (.return_, 1) := by decide +kernel
theorem d_Ma_pop_0 : decode c_Ma_pop 0 = .ok (.aload_n 0, 1) := by decide +kernel
theorem d_Ma_pop_1 : decode c_Ma_pop 1 = .ok (.getfield 55, 3) := by decide +kernel
theorem d_Ma_pop_4 : decode c_Ma_pop 4 = .ok (.ifCond .ne 5, 3) := by decide +kernel
theorem d_Ma_pop_7 : decode c_Ma_pop 7 = .ok (.iconst 0, 1) := by decide +kernel
theorem d_Ma_pop_8 : decode c_Ma_pop 8 = .ok (.ireturn, 1) := by decide +kernel
theorem d_Ma_pop_9 : decode c_Ma_pop 9 = .ok (.aload_n 0, 1) := by decide +kernel
theorem d_Ma_pop_10 : decode c_Ma_pop 10 = .ok (.dup, 1) := by decide +kernel
theorem d_Ma_pop_11 : decode c_Ma_pop 11 = .ok (.getfield 55, 3) := by decide +kernel
theorem d_Ma_pop_14 : decode c_Ma_pop 14 = .ok (.iconst 1, 1) := by decide +kernel
theorem d_Ma_pop_15 : decode c_Ma_pop 15 = .ok (.isub, 1) := by decide +kernel
theorem d_Ma_pop_16 : decode c_Ma_pop 16 = .ok (.putfield 55, 3) := by decide +kernel
theorem d_Ma_pop_19 : decode c_Ma_pop 19 = .ok (.aload_n 0, 1) := by decide +kernel
theorem d_Ma_pop_20 : decode c_Ma_pop 20 = .ok (.getfield 15, 3) := by decide +kernel
theorem d_Ma_pop_23 : decode c_Ma_pop 23 = .ok (.aload_n 0, 1) := by decide +kernel
theorem d_Ma_pop_24 : decode c_Ma_pop 24 = .ok (.getfield 55, 3) := by decide +kernel
theorem d_Ma_pop_27 : decode c_Ma_pop 27 = .ok (.iaload, 1) := by decide +kernel
theorem d_Ma_pop_28 : decode c_Ma_pop 28 = .ok (.ireturn, 1) := by decide +kernel
theorem d_Ma_addEffect_0 : decode c_Ma_addEffect 0 = .ok (.aload_n 0, 1) := by decide +kernel
theorem d_Ma_addEffect_1 : decode c_Ma_addEffect 1 = .ok (.getfield 58, 3) := by decide +kernel
theorem d_Ma_addEffect_4 : decode c_Ma_addEffect 4 = .ok (.bipush 8, 2) := by decide +kernel
theorem d_Ma_addEffect_6 : decode c_Ma_addEffect 6 = .ok (.if_icmp .ge 33, 3) := by decide +kernel
theorem d_Ma_addEffect_9 : decode c_Ma_addEffect 9 = .ok (.aload_n 0, 1) := by decide +kernel
theorem d_Ma_addEffect_10 : decode c_Ma_addEffect 10 = .ok (.getfield 18, 3) := by decide +kernel
theorem d_Ma_addEffect_13 : decode c_Ma_addEffect 13 = .ok (.aload_n 0, 1) := by decide +kernel
theorem d_Ma_addEffect_14 : decode c_Ma_addEffect 14 = .ok (.getfield 58, 3) := by decide +kernel
theorem d_Ma_addEffect_17 : decode c_Ma_addEffect 17 = .ok (.iload_n 1, 1) := by decide +kernel
theorem d_Ma_addEffect_18 : decode c_Ma_addEffect 18 = .ok (.iastore, 1) := by decide +kernel
theorem d_Ma_addEffect_19 : decode c_Ma_addEffect 19 = .ok (.aload_n 0, 1) := by decide +kernel
theorem d_Ma_addEffect_20 : decode c_Ma_addEffect 20 = .ok (.getfield 21, 3) := by decide +kernel
theorem d_Ma_addEffect_23 : decode c_Ma_addEffect 23 = .ok (.aload_n 0, 1) := by decide +kernel
theorem d_Ma_addEffect_24 : decode c_Ma_addEffect 24 = .ok (.getfield 58, 3) := by decide +kernel
theorem d_Ma_addEffect_27 : decode c_Ma_addEffect 27 = .ok (.iload_n 2, 1) := by decide +kernel
theorem d_Ma_addEffect_28 : decode c_Ma_addEffect 28 = .ok (.iastore, 1) := by decide +kernel
theorem d_Ma_addEffect_29 : decode c_Ma_addEffect 29 = .ok (.aload_n 0, 1) := by decide +kernel
theorem d_Ma_addEffect_30 : decode c_Ma_addEffect 30 = .ok (.dup, 1) := by decide +kernel
theorem d_Ma_addEffect_31 : decode c_Ma_addEffect 31 = .ok (.getfield 58, 3) := by decide +kernel
theorem d_Ma_addEffect_34 : decode c_Ma_addEffect 34 = .ok (.iconst 1, 1) := by decide +kernel
theorem d_Ma_addEffect_35 : decode c_Ma_addEffect 35 = .ok (.iadd, 1) := by decide +kernel
theorem d_Ma_addEffect_36 : decode c_Ma_addEffect 36 = .ok (.putfield 58, 3) := by decide +kernel
theorem d_Ma_addEffect_39 : decode c_Ma_addEffect 39 = .ok (.return_, 1) := by decide +kernel
theorem d_Ma_calculate_0 : decode c_Ma_calculate 0 = .ok (.aload_n 0, 1) := by decide +kernel
theorem d_Ma_calculate_1 : decode c_Ma_calculate 1 = .ok (.invokevirtual 71, 3) := by decide +kernel
theorem d_Ma_calculate_4 : decode c_Ma_calculate 4 = .ok (.istore_n 2, 1) := by decide +kernel
theorem d_Ma_calculate_5 : decode c_Ma_calculate 5 = .ok (.aload_n 0, 1) := by decide +kernel
theorem d_Ma_calculate_6 : decode c_Ma_calculate 6 = .ok (.invokevirtual 71, 3) := by decide +kernel
theorem d_Ma_calculate_9 : decode c_Ma_calculate 9 = .ok (.istore_n 3, 1) := by decide +kernel
theorem d_Ma_calculate_10 : decode c_Ma_calculate 10 = .ok (.iload_n 1, 1) := by decide +kernel
theorem d_Ma_calculate_11 : decode c_Ma_calculate 11 = .ok (.lookupswitch 45 #[(14, 25), (15, 35)], 25) := by decide +kernel
theorem d_Ma_calculate_36 : decode c_Ma_calculate 36 = .ok (.aload_n 0, 1) := by decide +kernel
theorem d_Ma_calculate_37 : decode c_Ma_calculate 37 = .ok (.iload_n 3, 1) := by decide +kernel
theorem d_Ma_calculate_38 : decode c_Ma_calculate 38 = .ok (.iload_n 2, 1) := by decide +kernel
theorem d_Ma_calculate_39 : decode c_Ma_calculate 39 = .ok (.iadd, 1) := by decide +kernel
theorem d_Ma_calculate_40 : decode c_Ma_calculate 40 = .ok (.invokevirtual 67, 3) := by decide +kernel
theorem d_Ma_calculate_43 : decode c_Ma_calculate 43 = .ok (.goto 20, 3) := by decide +kernel
theorem d_Ma_calculate_46 : decode c_Ma_calculate 46 = .ok (.aload_n 0, 1) := by decide +kernel
theorem d_Ma_calculate_47 : decode c_Ma_calculate 47 = .ok (.iload_n 3, 1) := by decide +kernel
theorem d_Ma_calculate_48 : decode c_Ma_calculate 48 = .ok (.iload_n 2, 1) := by decide +kernel
theorem d_Ma_calculate_49 : decode c_Ma_calculate 49 = .ok (.isub, 1) := by decide +kernel
theorem d_Ma_calculate_50 : decode c_Ma_calculate 50 = .ok (.invokevirtual 67, 3) := by decide +kernel
theorem d_Ma_calculate_53 : decode c_Ma_calculate 53 = .ok (.goto 10, 3) := by decide +kernel
theorem d_Ma_calculate_56 : decode c_Ma_calculate 56 = .ok (.aload_n 0, 1) := by decide +kernel
theorem d_Ma_calculate_57 : decode c_Ma_calculate 57 = .ok (.iload_n 3, 1) := by decide +kernel
theorem d_Ma_calculate_58 : decode c_Ma_calculate 58 = .ok (.iload_n 2, 1) := by decide +kernel
theorem d_Ma_calculate_59 : decode c_Ma_calculate 59 = .ok (.imul, 1) := by decide +kernel
theorem d_Ma_calculate_60 : decode c_Ma_calculate 60 = .ok (.invokevirtual 67, 3) := by decide +kernel
theorem d_Ma_calculate_63 : decode c_Ma_calculate 63 = .ok (.return_, 1) := by decide +kernel
theorem d_Ma_holds_0 : decode c_Ma_holds 0 = .ok (.aload_n 0, 1) := by decide +kernel
theorem d_Ma_holds_1 : decode c_Ma_holds 1 = .ok (.invokevirtual 71, 3) := by decide +kernel
theorem d_Ma_holds_4 : decode c_Ma_holds 4 = .ok (.istore_n 2, 1) := by decide +kernel
theorem d_Ma_holds_5 : decode c_Ma_holds 5 = .ok (.aload_n 0, 1) := by decide +kernel
theorem d_Ma_holds_6 : decode c_Ma_holds 6 = .ok (.invokevirtual 71, 3) := by decide +kernel
theorem d_Ma_holds_9 : decode c_Ma_holds 9 = .ok (.istore_n 3, 1) := by decide +kernel
theorem d_Ma_holds_10 : decode c_Ma_holds 10 = .ok (.iload_n 1, 1) := by decide +kernel
theorem d_Ma_holds_11 : decode c_Ma_holds 11 = .ok (.tableswitch 58 10 12 #[25, 36, 47], 25) := by decide +kernel
theorem d_Ma_holds_36 : decode c_Ma_holds 36 = .ok (.iload_n 3, 1) := by decide +kernel
theorem d_Ma_holds_37 : decode c_Ma_holds 37 = .ok (.iload_n 2, 1) := by decide +kernel
theorem d_Ma_holds_38 : decode c_Ma_holds 38 = .ok (.if_icmp .ne 7, 3) := by decide +kernel
theorem d_Ma_holds_41 : decode c_Ma_holds 41 = .ok (.iconst 1, 1) := by decide +kernel
theorem d_Ma_holds_42 : decode c_Ma_holds 42 = .ok (.goto 4, 3) := by decide +kernel
theorem d_Ma_holds_45 : decode c_Ma_holds 45 = .ok (.iconst 0, 1) := by decide +kernel
theorem d_Ma_holds_46 : decode c_Ma_holds 46 = .ok (.ireturn, 1) := by decide +kernel
theorem d_Ma_holds_47 : decode c_Ma_holds 47 = .ok (.iload_n 3, 1) := by decide +kernel
theorem d_Ma_holds_48 : decode c_Ma_holds 48 = .ok (.iload_n 2, 1) := by decide +kernel
theorem d_Ma_holds_49 : decode c_Ma_holds 49 = .ok (.if_icmp .eq 7, 3) := by decide +kernel
theorem d_Ma_holds_52 : decode c_Ma_holds 52 = .ok (.iconst 1, 1) := by decide +kernel
theorem d_Ma_holds_53 : decode c_Ma_holds 53 = .ok (.goto 4, 3) := by decide +kernel
theorem d_Ma_holds_56 : decode c_Ma_holds 56 = .ok (.iconst 0, 1) := by decide +kernel
theorem d_Ma_holds_57 : decode c_Ma_holds 57 = .ok (.ireturn, 1) := by decide +kernel
theorem d_Ma_holds_58 : decode c_Ma_holds 58 = .ok (.iload_n 3, 1) := by decide +kernel
theorem d_Ma_holds_59 : decode c_Ma_holds 59 = .ok (.iload_n 2, 1) := by decide +kernel
theorem d_Ma_holds_60 : decode c_Ma_holds 60 = .ok (.if_icmp .ge 7, 3) := by decide +kernel
theorem d_Ma_holds_63 : decode c_Ma_holds 63 = .ok (.iconst 1, 1) := by decide +kernel
theorem d_Ma_holds_64 : decode c_Ma_holds 64 = .ok (.goto 4, 3) := by decide +kernel
theorem d_Ma_holds_67 : decode c_Ma_holds 67 = .ok (.iconst 0, 1) := by decide +kernel
theorem d_Ma_holds_68 : decode c_Ma_holds 68 = .ok (.ireturn, 1) := by decide +kernel
theorem d_Ma_holds_69 : decode c_Ma_holds 69 = .ok (.iload_n 3, 1) := by decide +kernel
theorem d_Ma_holds_70 : decode c_Ma_holds 70 = .ok (.iload_n 2, 1) := by decide +kernel
theorem d_Ma_holds_71 : decode c_Ma_holds 71 = .ok (.if_icmp .le 7, 3) := by decide +kernel
theorem d_Ma_holds_74 : decode c_Ma_holds 74 = .ok (.iconst 1, 1) := by decide +kernel
theorem d_Ma_holds_75 : decode c_Ma_holds 75 = .ok (.goto 4, 3) := by decide +kernel
theorem d_Ma_holds_78 : decode c_Ma_holds 78 = .ok (.iconst 0, 1) := by decide +kernel
theorem d_Ma_holds_79 : decode c_Ma_holds 79 = .ok (.ireturn, 1) := by decide +kernel
theorem d_Ma_applyEffects_0 : decode c_Ma_applyEffects 0 = .ok (.iconst 0, 1) := by decide +kernel
theorem d_Ma_applyEffects_1 : decode c_Ma_applyEffects 1 = .ok (.istore_n 1, 1) := by decide +kernel
theorem d_Ma_applyEffects_2 : decode c_Ma_applyEffects 2 = .ok (.iload_n 1, 1) := by decide +kernel
theorem d_Ma_applyEffects_3 : decode c_Ma_applyEffects 3 = .ok (.aload_n 0, 1) := by decide +kernel
theorem d_Ma_applyEffects_4 : decode c_Ma_applyEffects 4 = .ok (.getfield 58, 3) := by decide +kernel
theorem d_Ma_applyEffects_7 : decode c_Ma_applyEffects 7 = .ok (.if_icmp .ge 25, 3) := by decide +kernel
theorem d_Ma_applyEffects_10 : decode c_Ma_applyEffects 10 = .ok (.aload_n 0, 1) := by decide +kernel
theorem d_Ma_applyEffects_11 : decode c_Ma_applyEffects 11 = .ok (.aload_n 0, 1) := by decide +kernel
theorem d_Ma_applyEffects_12 : decode c_Ma_applyEffects 12 = .ok (.getfield 18, 3) := by decide +kernel
theorem d_Ma_applyEffects_15 : decode c_Ma_applyEffects 15 = .ok (.iload_n 1, 1) := by decide +kernel
theorem d_Ma_applyEffects_16 : decode c_Ma_applyEffects 16 = .ok (.iaload, 1) := by decide +kernel
theorem d_Ma_applyEffects_17 : decode c_Ma_applyEffects 17 = .ok (.aload_n 0, 1) := by decide +kernel
theorem d_Ma_applyEffects_18 : decode c_Ma_applyEffects 18 = .ok (.getfield 21, 3) := by decide +kernel
theorem d_Ma_applyEffects_21 : decode c_Ma_applyEffects 21 = .ok (.iload_n 1, 1) := by decide +kernel
theorem d_Ma_applyEffects_22 : decode c_Ma_applyEffects 22 = .ok (.iaload, 1) := by decide +kernel
theorem d_Ma_applyEffects_23 : decode c_Ma_applyEffects 23 = .ok (.invokevirtual 86, 3) := by decide +kernel
theorem d_Ma_applyEffects_26 : decode c_Ma_applyEffects 26 = .ok (.iinc 1 1, 3) := by decide +kernel
theorem d_Ma_applyEffects_29 : decode c_Ma_applyEffects 29 = .ok (.goto (-27), 3) := by decide +kernel
theorem d_Ma_applyEffects_32 : decode c_Ma_applyEffects 32 = .ok (.return_, 1) := by decide +kernel
theorem d_Ma_change_0 : decode c_Ma_change 0 = .ok (.aload_n 0, 1) := by decide +kernel
theorem d_Ma_change_1 : decode c_Ma_change 1 = .ok (.getfield 37, 3) := by decide +kernel
theorem d_Ma_change_4 : decode c_Ma_change 4 = .ok (.sipush 1600, 3) := by decide +kernel
theorem d_Ma_change_7 : decode c_Ma_change 7 = .ok (.if_icmp .ge 52, 3) := by decide +kernel
theorem d_Ma_change_10 : decode c_Ma_change 10 = .ok (.iload_n 1, 1) := by decide +kernel
theorem d_Ma_change_11 : decode c_Ma_change 11 = .ok (.invokestatic 89, 3) := by decide +kernel
theorem d_Ma_change_14 : decode c_Ma_change 14 = .ok (.ifCond .eq 45, 3) := by decide +kernel
theorem d_Ma_change_17 : decode c_Ma_change 17 = .ok (.aload_n 0, 1) := by decide +kernel
theorem d_Ma_change_18 : decode c_Ma_change 18 = .ok (.getfield 24, 3) := by decide +kernel
theorem d_Ma_change_21 : decode c_Ma_change 21 = .ok (.aload_n 0, 1) := by decide +kernel
theorem d_Ma_change_22 : decode c_Ma_change 22 = .ok (.getfield 37, 3) := by decide +kernel
theorem d_Ma_change_25 : decode c_Ma_change 25 = .ok (.iload_n 1, 1) := by decide +kernel
theorem d_Ma_change_26 : decode c_Ma_change 26 = .ok (.iastore, 1) := by decide +kernel
theorem d_Ma_change_27 : decode c_Ma_change 27 = .ok (.aload_n 0, 1) := by decide +kernel
theorem d_Ma_change_28 : decode c_Ma_change 28 = .ok (.getfield 27, 3) := by decide +kernel
theorem d_Ma_change_31 : decode c_Ma_change 31 = .ok (.aload_n 0, 1) := by decide +kernel
theorem d_Ma_change_32 : decode c_Ma_change 32 = .ok (.getfield 37, 3) := by decide +kernel
theorem d_Ma_change_35 : decode c_Ma_change 35 = .ok (.aload_n 0, 1) := by decide +kernel
theorem d_Ma_change_36 : decode c_Ma_change 36 = .ok (.getfield 9, 3) := by decide +kernel
theorem d_Ma_change_39 : decode c_Ma_change 39 = .ok (.iload_n 1, 1) := by decide +kernel
theorem d_Ma_change_40 : decode c_Ma_change 40 = .ok (.iaload, 1) := by decide +kernel
theorem d_Ma_change_41 : decode c_Ma_change 41 = .ok (.iastore, 1) := by decide +kernel
theorem d_Ma_change_42 : decode c_Ma_change 42 = .ok (.aload_n 0, 1) := by decide +kernel
theorem d_Ma_change_43 : decode c_Ma_change 43 = .ok (.dup, 1) := by decide +kernel
theorem d_Ma_change_44 : decode c_Ma_change 44 = .ok (.getfield 37, 3) := by decide +kernel
theorem d_Ma_change_47 : decode c_Ma_change 47 = .ok (.iconst 1, 1) := by decide +kernel
theorem d_Ma_change_48 : decode c_Ma_change 48 = .ok (.iadd, 1) := by decide +kernel
theorem d_Ma_change_49 : decode c_Ma_change 49 = .ok (.putfield 37, 3) := by decide +kernel
theorem d_Ma_change_52 : decode c_Ma_change 52 = .ok (.aload_n 0, 1) := by decide +kernel
theorem d_Ma_change_53 : decode c_Ma_change 53 = .ok (.getfield 9, 3) := by decide +kernel
theorem d_Ma_change_56 : decode c_Ma_change 56 = .ok (.iload_n 1, 1) := by decide +kernel
theorem d_Ma_change_57 : decode c_Ma_change 57 = .ok (.iload_n 2, 1) := by decide +kernel
theorem d_Ma_change_58 : decode c_Ma_change 58 = .ok (.iastore, 1) := by decide +kernel
theorem d_Ma_change_59 : decode c_Ma_change 59 = .ok (.return_, 1) := by decide +kernel
theorem d_Ru_isCell_0 : decode c_Ru_isCell 0 = .ok (.iload_n 0, 1) := by decide +kernel
theorem d_Ru_isCell_1 : decode c_Ru_isCell 1 = .ok (.ifCond .lt 13, 3) := by decide +kernel
theorem d_Ru_isCell_4 : decode c_Ru_isCell 4 = .ok (.iload_n 0, 1) := by decide +kernel
theorem d_Ru_isCell_5 : decode c_Ru_isCell 5 = .ok (.bipush 32, 2) := by decide +kernel
theorem d_Ru_isCell_7 : decode c_Ru_isCell 7 = .ok (.if_icmp .ge 7, 3) := by decide +kernel
theorem d_Ru_isCell_10 : decode c_Ru_isCell 10 = .ok (.iconst 1, 1) := by decide +kernel
theorem d_Ru_isCell_11 : decode c_Ru_isCell 11 = .ok (.goto 4, 3) := by decide +kernel
theorem d_Ru_isCell_14 : decode c_Ru_isCell 14 = .ok (.iconst 0, 1) := by decide +kernel
theorem d_Ru_isCell_15 : decode c_Ru_isCell 15 = .ok (.ireturn, 1) := by decide +kernel
theorem d_Ru_undo_0 : decode c_Ru_undo 0 = .ok (.aload_n 0, 1) := by decide +kernel
theorem d_Ru_undo_1 : decode c_Ru_undo 1 = .ok (.getfield 26, 3) := by decide +kernel
theorem d_Ru_undo_4 : decode c_Ru_undo 4 = .ok (.invokevirtual 60, 3) := by decide +kernel
theorem d_Ru_undo_7 : decode c_Ru_undo 7 = .ok (.ireturn, 1) := by decide +kernel
theorem d_Ma_takeBack_0 : decode c_Ma_takeBack 0 = .ok (.aload_n 0, 1) := by decide +kernel
theorem d_Ma_takeBack_1 : decode c_Ma_takeBack 1 = .ok (.getfield 33, 3) := by decide +kernel
theorem d_Ma_takeBack_4 : decode c_Ma_takeBack 4 = .ok (.ifCond .ne 6, 3) := by decide +kernel
theorem d_Ma_takeBack_7 : decode c_Ma_takeBack 7 = .ok (.bipush (-2), 2) := by decide +kernel
theorem d_Ma_takeBack_9 : decode c_Ma_takeBack 9 = .ok (.ireturn, 1) := by decide +kernel
theorem d_Ma_takeBack_10 : decode c_Ma_takeBack 10 = .ok (.aload_n 0, 1) := by decide +kernel
theorem d_Ma_takeBack_11 : decode c_Ma_takeBack 11 = .ok (.dup, 1) := by decide +kernel
theorem d_Ma_takeBack_12 : decode c_Ma_takeBack 12 = .ok (.getfield 33, 3) := by decide +kernel
theorem d_Ma_takeBack_15 : decode c_Ma_takeBack 15 = .ok (.iconst 1, 1) := by decide +kernel
theorem d_Ma_takeBack_16 : decode c_Ma_takeBack 16 = .ok (.isub, 1) := by decide +kernel
theorem d_Ma_takeBack_17 : decode c_Ma_takeBack 17 = .ok (.putfield 33, 3) := by decide +kernel
theorem d_Ma_takeBack_20 : decode c_Ma_takeBack 20 = .ok (.aload_n 0, 1) := by decide +kernel
theorem d_Ma_takeBack_21 : decode c_Ma_takeBack 21 = .ok (.getfield 30, 3) := by decide +kernel
theorem d_Ma_takeBack_24 : decode c_Ma_takeBack 24 = .ok (.aload_n 0, 1) := by decide +kernel
theorem d_Ma_takeBack_25 : decode c_Ma_takeBack 25 = .ok (.getfield 33, 3) := by decide +kernel
theorem d_Ma_takeBack_28 : decode c_Ma_takeBack 28 = .ok (.iaload, 1) := by decide +kernel
theorem d_Ma_takeBack_29 : decode c_Ma_takeBack 29 = .ok (.istore_n 1, 1) := by decide +kernel
theorem d_Ma_takeBack_30 : decode c_Ma_takeBack 30 = .ok (.aload_n 0, 1) := by decide +kernel
theorem d_Ma_takeBack_31 : decode c_Ma_takeBack 31 = .ok (.getfield 37, 3) := by decide +kernel
theorem d_Ma_takeBack_34 : decode c_Ma_takeBack 34 = .ok (.iconst 1, 1) := by decide +kernel
theorem d_Ma_takeBack_35 : decode c_Ma_takeBack 35 = .ok (.isub, 1) := by decide +kernel
theorem d_Ma_takeBack_36 : decode c_Ma_takeBack 36 = .ok (.istore_n 2, 1) := by decide +kernel
theorem d_Ma_takeBack_37 : decode c_Ma_takeBack 37 = .ok (.iload_n 2, 1) := by decide +kernel
theorem d_Ma_takeBack_38 : decode c_Ma_takeBack 38 = .ok (.iload_n 1, 1) := by decide +kernel
theorem d_Ma_takeBack_39 : decode c_Ma_takeBack 39 = .ok (.if_icmp .lt 26, 3) := by decide +kernel
theorem d_Ma_takeBack_42 : decode c_Ma_takeBack 42 = .ok (.aload_n 0, 1) := by decide +kernel
theorem d_Ma_takeBack_43 : decode c_Ma_takeBack 43 = .ok (.getfield 9, 3) := by decide +kernel
theorem d_Ma_takeBack_46 : decode c_Ma_takeBack 46 = .ok (.aload_n 0, 1) := by decide +kernel
theorem d_Ma_takeBack_47 : decode c_Ma_takeBack 47 = .ok (.getfield 24, 3) := by decide +kernel
theorem d_Ma_takeBack_50 : decode c_Ma_takeBack 50 = .ok (.iload_n 2, 1) := by decide +kernel
theorem d_Ma_takeBack_51 : decode c_Ma_takeBack 51 = .ok (.iaload, 1) := by decide +kernel
theorem d_Ma_takeBack_52 : decode c_Ma_takeBack 52 = .ok (.aload_n 0, 1) := by decide +kernel
theorem d_Ma_takeBack_53 : decode c_Ma_takeBack 53 = .ok (.getfield 27, 3) := by decide +kernel
theorem d_Ma_takeBack_56 : decode c_Ma_takeBack 56 = .ok (.iload_n 2, 1) := by decide +kernel
theorem d_Ma_takeBack_57 : decode c_Ma_takeBack 57 = .ok (.iaload, 1) := by decide +kernel
theorem d_Ma_takeBack_58 : decode c_Ma_takeBack 58 = .ok (.iastore, 1) := by decide +kernel
theorem d_Ma_takeBack_59 : decode c_Ma_takeBack 59 = .ok (.iinc 2 (-1), 3) := by decide +kernel
theorem d_Ma_takeBack_62 : decode c_Ma_takeBack 62 = .ok (.goto (-25), 3) := by decide +kernel
theorem d_Ma_takeBack_65 : decode c_Ma_takeBack 65 = .ok (.aload_n 0, 1) := by decide +kernel
theorem d_Ma_takeBack_66 : decode c_Ma_takeBack 66 = .ok (.iload_n 1, 1) := by decide +kernel
theorem d_Ma_takeBack_67 : decode c_Ma_takeBack 67 = .ok (.putfield 37, 3) := by decide +kernel
theorem d_Ma_takeBack_70 : decode c_Ma_takeBack 70 = .ok (.aload_n 0, 1) := by decide +kernel
theorem d_Ma_takeBack_71 : decode c_Ma_takeBack 71 = .ok (.getfield 33, 3) := by decide +kernel
theorem d_Ma_takeBack_74 : decode c_Ma_takeBack 74 = .ok (.ireturn, 1) := by decide +kernel
theorem d_Ru_cell_0 : decode c_Ru_cell 0 = .ok (.iload_n 1, 1) := by decide +kernel
theorem d_Ru_cell_1 : decode c_Ru_cell 1 = .ok (.invokestatic 64, 3) := by decide +kernel
end
section
theorem d_Ru_cell_4 : decode c_Ru_cell 4 = .ok (.ifCond .eq 16, 3) := by decide +kernel
theorem d_Ru_cell_7 : decode c_Ru_cell 7 = .ok (.aload_n 0, 1) := by decide +kernel
theorem d_Ru_cell_8 : decode c_Ru_cell 8 = .ok (.getfield 26, 3) := by decide +kernel
theorem d_Ru_cell_11 : decode c_Ru_cell 11 = .ok (.getfield 68, 3) := by decide +kernel
theorem d_Ru_cell_14 : decode c_Ru_cell 14 = .ok (.iload_n 1, 1) := by decide +kernel
theorem d_Ru_cell_15 : decode c_Ru_cell 15 = .ok (.iaload, 1) := by decide +kernel
theorem d_Ru_cell_16 : decode c_Ru_cell 16 = .ok (.i2l, 1) := by decide +kernel
theorem d_Ru_cell_17 : decode c_Ru_cell 17 = .ok (.goto 6, 3) := by decide +kernel
theorem d_Ru_cell_20 : decode c_Ru_cell 20 = .ok (.ldc2_w 72, 3) := by decide +kernel
theorem d_Ru_cell_23 : decode c_Ru_cell 23 = .ok (.lreturn, 1) := by decide +kernel
theorem d_Ru_set_0 : decode c_Ru_set 0 = .ok (.iload_n 1, 1) := by decide +kernel
theorem d_Ru_set_1 : decode c_Ru_set 1 = .ok (.invokestatic 64, 3) := by decide +kernel
theorem d_Ru_set_4 : decode c_Ru_set 4 = .ok (.ifCond .ne 5, 3) := by decide +kernel
theorem d_Ru_set_7 : decode c_Ru_set 7 = .ok (.iconst (-1), 1) := by decide +kernel
theorem d_Ru_set_8 : decode c_Ru_set 8 = .ok (.ireturn, 1) := by decide +kernel
theorem d_Ru_set_9 : decode c_Ru_set 9 = .ok (.aload_n 0, 1) := by decide +kernel
theorem d_Ru_set_10 : decode c_Ru_set 10 = .ok (.getfield 26, 3) := by decide +kernel
theorem d_Ru_set_13 : decode c_Ru_set 13 = .ok (.getfield 74, 3) := by decide +kernel
theorem d_Ru_set_16 : decode c_Ru_set 16 = .ok (.ifCond .le 6, 3) := by decide +kernel
theorem d_Ru_set_19 : decode c_Ru_set 19 = .ok (.bipush (-3), 2) := by decide +kernel
theorem d_Ru_set_21 : decode c_Ru_set 21 = .ok (.ireturn, 1) := by decide +kernel
theorem d_Ru_set_22 : decode c_Ru_set 22 = .ok (.aload_n 0, 1) := by decide +kernel
theorem d_Ru_set_23 : decode c_Ru_set 23 = .ok (.getfield 26, 3) := by decide +kernel
theorem d_Ru_set_26 : decode c_Ru_set 26 = .ok (.getfield 68, 3) := by decide +kernel
theorem d_Ru_set_29 : decode c_Ru_set 29 = .ok (.iload_n 1, 1) := by decide +kernel
theorem d_Ru_set_30 : decode c_Ru_set 30 = .ok (.iload_n 2, 1) := by decide +kernel
theorem d_Ru_set_31 : decode c_Ru_set 31 = .ok (.iastore, 1) := by decide +kernel
theorem d_Ru_set_32 : decode c_Ru_set 32 = .ok (.iconst 0, 1) := by decide +kernel
theorem d_Ru_set_33 : decode c_Ru_set 33 = .ok (.ireturn, 1) := by decide +kernel
theorem d_Ru_count_0 : decode c_Ru_count 0 = .ok (.iload_n 1, 1) := by decide +kernel
theorem d_Ru_count_1 : decode c_Ru_count 1 = .ok (.lookupswitch 43 #[(0, 27), (1, 35)], 27) := by decide +kernel
theorem d_Ru_count_28 : decode c_Ru_count 28 = .ok (.aload_n 0, 1) := by decide +kernel
theorem d_Ru_count_29 : decode c_Ru_count 29 = .ok (.getfield 26, 3) := by decide +kernel
theorem d_Ru_count_32 : decode c_Ru_count 32 = .ok (.getfield 74, 3) := by decide +kernel
theorem d_Ru_count_35 : decode c_Ru_count 35 = .ok (.ireturn, 1) := by decide +kernel
theorem d_Ru_count_36 : decode c_Ru_count 36 = .ok (.aload_n 0, 1) := by decide +kernel
theorem d_Ru_count_37 : decode c_Ru_count 37 = .ok (.getfield 12, 3) := by decide +kernel
theorem d_Ru_count_40 : decode c_Ru_count 40 = .ok (.getfield 37, 3) := by decide +kernel
theorem d_Ru_count_43 : decode c_Ru_count 43 = .ok (.ireturn, 1) := by decide +kernel
theorem d_Ru_count_44 : decode c_Ru_count 44 = .ok (.iconst (-1), 1) := by decide +kernel
theorem d_Ru_count_45 : decode c_Ru_count 45 = .ok (.ireturn, 1) := by decide +kernel
theorem d_Mo_init_0 : decode c_Mo_init 0 = .ok (.aload_n 0, 1) := by decide +kernel
theorem d_Mo_init_1 : decode c_Mo_init 1 = .ok (.invokespecial 1, 3) := by decide +kernel
theorem d_Mo_init_4 : decode c_Mo_init 4 = .ok (.aload_n 0, 1) := by decide +kernel
theorem d_Mo_init_5 : decode c_Mo_init 5 = .ok (.sipush 400, 3) := by decide +kernel
theorem d_Mo_init_8 : decode c_Mo_init 8 = .ok (.newarray .byte, 2) := by decide +kernel
theorem d_Mo_init_10 : decode c_Mo_init 10 = .ok (.putfield 9, 3) := by decide +kernel
theorem d_Mo_init_13 : decode c_Mo_init 13 = .ok (.aload_n 0, 1) := by decide +kernel
theorem d_Mo_init_14 : decode c_Mo_init 14 = .ok (.sipush 6400, 3) := by decide +kernel
theorem d_Mo_init_17 : decode c_Mo_init 17 = .ok (.newarray .int, 2) := by decide +kernel
theorem d_Mo_init_19 : decode c_Mo_init 19 = .ok (.putfield 13, 3) := by decide +kernel
theorem d_Mo_init_22 : decode c_Mo_init 22 = .ok (.aload_n 0, 1) := by decide +kernel
theorem d_Mo_init_23 : decode c_Mo_init 23 = .ok (.sipush 1600, 3) := by decide +kernel
theorem d_Mo_init_26 : decode c_Mo_init 26 = .ok (.newarray .int, 2) := by decide +kernel
theorem d_Mo_init_28 : decode c_Mo_init 28 = .ok (.putfield 17, 3) := by decide +kernel
theorem d_Mo_init_31 : decode c_Mo_init 31 = .ok (.aload_n 0, 1) := by decide +kernel
theorem d_Mo_init_32 : decode c_Mo_init 32 = .ok (.bipush 32, 2) := by decide +kernel
theorem d_Mo_init_34 : decode c_Mo_init 34 = .ok (.newarray .int, 2) := by decide +kernel
theorem d_Mo_init_36 : decode c_Mo_init 36 = .ok (.putfield 20, 3) := by decide +kernel
theorem d_Mo_init_39 : decode c_Mo_init 39 = .ok (.aload_n 0, 1) := by decide +kernel
theorem d_Mo_init_40 : decode c_Mo_init 40 = .ok (.sipush 160, 3) := by decide +kernel
theorem d_Mo_init_43 : decode c_Mo_init 43 = .ok (.newarray .int, 2) := by decide +kernel
theorem d_Mo_init_45 : decode c_Mo_init 45 = .ok (.putfield 23, 3) := by decide +kernel
theorem d_Mo_init_48 : decode c_Mo_init 48 = .ok (.aload_n 0, 1) := by decide +kernel
theorem d_Mo_init_49 : decode c_Mo_init 49 = .ok (.bipush 8, 2) := by decide +kernel
theorem d_Mo_init_51 : decode c_Mo_init 51 = .ok (.newarray .int, 2) := by decide +kernel
theorem d_Mo_init_53 : decode c_Mo_init 53 = .ok (.putfield 26, 3) := by decide +kernel
theorem d_Mo_init_56 : decode c_Mo_init 56 = .ok (.aload_n 0, 1) := by decide +kernel
theorem d_Mo_init_57 : decode c_Mo_init 57 = .ok (.bipush 8, 2) := by decide +kernel
theorem d_Mo_init_59 : decode c_Mo_init 59 = .ok (.newarray .int, 2) := by decide +kernel
theorem d_Mo_init_61 : decode c_Mo_init 61 = .ok (.putfield 29, 3) := by decide +kernel
theorem d_Mo_init_64 : decode c_Mo_init 64 = .ok (.return_, 1) := by decide +kernel
theorem d_Mo_feed_0 : decode c_Mo_feed 0 = .ok (.aload_n 0, 1) := by decide +kernel
theorem d_Mo_feed_1 : decode c_Mo_feed 1 = .ok (.getfield 32, 3) := by decide +kernel
theorem d_Mo_feed_4 : decode c_Mo_feed 4 = .ok (.bipush 20, 2) := by decide +kernel
theorem d_Mo_feed_6 : decode c_Mo_feed 6 = .ok (.iadd, 1) := by decide +kernel
theorem d_Mo_feed_7 : decode c_Mo_feed 7 = .ok (.sipush 400, 3) := by decide +kernel
theorem d_Mo_feed_10 : decode c_Mo_feed 10 = .ok (.if_icmp .le 6, 3) := by decide +kernel
theorem d_Mo_feed_13 : decode c_Mo_feed 13 = .ok (.bipush (-3), 2) := by decide +kernel
theorem d_Mo_feed_15 : decode c_Mo_feed 15 = .ok (.ireturn, 1) := by decide +kernel
theorem d_Mo_feed_16 : decode c_Mo_feed 16 = .ok (.iconst 5, 1) := by decide +kernel
theorem d_Mo_feed_17 : decode c_Mo_feed 17 = .ok (.newarray .int, 2) := by decide +kernel
theorem d_Mo_feed_19 : decode c_Mo_feed 19 = .ok (.dup, 1) := by decide +kernel
theorem d_Mo_feed_20 : decode c_Mo_feed 20 = .ok (.iconst 0, 1) := by decide +kernel
theorem d_Mo_feed_21 : decode c_Mo_feed 21 = .ok (.iload_n 1, 1) := by decide +kernel
theorem d_Mo_feed_22 : decode c_Mo_feed 22 = .ok (.iastore, 1) := by decide +kernel
theorem d_Mo_feed_23 : decode c_Mo_feed 23 = .ok (.dup, 1) := by decide +kernel
theorem d_Mo_feed_24 : decode c_Mo_feed 24 = .ok (.iconst 1, 1) := by decide +kernel
theorem d_Mo_feed_25 : decode c_Mo_feed 25 = .ok (.iload_n 2, 1) := by decide +kernel
theorem d_Mo_feed_26 : decode c_Mo_feed 26 = .ok (.iastore, 1) := by decide +kernel
theorem d_Mo_feed_27 : decode c_Mo_feed 27 = .ok (.dup, 1) := by decide +kernel
theorem d_Mo_feed_28 : decode c_Mo_feed 28 = .ok (.iconst 2, 1) := by decide +kernel
theorem d_Mo_feed_29 : decode c_Mo_feed 29 = .ok (.iload_n 3, 1) := by decide +kernel
theorem d_Mo_feed_30 : decode c_Mo_feed 30 = .ok (.iastore, 1) := by decide +kernel
theorem d_Mo_feed_31 : decode c_Mo_feed 31 = .ok (.dup, 1) := by decide +kernel
theorem d_Mo_feed_32 : decode c_Mo_feed 32 = .ok (.iconst 3, 1) := by decide +kernel
theorem d_Mo_feed_33 : decode c_Mo_feed 33 = .ok (.iload 4, 2) := by decide +kernel
theorem d_Mo_feed_35 : decode c_Mo_feed 35 = .ok (.iastore, 1) := by decide +kernel
theorem d_Mo_feed_36 : decode c_Mo_feed 36 = .ok (.dup, 1) := by decide +kernel
theorem d_Mo_feed_37 : decode c_Mo_feed 37 = .ok (.iconst 4, 1) := by decide +kernel
theorem d_Mo_feed_38 : decode c_Mo_feed 38 = .ok (.iload 5, 2) := by decide +kernel
theorem d_Mo_feed_40 : decode c_Mo_feed 40 = .ok (.iastore, 1) := by decide +kernel
theorem d_Mo_feed_41 : decode c_Mo_feed 41 = .ok (.astore 6, 2) := by decide +kernel
theorem d_Mo_feed_43 : decode c_Mo_feed 43 = .ok (.iconst 0, 1) := by decide +kernel
theorem d_Mo_feed_44 : decode c_Mo_feed 44 = .ok (.istore 7, 2) := by decide +kernel
theorem d_Mo_feed_46 : decode c_Mo_feed 46 = .ok (.iload 7, 2) := by decide +kernel
theorem d_Mo_feed_48 : decode c_Mo_feed 48 = .ok (.bipush 20, 2) := by decide +kernel
theorem d_Mo_feed_50 : decode c_Mo_feed 50 = .ok (.if_icmp .ge 40, 3) := by decide +kernel
theorem d_Mo_feed_53 : decode c_Mo_feed 53 = .ok (.aload_n 0, 1) := by decide +kernel
theorem d_Mo_feed_54 : decode c_Mo_feed 54 = .ok (.getfield 9, 3) := by decide +kernel
theorem d_Mo_feed_57 : decode c_Mo_feed 57 = .ok (.aload_n 0, 1) := by decide +kernel
theorem d_Mo_feed_58 : decode c_Mo_feed 58 = .ok (.getfield 32, 3) := by decide +kernel
theorem d_Mo_feed_61 : decode c_Mo_feed 61 = .ok (.iload 7, 2) := by decide +kernel
theorem d_Mo_feed_63 : decode c_Mo_feed 63 = .ok (.iadd, 1) := by decide +kernel
theorem d_Mo_feed_64 : decode c_Mo_feed 64 = .ok (.aload 6, 2) := by decide +kernel
theorem d_Mo_feed_66 : decode c_Mo_feed 66 = .ok (.iload 7, 2) := by decide +kernel
theorem d_Mo_feed_68 : decode c_Mo_feed 68 = .ok (.iconst 4, 1) := by decide +kernel
theorem d_Mo_feed_69 : decode c_Mo_feed 69 = .ok (.idiv, 1) := by decide +kernel
theorem d_Mo_feed_70 : decode c_Mo_feed 70 = .ok (.iaload, 1) := by decide +kernel
theorem d_Mo_feed_71 : decode c_Mo_feed 71 = .ok (.bipush 24, 2) := by decide +kernel
theorem d_Mo_feed_73 : decode c_Mo_feed 73 = .ok (.bipush 8, 2) := by decide +kernel
theorem d_Mo_feed_75 : decode c_Mo_feed 75 = .ok (.iload 7, 2) := by decide +kernel
theorem d_Mo_feed_77 : decode c_Mo_feed 77 = .ok (.iconst 4, 1) := by decide +kernel
theorem d_Mo_feed_78 : decode c_Mo_feed 78 = .ok (.irem, 1) := by decide +kernel
theorem d_Mo_feed_79 : decode c_Mo_feed 79 = .ok (.imul, 1) := by decide +kernel
theorem d_Mo_feed_80 : decode c_Mo_feed 80 = .ok (.isub, 1) := by decide +kernel
theorem d_Mo_feed_81 : decode c_Mo_feed 81 = .ok (.ishr, 1) := by decide +kernel
theorem d_Mo_feed_82 : decode c_Mo_feed 82 = .ok (.i2b, 1) := by decide +kernel
theorem d_Mo_feed_83 : decode c_Mo_feed 83 = .ok (.bastore, 1) := by decide +kernel
theorem d_Mo_feed_84 : decode c_Mo_feed 84 = .ok (.iinc 7 1, 3) := by decide +kernel
theorem d_Mo_feed_87 : decode c_Mo_feed 87 = .ok (.goto (-41), 3) := by decide +kernel
theorem d_Mo_feed_90 : decode c_Mo_feed 90 = .ok (.aload_n 0, 1) := by decide +kernel
theorem d_Mo_feed_91 : decode c_Mo_feed 91 = .ok (.dup, 1) := by decide +kernel
theorem d_Mo_feed_92 : decode c_Mo_feed 92 = .ok (.getfield 32, 3) := by decide +kernel
theorem d_Mo_feed_95 : decode c_Mo_feed 95 = .ok (.bipush 20, 2) := by decide +kernel
theorem d_Mo_feed_97 : decode c_Mo_feed 97 = .ok (.iadd, 1) := by decide +kernel
theorem d_Mo_feed_98 : decode c_Mo_feed 98 = .ok (.putfield 32, 3) := by decide +kernel
theorem d_Mo_feed_101 : decode c_Mo_feed 101 = .ok (.aload_n 0, 1) := by decide +kernel
theorem d_Mo_feed_102 : decode c_Mo_feed 102 = .ok (.getfield 32, 3) := by decide +kernel
theorem d_Mo_feed_105 : decode c_Mo_feed 105 = .ok (.ireturn, 1) := by decide +kernel
theorem d_Mo_end_0 : decode c_Mo_end 0 = .ok (.iload_n 1, 1) := by decide +kernel
theorem d_Mo_end_1 : decode c_Mo_end 1 = .ok (.iconst 0, 1) := by decide +kernel
theorem d_Mo_end_2 : decode c_Mo_end 2 = .ok (.aload_n 0, 1) := by decide +kernel
theorem d_Mo_end_3 : decode c_Mo_end 3 = .ok (.getfield 32, 3) := by decide +kernel
theorem d_Mo_end_6 : decode c_Mo_end 6 = .ok (.invokestatic 36, 3) := by decide +kernel
theorem d_Mo_end_9 : decode c_Mo_end 9 = .ok (.ifCond .ne 5, 3) := by decide +kernel
theorem d_Mo_end_12 : decode c_Mo_end 12 = .ok (.iconst (-1), 1) := by decide +kernel
theorem d_Mo_end_13 : decode c_Mo_end 13 = .ok (.ireturn, 1) := by decide +kernel
theorem d_Mo_end_14 : decode c_Mo_end 14 = .ok (.aload_n 0, 1) := by decide +kernel
theorem d_Mo_end_15 : decode c_Mo_end 15 = .ok (.iload_n 1, 1) := by decide +kernel
theorem d_Mo_end_16 : decode c_Mo_end 16 = .ok (.putfield 32, 3) := by decide +kernel
theorem d_Mo_end_19 : decode c_Mo_end 19 = .ok (.iload_n 1, 1) := by decide +kernel
theorem d_Mo_end_20 : decode c_Mo_end 20 = .ok (.ireturn, 1) := by decide +kernel
theorem d_Mo_in_0 : decode c_Mo_in 0 = .ok (.iload_n 0, 1) := by decide +kernel
theorem d_Mo_in_1 : decode c_Mo_in 1 = .ok (.iload_n 1, 1) := by decide +kernel
theorem d_Mo_in_2 : decode c_Mo_in 2 = .ok (.if_icmp .lt 12, 3) := by decide +kernel
theorem d_Mo_in_5 : decode c_Mo_in 5 = .ok (.iload_n 0, 1) := by decide +kernel
theorem d_Mo_in_6 : decode c_Mo_in 6 = .ok (.iload_n 2, 1) := by decide +kernel
theorem d_Mo_in_7 : decode c_Mo_in 7 = .ok (.if_icmp .gt 7, 3) := by decide +kernel
theorem d_Mo_in_10 : decode c_Mo_in 10 = .ok (.iconst 1, 1) := by decide +kernel
theorem d_Mo_in_11 : decode c_Mo_in 11 = .ok (.goto 4, 3) := by decide +kernel
theorem d_Mo_in_14 : decode c_Mo_in 14 = .ok (.iconst 0, 1) := by decide +kernel
theorem d_Mo_in_15 : decode c_Mo_in 15 = .ok (.ireturn, 1) := by decide +kernel
theorem d_Mo_program_0 : decode c_Mo_program 0 = .ok (.aload_n 0, 1) := by decide +kernel
theorem d_Mo_program_1 : decode c_Mo_program 1 = .ok (.aload_n 0, 1) := by decide +kernel
theorem d_Mo_program_2 : decode c_Mo_program 2 = .ok (.getfield 32, 3) := by decide +kernel
theorem d_Mo_program_5 : decode c_Mo_program 5 = .ok (.putfield 43, 3) := by decide +kernel
theorem d_Mo_program_8 : decode c_Mo_program 8 = .ok (.aload_n 0, 1) := by decide +kernel
theorem d_Mo_program_9 : decode c_Mo_program 9 = .ok (.iconst 0, 1) := by decide +kernel
theorem d_Mo_program_10 : decode c_Mo_program 10 = .ok (.putfield 32, 3) := by decide +kernel
theorem d_Mo_program_13 : decode c_Mo_program 13 = .ok (.aload_n 0, 1) := by decide +kernel
theorem d_Mo_program_14 : decode c_Mo_program 14 = .ok (.iconst 0, 1) := by decide +kernel
theorem d_Mo_program_15 : decode c_Mo_program 15 = .ok (.putfield 40, 3) := by decide +kernel
theorem d_Mo_program_18 : decode c_Mo_program 18 = .ok (.aload_n 0, 1) := by decide +kernel
theorem d_Mo_program_19 : decode c_Mo_program 19 = .ok (.iconst (-1), 1) := by decide +kernel
theorem d_Mo_program_20 : decode c_Mo_program 20 = .ok (.putfield 110, 3) := by decide +kernel
theorem d_Mo_program_23 : decode c_Mo_program 23 = .ok (.aload_n 0, 1) := by decide +kernel
theorem d_Mo_program_24 : decode c_Mo_program 24 = .ok (.iconst 0, 1) := by decide +kernel
theorem d_Mo_program_25 : decode c_Mo_program 25 = .ok (.putfield 123, 3) := by decide +kernel
theorem d_Mo_program_28 : decode c_Mo_program 28 = .ok (.aload_n 0, 1) := by decide +kernel
theorem d_Mo_program_29 : decode c_Mo_program 29 = .ok (.bipush 7, 2) := by decide +kernel
theorem d_Mo_program_31 : decode c_Mo_program 31 = .ok (.putfield 120, 3) := by decide +kernel
theorem d_Mo_program_34 : decode c_Mo_program 34 = .ok (.aload_n 0, 1) := by decide +kernel
theorem d_Mo_program_35 : decode c_Mo_program 35 = .ok (.getfield 17, 3) := by decide +kernel
theorem d_Mo_program_38 : decode c_Mo_program 38 = .ok (.iconst 0, 1) := by decide +kernel
theorem d_Mo_program_39 : decode c_Mo_program 39 = .ok (.iconst 0, 1) := by decide +kernel
theorem d_Mo_program_40 : decode c_Mo_program 40 = .ok (.iastore, 1) := by decide +kernel
theorem d_Mo_program_41 : decode c_Mo_program 41 = .ok (.aload_n 0, 1) := by decide +kernel
theorem d_Mo_program_42 : decode c_Mo_program 42 = .ok (.invokevirtual 117, 3) := by decide +kernel
theorem d_Mo_program_45 : decode c_Mo_program 45 = .ok (.aload_n 0, 1) := by decide +kernel
theorem d_Mo_program_46 : decode c_Mo_program 46 = .ok (.invokevirtual 126, 3) := by decide +kernel
theorem d_Mo_program_49 : decode c_Mo_program 49 = .ok (.istore_n 1, 1) := by decide +kernel
theorem d_Mo_program_50 : decode c_Mo_program 50 = .ok (.iload_n 1, 1) := by decide +kernel
theorem d_Mo_program_51 : decode c_Mo_program 51 = .ok (.ifCond .eq 24, 3) := by decide +kernel
theorem d_Mo_program_54 : decode c_Mo_program 54 = .ok (.aload_n 0, 1) := by decide +kernel
theorem d_Mo_program_55 : decode c_Mo_program 55 = .ok (.ldc 67, 2) := by decide +kernel
theorem d_Mo_program_57 : decode c_Mo_program 57 = .ok (.invokevirtual 61, 3) := by decide +kernel
theorem d_Mo_program_60 : decode c_Mo_program 60 = .ok (.ifCond .eq 15, 3) := by decide +kernel
theorem d_Mo_program_63 : decode c_Mo_program 63 = .ok (.aload_n 0, 1) := by decide +kernel
theorem d_Mo_program_64 : decode c_Mo_program 64 = .ok (.invokevirtual 117, 3) := by decide +kernel
theorem d_Mo_program_67 : decode c_Mo_program 67 = .ok (.aload_n 0, 1) := by decide +kernel
theorem d_Mo_program_68 : decode c_Mo_program 68 = .ok (.invokevirtual 126, 3) := by decide +kernel
theorem d_Mo_program_71 : decode c_Mo_program 71 = .ok (.istore_n 1, 1) := by decide +kernel
theorem d_Mo_program_72 : decode c_Mo_program 72 = .ok (.goto (-22), 3) := by decide +kernel
theorem d_Mo_program_75 : decode c_Mo_program 75 = .ok (.iload_n 1, 1) := by decide +kernel
theorem d_Mo_program_76 : decode c_Mo_program 76 = .ok (.ifCond .eq 15, 3) := by decide +kernel
theorem d_Mo_program_79 : decode c_Mo_program 79 = .ok (.aload_n 0, 1) := by decide +kernel
theorem d_Mo_program_80 : decode c_Mo_program 80 = .ok (.getfield 49, 3) := by decide +kernel
theorem d_Mo_program_83 : decode c_Mo_program 83 = .ok (.ifCond .eq 8, 3) := by decide +kernel
theorem d_Mo_program_86 : decode c_Mo_program 86 = .ok (.aload_n 0, 1) := by decide +kernel
theorem d_Mo_program_87 : decode c_Mo_program 87 = .ok (.invokevirtual 113, 3) := by decide +kernel
theorem d_Mo_program_90 : decode c_Mo_program 90 = .ok (.pop, 1) := by decide +kernel
theorem d_Mo_program_91 : decode c_Mo_program 91 = .ok (.aload_n 0, 1) := by decide +kernel
theorem d_Mo_program_92 : decode c_Mo_program 92 = .ok (.getfield 110, 3) := by decide +kernel
theorem d_Mo_program_95 : decode c_Mo_program 95 = .ok (.ifCond .lt 8, 3) := by decide +kernel
theorem d_Mo_program_98 : decode c_Mo_program 98 = .ok (.aload_n 0, 1) := by decide +kernel
theorem d_Mo_program_99 : decode c_Mo_program 99 = .ok (.getfield 110, 3) := by decide +kernel
theorem d_Mo_program_102 : decode c_Mo_program 102 = .ok (.ireturn, 1) := by decide +kernel
theorem d_Mo_program_103 : decode c_Mo_program 103 = .ok (.aload_n 0, 1) := by decide +kernel
theorem d_Mo_program_104 : decode c_Mo_program 104 = .ok (.aload_n 0, 1) := by decide +kernel
theorem d_Mo_program_105 : decode c_Mo_program 105 = .ok (.getfield 17, 3) := by decide +kernel
theorem d_Mo_program_108 : decode c_Mo_program 108 = .ok (.aload_n 0, 1) := by decide +kernel
theorem d_Mo_program_109 : decode c_Mo_program 109 = .ok (.getfield 120, 3) := by decide +kernel
theorem d_Mo_program_112 : decode c_Mo_program 112 = .ok (.invokestatic 129, 3) := by decide +kernel
theorem d_Mo_program_115 : decode c_Mo_program 115 = .ok (.putfield 135, 3) := by decide +kernel
theorem d_Mo_program_118 : decode c_Mo_program 118 = .ok (.bipush (-2), 2) := by decide +kernel
theorem d_Mo_program_120 : decode c_Mo_program 120 = .ok (.ireturn, 1) := by decide +kernel
theorem d_Mo_step_0 : decode c_Mo_step 0 = .ok (.aload_n 0, 1) := by decide +kernel
theorem d_Mo_step_1 : decode c_Mo_step 1 = .ok (.getfield 40, 3) := by decide +kernel
theorem d_Mo_step_4 : decode c_Mo_step 4 = .ok (.aload_n 0, 1) := by decide +kernel
theorem d_Mo_step_5 : decode c_Mo_step 5 = .ok (.getfield 43, 3) := by decide +kernel
theorem d_Mo_step_8 : decode c_Mo_step 8 = .ok (.if_icmp .ge 30, 3) := by decide +kernel
theorem d_Mo_step_11 : decode c_Mo_step 11 = .ok (.aload_n 0, 1) := by decide +kernel
theorem d_Mo_step_12 : decode c_Mo_step 12 = .ok (.getfield 9, 3) := by decide +kernel
theorem d_Mo_step_15 : decode c_Mo_step 15 = .ok (.aload_n 0, 1) := by decide +kernel
theorem d_Mo_step_16 : decode c_Mo_step 16 = .ok (.getfield 40, 3) := by decide +kernel
theorem d_Mo_step_19 : decode c_Mo_step 19 = .ok (.baload, 1) := by decide +kernel
theorem d_Mo_step_20 : decode c_Mo_step 20 = .ok (.bipush 32, 2) := by decide +kernel
theorem d_Mo_step_22 : decode c_Mo_step 22 = .ok (.if_icmp .ne 16, 3) := by decide +kernel
theorem d_Mo_step_25 : decode c_Mo_step 25 = .ok (.aload_n 0, 1) := by decide +kernel
theorem d_Mo_step_26 : decode c_Mo_step 26 = .ok (.dup, 1) := by decide +kernel
theorem d_Mo_step_27 : decode c_Mo_step 27 = .ok (.getfield 40, 3) := by decide +kernel
theorem d_Mo_step_30 : decode c_Mo_step 30 = .ok (.iconst 1, 1) := by decide +kernel
theorem d_Mo_step_31 : decode c_Mo_step 31 = .ok (.iadd, 1) := by decide +kernel
theorem d_Mo_step_32 : decode c_Mo_step 32 = .ok (.putfield 40, 3) := by decide +kernel
theorem d_Mo_step_35 : decode c_Mo_step 35 = .ok (.goto (-35), 3) := by decide +kernel
theorem d_Mo_step_38 : decode c_Mo_step 38 = .ok (.aload_n 0, 1) := by decide +kernel
theorem d_Mo_step_39 : decode c_Mo_step 39 = .ok (.aload_n 0, 1) := by decide +kernel
theorem d_Mo_step_40 : decode c_Mo_step 40 = .ok (.getfield 40, 3) := by decide +kernel
theorem d_Mo_step_43 : decode c_Mo_step 43 = .ok (.putfield 46, 3) := by decide +kernel
theorem d_Mo_step_46 : decode c_Mo_step 46 = .ok (.aload_n 0, 1) := by decide +kernel
theorem d_Mo_step_47 : decode c_Mo_step 47 = .ok (.getfield 40, 3) := by decide +kernel
theorem d_Mo_step_50 : decode c_Mo_step 50 = .ok (.aload_n 0, 1) := by decide +kernel
theorem d_Mo_step_51 : decode c_Mo_step 51 = .ok (.getfield 43, 3) := by decide +kernel
theorem d_Mo_step_54 : decode c_Mo_step 54 = .ok (.if_icmp .ne 11, 3) := by decide +kernel
theorem d_Mo_step_57 : decode c_Mo_step 57 = .ok (.aload_n 0, 1) := by decide +kernel
theorem d_Mo_step_58 : decode c_Mo_step 58 = .ok (.iconst 0, 1) := by decide +kernel
theorem d_Mo_step_59 : decode c_Mo_step 59 = .ok (.putfield 49, 3) := by decide +kernel
theorem d_Mo_step_62 : decode c_Mo_step 62 = .ok (.goto 398, 3) := by decide +kernel
theorem d_Mo_step_65 : decode c_Mo_step 65 = .ok (.aload_n 0, 1) := by decide +kernel
theorem d_Mo_step_66 : decode c_Mo_step 66 = .ok (.getfield 9, 3) := by decide +kernel
theorem d_Mo_step_69 : decode c_Mo_step 69 = .ok (.aload_n 0, 1) := by decide +kernel
theorem d_Mo_step_70 : decode c_Mo_step 70 = .ok (.getfield 40, 3) := by decide +kernel
theorem d_Mo_step_73 : decode c_Mo_step 73 = .ok (.baload, 1) := by decide +kernel
theorem d_Mo_step_74 : decode c_Mo_step 74 = .ok (.invokestatic 52, 3) := by decide +kernel
theorem d_Mo_step_77 : decode c_Mo_step 77 = .ok (.ifCond .eq 126, 3) := by decide +kernel
theorem d_Mo_step_80 : decode c_Mo_step 80 = .ok (.aload_n 0, 1) := by decide +kernel
theorem d_Mo_step_81 : decode c_Mo_step 81 = .ok (.getfield 40, 3) := by decide +kernel
theorem d_Mo_step_84 : decode c_Mo_step 84 = .ok (.aload_n 0, 1) := by decide +kernel
theorem d_Mo_step_85 : decode c_Mo_step 85 = .ok (.getfield 43, 3) := by decide +kernel
theorem d_Mo_step_88 : decode c_Mo_step 88 = .ok (.if_icmp .ge 31, 3) := by decide +kernel
theorem d_Mo_step_91 : decode c_Mo_step 91 = .ok (.aload_n 0, 1) := by decide +kernel
theorem d_Mo_step_92 : decode c_Mo_step 92 = .ok (.getfield 9, 3) := by decide +kernel
theorem d_Mo_step_95 : decode c_Mo_step 95 = .ok (.aload_n 0, 1) := by decide +kernel
theorem d_Mo_step_96 : decode c_Mo_step 96 = .ok (.getfield 40, 3) := by decide +kernel
theorem d_Mo_step_99 : decode c_Mo_step 99 = .ok (.baload, 1) := by decide +kernel
theorem d_Mo_step_100 : decode c_Mo_step 100 = .ok (.invokestatic 52, 3) := by decide +kernel
theorem d_Mo_step_103 : decode c_Mo_step 103 = .ok (.ifCond .eq 16, 3) := by decide +kernel
theorem d_Mo_step_106 : decode c_Mo_step 106 = .ok (.aload_n 0, 1) := by decide +kernel
theorem d_Mo_step_107 : decode c_Mo_step 107 = .ok (.dup, 1) := by decide +kernel
theorem d_Mo_step_108 : decode c_Mo_step 108 = .ok (.getfield 40, 3) := by decide +kernel
theorem d_Mo_step_111 : decode c_Mo_step 111 = .ok (.iconst 1, 1) := by decide +kernel
theorem d_Mo_step_112 : decode c_Mo_step 112 = .ok (.iadd, 1) := by decide +kernel
theorem d_Mo_step_113 : decode c_Mo_step 113 = .ok (.putfield 40, 3) := by decide +kernel
theorem d_Mo_step_116 : decode c_Mo_step 116 = .ok (.goto (-36), 3) := by decide +kernel
theorem d_Mo_step_119 : decode c_Mo_step 119 = .ok (.aload_n 0, 1) := by decide +kernel
theorem d_Mo_step_120 : decode c_Mo_step 120 = .ok (.aload_n 0, 1) := by decide +kernel
theorem d_Mo_step_121 : decode c_Mo_step 121 = .ok (.getfield 40, 3) := by decide +kernel
theorem d_Mo_step_124 : decode c_Mo_step 124 = .ok (.putfield 56, 3) := by decide +kernel
theorem d_Mo_step_127 : decode c_Mo_step 127 = .ok (.aload_n 0, 1) := by decide +kernel
theorem d_Mo_step_128 : decode c_Mo_step 128 = .ok (.iconst 1, 1) := by decide +kernel
theorem d_Mo_step_129 : decode c_Mo_step 129 = .ok (.putfield 49, 3) := by decide +kernel
theorem d_Mo_step_132 : decode c_Mo_step 132 = .ok (.aload_n 0, 1) := by decide +kernel
theorem d_Mo_step_133 : decode c_Mo_step 133 = .ok (.ldc 59, 2) := by decide +kernel
theorem d_Mo_step_135 : decode c_Mo_step 135 = .ok (.invokevirtual 61, 3) := by decide +kernel
theorem d_Mo_step_138 : decode c_Mo_step 138 = .ok (.ifCond .ne 322, 3) := by decide +kernel
theorem d_Mo_step_141 : decode c_Mo_step 141 = .ok (.aload_n 0, 1) := by decide +kernel
theorem d_Mo_step_142 : decode c_Mo_step 142 = .ok (.ldc 65, 2) := by decide +kernel
theorem d_Mo_step_144 : decode c_Mo_step 144 = .ok (.invokevirtual 61, 3) := by decide +kernel
theorem d_Mo_step_147 : decode c_Mo_step 147 = .ok (.ifCond .ne 313, 3) := by decide +kernel
theorem d_Mo_step_150 : decode c_Mo_step 150 = .ok (.aload_n 0, 1) := by decide +kernel
theorem d_Mo_step_151 : decode c_Mo_step 151 = .ok (.ldc 67, 2) := by decide +kernel
theorem d_Mo_step_153 : decode c_Mo_step 153 = .ok (.invokevirtual 61, 3) := by decide +kernel
theorem d_Mo_step_156 : decode c_Mo_step 156 = .ok (.ifCond .ne 304, 3) := by decide +kernel
theorem d_Mo_step_159 : decode c_Mo_step 159 = .ok (.aload_n 0, 1) := by decide +kernel
theorem d_Mo_step_160 : decode c_Mo_step 160 = .ok (.ldc 69, 2) := by decide +kernel
theorem d_Mo_step_162 : decode c_Mo_step 162 = .ok (.invokevirtual 61, 3) := by decide +kernel
theorem d_Mo_step_165 : decode c_Mo_step 165 = .ok (.ifCond .ne 295, 3) := by decide +kernel
theorem d_Mo_step_168 : decode c_Mo_step 168 = .ok (.aload_n 0, 1) := by decide +kernel
theorem d_Mo_step_169 : decode c_Mo_step 169 = .ok (.ldc 71, 2) := by decide +kernel
theorem d_Mo_step_171 : decode c_Mo_step 171 = .ok (.invokevirtual 61, 3) := by decide +kernel
theorem d_Mo_step_174 : decode c_Mo_step 174 = .ok (.ifCond .ne 286, 3) := by decide +kernel
theorem d_Mo_step_177 : decode c_Mo_step 177 = .ok (.aload_n 0, 1) := by decide +kernel
theorem d_Mo_step_178 : decode c_Mo_step 178 = .ok (.ldc 73, 2) := by decide +kernel
theorem d_Mo_step_180 : decode c_Mo_step 180 = .ok (.invokevirtual 61, 3) := by decide +kernel
theorem d_Mo_step_183 : decode c_Mo_step 183 = .ok (.ifCond .ne 277, 3) := by decide +kernel
theorem d_Mo_step_186 : decode c_Mo_step 186 = .ok (.aload_n 0, 1) := by decide +kernel
theorem d_Mo_step_187 : decode c_Mo_step 187 = .ok (.ldc 75, 2) := by decide +kernel
theorem d_Mo_step_189 : decode c_Mo_step 189 = .ok (.invokevirtual 61, 3) := by decide +kernel
theorem d_Mo_step_192 : decode c_Mo_step 192 = .ok (.ifCond .ne 268, 3) := by decide +kernel
theorem d_Mo_step_195 : decode c_Mo_step 195 = .ok (.aload_n 0, 1) := by decide +kernel
theorem d_Mo_step_196 : decode c_Mo_step 196 = .ok (.iconst 4, 1) := by decide +kernel
theorem d_Mo_step_197 : decode c_Mo_step 197 = .ok (.putfield 49, 3) := by decide +kernel
theorem d_Mo_step_200 : decode c_Mo_step 200 = .ok (.goto 260, 3) := by decide +kernel
theorem d_Mo_step_203 : decode c_Mo_step 203 = .ok (.aload_n 0, 1) := by decide +kernel
theorem d_Mo_step_204 : decode c_Mo_step 204 = .ok (.getfield 9, 3) := by decide +kernel
theorem d_Mo_step_207 : decode c_Mo_step 207 = .ok (.aload_n 0, 1) := by decide +kernel
theorem d_Mo_step_208 : decode c_Mo_step 208 = .ok (.getfield 40, 3) := by decide +kernel
theorem d_Mo_step_211 : decode c_Mo_step 211 = .ok (.baload, 1) := by decide +kernel
theorem d_Mo_step_212 : decode c_Mo_step 212 = .ok (.invokestatic 77, 3) := by decide +kernel
theorem d_Mo_step_215 : decode c_Mo_step 215 = .ok (.ifCond .eq 103, 3) := by decide +kernel
theorem d_Mo_step_218 : decode c_Mo_step 218 = .ok (.aload_n 0, 1) := by decide +kernel
theorem d_Mo_step_219 : decode c_Mo_step 219 = .ok (.lconst 0, 1) := by decide +kernel
theorem d_Mo_step_220 : decode c_Mo_step 220 = .ok (.putfield 80, 3) := by decide +kernel
theorem d_Mo_step_223 : decode c_Mo_step 223 = .ok (.aload_n 0, 1) := by decide +kernel
theorem d_Mo_step_224 : decode c_Mo_step 224 = .ok (.getfield 40, 3) := by decide +kernel
theorem d_Mo_step_227 : decode c_Mo_step 227 = .ok (.aload_n 0, 1) := by decide +kernel
theorem d_Mo_step_228 : decode c_Mo_step 228 = .ok (.getfield 43, 3) := by decide +kernel
theorem d_Mo_step_231 : decode c_Mo_step 231 = .ok (.if_icmp .ge 64, 3) := by decide +kernel
theorem d_Mo_step_234 : decode c_Mo_step 234 = .ok (.aload_n 0, 1) := by decide +kernel
theorem d_Mo_step_235 : decode c_Mo_step 235 = .ok (.getfield 9, 3) := by decide +kernel
theorem d_Mo_step_238 : decode c_Mo_step 238 = .ok (.aload_n 0, 1) := by decide +kernel
theorem d_Mo_step_239 : decode c_Mo_step 239 = .ok (.getfield 40, 3) := by decide +kernel
theorem d_Mo_step_242 : decode c_Mo_step 242 = .ok (.baload, 1) := by decide +kernel
theorem d_Mo_step_243 : decode c_Mo_step 243 = .ok (.invokestatic 77, 3) := by decide +kernel
theorem d_Mo_step_246 : decode c_Mo_step 246 = .ok (.ifCond .eq 49, 3) := by decide +kernel
theorem d_Mo_step_249 : decode c_Mo_step 249 = .ok (.aload_n 0, 1) := by decide +kernel
theorem d_Mo_step_250 : decode c_Mo_step 250 = .ok (.ldc2_w 84, 3) := by decide +kernel
theorem d_Mo_step_253 : decode c_Mo_step 253 = .ok (.ldc2_w 86, 3) := by decide +kernel
theorem d_Mo_step_256 : decode c_Mo_step 256 = .ok (.aload_n 0, 1) := by decide +kernel
theorem d_Mo_step_257 : decode c_Mo_step 257 = .ok (.getfield 80, 3) := by decide +kernel
theorem d_Mo_step_260 : decode c_Mo_step 260 = .ok (.lmul, 1) := by decide +kernel
theorem d_Mo_step_261 : decode c_Mo_step 261 = .ok (.aload_n 0, 1) := by decide +kernel
theorem d_Mo_step_262 : decode c_Mo_step 262 = .ok (.getfield 9, 3) := by decide +kernel
theorem d_Mo_step_265 : decode c_Mo_step 265 = .ok (.aload_n 0, 1) := by decide +kernel
theorem d_Mo_step_266 : decode c_Mo_step 266 = .ok (.getfield 40, 3) := by decide +kernel
theorem d_Mo_step_269 : decode c_Mo_step 269 = .ok (.baload, 1) := by decide +kernel
theorem d_Mo_step_270 : decode c_Mo_step 270 = .ok (.i2l, 1) := by decide +kernel
theorem d_Mo_step_271 : decode c_Mo_step 271 = .ok (.ladd, 1) := by decide +kernel
theorem d_Mo_step_272 : decode c_Mo_step 272 = .ok (.ldc2_w 88, 3) := by decide +kernel
theorem d_Mo_step_275 : decode c_Mo_step 275 = .ok (.lsub, 1) := by decide +kernel
theorem d_Mo_step_276 : decode c_Mo_step 276 = .ok (.invokestatic 90, 3) := by decide +kernel
theorem d_Mo_step_279 : decode c_Mo_step 279 = .ok (.putfield 80, 3) := by decide +kernel
theorem d_Mo_step_282 : decode c_Mo_step 282 = .ok (.aload_n 0, 1) := by decide +kernel
theorem d_Mo_step_283 : decode c_Mo_step 283 = .ok (.dup, 1) := by decide +kernel
theorem d_Mo_step_284 : decode c_Mo_step 284 = .ok (.getfield 40, 3) := by decide +kernel
theorem d_Mo_step_287 : decode c_Mo_step 287 = .ok (.iconst 1, 1) := by decide +kernel
theorem d_Mo_step_288 : decode c_Mo_step 288 = .ok (.iadd, 1) := by decide +kernel
theorem d_Mo_step_289 : decode c_Mo_step 289 = .ok (.putfield 40, 3) := by decide +kernel
theorem d_Mo_step_292 : decode c_Mo_step 292 = .ok (.goto (-69), 3) := by decide +kernel
theorem d_Mo_step_295 : decode c_Mo_step 295 = .ok (.aload_n 0, 1) := by decide +kernel
theorem d_Mo_step_296 : decode c_Mo_step 296 = .ok (.aload_n 0, 1) := by decide +kernel
theorem d_Mo_step_297 : decode c_Mo_step 297 = .ok (.getfield 80, 3) := by decide +kernel
theorem d_Mo_step_300 : decode c_Mo_step 300 = .ok (.ldc2_w 98, 3) := by decide +kernel
theorem d_Mo_step_303 : decode c_Mo_step 303 = .ok (.lcmp, 1) := by decide +kernel
theorem d_Mo_step_304 : decode c_Mo_step 304 = .ok (.ifCond .gt 7, 3) := by decide +kernel
theorem d_Mo_step_307 : decode c_Mo_step 307 = .ok (.iconst 2, 1) := by decide +kernel
theorem d_Mo_step_308 : decode c_Mo_step 308 = .ok (.goto 4, 3) := by decide +kernel
theorem d_Mo_step_311 : decode c_Mo_step 311 = .ok (.iconst 4, 1) := by decide +kernel
theorem d_Mo_step_312 : decode c_Mo_step 312 = .ok (.putfield 49, 3) := by decide +kernel
theorem d_Mo_step_315 : decode c_Mo_step 315 = .ok (.goto 145, 3) := by decide +kernel
theorem d_Mo_step_318 : decode c_Mo_step 318 = .ok (.aload_n 0, 1) := by decide +kernel
theorem d_Mo_step_319 : decode c_Mo_step 319 = .ok (.getfield 9, 3) := by decide +kernel
theorem d_Mo_step_322 : decode c_Mo_step 322 = .ok (.aload_n 0, 1) := by decide +kernel
theorem d_Mo_step_323 : decode c_Mo_step 323 = .ok (.getfield 40, 3) := by decide +kernel
theorem d_Mo_step_326 : decode c_Mo_step 326 = .ok (.baload, 1) := by decide +kernel
theorem d_Mo_step_327 : decode c_Mo_step 327 = .ok (.istore_n 1, 1) := by decide +kernel
theorem d_Mo_step_328 : decode c_Mo_step 328 = .ok (.iload_n 1, 1) := by decide +kernel
theorem d_Mo_step_329 : decode c_Mo_step 329 = .ok (.bipush 58, 2) := by decide +kernel
theorem d_Mo_step_331 : decode c_Mo_step 331 = .ok (.if_icmp .ne 36, 3) := by decide +kernel
theorem d_Mo_step_334 : decode c_Mo_step 334 = .ok (.aload_n 0, 1) := by decide +kernel
theorem d_Mo_step_335 : decode c_Mo_step 335 = .ok (.getfield 40, 3) := by decide +kernel
theorem d_Mo_step_338 : decode c_Mo_step 338 = .ok (.iconst 1, 1) := by decide +kernel
theorem d_Mo_step_339 : decode c_Mo_step 339 = .ok (.iadd, 1) := by decide +kernel
theorem d_Mo_step_340 : decode c_Mo_step 340 = .ok (.aload_n 0, 1) := by decide +kernel
theorem d_Mo_step_341 : decode c_Mo_step 341 = .ok (.getfield 43, 3) := by decide +kernel
theorem d_Mo_step_344 : decode c_Mo_step 344 = .ok (.if_icmp .ge 23, 3) := by decide +kernel
theorem d_Mo_step_347 : decode c_Mo_step 347 = .ok (.aload_n 0, 1) := by decide +kernel
theorem d_Mo_step_348 : decode c_Mo_step 348 = .ok (.getfield 9, 3) := by decide +kernel
theorem d_Mo_step_351 : decode c_Mo_step 351 = .ok (.aload_n 0, 1) := by decide +kernel
theorem d_Mo_step_352 : decode c_Mo_step 352 = .ok (.getfield 40, 3) := by decide +kernel
theorem d_Mo_step_355 : decode c_Mo_step 355 = .ok (.iconst 1, 1) := by decide +kernel
theorem d_Mo_step_356 : decode c_Mo_step 356 = .ok (.iadd, 1) := by decide +kernel
theorem d_Mo_step_357 : decode c_Mo_step 357 = .ok (.baload, 1) := by decide +kernel
theorem d_Mo_step_358 : decode c_Mo_step 358 = .ok (.bipush 61, 2) := by decide +kernel
theorem d_Mo_step_360 : decode c_Mo_step 360 = .ok (.if_icmp .ne 7, 3) := by decide +kernel
theorem d_Mo_step_363 : decode c_Mo_step 363 = .ok (.iconst 1, 1) := by decide +kernel
theorem d_Mo_step_364 : decode c_Mo_step 364 = .ok (.goto 4, 3) := by decide +kernel
theorem d_Mo_step_367 : decode c_Mo_step 367 = .ok (.iconst 0, 1) := by decide +kernel
theorem d_Mo_step_368 : decode c_Mo_step 368 = .ok (.istore_n 2, 1) := by decide +kernel
theorem d_Mo_step_369 : decode c_Mo_step 369 = .ok (.aload_n 0, 1) := by decide +kernel
theorem d_Mo_step_370 : decode c_Mo_step 370 = .ok (.iload_n 2, 1) := by decide +kernel
theorem d_Mo_step_371 : decode c_Mo_step 371 = .ok (.ifCond .ne 63, 3) := by decide +kernel
theorem d_Mo_step_374 : decode c_Mo_step 374 = .ok (.iload_n 1, 1) := by decide +kernel
theorem d_Mo_step_375 : decode c_Mo_step 375 = .ok (.bipush 61, 2) := by decide +kernel
theorem d_Mo_step_377 : decode c_Mo_step 377 = .ok (.if_icmp .eq 57, 3) := by decide +kernel
theorem d_Mo_step_380 : decode c_Mo_step 380 = .ok (.iload_n 1, 1) := by decide +kernel
theorem d_Mo_step_381 : decode c_Mo_step 381 = .ok (.bipush 35, 2) := by decide +kernel
theorem d_Mo_step_383 : decode c_Mo_step 383 = .ok (.if_icmp .eq 51, 3) := by decide +kernel
theorem d_Mo_step_386 : decode c_Mo_step 386 = .ok (.iload_n 1, 1) := by decide +kernel
theorem d_Mo_step_387 : decode c_Mo_step 387 = .ok (.bipush 60, 2) := by decide +kernel
theorem d_Mo_step_389 : decode c_Mo_step 389 = .ok (.if_icmp .eq 45, 3) := by decide +kernel
theorem d_Mo_step_392 : decode c_Mo_step 392 = .ok (.iload_n 1, 1) := by decide +kernel
theorem d_Mo_step_393 : decode c_Mo_step 393 = .ok (.bipush 62, 2) := by decide +kernel
theorem d_Mo_step_395 : decode c_Mo_step 395 = .ok (.if_icmp .eq 39, 3) := by decide +kernel
theorem d_Mo_step_398 : decode c_Mo_step 398 = .ok (.iload_n 1, 1) := by decide +kernel
theorem d_Mo_step_399 : decode c_Mo_step 399 = .ok (.bipush 43, 2) := by decide +kernel
theorem d_Mo_step_401 : decode c_Mo_step 401 = .ok (.if_icmp .eq 33, 3) := by decide +kernel
theorem d_Mo_step_404 : decode c_Mo_step 404 = .ok (.iload_n 1, 1) := by decide +kernel
theorem d_Mo_step_405 : decode c_Mo_step 405 = .ok (.bipush 45, 2) := by decide +kernel
theorem d_Mo_step_407 : decode c_Mo_step 407 = .ok (.if_icmp .eq 27, 3) := by decide +kernel
theorem d_Mo_step_410 : decode c_Mo_step 410 = .ok (.iload_n 1, 1) := by decide +kernel
theorem d_Mo_step_411 : decode c_Mo_step 411 = .ok (.bipush 42, 2) := by decide +kernel
theorem d_Mo_step_413 : decode c_Mo_step 413 = .ok (.if_icmp .eq 21, 3) := by decide +kernel
theorem d_Mo_step_416 : decode c_Mo_step 416 = .ok (.iload_n 1, 1) := by decide +kernel
theorem d_Mo_step_417 : decode c_Mo_step 417 = .ok (.bipush 44, 2) := by decide +kernel
theorem d_Mo_step_419 : decode c_Mo_step 419 = .ok (.if_icmp .eq 15, 3) := by decide +kernel
theorem d_Mo_step_422 : decode c_Mo_step 422 = .ok (.iload_n 1, 1) := by decide +kernel
theorem d_Mo_step_423 : decode c_Mo_step 423 = .ok (.bipush 40, 2) := by decide +kernel
theorem d_Mo_step_425 : decode c_Mo_step 425 = .ok (.if_icmp .eq 9, 3) := by decide +kernel
theorem d_Mo_step_428 : decode c_Mo_step 428 = .ok (.iload_n 1, 1) := by decide +kernel
theorem d_Mo_step_429 : decode c_Mo_step 429 = .ok (.bipush 41, 2) := by decide +kernel
theorem d_Mo_step_431 : decode c_Mo_step 431 = .ok (.if_icmp .ne 7, 3) := by decide +kernel
theorem d_Mo_step_434 : decode c_Mo_step 434 = .ok (.iconst 3, 1) := by decide +kernel
theorem d_Mo_step_435 : decode c_Mo_step 435 = .ok (.goto 4, 3) := by decide +kernel
theorem d_Mo_step_438 : decode c_Mo_step 438 = .ok (.iconst 4, 1) := by decide +kernel
theorem d_Mo_step_439 : decode c_Mo_step 439 = .ok (.putfield 49, 3) := by decide +kernel
theorem d_Mo_step_442 : decode c_Mo_step 442 = .ok (.aload_n 0, 1) := by decide +kernel
theorem d_Mo_step_443 : decode c_Mo_step 443 = .ok (.dup, 1) := by decide +kernel
theorem d_Mo_step_444 : decode c_Mo_step 444 = .ok (.getfield 40, 3) := by decide +kernel
theorem d_Mo_step_447 : decode c_Mo_step 447 = .ok (.iload_n 2, 1) := by decide +kernel
theorem d_Mo_step_448 : decode c_Mo_step 448 = .ok (.ifCond .eq 7, 3) := by decide +kernel
theorem d_Mo_step_451 : decode c_Mo_step 451 = .ok (.iconst 2, 1) := by decide +kernel
theorem d_Mo_step_452 : decode c_Mo_step 452 = .ok (.goto 4, 3) := by decide +kernel
theorem d_Mo_step_455 : decode c_Mo_step 455 = .ok (.iconst 1, 1) := by decide +kernel
theorem d_Mo_step_456 : decode c_Mo_step 456 = .ok (.iadd, 1) := by decide +kernel
theorem d_Mo_step_457 : decode c_Mo_step 457 = .ok (.putfield 40, 3) := by decide +kernel
theorem d_Mo_step_460 : decode c_Mo_step 460 = .ok (.aload_n 0, 1) := by decide +kernel
theorem d_Mo_step_461 : decode c_Mo_step 461 = .ok (.aload_n 0, 1) := by decide +kernel
theorem d_Mo_step_462 : decode c_Mo_step 462 = .ok (.getfield 40, 3) := by decide +kernel
theorem d_Mo_step_465 : decode c_Mo_step 465 = .ok (.putfield 56, 3) := by decide +kernel
theorem d_Mo_step_468 : decode c_Mo_step 468 = .ok (.return_, 1) := by decide +kernel
theorem d_Mo_isLetter_0 : decode c_Mo_isLetter 0 = .ok (.iload_n 0, 1) := by decide +kernel
theorem d_Mo_isLetter_1 : decode c_Mo_isLetter 1 = .ok (.bipush 97, 2) := by decide +kernel
theorem d_Mo_isLetter_3 : decode c_Mo_isLetter 3 = .ok (.if_icmp .lt 13, 3) := by decide +kernel
theorem d_Mo_isLetter_6 : decode c_Mo_isLetter 6 = .ok (.iload_n 0, 1) := by decide +kernel
theorem d_Mo_isLetter_7 : decode c_Mo_isLetter 7 = .ok (.bipush 122, 2) := by decide +kernel
theorem d_Mo_isLetter_9 : decode c_Mo_isLetter 9 = .ok (.if_icmp .gt 7, 3) := by decide +kernel
theorem d_Mo_isLetter_12 : decode c_Mo_isLetter 12 = .ok (.iconst 1, 1) := by decide +kernel
theorem d_Mo_isLetter_13 : decode c_Mo_isLetter 13 = .ok (.goto 4, 3) := by decide +kernel
theorem d_Mo_isLetter_16 : decode c_Mo_isLetter 16 = .ok (.iconst 0, 1) := by decide +kernel
theorem d_Mo_isLetter_17 : decode c_Mo_isLetter 17 = .ok (.ireturn, 1) := by decide +kernel
theorem d_Mo_is_0 : decode c_Mo_is 0 = .ok (.aload_n 0, 1) := by decide +kernel
theorem d_Mo_is_1 : decode c_Mo_is 1 = .ok (.getfield 49, 3) := by decide +kernel
theorem d_Mo_is_4 : decode c_Mo_is 4 = .ok (.iconst 1, 1) := by decide +kernel
theorem d_Mo_is_5 : decode c_Mo_is 5 = .ok (.if_icmp .eq 11, 3) := by decide +kernel
theorem d_Mo_is_8 : decode c_Mo_is 8 = .ok (.aload_n 0, 1) := by decide +kernel
theorem d_Mo_is_9 : decode c_Mo_is 9 = .ok (.getfield 49, 3) := by decide +kernel
theorem d_Mo_is_12 : decode c_Mo_is 12 = .ok (.iconst 3, 1) := by decide +kernel
theorem d_Mo_is_13 : decode c_Mo_is 13 = .ok (.if_icmp .ne 19, 3) := by decide +kernel
theorem d_Mo_is_16 : decode c_Mo_is 16 = .ok (.aload_n 0, 1) := by decide +kernel
theorem d_Mo_is_17 : decode c_Mo_is 17 = .ok (.getfield 56, 3) := by decide +kernel
theorem d_Mo_is_20 : decode c_Mo_is 20 = .ok (.aload_n 0, 1) := by decide +kernel
theorem d_Mo_is_21 : decode c_Mo_is 21 = .ok (.getfield 46, 3) := by decide +kernel
theorem d_Mo_is_24 : decode c_Mo_is 24 = .ok (.isub, 1) := by decide +kernel
theorem d_Mo_is_25 : decode c_Mo_is 25 = .ok (.aload_n 1, 1) := by decide +kernel
theorem d_Mo_is_26 : decode c_Mo_is 26 = .ok (.invokevirtual 100, 3) := by decide +kernel
theorem d_Mo_is_29 : decode c_Mo_is 29 = .ok (.if_icmp .eq 5, 3) := by decide +kernel
theorem d_Mo_is_32 : decode c_Mo_is 32 = .ok (.iconst 0, 1) := by decide +kernel
theorem d_Mo_is_33 : decode c_Mo_is 33 = .ok (.ireturn, 1) := by decide +kernel
theorem d_Mo_is_34 : decode c_Mo_is 34 = .ok (.iconst 0, 1) := by decide +kernel
theorem d_Mo_is_35 : decode c_Mo_is 35 = .ok (.istore_n 2, 1) := by decide +kernel
theorem d_Mo_is_36 : decode c_Mo_is 36 = .ok (.iload_n 2, 1) := by decide +kernel
theorem d_Mo_is_37 : decode c_Mo_is 37 = .ok (.aload_n 1, 1) := by decide +kernel
theorem d_Mo_is_38 : decode c_Mo_is 38 = .ok (.invokevirtual 100, 3) := by decide +kernel
theorem d_Mo_is_41 : decode c_Mo_is 41 = .ok (.if_icmp .ge 30, 3) := by decide +kernel
theorem d_Mo_is_44 : decode c_Mo_is 44 = .ok (.aload_n 0, 1) := by decide +kernel
theorem d_Mo_is_45 : decode c_Mo_is 45 = .ok (.getfield 9, 3) := by decide +kernel
theorem d_Mo_is_48 : decode c_Mo_is 48 = .ok (.aload_n 0, 1) := by decide +kernel
theorem d_Mo_is_49 : decode c_Mo_is 49 = .ok (.getfield 46, 3) := by decide +kernel
theorem d_Mo_is_52 : decode c_Mo_is 52 = .ok (.iload_n 2, 1) := by decide +kernel
theorem d_Mo_is_53 : decode c_Mo_is 53 = .ok (.iadd, 1) := by decide +kernel
theorem d_Mo_is_54 : decode c_Mo_is 54 = .ok (.baload, 1) := by decide +kernel
theorem d_Mo_is_55 : decode c_Mo_is 55 = .ok (.aload_n 1, 1) := by decide +kernel
theorem d_Mo_is_56 : decode c_Mo_is 56 = .ok (.iload_n 2, 1) := by decide +kernel
theorem d_Mo_is_57 : decode c_Mo_is 57 = .ok (.invokevirtual 106, 3) := by decide +kernel
theorem d_Mo_is_60 : decode c_Mo_is 60 = .ok (.if_icmp .eq 5, 3) := by decide +kernel
theorem d_Mo_is_63 : decode c_Mo_is 63 = .ok (.iconst 0, 1) := by decide +kernel
theorem d_Mo_is_64 : decode c_Mo_is 64 = .ok (.ireturn, 1) := by decide +kernel
theorem d_Mo_is_65 : decode c_Mo_is 65 = .ok (.iinc 2 1, 3) := by decide +kernel
theorem d_Mo_is_68 : decode c_Mo_is 68 = .ok (.goto (-32), 3) := by decide +kernel
theorem d_Mo_is_71 : decode c_Mo_is 71 = .ok (.iconst 1, 1) := by decide +kernel
theorem d_Mo_is_72 : decode c_Mo_is 72 = .ok (.ireturn, 1) := by decide +kernel
theorem d_Mo_isDigit_0 : decode c_Mo_isDigit 0 = .ok (.iload_n 0, 1) := by decide +kernel
theorem d_Mo_isDigit_1 : decode c_Mo_isDigit 1 = .ok (.bipush 48, 2) := by decide +kernel
theorem d_Mo_isDigit_3 : decode c_Mo_isDigit 3 = .ok (.if_icmp .lt 13, 3) := by decide +kernel
theorem d_Mo_isDigit_6 : decode c_Mo_isDigit 6 = .ok (.iload_n 0, 1) := by decide +kernel
theorem d_Mo_isDigit_7 : decode c_Mo_isDigit 7 = .ok (.bipush 57, 2) := by decide +kernel
theorem d_Mo_isDigit_9 : decode c_Mo_isDigit 9 = .ok (.if_icmp .gt 7, 3) := by decide +kernel
theorem d_Mo_isDigit_12 : decode c_Mo_isDigit 12 = .ok (.iconst 1, 1) := by decide +kernel
theorem d_Mo_isDigit_13 : decode c_Mo_isDigit 13 = .ok (.goto 4, 3) := by decide +kernel
theorem d_Mo_isDigit_16 : decode c_Mo_isDigit 16 = .ok (.iconst 0, 1) := by decide +kernel
theorem d_Mo_isDigit_17 : decode c_Mo_isDigit 17 = .ok (.ireturn, 1) := by decide +kernel
theorem d_Mo_rule_0 : decode c_Mo_rule 0 = .ok (.aload_n 0, 1) := by decide +kernel
theorem d_Mo_rule_1 : decode c_Mo_rule 1 = .ok (.getfield 17, 3) := by decide +kernel
theorem d_Mo_rule_4 : decode c_Mo_rule 4 = .ok (.iconst 0, 1) := by decide +kernel
theorem d_Mo_rule_5 : decode c_Mo_rule 5 = .ok (.iaload, 1) := by decide +kernel
theorem d_Mo_rule_6 : decode c_Mo_rule 6 = .ok (.bipush 6, 2) := by decide +kernel
theorem d_Mo_rule_8 : decode c_Mo_rule 8 = .ok (.if_icmp .ne 8, 3) := by decide +kernel
theorem d_Mo_rule_11 : decode c_Mo_rule 11 = .ok (.aload_n 0, 1) := by decide +kernel
theorem d_Mo_rule_12 : decode c_Mo_rule 12 = .ok (.invokevirtual 113, 3) := by decide +kernel
theorem d_Mo_rule_15 : decode c_Mo_rule 15 = .ok (.ireturn, 1) := by decide +kernel
theorem d_Mo_rule_16 : decode c_Mo_rule 16 = .ok (.aload_n 0, 1) := by decide +kernel
theorem d_Mo_rule_17 : decode c_Mo_rule 17 = .ok (.getfield 17, 3) := by decide +kernel
theorem d_Mo_rule_20 : decode c_Mo_rule 20 = .ok (.iconst 0, 1) := by decide +kernel
theorem d_Mo_rule_21 : decode c_Mo_rule 21 = .ok (.dup2, 1) := by decide +kernel
theorem d_Mo_rule_22 : decode c_Mo_rule 22 = .ok (.iaload, 1) := by decide +kernel
theorem d_Mo_rule_23 : decode c_Mo_rule 23 = .ok (.iconst 1, 1) := by decide +kernel
theorem d_Mo_rule_24 : decode c_Mo_rule 24 = .ok (.iadd, 1) := by decide +kernel
theorem d_Mo_rule_25 : decode c_Mo_rule 25 = .ok (.iastore, 1) := by decide +kernel
theorem d_Mo_rule_26 : decode c_Mo_rule 26 = .ok (.aload_n 0, 1) := by decide +kernel
theorem d_Mo_rule_27 : decode c_Mo_rule 27 = .ok (.getfield 17, 3) := by decide +kernel
theorem d_Mo_rule_30 : decode c_Mo_rule 30 = .ok (.aload_n 0, 1) := by decide +kernel
theorem d_Mo_rule_31 : decode c_Mo_rule 31 = .ok (.getfield 17, 3) := by decide +kernel
theorem d_Mo_rule_34 : decode c_Mo_rule 34 = .ok (.iconst 0, 1) := by decide +kernel
theorem d_Mo_rule_35 : decode c_Mo_rule 35 = .ok (.iaload, 1) := by decide +kernel
theorem d_Mo_rule_36 : decode c_Mo_rule 36 = .ok (.aload_n 0, 1) := by decide +kernel
theorem d_Mo_rule_37 : decode c_Mo_rule 37 = .ok (.getfield 120, 3) := by decide +kernel
theorem d_Mo_rule_40 : decode c_Mo_rule 40 = .ok (.iastore, 1) := by decide +kernel
theorem d_Mo_rule_41 : decode c_Mo_rule 41 = .ok (.aload_n 0, 1) := by decide +kernel
theorem d_Mo_rule_42 : decode c_Mo_rule 42 = .ok (.getfield 120, 3) := by decide +kernel
theorem d_Mo_rule_45 : decode c_Mo_rule 45 = .ok (.istore_n 1, 1) := by decide +kernel
theorem d_Mo_rule_46 : decode c_Mo_rule 46 = .ok (.aload_n 0, 1) := by decide +kernel
theorem d_Mo_rule_47 : decode c_Mo_rule 47 = .ok (.iconst (-1), 1) := by decide +kernel
theorem d_Mo_rule_48 : decode c_Mo_rule 48 = .ok (.invokevirtual 138, 3) := by decide +kernel
theorem d_Mo_rule_51 : decode c_Mo_rule 51 = .ok (.aload_n 0, 1) := by decide +kernel
theorem d_Mo_rule_52 : decode c_Mo_rule 52 = .ok (.ldc 59, 2) := by decide +kernel
theorem d_Mo_rule_54 : decode c_Mo_rule 54 = .ok (.invokevirtual 61, 3) := by decide +kernel
theorem d_Mo_rule_57 : decode c_Mo_rule 57 = .ok (.ifCond .eq 53, 3) := by decide +kernel
theorem d_Mo_rule_60 : decode c_Mo_rule 60 = .ok (.aload_n 0, 1) := by decide +kernel
theorem d_Mo_rule_61 : decode c_Mo_rule 61 = .ok (.getfield 17, 3) := by decide +kernel
theorem d_Mo_rule_64 : decode c_Mo_rule 64 = .ok (.iload_n 1, 1) := by decide +kernel
theorem d_Mo_rule_65 : decode c_Mo_rule 65 = .ok (.iconst 0, 1) := by decide +kernel
theorem d_Mo_rule_66 : decode c_Mo_rule 66 = .ok (.iastore, 1) := by decide +kernel
theorem d_Mo_rule_67 : decode c_Mo_rule 67 = .ok (.aload_n 0, 1) := by decide +kernel
theorem d_Mo_rule_68 : decode c_Mo_rule 68 = .ok (.invokevirtual 117, 3) := by decide +kernel
theorem d_Mo_rule_71 : decode c_Mo_rule 71 = .ok (.aload_n 0, 1) := by decide +kernel
theorem d_Mo_rule_72 : decode c_Mo_rule 72 = .ok (.getfield 17, 3) := by decide +kernel
theorem d_Mo_rule_75 : decode c_Mo_rule 75 = .ok (.iload_n 1, 1) := by decide +kernel
theorem d_Mo_rule_76 : decode c_Mo_rule 76 = .ok (.dup2, 1) := by decide +kernel
theorem d_Mo_rule_77 : decode c_Mo_rule 77 = .ok (.iaload, 1) := by decide +kernel
theorem d_Mo_rule_78 : decode c_Mo_rule 78 = .ok (.iconst 1, 1) := by decide +kernel
theorem d_Mo_rule_79 : decode c_Mo_rule 79 = .ok (.iadd, 1) := by decide +kernel
theorem d_Mo_rule_80 : decode c_Mo_rule 80 = .ok (.iastore, 1) := by decide +kernel
theorem d_Mo_rule_81 : decode c_Mo_rule 81 = .ok (.aload_n 0, 1) := by decide +kernel
theorem d_Mo_rule_82 : decode c_Mo_rule 82 = .ok (.invokevirtual 142, 3) := by decide +kernel
theorem d_Mo_rule_85 : decode c_Mo_rule 85 = .ok (.ifCond .ne 5, 3) := by decide +kernel
theorem d_Mo_rule_88 : decode c_Mo_rule 88 = .ok (.iconst 0, 1) := by decide +kernel
theorem d_Mo_rule_89 : decode c_Mo_rule 89 = .ok (.ireturn, 1) := by decide +kernel
theorem d_Mo_rule_90 : decode c_Mo_rule 90 = .ok (.aload_n 0, 1) := by decide +kernel
theorem d_Mo_rule_91 : decode c_Mo_rule 91 = .ok (.ldc 69, 2) := by decide +kernel
theorem d_Mo_rule_93 : decode c_Mo_rule 93 = .ok (.invokevirtual 61, 3) := by decide +kernel
theorem d_Mo_rule_96 : decode c_Mo_rule 96 = .ok (.ifCond .ne (-29), 3) := by decide +kernel
theorem d_Mo_rule_99 : decode c_Mo_rule 99 = .ok (.aload_n 0, 1) := by decide +kernel
theorem d_Mo_rule_100 : decode c_Mo_rule 100 = .ok (.ldc 65, 2) := by decide +kernel
theorem d_Mo_rule_102 : decode c_Mo_rule 102 = .ok (.invokevirtual 145, 3) := by decide +kernel
theorem d_Mo_rule_105 : decode c_Mo_rule 105 = .ok (.ifCond .ne 5, 3) := by decide +kernel
theorem d_Mo_rule_108 : decode c_Mo_rule 108 = .ok (.iconst 0, 1) := by decide +kernel
theorem d_Mo_rule_109 : decode c_Mo_rule 109 = .ok (.ireturn, 1) := by decide +kernel
theorem d_Mo_rule_110 : decode c_Mo_rule 110 = .ok (.aload_n 0, 1) := by decide +kernel
theorem d_Mo_rule_111 : decode c_Mo_rule 111 = .ok (.getfield 120, 3) := by decide +kernel
theorem d_Mo_rule_114 : decode c_Mo_rule 114 = .ok (.istore_n 2, 1) := by decide +kernel
theorem d_Mo_rule_115 : decode c_Mo_rule 115 = .ok (.aload_n 0, 1) := by decide +kernel
theorem d_Mo_rule_116 : decode c_Mo_rule 116 = .ok (.iconst 0, 1) := by decide +kernel
theorem d_Mo_rule_117 : decode c_Mo_rule 117 = .ok (.invokevirtual 138, 3) := by decide +kernel
theorem d_Mo_rule_120 : decode c_Mo_rule 120 = .ok (.iconst 1, 1) := by decide +kernel
theorem d_Mo_rule_121 : decode c_Mo_rule 121 = .ok (.istore_n 3, 1) := by decide +kernel
theorem d_Mo_rule_122 : decode c_Mo_rule 122 = .ok (.iload_n 3, 1) := by decide +kernel
theorem d_Mo_rule_123 : decode c_Mo_rule 123 = .ok (.ifCond .eq 72, 3) := by decide +kernel
theorem d_Mo_rule_126 : decode c_Mo_rule 126 = .ok (.aload_n 0, 1) := by decide +kernel
theorem d_Mo_rule_127 : decode c_Mo_rule 127 = .ok (.getfield 17, 3) := by decide +kernel
theorem d_Mo_rule_130 : decode c_Mo_rule 130 = .ok (.iload_n 2, 1) := by decide +kernel
theorem d_Mo_rule_131 : decode c_Mo_rule 131 = .ok (.iaload, 1) := by decide +kernel
theorem d_Mo_rule_132 : decode c_Mo_rule 132 = .ok (.bipush 8, 2) := by decide +kernel
theorem d_Mo_rule_134 : decode c_Mo_rule 134 = .ok (.if_icmp .ne 8, 3) := by decide +kernel
theorem d_Mo_rule_137 : decode c_Mo_rule 137 = .ok (.aload_n 0, 1) := by decide +kernel
theorem d_Mo_rule_138 : decode c_Mo_rule 138 = .ok (.invokevirtual 113, 3) := by decide +kernel
theorem d_Mo_rule_141 : decode c_Mo_rule 141 = .ok (.ireturn, 1) := by decide +kernel
theorem d_Mo_rule_142 : decode c_Mo_rule 142 = .ok (.aload_n 0, 1) := by decide +kernel
theorem d_Mo_rule_143 : decode c_Mo_rule 143 = .ok (.getfield 17, 3) := by decide +kernel
theorem d_Mo_rule_146 : decode c_Mo_rule 146 = .ok (.iload_n 2, 1) := by decide +kernel
theorem d_Mo_rule_147 : decode c_Mo_rule 147 = .ok (.dup2, 1) := by decide +kernel
theorem d_Mo_rule_148 : decode c_Mo_rule 148 = .ok (.iaload, 1) := by decide +kernel
theorem d_Mo_rule_149 : decode c_Mo_rule 149 = .ok (.iconst 1, 1) := by decide +kernel
theorem d_Mo_rule_150 : decode c_Mo_rule 150 = .ok (.iadd, 1) := by decide +kernel
theorem d_Mo_rule_151 : decode c_Mo_rule 151 = .ok (.iastore, 1) := by decide +kernel
theorem d_Mo_rule_152 : decode c_Mo_rule 152 = .ok (.aload_n 0, 1) := by decide +kernel
theorem d_Mo_rule_153 : decode c_Mo_rule 153 = .ok (.invokevirtual 148, 3) := by decide +kernel
theorem d_Mo_rule_156 : decode c_Mo_rule 156 = .ok (.ifCond .eq 19, 3) := by decide +kernel
theorem d_Mo_rule_159 : decode c_Mo_rule 159 = .ok (.aload_n 0, 1) := by decide +kernel
theorem d_Mo_rule_160 : decode c_Mo_rule 160 = .ok (.ldc 151, 2) := by decide +kernel
theorem d_Mo_rule_162 : decode c_Mo_rule 162 = .ok (.invokevirtual 145, 3) := by decide +kernel
theorem d_Mo_rule_165 : decode c_Mo_rule 165 = .ok (.ifCond .eq 10, 3) := by decide +kernel
theorem d_Mo_rule_168 : decode c_Mo_rule 168 = .ok (.aload_n 0, 1) := by decide +kernel
theorem d_Mo_rule_169 : decode c_Mo_rule 169 = .ok (.invokevirtual 153, 3) := by decide +kernel
theorem d_Mo_rule_172 : decode c_Mo_rule 172 = .ok (.ifCond .ne 5, 3) := by decide +kernel
theorem d_Mo_rule_175 : decode c_Mo_rule 175 = .ok (.iconst 0, 1) := by decide +kernel
theorem d_Mo_rule_176 : decode c_Mo_rule 176 = .ok (.ireturn, 1) := by decide +kernel
theorem d_Mo_rule_177 : decode c_Mo_rule 177 = .ok (.aload_n 0, 1) := by decide +kernel
theorem d_Mo_rule_178 : decode c_Mo_rule 178 = .ok (.ldc 156, 2) := by decide +kernel
theorem d_Mo_rule_180 : decode c_Mo_rule 180 = .ok (.invokevirtual 61, 3) := by decide +kernel
theorem d_Mo_rule_183 : decode c_Mo_rule 183 = .ok (.istore_n 3, 1) := by decide +kernel
theorem d_Mo_rule_184 : decode c_Mo_rule 184 = .ok (.iload_n 3, 1) := by decide +kernel
theorem d_Mo_rule_185 : decode c_Mo_rule 185 = .ok (.ifCond .eq (-63), 3) := by decide +kernel
theorem d_Mo_rule_188 : decode c_Mo_rule 188 = .ok (.aload_n 0, 1) := by decide +kernel
theorem d_Mo_rule_189 : decode c_Mo_rule 189 = .ok (.invokevirtual 117, 3) := by decide +kernel
theorem d_Mo_rule_192 : decode c_Mo_rule 192 = .ok (.goto (-70), 3) := by decide +kernel
theorem d_Mo_rule_195 : decode c_Mo_rule 195 = .ok (.iconst 1, 1) := by decide +kernel
theorem d_Mo_rule_196 : decode c_Mo_rule 196 = .ok (.ireturn, 1) := by decide +kernel
theorem d_Mo_bad_0 : decode c_Mo_bad 0 = .ok (.aload_n 0, 1) := by decide +kernel
theorem d_Mo_bad_1 : decode c_Mo_bad 1 = .ok (.getfield 110, 3) := by decide +kernel
theorem d_Mo_bad_4 : decode c_Mo_bad 4 = .ok (.ifCond .ge 11, 3) := by decide +kernel
theorem d_Mo_bad_7 : decode c_Mo_bad 7 = .ok (.aload_n 0, 1) := by decide +kernel
theorem d_Mo_bad_8 : decode c_Mo_bad 8 = .ok (.aload_n 0, 1) := by decide +kernel
theorem d_Mo_bad_9 : decode c_Mo_bad 9 = .ok (.getfield 46, 3) := by decide +kernel
theorem d_Mo_bad_12 : decode c_Mo_bad 12 = .ok (.putfield 110, 3) := by decide +kernel
theorem d_Mo_bad_15 : decode c_Mo_bad 15 = .ok (.iconst 0, 1) := by decide +kernel
theorem d_Mo_bad_16 : decode c_Mo_bad 16 = .ok (.ireturn, 1) := by decide +kernel
theorem d_Mo_put_0 : decode c_Mo_put 0 = .ok (.aload_n 0, 1) := by decide +kernel
theorem d_Mo_put_1 : decode c_Mo_put 1 = .ok (.getfield 17, 3) := by decide +kernel
theorem d_Mo_put_4 : decode c_Mo_put 4 = .ok (.aload_n 0, 1) := by decide +kernel
theorem d_Mo_put_5 : decode c_Mo_put 5 = .ok (.getfield 120, 3) := by decide +kernel
theorem d_Mo_put_8 : decode c_Mo_put 8 = .ok (.iload_n 1, 1) := by decide +kernel
theorem d_Mo_put_9 : decode c_Mo_put 9 = .ok (.iastore, 1) := by decide +kernel
theorem d_Mo_put_10 : decode c_Mo_put 10 = .ok (.aload_n 0, 1) := by decide +kernel
theorem d_Mo_put_11 : decode c_Mo_put 11 = .ok (.dup, 1) := by decide +kernel
theorem d_Mo_put_12 : decode c_Mo_put 12 = .ok (.getfield 120, 3) := by decide +kernel
theorem d_Mo_put_15 : decode c_Mo_put 15 = .ok (.iconst 1, 1) := by decide +kernel
theorem d_Mo_put_16 : decode c_Mo_put 16 = .ok (.iadd, 1) := by decide +kernel
theorem d_Mo_put_17 : decode c_Mo_put 17 = .ok (.putfield 120, 3) := by decide +kernel
theorem d_Mo_put_20 : decode c_Mo_put 20 = .ok (.return_, 1) := by decide +kernel
theorem d_Mo_compare_0 : decode c_Mo_compare 0 = .ok (.aload_n 0, 1) := by decide +kernel
theorem d_Mo_compare_1 : decode c_Mo_compare 1 = .ok (.getfield 120, 3) := by decide +kernel
theorem d_Mo_compare_4 : decode c_Mo_compare 4 = .ok (.istore_n 1, 1) := by decide +kernel
theorem d_Mo_compare_5 : decode c_Mo_compare 5 = .ok (.aload_n 0, 1) := by decide +kernel
theorem d_Mo_compare_6 : decode c_Mo_compare 6 = .ok (.iconst 0, 1) := by decide +kernel
theorem d_Mo_compare_7 : decode c_Mo_compare 7 = .ok (.invokevirtual 138, 3) := by decide +kernel
theorem d_Mo_compare_10 : decode c_Mo_compare 10 = .ok (.aload_n 0, 1) := by decide +kernel
theorem d_Mo_compare_11 : decode c_Mo_compare 11 = .ok (.invokevirtual 153, 3) := by decide +kernel
theorem d_Mo_compare_14 : decode c_Mo_compare 14 = .ok (.ifCond .ne 5, 3) := by decide +kernel
theorem d_Mo_compare_17 : decode c_Mo_compare 17 = .ok (.iconst 0, 1) := by decide +kernel
theorem d_Mo_compare_18 : decode c_Mo_compare 18 = .ok (.ireturn, 1) := by decide +kernel
theorem d_Mo_compare_19 : decode c_Mo_compare 19 = .ok (.aload_n 0, 1) := by decide +kernel
theorem d_Mo_compare_20 : decode c_Mo_compare 20 = .ok (.ldc 160, 2) := by decide +kernel
theorem d_Mo_compare_22 : decode c_Mo_compare 22 = .ok (.invokevirtual 61, 3) := by decide +kernel
theorem d_Mo_compare_25 : decode c_Mo_compare 25 = .ok (.ifCond .ne 35, 3) := by decide +kernel
theorem d_Mo_compare_28 : decode c_Mo_compare 28 = .ok (.aload_n 0, 1) := by decide +kernel
theorem d_Mo_compare_29 : decode c_Mo_compare 29 = .ok (.ldc 162, 2) := by decide +kernel
theorem d_Mo_compare_31 : decode c_Mo_compare 31 = .ok (.invokevirtual 61, 3) := by decide +kernel
theorem d_Mo_compare_34 : decode c_Mo_compare 34 = .ok (.ifCond .ne 26, 3) := by decide +kernel
theorem d_Mo_compare_37 : decode c_Mo_compare 37 = .ok (.aload_n 0, 1) := by decide +kernel
theorem d_Mo_compare_38 : decode c_Mo_compare 38 = .ok (.ldc 164, 2) := by decide +kernel
theorem d_Mo_compare_40 : decode c_Mo_compare 40 = .ok (.invokevirtual 61, 3) := by decide +kernel
theorem d_Mo_compare_43 : decode c_Mo_compare 43 = .ok (.ifCond .ne 17, 3) := by decide +kernel
theorem d_Mo_compare_46 : decode c_Mo_compare 46 = .ok (.aload_n 0, 1) := by decide +kernel
theorem d_Mo_compare_47 : decode c_Mo_compare 47 = .ok (.ldc 166, 2) := by decide +kernel
theorem d_Mo_compare_49 : decode c_Mo_compare 49 = .ok (.invokevirtual 61, 3) := by decide +kernel
theorem d_Mo_compare_52 : decode c_Mo_compare 52 = .ok (.ifCond .ne 8, 3) := by decide +kernel
theorem d_Mo_compare_55 : decode c_Mo_compare 55 = .ok (.aload_n 0, 1) := by decide +kernel
theorem d_Mo_compare_56 : decode c_Mo_compare 56 = .ok (.invokevirtual 113, 3) := by decide +kernel
theorem d_Mo_compare_59 : decode c_Mo_compare 59 = .ok (.ireturn, 1) := by decide +kernel
theorem d_Mo_compare_60 : decode c_Mo_compare 60 = .ok (.aload_n 0, 1) := by decide +kernel
theorem d_Mo_compare_61 : decode c_Mo_compare 61 = .ok (.getfield 17, 3) := by decide +kernel
theorem d_Mo_compare_64 : decode c_Mo_compare 64 = .ok (.iload_n 1, 1) := by decide +kernel
theorem d_Mo_compare_65 : decode c_Mo_compare 65 = .ok (.aload_n 0, 1) := by decide +kernel
theorem d_Mo_compare_66 : decode c_Mo_compare 66 = .ok (.getfield 9, 3) := by decide +kernel
theorem d_Mo_compare_69 : decode c_Mo_compare 69 = .ok (.aload_n 0, 1) := by decide +kernel
theorem d_Mo_compare_70 : decode c_Mo_compare 70 = .ok (.getfield 46, 3) := by decide +kernel
theorem d_Mo_compare_73 : decode c_Mo_compare 73 = .ok (.baload, 1) := by decide +kernel
theorem d_Mo_compare_74 : decode c_Mo_compare 74 = .ok (.iastore, 1) := by decide +kernel
end
section
theorem d_Mo_compare_75 : decode c_Mo_compare 75 = .ok (.aload_n 0, 1) := by decide +kernel
theorem d_Mo_compare_76 : decode c_Mo_compare 76 = .ok (.invokevirtual 117, 3) := by decide +kernel
theorem d_Mo_compare_79 : decode c_Mo_compare 79 = .ok (.aload_n 0, 1) := by decide +kernel
theorem d_Mo_compare_80 : decode c_Mo_compare 80 = .ok (.invokevirtual 153, 3) := by decide +kernel
theorem d_Mo_compare_83 : decode c_Mo_compare 83 = .ok (.ireturn, 1) := by decide +kernel
theorem d_Mo_whole_0 : decode c_Mo_whole 0 = .ok (.aload_n 0, 1) := by decide +kernel
theorem d_Mo_whole_1 : decode c_Mo_whole 1 = .ok (.iconst 0, 1) := by decide +kernel
theorem d_Mo_whole_2 : decode c_Mo_whole 2 = .ok (.invokevirtual 168, 3) := by decide +kernel
theorem d_Mo_whole_5 : decode c_Mo_whole 5 = .ok (.ifCond .ne 5, 3) := by decide +kernel
theorem d_Mo_whole_8 : decode c_Mo_whole 8 = .ok (.iconst 0, 1) := by decide +kernel
theorem d_Mo_whole_9 : decode c_Mo_whole 9 = .ok (.ireturn, 1) := by decide +kernel
theorem d_Mo_whole_10 : decode c_Mo_whole 10 = .ok (.aload_n 0, 1) := by decide +kernel
theorem d_Mo_whole_11 : decode c_Mo_whole 11 = .ok (.bipush 7, 2) := by decide +kernel
theorem d_Mo_whole_13 : decode c_Mo_whole 13 = .ok (.invokevirtual 138, 3) := by decide +kernel
theorem d_Mo_whole_16 : decode c_Mo_whole 16 = .ok (.iconst 1, 1) := by decide +kernel
theorem d_Mo_whole_17 : decode c_Mo_whole 17 = .ok (.ireturn, 1) := by decide +kernel
theorem d_Mo_sum_0 : decode c_Mo_sum 0 = .ok (.aload_n 0, 1) := by decide +kernel
theorem d_Mo_sum_1 : decode c_Mo_sum 1 = .ok (.iload_n 1, 1) := by decide +kernel
theorem d_Mo_sum_2 : decode c_Mo_sum 2 = .ok (.invokevirtual 171, 3) := by decide +kernel
theorem d_Mo_sum_5 : decode c_Mo_sum 5 = .ok (.ifCond .ne 5, 3) := by decide +kernel
theorem d_Mo_sum_8 : decode c_Mo_sum 8 = .ok (.iconst 0, 1) := by decide +kernel
theorem d_Mo_sum_9 : decode c_Mo_sum 9 = .ok (.ireturn, 1) := by decide +kernel
theorem d_Mo_sum_10 : decode c_Mo_sum 10 = .ok (.aload_n 0, 1) := by decide +kernel
theorem d_Mo_sum_11 : decode c_Mo_sum 11 = .ok (.ldc 174, 2) := by decide +kernel
theorem d_Mo_sum_13 : decode c_Mo_sum 13 = .ok (.invokevirtual 61, 3) := by decide +kernel
theorem d_Mo_sum_16 : decode c_Mo_sum 16 = .ok (.ifCond .ne 12, 3) := by decide +kernel
theorem d_Mo_sum_19 : decode c_Mo_sum 19 = .ok (.aload_n 0, 1) := by decide +kernel
theorem d_Mo_sum_20 : decode c_Mo_sum 20 = .ok (.ldc 176, 2) := by decide +kernel
theorem d_Mo_sum_22 : decode c_Mo_sum 22 = .ok (.invokevirtual 61, 3) := by decide +kernel
theorem d_Mo_sum_25 : decode c_Mo_sum 25 = .ok (.ifCond .eq 40, 3) := by decide +kernel
theorem d_Mo_sum_28 : decode c_Mo_sum 28 = .ok (.aload_n 0, 1) := by decide +kernel
theorem d_Mo_sum_29 : decode c_Mo_sum 29 = .ok (.ldc 174, 2) := by decide +kernel
theorem d_Mo_sum_31 : decode c_Mo_sum 31 = .ok (.invokevirtual 61, 3) := by decide +kernel
theorem d_Mo_sum_34 : decode c_Mo_sum 34 = .ok (.ifCond .eq 7, 3) := by decide +kernel
theorem d_Mo_sum_37 : decode c_Mo_sum 37 = .ok (.iconst 4, 1) := by decide +kernel
theorem d_Mo_sum_38 : decode c_Mo_sum 38 = .ok (.goto 4, 3) := by decide +kernel
theorem d_Mo_sum_41 : decode c_Mo_sum 41 = .ok (.iconst 5, 1) := by decide +kernel
theorem d_Mo_sum_42 : decode c_Mo_sum 42 = .ok (.istore_n 2, 1) := by decide +kernel
theorem d_Mo_sum_43 : decode c_Mo_sum 43 = .ok (.aload_n 0, 1) := by decide +kernel
theorem d_Mo_sum_44 : decode c_Mo_sum 44 = .ok (.invokevirtual 117, 3) := by decide +kernel
theorem d_Mo_sum_47 : decode c_Mo_sum 47 = .ok (.aload_n 0, 1) := by decide +kernel
theorem d_Mo_sum_48 : decode c_Mo_sum 48 = .ok (.iload_n 1, 1) := by decide +kernel
theorem d_Mo_sum_49 : decode c_Mo_sum 49 = .ok (.invokevirtual 171, 3) := by decide +kernel
theorem d_Mo_sum_52 : decode c_Mo_sum 52 = .ok (.ifCond .ne 5, 3) := by decide +kernel
theorem d_Mo_sum_55 : decode c_Mo_sum 55 = .ok (.iconst 0, 1) := by decide +kernel
theorem d_Mo_sum_56 : decode c_Mo_sum 56 = .ok (.ireturn, 1) := by decide +kernel
theorem d_Mo_sum_57 : decode c_Mo_sum 57 = .ok (.aload_n 0, 1) := by decide +kernel
theorem d_Mo_sum_58 : decode c_Mo_sum 58 = .ok (.iload_n 2, 1) := by decide +kernel
theorem d_Mo_sum_59 : decode c_Mo_sum 59 = .ok (.invokevirtual 138, 3) := by decide +kernel
theorem d_Mo_sum_62 : decode c_Mo_sum 62 = .ok (.goto (-52), 3) := by decide +kernel
theorem d_Mo_sum_65 : decode c_Mo_sum 65 = .ok (.iconst 1, 1) := by decide +kernel
theorem d_Mo_sum_66 : decode c_Mo_sum 66 = .ok (.ireturn, 1) := by decide +kernel
theorem d_Mo_term_0 : decode c_Mo_term 0 = .ok (.aload_n 0, 1) := by decide +kernel
theorem d_Mo_term_1 : decode c_Mo_term 1 = .ok (.iload_n 1, 1) := by decide +kernel
theorem d_Mo_term_2 : decode c_Mo_term 2 = .ok (.invokevirtual 178, 3) := by decide +kernel
theorem d_Mo_term_5 : decode c_Mo_term 5 = .ok (.ifCond .ne 5, 3) := by decide +kernel
theorem d_Mo_term_8 : decode c_Mo_term 8 = .ok (.iconst 0, 1) := by decide +kernel
theorem d_Mo_term_9 : decode c_Mo_term 9 = .ok (.ireturn, 1) := by decide +kernel
theorem d_Mo_term_10 : decode c_Mo_term 10 = .ok (.aload_n 0, 1) := by decide +kernel
theorem d_Mo_term_11 : decode c_Mo_term 11 = .ok (.ldc 181, 2) := by decide +kernel
theorem d_Mo_term_13 : decode c_Mo_term 13 = .ok (.invokevirtual 61, 3) := by decide +kernel
theorem d_Mo_term_16 : decode c_Mo_term 16 = .ok (.ifCond .eq 26, 3) := by decide +kernel
theorem d_Mo_term_19 : decode c_Mo_term 19 = .ok (.aload_n 0, 1) := by decide +kernel
theorem d_Mo_term_20 : decode c_Mo_term 20 = .ok (.invokevirtual 117, 3) := by decide +kernel
theorem d_Mo_term_23 : decode c_Mo_term 23 = .ok (.aload_n 0, 1) := by decide +kernel
theorem d_Mo_term_24 : decode c_Mo_term 24 = .ok (.iload_n 1, 1) := by decide +kernel
theorem d_Mo_term_25 : decode c_Mo_term 25 = .ok (.invokevirtual 178, 3) := by decide +kernel
theorem d_Mo_term_28 : decode c_Mo_term 28 = .ok (.ifCond .ne 5, 3) := by decide +kernel
theorem d_Mo_term_31 : decode c_Mo_term 31 = .ok (.iconst 0, 1) := by decide +kernel
theorem d_Mo_term_32 : decode c_Mo_term 32 = .ok (.ireturn, 1) := by decide +kernel
theorem d_Mo_term_33 : decode c_Mo_term 33 = .ok (.aload_n 0, 1) := by decide +kernel
theorem d_Mo_term_34 : decode c_Mo_term 34 = .ok (.bipush 6, 2) := by decide +kernel
theorem d_Mo_term_36 : decode c_Mo_term 36 = .ok (.invokevirtual 138, 3) := by decide +kernel
theorem d_Mo_term_39 : decode c_Mo_term 39 = .ok (.goto (-29), 3) := by decide +kernel
theorem d_Mo_term_42 : decode c_Mo_term 42 = .ok (.iconst 1, 1) := by decide +kernel
theorem d_Mo_term_43 : decode c_Mo_term 43 = .ok (.ireturn, 1) := by decide +kernel
theorem d_Mo_part_0 : decode c_Mo_part 0 = .ok (.aload_n 0, 1) := by decide +kernel
theorem d_Mo_part_1 : decode c_Mo_part 1 = .ok (.ldc 183, 2) := by decide +kernel
theorem d_Mo_part_3 : decode c_Mo_part 3 = .ok (.invokevirtual 61, 3) := by decide +kernel
theorem d_Mo_part_6 : decode c_Mo_part 6 = .ok (.ifCond .eq 43, 3) := by decide +kernel
theorem d_Mo_part_9 : decode c_Mo_part 9 = .ok (.iload_n 1, 1) := by decide +kernel
theorem d_Mo_part_10 : decode c_Mo_part 10 = .ok (.bipush 6, 2) := by decide +kernel
theorem d_Mo_part_12 : decode c_Mo_part 12 = .ok (.if_icmp .ne 8, 3) := by decide +kernel
theorem d_Mo_part_15 : decode c_Mo_part 15 = .ok (.aload_n 0, 1) := by decide +kernel
theorem d_Mo_part_16 : decode c_Mo_part 16 = .ok (.invokevirtual 113, 3) := by decide +kernel
theorem d_Mo_part_19 : decode c_Mo_part 19 = .ok (.ireturn, 1) := by decide +kernel
theorem d_Mo_part_20 : decode c_Mo_part 20 = .ok (.aload_n 0, 1) := by decide +kernel
theorem d_Mo_part_21 : decode c_Mo_part 21 = .ok (.invokevirtual 117, 3) := by decide +kernel
theorem d_Mo_part_24 : decode c_Mo_part 24 = .ok (.aload_n 0, 1) := by decide +kernel
theorem d_Mo_part_25 : decode c_Mo_part 25 = .ok (.iload_n 1, 1) := by decide +kernel
theorem d_Mo_part_26 : decode c_Mo_part 26 = .ok (.iconst 1, 1) := by decide +kernel
theorem d_Mo_part_27 : decode c_Mo_part 27 = .ok (.iadd, 1) := by decide +kernel
theorem d_Mo_part_28 : decode c_Mo_part 28 = .ok (.invokevirtual 168, 3) := by decide +kernel
theorem d_Mo_part_31 : decode c_Mo_part 31 = .ok (.ifCond .eq 16, 3) := by decide +kernel
theorem d_Mo_part_34 : decode c_Mo_part 34 = .ok (.aload_n 0, 1) := by decide +kernel
theorem d_Mo_part_35 : decode c_Mo_part 35 = .ok (.ldc 185, 2) := by decide +kernel
theorem d_Mo_part_37 : decode c_Mo_part 37 = .ok (.invokevirtual 145, 3) := by decide +kernel
theorem d_Mo_part_40 : decode c_Mo_part 40 = .ok (.ifCond .eq 7, 3) := by decide +kernel
theorem d_Mo_part_43 : decode c_Mo_part 43 = .ok (.iconst 1, 1) := by decide +kernel
theorem d_Mo_part_44 : decode c_Mo_part 44 = .ok (.goto 4, 3) := by decide +kernel
theorem d_Mo_part_47 : decode c_Mo_part 47 = .ok (.iconst 0, 1) := by decide +kernel
theorem d_Mo_part_48 : decode c_Mo_part 48 = .ok (.ireturn, 1) := by decide +kernel
theorem d_Mo_part_49 : decode c_Mo_part 49 = .ok (.aload_n 0, 1) := by decide +kernel
theorem d_Mo_part_50 : decode c_Mo_part 50 = .ok (.getfield 49, 3) := by decide +kernel
theorem d_Mo_part_53 : decode c_Mo_part 53 = .ok (.iconst 2, 1) := by decide +kernel
theorem d_Mo_part_54 : decode c_Mo_part 54 = .ok (.if_icmp .eq 30, 3) := by decide +kernel
theorem d_Mo_part_57 : decode c_Mo_part 57 = .ok (.aload_n 0, 1) := by decide +kernel
theorem d_Mo_part_58 : decode c_Mo_part 58 = .ok (.ldc 75, 2) := by decide +kernel
theorem d_Mo_part_60 : decode c_Mo_part 60 = .ok (.invokevirtual 61, 3) := by decide +kernel
theorem d_Mo_part_63 : decode c_Mo_part 63 = .ok (.ifCond .ne 21, 3) := by decide +kernel
theorem d_Mo_part_66 : decode c_Mo_part 66 = .ok (.aload_n 0, 1) := by decide +kernel
theorem d_Mo_part_67 : decode c_Mo_part 67 = .ok (.ldc 71, 2) := by decide +kernel
theorem d_Mo_part_69 : decode c_Mo_part 69 = .ok (.invokevirtual 61, 3) := by decide +kernel
theorem d_Mo_part_72 : decode c_Mo_part 72 = .ok (.ifCond .ne 12, 3) := by decide +kernel
theorem d_Mo_part_75 : decode c_Mo_part 75 = .ok (.aload_n 0, 1) := by decide +kernel
theorem d_Mo_part_76 : decode c_Mo_part 76 = .ok (.ldc 73, 2) := by decide +kernel
theorem d_Mo_part_78 : decode c_Mo_part 78 = .ok (.invokevirtual 61, 3) := by decide +kernel
theorem d_Mo_part_81 : decode c_Mo_part 81 = .ok (.ifCond .eq 12, 3) := by decide +kernel
theorem d_Mo_part_84 : decode c_Mo_part 84 = .ok (.aload_n 0, 1) := by decide +kernel
theorem d_Mo_part_85 : decode c_Mo_part 85 = .ok (.getfield 123, 3) := by decide +kernel
theorem d_Mo_part_88 : decode c_Mo_part 88 = .ok (.bipush 80, 2) := by decide +kernel
theorem d_Mo_part_90 : decode c_Mo_part 90 = .ok (.if_icmp .ne 8, 3) := by decide +kernel
theorem d_Mo_part_93 : decode c_Mo_part 93 = .ok (.aload_n 0, 1) := by decide +kernel
theorem d_Mo_part_94 : decode c_Mo_part 94 = .ok (.invokevirtual 113, 3) := by decide +kernel
theorem d_Mo_part_97 : decode c_Mo_part 97 = .ok (.ireturn, 1) := by decide +kernel
theorem d_Mo_part_98 : decode c_Mo_part 98 = .ok (.aload_n 0, 1) := by decide +kernel
theorem d_Mo_part_99 : decode c_Mo_part 99 = .ok (.dup, 1) := by decide +kernel
theorem d_Mo_part_100 : decode c_Mo_part 100 = .ok (.getfield 123, 3) := by decide +kernel
theorem d_Mo_part_103 : decode c_Mo_part 103 = .ok (.iconst 1, 1) := by decide +kernel
theorem d_Mo_part_104 : decode c_Mo_part 104 = .ok (.iadd, 1) := by decide +kernel
theorem d_Mo_part_105 : decode c_Mo_part 105 = .ok (.putfield 123, 3) := by decide +kernel
theorem d_Mo_part_108 : decode c_Mo_part 108 = .ok (.aload_n 0, 1) := by decide +kernel
theorem d_Mo_part_109 : decode c_Mo_part 109 = .ok (.ldc 75, 2) := by decide +kernel
theorem d_Mo_part_111 : decode c_Mo_part 111 = .ok (.invokevirtual 61, 3) := by decide +kernel
theorem d_Mo_part_114 : decode c_Mo_part 114 = .ok (.ifCond .eq 13, 3) := by decide +kernel
theorem d_Mo_part_117 : decode c_Mo_part 117 = .ok (.aload_n 0, 1) := by decide +kernel
theorem d_Mo_part_118 : decode c_Mo_part 118 = .ok (.iconst 1, 1) := by decide +kernel
theorem d_Mo_part_119 : decode c_Mo_part 119 = .ok (.invokevirtual 138, 3) := by decide +kernel
theorem d_Mo_part_122 : decode c_Mo_part 122 = .ok (.aload_n 0, 1) := by decide +kernel
theorem d_Mo_part_123 : decode c_Mo_part 123 = .ok (.invokevirtual 148, 3) := by decide +kernel
theorem d_Mo_part_126 : decode c_Mo_part 126 = .ok (.ireturn, 1) := by decide +kernel
theorem d_Mo_part_127 : decode c_Mo_part 127 = .ok (.aload_n 0, 1) := by decide +kernel
theorem d_Mo_part_128 : decode c_Mo_part 128 = .ok (.getfield 49, 3) := by decide +kernel
theorem d_Mo_part_131 : decode c_Mo_part 131 = .ok (.iconst 2, 1) := by decide +kernel
theorem d_Mo_part_132 : decode c_Mo_part 132 = .ok (.if_icmp .ne 20, 3) := by decide +kernel
theorem d_Mo_part_135 : decode c_Mo_part 135 = .ok (.aload_n 0, 1) := by decide +kernel
theorem d_Mo_part_136 : decode c_Mo_part 136 = .ok (.iconst 0, 1) := by decide +kernel
theorem d_Mo_part_137 : decode c_Mo_part 137 = .ok (.invokevirtual 138, 3) := by decide +kernel
theorem d_Mo_part_140 : decode c_Mo_part 140 = .ok (.aload_n 0, 1) := by decide +kernel
theorem d_Mo_part_141 : decode c_Mo_part 141 = .ok (.aload_n 0, 1) := by decide +kernel
theorem d_Mo_part_142 : decode c_Mo_part 142 = .ok (.getfield 80, 3) := by decide +kernel
theorem d_Mo_part_145 : decode c_Mo_part 145 = .ok (.l2i, 1) := by decide +kernel
theorem d_Mo_part_146 : decode c_Mo_part 146 = .ok (.invokevirtual 138, 3) := by decide +kernel
theorem d_Mo_part_149 : decode c_Mo_part 149 = .ok (.goto 21, 3) := by decide +kernel
theorem d_Mo_part_152 : decode c_Mo_part 152 = .ok (.aload_n 0, 1) := by decide +kernel
theorem d_Mo_part_153 : decode c_Mo_part 153 = .ok (.aload_n 0, 1) := by decide +kernel
theorem d_Mo_part_154 : decode c_Mo_part 154 = .ok (.ldc 71, 2) := by decide +kernel
theorem d_Mo_part_156 : decode c_Mo_part 156 = .ok (.invokevirtual 61, 3) := by decide +kernel
theorem d_Mo_part_159 : decode c_Mo_part 159 = .ok (.ifCond .eq 7, 3) := by decide +kernel
theorem d_Mo_part_162 : decode c_Mo_part 162 = .ok (.iconst 2, 1) := by decide +kernel
theorem d_Mo_part_163 : decode c_Mo_part 163 = .ok (.goto 4, 3) := by decide +kernel
theorem d_Mo_part_166 : decode c_Mo_part 166 = .ok (.iconst 3, 1) := by decide +kernel
theorem d_Mo_part_167 : decode c_Mo_part 167 = .ok (.invokevirtual 138, 3) := by decide +kernel
theorem d_Mo_part_170 : decode c_Mo_part 170 = .ok (.aload_n 0, 1) := by decide +kernel
theorem d_Mo_part_171 : decode c_Mo_part 171 = .ok (.invokevirtual 117, 3) := by decide +kernel
theorem d_Mo_part_174 : decode c_Mo_part 174 = .ok (.iconst 1, 1) := by decide +kernel
theorem d_Mo_part_175 : decode c_Mo_part 175 = .ok (.ireturn, 1) := by decide +kernel
theorem d_Mo_take_0 : decode c_Mo_take 0 = .ok (.aload_n 0, 1) := by decide +kernel
theorem d_Mo_take_1 : decode c_Mo_take 1 = .ok (.aload_n 1, 1) := by decide +kernel
theorem d_Mo_take_2 : decode c_Mo_take 2 = .ok (.invokevirtual 61, 3) := by decide +kernel
theorem d_Mo_take_5 : decode c_Mo_take 5 = .ok (.ifCond .ne 8, 3) := by decide +kernel
theorem d_Mo_take_8 : decode c_Mo_take 8 = .ok (.aload_n 0, 1) := by decide +kernel
theorem d_Mo_take_9 : decode c_Mo_take 9 = .ok (.invokevirtual 113, 3) := by decide +kernel
theorem d_Mo_take_12 : decode c_Mo_take 12 = .ok (.ireturn, 1) := by decide +kernel
theorem d_Mo_take_13 : decode c_Mo_take 13 = .ok (.aload_n 0, 1) := by decide +kernel
theorem d_Mo_take_14 : decode c_Mo_take 14 = .ok (.invokevirtual 117, 3) := by decide +kernel
theorem d_Mo_take_17 : decode c_Mo_take 17 = .ok (.iconst 1, 1) := by decide +kernel
theorem d_Mo_take_18 : decode c_Mo_take 18 = .ok (.ireturn, 1) := by decide +kernel
theorem d_Mo_cellZ_0 : decode c_Mo_cellZ 0 = .ok (.aload_n 0, 1) := by decide +kernel
theorem d_Mo_cellZ_1 : decode c_Mo_cellZ 1 = .ok (.ldc 75, 2) := by decide +kernel
theorem d_Mo_cellZ_3 : decode c_Mo_cellZ 3 = .ok (.invokevirtual 145, 3) := by decide +kernel
theorem d_Mo_cellZ_6 : decode c_Mo_cellZ 6 = .ok (.ifCond .ne 5, 3) := by decide +kernel
theorem d_Mo_cellZ_9 : decode c_Mo_cellZ 9 = .ok (.iconst 0, 1) := by decide +kernel
theorem d_Mo_cellZ_10 : decode c_Mo_cellZ 10 = .ok (.ireturn, 1) := by decide +kernel
theorem d_Mo_cellZ_11 : decode c_Mo_cellZ 11 = .ok (.aload_n 0, 1) := by decide +kernel
theorem d_Mo_cellZ_12 : decode c_Mo_cellZ 12 = .ok (.getfield 49, 3) := by decide +kernel
theorem d_Mo_cellZ_15 : decode c_Mo_cellZ 15 = .ok (.iconst 2, 1) := by decide +kernel
theorem d_Mo_cellZ_16 : decode c_Mo_cellZ 16 = .ok (.if_icmp .ne 14, 3) := by decide +kernel
theorem d_Mo_cellZ_19 : decode c_Mo_cellZ 19 = .ok (.aload_n 0, 1) := by decide +kernel
theorem d_Mo_cellZ_20 : decode c_Mo_cellZ 20 = .ok (.getfield 80, 3) := by decide +kernel
theorem d_Mo_cellZ_23 : decode c_Mo_cellZ 23 = .ok (.ldc2_w 158, 3) := by decide +kernel
theorem d_Mo_cellZ_26 : decode c_Mo_cellZ 26 = .ok (.lcmp, 1) := by decide +kernel
theorem d_Mo_cellZ_27 : decode c_Mo_cellZ 27 = .ok (.ifCond .lt 8, 3) := by decide +kernel
theorem d_Mo_cellZ_30 : decode c_Mo_cellZ 30 = .ok (.aload_n 0, 1) := by decide +kernel
theorem d_Mo_cellZ_31 : decode c_Mo_cellZ 31 = .ok (.invokevirtual 113, 3) := by decide +kernel
theorem d_Mo_cellZ_34 : decode c_Mo_cellZ 34 = .ok (.ireturn, 1) := by decide +kernel
theorem d_Mo_cellZ_35 : decode c_Mo_cellZ 35 = .ok (.aload_n 0, 1) := by decide +kernel
theorem d_Mo_cellZ_36 : decode c_Mo_cellZ 36 = .ok (.aload_n 0, 1) := by decide +kernel
theorem d_Mo_cellZ_37 : decode c_Mo_cellZ 37 = .ok (.getfield 80, 3) := by decide +kernel
theorem d_Mo_cellZ_40 : decode c_Mo_cellZ 40 = .ok (.l2i, 1) := by decide +kernel
theorem d_Mo_cellZ_41 : decode c_Mo_cellZ 41 = .ok (.invokevirtual 138, 3) := by decide +kernel
theorem d_Mo_cellZ_44 : decode c_Mo_cellZ 44 = .ok (.aload_n 0, 1) := by decide +kernel
theorem d_Mo_cellZ_45 : decode c_Mo_cellZ 45 = .ok (.invokevirtual 117, 3) := by decide +kernel
theorem d_Mo_cellZ_48 : decode c_Mo_cellZ 48 = .ok (.iconst 1, 1) := by decide +kernel
theorem d_Mo_cellZ_49 : decode c_Mo_cellZ 49 = .ok (.ireturn, 1) := by decide +kernel
theorem d_Ar_copyOf_0 : decode c_Ar_copyOf 0 = .ok (.iload_n 1, 1) := by decide +kernel
theorem d_Ar_copyOf_1 : decode c_Ar_copyOf 1 = .ok (.aload_n 0, 1) := by decide +kernel
theorem d_Ar_copyOf_2 : decode c_Ar_copyOf 2 = .ok (.arraylength, 1) := by decide +kernel
theorem d_Ar_copyOf_3 : decode c_Ar_copyOf 3 = .ok (.if_icmp .ne 11, 3) := by decide +kernel
theorem d_Ar_copyOf_6 : decode c_Ar_copyOf 6 = .ok (.aload_n 0, 1) := by decide +kernel
theorem d_Ar_copyOf_7 : decode c_Ar_copyOf 7 = .ok (.invokevirtual 316, 3) := by decide +kernel
theorem d_Ar_copyOf_10 : decode c_Ar_copyOf 10 = .ok (.checkcast 317, 3) := by decide +kernel
theorem d_Ar_copyOf_13 : decode c_Ar_copyOf 13 = .ok (.areturn, 1) := by decide +kernel
theorem d_Ar_copyOf_14 : decode c_Ar_copyOf 14 = .ok (.iload_n 1, 1) := by decide +kernel
theorem d_Ar_copyOf_15 : decode c_Ar_copyOf 15 = .ok (.newarray .int, 2) := by decide +kernel
theorem d_Ar_copyOf_17 : decode c_Ar_copyOf 17 = .ok (.astore_n 2, 1) := by decide +kernel
theorem d_Ar_copyOf_18 : decode c_Ar_copyOf 18 = .ok (.aload_n 0, 1) := by decide +kernel
theorem d_Ar_copyOf_19 : decode c_Ar_copyOf 19 = .ok (.iconst 0, 1) := by decide +kernel
theorem d_Ar_copyOf_20 : decode c_Ar_copyOf 20 = .ok (.aload_n 2, 1) := by decide +kernel
theorem d_Ar_copyOf_21 : decode c_Ar_copyOf 21 = .ok (.iconst 0, 1) := by decide +kernel
theorem d_Ar_copyOf_22 : decode c_Ar_copyOf 22 = .ok (.aload_n 0, 1) := by decide +kernel
theorem d_Ar_copyOf_23 : decode c_Ar_copyOf 23 = .ok (.arraylength, 1) := by decide +kernel
theorem d_Ar_copyOf_24 : decode c_Ar_copyOf 24 = .ok (.iload_n 1, 1) := by decide +kernel
theorem d_Ar_copyOf_25 : decode c_Ar_copyOf 25 = .ok (.invokestatic 304, 3) := by decide +kernel
theorem d_Ar_copyOf_28 : decode c_Ar_copyOf 28 = .ok (.invokestatic 150, 3) := by decide +kernel
theorem d_Ar_copyOf_31 : decode c_Ar_copyOf 31 = .ok (.aload_n 2, 1) := by decide +kernel
theorem d_Ar_copyOf_32 : decode c_Ar_copyOf 32 = .ok (.areturn, 1) := by decide +kernel
theorem d_Mt_min_0 : decode c_Mt_min 0 = .ok (.iload_n 0, 1) := by decide +kernel
theorem d_Mt_min_1 : decode c_Mt_min 1 = .ok (.iload_n 1, 1) := by decide +kernel
theorem d_Mt_min_2 : decode c_Mt_min 2 = .ok (.if_icmp .gt 7, 3) := by decide +kernel
theorem d_Mt_min_5 : decode c_Mt_min 5 = .ok (.iload_n 0, 1) := by decide +kernel
theorem d_Mt_min_6 : decode c_Mt_min 6 = .ok (.goto 4, 3) := by decide +kernel
theorem d_Mt_min_9 : decode c_Mt_min 9 = .ok (.iload_n 1, 1) := by decide +kernel
theorem d_Mt_min_10 : decode c_Mt_min 10 = .ok (.ireturn, 1) := by decide +kernel
theorem d_Mo_run_0 : decode c_Mo_run 0 = .ok (.aload_n 0, 1) := by decide +kernel
theorem d_Mo_run_1 : decode c_Mo_run 1 = .ok (.getfield 135, 3) := by decide +kernel
theorem d_Mo_run_4 : decode c_Mo_run 4 = .ok (.ifnonnull 6, 3) := by decide +kernel
theorem d_Mo_run_7 : decode c_Mo_run 7 = .ok (.bipush (-2), 2) := by decide +kernel
theorem d_Mo_run_9 : decode c_Mo_run 9 = .ok (.ireturn, 1) := by decide +kernel
theorem d_Mo_run_10 : decode c_Mo_run 10 = .ok (.aload_n 0, 1) := by decide +kernel
theorem d_Mo_run_11 : decode c_Mo_run 11 = .ok (.getfield 198, 3) := by decide +kernel
theorem d_Mo_run_14 : decode c_Mo_run 14 = .ok (.sipush 200, 3) := by decide +kernel
theorem d_Mo_run_17 : decode c_Mo_run 17 = .ok (.if_icmp .ne 6, 3) := by decide +kernel
theorem d_Mo_run_20 : decode c_Mo_run 20 = .ok (.bipush (-3), 2) := by decide +kernel
theorem d_Mo_run_22 : decode c_Mo_run 22 = .ok (.ireturn, 1) := by decide +kernel
theorem d_Mo_run_23 : decode c_Mo_run 23 = .ok (.aload_n 0, 1) := by decide +kernel
theorem d_Mo_run_24 : decode c_Mo_run 24 = .ok (.getfield 20, 3) := by decide +kernel
theorem d_Mo_run_27 : decode c_Mo_run 27 = .ok (.iconst 0, 1) := by decide +kernel
theorem d_Mo_run_28 : decode c_Mo_run 28 = .ok (.aload_n 0, 1) := by decide +kernel
theorem d_Mo_run_29 : decode c_Mo_run 29 = .ok (.getfield 13, 3) := by decide +kernel
theorem d_Mo_run_32 : decode c_Mo_run 32 = .ok (.bipush 32, 2) := by decide +kernel
theorem d_Mo_run_34 : decode c_Mo_run 34 = .ok (.aload_n 0, 1) := by decide +kernel
theorem d_Mo_run_35 : decode c_Mo_run 35 = .ok (.getfield 198, 3) := by decide +kernel
theorem d_Mo_run_38 : decode c_Mo_run 38 = .ok (.imul, 1) := by decide +kernel
theorem d_Mo_run_39 : decode c_Mo_run 39 = .ok (.bipush 32, 2) := by decide +kernel
theorem d_Mo_run_41 : decode c_Mo_run 41 = .ok (.invokestatic 201, 3) := by decide +kernel
theorem d_Mo_run_44 : decode c_Mo_run 44 = .ok (.aload_n 0, 1) := by decide +kernel
theorem d_Mo_run_45 : decode c_Mo_run 45 = .ok (.dup, 1) := by decide +kernel
theorem d_Mo_run_46 : decode c_Mo_run 46 = .ok (.getfield 198, 3) := by decide +kernel
theorem d_Mo_run_49 : decode c_Mo_run 49 = .ok (.iconst 1, 1) := by decide +kernel
theorem d_Mo_run_50 : decode c_Mo_run 50 = .ok (.iadd, 1) := by decide +kernel
theorem d_Mo_run_51 : decode c_Mo_run 51 = .ok (.putfield 198, 3) := by decide +kernel
theorem d_Mo_run_54 : decode c_Mo_run 54 = .ok (.aload_n 0, 1) := by decide +kernel
theorem d_Mo_run_55 : decode c_Mo_run 55 = .ok (.iload_n 1, 1) := by decide +kernel
theorem d_Mo_run_56 : decode c_Mo_run 56 = .ok (.iload_n 2, 1) := by decide +kernel
theorem d_Mo_run_57 : decode c_Mo_run 57 = .ok (.invokevirtual 207, 3) := by decide +kernel
theorem d_Mo_run_60 : decode c_Mo_run 60 = .ok (.ireturn, 1) := by decide +kernel
theorem d_Mo_perform_0 : decode c_Mo_perform 0 = .ok (.aload_n 0, 1) := by decide +kernel
theorem d_Mo_perform_1 : decode c_Mo_perform 1 = .ok (.getfield 135, 3) := by decide +kernel
theorem d_Mo_perform_4 : decode c_Mo_perform 4 = .ok (.astore_n 3, 1) := by decide +kernel
theorem d_Mo_perform_5 : decode c_Mo_perform 5 = .ok (.iconst 1, 1) := by decide +kernel
theorem d_Mo_perform_6 : decode c_Mo_perform 6 = .ok (.istore 4, 2) := by decide +kernel
theorem d_Mo_perform_8 : decode c_Mo_perform 8 = .ok (.iload 4, 2) := by decide +kernel
theorem d_Mo_perform_10 : decode c_Mo_perform 10 = .ok (.aload_n 3, 1) := by decide +kernel
theorem d_Mo_perform_11 : decode c_Mo_perform 11 = .ok (.iconst 0, 1) := by decide +kernel
theorem d_Mo_perform_12 : decode c_Mo_perform 12 = .ok (.iaload, 1) := by decide +kernel
theorem d_Mo_perform_13 : decode c_Mo_perform 13 = .ok (.if_icmp .gt 137, 3) := by decide +kernel
theorem d_Mo_perform_16 : decode c_Mo_perform 16 = .ok (.aload_n 0, 1) := by decide +kernel
theorem d_Mo_perform_17 : decode c_Mo_perform 17 = .ok (.aload_n 3, 1) := by decide +kernel
theorem d_Mo_perform_18 : decode c_Mo_perform 18 = .ok (.iload 4, 2) := by decide +kernel
theorem d_Mo_perform_20 : decode c_Mo_perform 20 = .ok (.iaload, 1) := by decide +kernel
theorem d_Mo_perform_21 : decode c_Mo_perform 21 = .ok (.putfield 187, 3) := by decide +kernel
theorem d_Mo_perform_24 : decode c_Mo_perform 24 = .ok (.aload_n 0, 1) := by decide +kernel
theorem d_Mo_perform_25 : decode c_Mo_perform 25 = .ok (.iload_n 1, 1) := by decide +kernel
theorem d_Mo_perform_26 : decode c_Mo_perform 26 = .ok (.iload_n 2, 1) := by decide +kernel
theorem d_Mo_perform_27 : decode c_Mo_perform 27 = .ok (.invokevirtual 194, 3) := by decide +kernel
theorem d_Mo_perform_30 : decode c_Mo_perform 30 = .ok (.ifCond .ne 6, 3) := by decide +kernel
theorem d_Mo_perform_33 : decode c_Mo_perform 33 = .ok (.goto 111, 3) := by decide +kernel
theorem d_Mo_perform_36 : decode c_Mo_perform 36 = .ok (.aload_n 3, 1) := by decide +kernel
theorem d_Mo_perform_37 : decode c_Mo_perform 37 = .ok (.aload_n 0, 1) := by decide +kernel
theorem d_Mo_perform_38 : decode c_Mo_perform 38 = .ok (.getfield 187, 3) := by decide +kernel
theorem d_Mo_perform_41 : decode c_Mo_perform 41 = .ok (.iaload, 1) := by decide +kernel
theorem d_Mo_perform_42 : decode c_Mo_perform 42 = .ok (.istore 5, 2) := by decide +kernel
theorem d_Mo_perform_44 : decode c_Mo_perform 44 = .ok (.aload_n 0, 1) := by decide +kernel
theorem d_Mo_perform_45 : decode c_Mo_perform 45 = .ok (.dup, 1) := by decide +kernel
theorem d_Mo_perform_46 : decode c_Mo_perform 46 = .ok (.getfield 187, 3) := by decide +kernel
theorem d_Mo_perform_49 : decode c_Mo_perform 49 = .ok (.iconst 1, 1) := by decide +kernel
theorem d_Mo_perform_50 : decode c_Mo_perform 50 = .ok (.iadd, 1) := by decide +kernel
theorem d_Mo_perform_51 : decode c_Mo_perform 51 = .ok (.putfield 187, 3) := by decide +kernel
theorem d_Mo_perform_54 : decode c_Mo_perform 54 = .ok (.iconst 0, 1) := by decide +kernel
theorem d_Mo_perform_55 : decode c_Mo_perform 55 = .ok (.istore 6, 2) := by decide +kernel
theorem d_Mo_perform_57 : decode c_Mo_perform 57 = .ok (.iload 6, 2) := by decide +kernel
theorem d_Mo_perform_59 : decode c_Mo_perform 59 = .ok (.iload 5, 2) := by decide +kernel
theorem d_Mo_perform_61 : decode c_Mo_perform 61 = .ok (.if_icmp .ge 45, 3) := by decide +kernel
theorem d_Mo_perform_64 : decode c_Mo_perform 64 = .ok (.aload_n 0, 1) := by decide +kernel
theorem d_Mo_perform_65 : decode c_Mo_perform 65 = .ok (.getfield 29, 3) := by decide +kernel
theorem d_Mo_perform_68 : decode c_Mo_perform 68 = .ok (.iload 6, 2) := by decide +kernel
theorem d_Mo_perform_70 : decode c_Mo_perform 70 = .ok (.aload_n 3, 1) := by decide +kernel
theorem d_Mo_perform_71 : decode c_Mo_perform 71 = .ok (.aload_n 0, 1) := by decide +kernel
theorem d_Mo_perform_72 : decode c_Mo_perform 72 = .ok (.getfield 187, 3) := by decide +kernel
theorem d_Mo_perform_75 : decode c_Mo_perform 75 = .ok (.iaload, 1) := by decide +kernel
theorem d_Mo_perform_76 : decode c_Mo_perform 76 = .ok (.iastore, 1) := by decide +kernel
theorem d_Mo_perform_77 : decode c_Mo_perform 77 = .ok (.aload_n 0, 1) := by decide +kernel
theorem d_Mo_perform_78 : decode c_Mo_perform 78 = .ok (.dup, 1) := by decide +kernel
theorem d_Mo_perform_79 : decode c_Mo_perform 79 = .ok (.getfield 187, 3) := by decide +kernel
theorem d_Mo_perform_82 : decode c_Mo_perform 82 = .ok (.iconst 1, 1) := by decide +kernel
theorem d_Mo_perform_83 : decode c_Mo_perform 83 = .ok (.iadd, 1) := by decide +kernel
theorem d_Mo_perform_84 : decode c_Mo_perform 84 = .ok (.putfield 187, 3) := by decide +kernel
theorem d_Mo_perform_87 : decode c_Mo_perform 87 = .ok (.aload_n 0, 1) := by decide +kernel
theorem d_Mo_perform_88 : decode c_Mo_perform 88 = .ok (.getfield 26, 3) := by decide +kernel
theorem d_Mo_perform_91 : decode c_Mo_perform 91 = .ok (.iload 6, 2) := by decide +kernel
theorem d_Mo_perform_93 : decode c_Mo_perform 93 = .ok (.aload_n 0, 1) := by decide +kernel
theorem d_Mo_perform_94 : decode c_Mo_perform 94 = .ok (.iload_n 1, 1) := by decide +kernel
theorem d_Mo_perform_95 : decode c_Mo_perform 95 = .ok (.iload_n 2, 1) := by decide +kernel
theorem d_Mo_perform_96 : decode c_Mo_perform 96 = .ok (.invokevirtual 190, 3) := by decide +kernel
theorem d_Mo_perform_99 : decode c_Mo_perform 99 = .ok (.iastore, 1) := by decide +kernel
theorem d_Mo_perform_100 : decode c_Mo_perform 100 = .ok (.iinc 6 1, 3) := by decide +kernel
theorem d_Mo_perform_103 : decode c_Mo_perform 103 = .ok (.goto (-46), 3) := by decide +kernel
theorem d_Mo_perform_106 : decode c_Mo_perform 106 = .ok (.iconst 0, 1) := by decide +kernel
theorem d_Mo_perform_107 : decode c_Mo_perform 107 = .ok (.istore 6, 2) := by decide +kernel
theorem d_Mo_perform_109 : decode c_Mo_perform 109 = .ok (.iload 6, 2) := by decide +kernel
theorem d_Mo_perform_111 : decode c_Mo_perform 111 = .ok (.iload 5, 2) := by decide +kernel
theorem d_Mo_perform_113 : decode c_Mo_perform 113 = .ok (.if_icmp .ge 28, 3) := by decide +kernel
theorem d_Mo_perform_116 : decode c_Mo_perform 116 = .ok (.aload_n 0, 1) := by decide +kernel
theorem d_Mo_perform_117 : decode c_Mo_perform 117 = .ok (.getfield 20, 3) := by decide +kernel
theorem d_Mo_perform_120 : decode c_Mo_perform 120 = .ok (.aload_n 0, 1) := by decide +kernel
theorem d_Mo_perform_121 : decode c_Mo_perform 121 = .ok (.getfield 29, 3) := by decide +kernel
theorem d_Mo_perform_124 : decode c_Mo_perform 124 = .ok (.iload 6, 2) := by decide +kernel
theorem d_Mo_perform_126 : decode c_Mo_perform 126 = .ok (.iaload, 1) := by decide +kernel
theorem d_Mo_perform_127 : decode c_Mo_perform 127 = .ok (.aload_n 0, 1) := by decide +kernel
theorem d_Mo_perform_128 : decode c_Mo_perform 128 = .ok (.getfield 26, 3) := by decide +kernel
theorem d_Mo_perform_131 : decode c_Mo_perform 131 = .ok (.iload 6, 2) := by decide +kernel
theorem d_Mo_perform_133 : decode c_Mo_perform 133 = .ok (.iaload, 1) := by decide +kernel
theorem d_Mo_perform_134 : decode c_Mo_perform 134 = .ok (.iastore, 1) := by decide +kernel
theorem d_Mo_perform_135 : decode c_Mo_perform 135 = .ok (.iinc 6 1, 3) := by decide +kernel
theorem d_Mo_perform_138 : decode c_Mo_perform 138 = .ok (.goto (-29), 3) := by decide +kernel
theorem d_Mo_perform_141 : decode c_Mo_perform 141 = .ok (.iload 4, 2) := by decide +kernel
theorem d_Mo_perform_143 : decode c_Mo_perform 143 = .ok (.ireturn, 1) := by decide +kernel
theorem d_Mo_perform_144 : decode c_Mo_perform 144 = .ok (.iinc 4 1, 3) := by decide +kernel
theorem d_Mo_perform_147 : decode c_Mo_perform 147 = .ok (.goto (-139), 3) := by decide +kernel
theorem d_Mo_perform_150 : decode c_Mo_perform 150 = .ok (.iconst 0, 1) := by decide +kernel
theorem d_Mo_perform_151 : decode c_Mo_perform 151 = .ok (.ireturn, 1) := by decide +kernel
theorem d_Mo_holds_0 : decode c_Mo_holds 0 = .ok (.aload_n 0, 1) := by decide +kernel
theorem d_Mo_holds_1 : decode c_Mo_holds 1 = .ok (.getfield 135, 3) := by decide +kernel
theorem d_Mo_holds_4 : decode c_Mo_holds 4 = .ok (.astore_n 3, 1) := by decide +kernel
theorem d_Mo_holds_5 : decode c_Mo_holds 5 = .ok (.aload_n 3, 1) := by decide +kernel
theorem d_Mo_holds_6 : decode c_Mo_holds 6 = .ok (.aload_n 0, 1) := by decide +kernel
theorem d_Mo_holds_7 : decode c_Mo_holds 7 = .ok (.getfield 187, 3) := by decide +kernel
theorem d_Mo_holds_10 : decode c_Mo_holds 10 = .ok (.iaload, 1) := by decide +kernel
theorem d_Mo_holds_11 : decode c_Mo_holds 11 = .ok (.istore 4, 2) := by decide +kernel
theorem d_Mo_holds_13 : decode c_Mo_holds 13 = .ok (.aload_n 0, 1) := by decide +kernel
theorem d_Mo_holds_14 : decode c_Mo_holds 14 = .ok (.dup, 1) := by decide +kernel
theorem d_Mo_holds_15 : decode c_Mo_holds 15 = .ok (.getfield 187, 3) := by decide +kernel
theorem d_Mo_holds_18 : decode c_Mo_holds 18 = .ok (.iconst 1, 1) := by decide +kernel
theorem d_Mo_holds_19 : decode c_Mo_holds 19 = .ok (.iadd, 1) := by decide +kernel
theorem d_Mo_holds_20 : decode c_Mo_holds 20 = .ok (.putfield 187, 3) := by decide +kernel
theorem d_Mo_holds_23 : decode c_Mo_holds 23 = .ok (.iconst 0, 1) := by decide +kernel
theorem d_Mo_holds_24 : decode c_Mo_holds 24 = .ok (.istore 5, 2) := by decide +kernel
theorem d_Mo_holds_26 : decode c_Mo_holds 26 = .ok (.iload 5, 2) := by decide +kernel
theorem d_Mo_holds_28 : decode c_Mo_holds 28 = .ok (.iload 4, 2) := by decide +kernel
theorem d_Mo_holds_30 : decode c_Mo_holds 30 = .ok (.if_icmp .ge 130, 3) := by decide +kernel
theorem d_Mo_holds_33 : decode c_Mo_holds 33 = .ok (.aload_n 3, 1) := by decide +kernel
theorem d_Mo_holds_34 : decode c_Mo_holds 34 = .ok (.aload_n 0, 1) := by decide +kernel
theorem d_Mo_holds_35 : decode c_Mo_holds 35 = .ok (.getfield 187, 3) := by decide +kernel
theorem d_Mo_holds_38 : decode c_Mo_holds 38 = .ok (.iaload, 1) := by decide +kernel
theorem d_Mo_holds_39 : decode c_Mo_holds 39 = .ok (.istore 6, 2) := by decide +kernel
theorem d_Mo_holds_41 : decode c_Mo_holds 41 = .ok (.aload_n 0, 1) := by decide +kernel
theorem d_Mo_holds_42 : decode c_Mo_holds 42 = .ok (.dup, 1) := by decide +kernel
theorem d_Mo_holds_43 : decode c_Mo_holds 43 = .ok (.getfield 187, 3) := by decide +kernel
theorem d_Mo_holds_46 : decode c_Mo_holds 46 = .ok (.iconst 1, 1) := by decide +kernel
theorem d_Mo_holds_47 : decode c_Mo_holds 47 = .ok (.iadd, 1) := by decide +kernel
theorem d_Mo_holds_48 : decode c_Mo_holds 48 = .ok (.putfield 187, 3) := by decide +kernel
theorem d_Mo_holds_51 : decode c_Mo_holds 51 = .ok (.aload_n 0, 1) := by decide +kernel
theorem d_Mo_holds_52 : decode c_Mo_holds 52 = .ok (.iload_n 1, 1) := by decide +kernel
theorem d_Mo_holds_53 : decode c_Mo_holds 53 = .ok (.iload_n 2, 1) := by decide +kernel
theorem d_Mo_holds_54 : decode c_Mo_holds 54 = .ok (.invokevirtual 190, 3) := by decide +kernel
theorem d_Mo_holds_57 : decode c_Mo_holds 57 = .ok (.istore 7, 2) := by decide +kernel
theorem d_Mo_holds_59 : decode c_Mo_holds 59 = .ok (.aload_n 0, 1) := by decide +kernel
theorem d_Mo_holds_60 : decode c_Mo_holds 60 = .ok (.iload_n 1, 1) := by decide +kernel
theorem d_Mo_holds_61 : decode c_Mo_holds 61 = .ok (.iload_n 2, 1) := by decide +kernel
theorem d_Mo_holds_62 : decode c_Mo_holds 62 = .ok (.invokevirtual 190, 3) := by decide +kernel
theorem d_Mo_holds_65 : decode c_Mo_holds 65 = .ok (.istore 8, 2) := by decide +kernel
theorem d_Mo_holds_67 : decode c_Mo_holds 67 = .ok (.iload 6, 2) := by decide +kernel
theorem d_Mo_holds_69 : decode c_Mo_holds 69 = .ok (.bipush 61, 2) := by decide +kernel
theorem d_Mo_holds_71 : decode c_Mo_holds 71 = .ok (.if_icmp .ne 18, 3) := by decide +kernel
theorem d_Mo_holds_74 : decode c_Mo_holds 74 = .ok (.iload 7, 2) := by decide +kernel
theorem d_Mo_holds_76 : decode c_Mo_holds 76 = .ok (.iload 8, 2) := by decide +kernel
theorem d_Mo_holds_78 : decode c_Mo_holds 78 = .ok (.if_icmp .ne 7, 3) := by decide +kernel
theorem d_Mo_holds_81 : decode c_Mo_holds 81 = .ok (.iconst 1, 1) := by decide +kernel
theorem d_Mo_holds_82 : decode c_Mo_holds 82 = .ok (.goto 63, 3) := by decide +kernel
theorem d_Mo_holds_85 : decode c_Mo_holds 85 = .ok (.iconst 0, 1) := by decide +kernel
theorem d_Mo_holds_86 : decode c_Mo_holds 86 = .ok (.goto 59, 3) := by decide +kernel
theorem d_Mo_holds_89 : decode c_Mo_holds 89 = .ok (.iload 6, 2) := by decide +kernel
theorem d_Mo_holds_91 : decode c_Mo_holds 91 = .ok (.bipush 35, 2) := by decide +kernel
theorem d_Mo_holds_93 : decode c_Mo_holds 93 = .ok (.if_icmp .ne 18, 3) := by decide +kernel
theorem d_Mo_holds_96 : decode c_Mo_holds 96 = .ok (.iload 7, 2) := by decide +kernel
theorem d_Mo_holds_98 : decode c_Mo_holds 98 = .ok (.iload 8, 2) := by decide +kernel
theorem d_Mo_holds_100 : decode c_Mo_holds 100 = .ok (.if_icmp .eq 7, 3) := by decide +kernel
theorem d_Mo_holds_103 : decode c_Mo_holds 103 = .ok (.iconst 1, 1) := by decide +kernel
theorem d_Mo_holds_104 : decode c_Mo_holds 104 = .ok (.goto 41, 3) := by decide +kernel
theorem d_Mo_holds_107 : decode c_Mo_holds 107 = .ok (.iconst 0, 1) := by decide +kernel
theorem d_Mo_holds_108 : decode c_Mo_holds 108 = .ok (.goto 37, 3) := by decide +kernel
theorem d_Mo_holds_111 : decode c_Mo_holds 111 = .ok (.iload 6, 2) := by decide +kernel
theorem d_Mo_holds_113 : decode c_Mo_holds 113 = .ok (.bipush 60, 2) := by decide +kernel
theorem d_Mo_holds_115 : decode c_Mo_holds 115 = .ok (.if_icmp .ne 18, 3) := by decide +kernel
theorem d_Mo_holds_118 : decode c_Mo_holds 118 = .ok (.iload 7, 2) := by decide +kernel
theorem d_Mo_holds_120 : decode c_Mo_holds 120 = .ok (.iload 8, 2) := by decide +kernel
theorem d_Mo_holds_122 : decode c_Mo_holds 122 = .ok (.if_icmp .ge 7, 3) := by decide +kernel
theorem d_Mo_holds_125 : decode c_Mo_holds 125 = .ok (.iconst 1, 1) := by decide +kernel
theorem d_Mo_holds_126 : decode c_Mo_holds 126 = .ok (.goto 19, 3) := by decide +kernel
theorem d_Mo_holds_129 : decode c_Mo_holds 129 = .ok (.iconst 0, 1) := by decide +kernel
theorem d_Mo_holds_130 : decode c_Mo_holds 130 = .ok (.goto 15, 3) := by decide +kernel
theorem d_Mo_holds_133 : decode c_Mo_holds 133 = .ok (.iload 7, 2) := by decide +kernel
theorem d_Mo_holds_135 : decode c_Mo_holds 135 = .ok (.iload 8, 2) := by decide +kernel
theorem d_Mo_holds_137 : decode c_Mo_holds 137 = .ok (.if_icmp .le 7, 3) := by decide +kernel
theorem d_Mo_holds_140 : decode c_Mo_holds 140 = .ok (.iconst 1, 1) := by decide +kernel
theorem d_Mo_holds_141 : decode c_Mo_holds 141 = .ok (.goto 4, 3) := by decide +kernel
theorem d_Mo_holds_144 : decode c_Mo_holds 144 = .ok (.iconst 0, 1) := by decide +kernel
theorem d_Mo_holds_145 : decode c_Mo_holds 145 = .ok (.istore 9, 2) := by decide +kernel
theorem d_Mo_holds_147 : decode c_Mo_holds 147 = .ok (.iload 9, 2) := by decide +kernel
theorem d_Mo_holds_149 : decode c_Mo_holds 149 = .ok (.ifCond .ne 5, 3) := by decide +kernel
theorem d_Mo_holds_152 : decode c_Mo_holds 152 = .ok (.iconst 0, 1) := by decide +kernel
theorem d_Mo_holds_153 : decode c_Mo_holds 153 = .ok (.ireturn, 1) := by decide +kernel
theorem d_Mo_holds_154 : decode c_Mo_holds 154 = .ok (.iinc 5 1, 3) := by decide +kernel
theorem d_Mo_holds_157 : decode c_Mo_holds 157 = .ok (.goto (-131), 3) := by decide +kernel
theorem d_Mo_holds_160 : decode c_Mo_holds 160 = .ok (.iconst 1, 1) := by decide +kernel
theorem d_Mo_holds_161 : decode c_Mo_holds 161 = .ok (.ireturn, 1) := by decide +kernel
theorem d_Mo_value_0 : decode c_Mo_value 0 = .ok (.aload_n 0, 1) := by decide +kernel
theorem d_Mo_value_1 : decode c_Mo_value 1 = .ok (.getfield 135, 3) := by decide +kernel
theorem d_Mo_value_4 : decode c_Mo_value 4 = .ok (.astore_n 3, 1) := by decide +kernel
theorem d_Mo_value_5 : decode c_Mo_value 5 = .ok (.iconst 0, 1) := by decide +kernel
theorem d_Mo_value_6 : decode c_Mo_value 6 = .ok (.istore 4, 2) := by decide +kernel
theorem d_Mo_value_8 : decode c_Mo_value 8 = .ok (.aload_n 3, 1) := by decide +kernel
theorem d_Mo_value_9 : decode c_Mo_value 9 = .ok (.aload_n 0, 1) := by decide +kernel
theorem d_Mo_value_10 : decode c_Mo_value 10 = .ok (.getfield 187, 3) := by decide +kernel
theorem d_Mo_value_13 : decode c_Mo_value 13 = .ok (.iaload, 1) := by decide +kernel
theorem d_Mo_value_14 : decode c_Mo_value 14 = .ok (.bipush 7, 2) := by decide +kernel
theorem d_Mo_value_16 : decode c_Mo_value 16 = .ok (.if_icmp .eq 185, 3) := by decide +kernel
theorem d_Mo_value_19 : decode c_Mo_value 19 = .ok (.aload_n 3, 1) := by decide +kernel
theorem d_Mo_value_20 : decode c_Mo_value 20 = .ok (.aload_n 0, 1) := by decide +kernel
theorem d_Mo_value_21 : decode c_Mo_value 21 = .ok (.getfield 187, 3) := by decide +kernel
theorem d_Mo_value_24 : decode c_Mo_value 24 = .ok (.iaload, 1) := by decide +kernel
theorem d_Mo_value_25 : decode c_Mo_value 25 = .ok (.istore 5, 2) := by decide +kernel
theorem d_Mo_value_27 : decode c_Mo_value 27 = .ok (.aload_n 0, 1) := by decide +kernel
theorem d_Mo_value_28 : decode c_Mo_value 28 = .ok (.dup, 1) := by decide +kernel
theorem d_Mo_value_29 : decode c_Mo_value 29 = .ok (.getfield 187, 3) := by decide +kernel
theorem d_Mo_value_32 : decode c_Mo_value 32 = .ok (.iconst 1, 1) := by decide +kernel
theorem d_Mo_value_33 : decode c_Mo_value 33 = .ok (.iadd, 1) := by decide +kernel
theorem d_Mo_value_34 : decode c_Mo_value 34 = .ok (.putfield 187, 3) := by decide +kernel
theorem d_Mo_value_37 : decode c_Mo_value 37 = .ok (.iload 5, 2) := by decide +kernel
theorem d_Mo_value_39 : decode c_Mo_value 39 = .ok (.iconst 3, 1) := by decide +kernel
theorem d_Mo_value_40 : decode c_Mo_value 40 = .ok (.if_icmp .gt 77, 3) := by decide +kernel
theorem d_Mo_value_43 : decode c_Mo_value 43 = .ok (.aload_n 0, 1) := by decide +kernel
theorem d_Mo_value_44 : decode c_Mo_value 44 = .ok (.getfield 23, 3) := by decide +kernel
theorem d_Mo_value_47 : decode c_Mo_value 47 = .ok (.iload 4, 2) := by decide +kernel
theorem d_Mo_value_49 : decode c_Mo_value 49 = .ok (.iload 5, 2) := by decide +kernel
theorem d_Mo_value_51 : decode c_Mo_value 51 = .ok (.ifCond .ne 12, 3) := by decide +kernel
theorem d_Mo_value_54 : decode c_Mo_value 54 = .ok (.aload_n 3, 1) := by decide +kernel
theorem d_Mo_value_55 : decode c_Mo_value 55 = .ok (.aload_n 0, 1) := by decide +kernel
theorem d_Mo_value_56 : decode c_Mo_value 56 = .ok (.getfield 187, 3) := by decide +kernel
theorem d_Mo_value_59 : decode c_Mo_value 59 = .ok (.iaload, 1) := by decide +kernel
theorem d_Mo_value_60 : decode c_Mo_value 60 = .ok (.goto 34, 3) := by decide +kernel
theorem d_Mo_value_63 : decode c_Mo_value 63 = .ok (.iload 5, 2) := by decide +kernel
theorem d_Mo_value_65 : decode c_Mo_value 65 = .ok (.iconst 1, 1) := by decide +kernel
theorem d_Mo_value_66 : decode c_Mo_value 66 = .ok (.if_icmp .ne 17, 3) := by decide +kernel
theorem d_Mo_value_69 : decode c_Mo_value 69 = .ok (.aload_n 0, 1) := by decide +kernel
theorem d_Mo_value_70 : decode c_Mo_value 70 = .ok (.getfield 20, 3) := by decide +kernel
theorem d_Mo_value_73 : decode c_Mo_value 73 = .ok (.aload_n 3, 1) := by decide +kernel
theorem d_Mo_value_74 : decode c_Mo_value 74 = .ok (.aload_n 0, 1) := by decide +kernel
theorem d_Mo_value_75 : decode c_Mo_value 75 = .ok (.getfield 187, 3) := by decide +kernel
theorem d_Mo_value_78 : decode c_Mo_value 78 = .ok (.iaload, 1) := by decide +kernel
theorem d_Mo_value_79 : decode c_Mo_value 79 = .ok (.iaload, 1) := by decide +kernel
theorem d_Mo_value_80 : decode c_Mo_value 80 = .ok (.goto 14, 3) := by decide +kernel
theorem d_Mo_value_83 : decode c_Mo_value 83 = .ok (.iload 5, 2) := by decide +kernel
theorem d_Mo_value_85 : decode c_Mo_value 85 = .ok (.iconst 2, 1) := by decide +kernel
theorem d_Mo_value_86 : decode c_Mo_value 86 = .ok (.if_icmp .ne 7, 3) := by decide +kernel
theorem d_Mo_value_89 : decode c_Mo_value 89 = .ok (.iload_n 1, 1) := by decide +kernel
theorem d_Mo_value_90 : decode c_Mo_value 90 = .ok (.goto 4, 3) := by decide +kernel
theorem d_Mo_value_93 : decode c_Mo_value 93 = .ok (.iload_n 2, 1) := by decide +kernel
theorem d_Mo_value_94 : decode c_Mo_value 94 = .ok (.iastore, 1) := by decide +kernel
theorem d_Mo_value_95 : decode c_Mo_value 95 = .ok (.iload 5, 2) := by decide +kernel
theorem d_Mo_value_97 : decode c_Mo_value 97 = .ok (.iconst 1, 1) := by decide +kernel
theorem d_Mo_value_98 : decode c_Mo_value 98 = .ok (.if_icmp .gt 13, 3) := by decide +kernel
theorem d_Mo_value_101 : decode c_Mo_value 101 = .ok (.aload_n 0, 1) := by decide +kernel
theorem d_Mo_value_102 : decode c_Mo_value 102 = .ok (.dup, 1) := by decide +kernel
theorem d_Mo_value_103 : decode c_Mo_value 103 = .ok (.getfield 187, 3) := by decide +kernel
theorem d_Mo_value_106 : decode c_Mo_value 106 = .ok (.iconst 1, 1) := by decide +kernel
theorem d_Mo_value_107 : decode c_Mo_value 107 = .ok (.iadd, 1) := by decide +kernel
theorem d_Mo_value_108 : decode c_Mo_value 108 = .ok (.putfield 187, 3) := by decide +kernel
theorem d_Mo_value_111 : decode c_Mo_value 111 = .ok (.iinc 4 1, 3) := by decide +kernel
theorem d_Mo_value_114 : decode c_Mo_value 114 = .ok (.goto 84, 3) := by decide +kernel
theorem d_Mo_value_117 : decode c_Mo_value 117 = .ok (.iinc 4 (-1), 3) := by decide +kernel
theorem d_Mo_value_120 : decode c_Mo_value 120 = .ok (.aload_n 0, 1) := by decide +kernel
theorem d_Mo_value_121 : decode c_Mo_value 121 = .ok (.getfield 23, 3) := by decide +kernel
theorem d_Mo_value_124 : decode c_Mo_value 124 = .ok (.iload 4, 2) := by decide +kernel
theorem d_Mo_value_126 : decode c_Mo_value 126 = .ok (.iconst 1, 1) := by decide +kernel
theorem d_Mo_value_127 : decode c_Mo_value 127 = .ok (.isub, 1) := by decide +kernel
theorem d_Mo_value_128 : decode c_Mo_value 128 = .ok (.iload 5, 2) := by decide +kernel
theorem d_Mo_value_130 : decode c_Mo_value 130 = .ok (.iconst 4, 1) := by decide +kernel
theorem d_Mo_value_131 : decode c_Mo_value 131 = .ok (.if_icmp .ne 23, 3) := by decide +kernel
theorem d_Mo_value_134 : decode c_Mo_value 134 = .ok (.aload_n 0, 1) := by decide +kernel
theorem d_Mo_value_135 : decode c_Mo_value 135 = .ok (.getfield 23, 3) := by decide +kernel
theorem d_Mo_value_138 : decode c_Mo_value 138 = .ok (.iload 4, 2) := by decide +kernel
theorem d_Mo_value_140 : decode c_Mo_value 140 = .ok (.iconst 1, 1) := by decide +kernel
theorem d_Mo_value_141 : decode c_Mo_value 141 = .ok (.isub, 1) := by decide +kernel
theorem d_Mo_value_142 : decode c_Mo_value 142 = .ok (.iaload, 1) := by decide +kernel
theorem d_Mo_value_143 : decode c_Mo_value 143 = .ok (.aload_n 0, 1) := by decide +kernel
theorem d_Mo_value_144 : decode c_Mo_value 144 = .ok (.getfield 23, 3) := by decide +kernel
theorem d_Mo_value_147 : decode c_Mo_value 147 = .ok (.iload 4, 2) := by decide +kernel
theorem d_Mo_value_149 : decode c_Mo_value 149 = .ok (.iaload, 1) := by decide +kernel
theorem d_Mo_value_150 : decode c_Mo_value 150 = .ok (.iadd, 1) := by decide +kernel
theorem d_Mo_value_151 : decode c_Mo_value 151 = .ok (.goto 46, 3) := by decide +kernel
theorem d_Mo_value_154 : decode c_Mo_value 154 = .ok (.iload 5, 2) := by decide +kernel
theorem d_Mo_value_156 : decode c_Mo_value 156 = .ok (.iconst 5, 1) := by decide +kernel
theorem d_Mo_value_157 : decode c_Mo_value 157 = .ok (.if_icmp .ne 23, 3) := by decide +kernel
theorem d_Mo_value_160 : decode c_Mo_value 160 = .ok (.aload_n 0, 1) := by decide +kernel
theorem d_Mo_value_161 : decode c_Mo_value 161 = .ok (.getfield 23, 3) := by decide +kernel
theorem d_Mo_value_164 : decode c_Mo_value 164 = .ok (.iload 4, 2) := by decide +kernel
theorem d_Mo_value_166 : decode c_Mo_value 166 = .ok (.iconst 1, 1) := by decide +kernel
theorem d_Mo_value_167 : decode c_Mo_value 167 = .ok (.isub, 1) := by decide +kernel
theorem d_Mo_value_168 : decode c_Mo_value 168 = .ok (.iaload, 1) := by decide +kernel
theorem d_Mo_value_169 : decode c_Mo_value 169 = .ok (.aload_n 0, 1) := by decide +kernel
theorem d_Mo_value_170 : decode c_Mo_value 170 = .ok (.getfield 23, 3) := by decide +kernel
theorem d_Mo_value_173 : decode c_Mo_value 173 = .ok (.iload 4, 2) := by decide +kernel
theorem d_Mo_value_175 : decode c_Mo_value 175 = .ok (.iaload, 1) := by decide +kernel
theorem d_Mo_value_176 : decode c_Mo_value 176 = .ok (.isub, 1) := by decide +kernel
theorem d_Mo_value_177 : decode c_Mo_value 177 = .ok (.goto 20, 3) := by decide +kernel
theorem d_Mo_value_180 : decode c_Mo_value 180 = .ok (.aload_n 0, 1) := by decide +kernel
theorem d_Mo_value_181 : decode c_Mo_value 181 = .ok (.getfield 23, 3) := by decide +kernel
theorem d_Mo_value_184 : decode c_Mo_value 184 = .ok (.iload 4, 2) := by decide +kernel
theorem d_Mo_value_186 : decode c_Mo_value 186 = .ok (.iconst 1, 1) := by decide +kernel
theorem d_Mo_value_187 : decode c_Mo_value 187 = .ok (.isub, 1) := by decide +kernel
theorem d_Mo_value_188 : decode c_Mo_value 188 = .ok (.iaload, 1) := by decide +kernel
theorem d_Mo_value_189 : decode c_Mo_value 189 = .ok (.aload_n 0, 1) := by decide +kernel
theorem d_Mo_value_190 : decode c_Mo_value 190 = .ok (.getfield 23, 3) := by decide +kernel
theorem d_Mo_value_193 : decode c_Mo_value 193 = .ok (.iload 4, 2) := by decide +kernel
theorem d_Mo_value_195 : decode c_Mo_value 195 = .ok (.iaload, 1) := by decide +kernel
theorem d_Mo_value_196 : decode c_Mo_value 196 = .ok (.imul, 1) := by decide +kernel
theorem d_Mo_value_197 : decode c_Mo_value 197 = .ok (.iastore, 1) := by decide +kernel
theorem d_Mo_value_198 : decode c_Mo_value 198 = .ok (.goto (-190), 3) := by decide +kernel
theorem d_Mo_value_201 : decode c_Mo_value 201 = .ok (.aload_n 0, 1) := by decide +kernel
theorem d_Mo_value_202 : decode c_Mo_value 202 = .ok (.dup, 1) := by decide +kernel
theorem d_Mo_value_203 : decode c_Mo_value 203 = .ok (.getfield 187, 3) := by decide +kernel
theorem d_Mo_value_206 : decode c_Mo_value 206 = .ok (.iconst 1, 1) := by decide +kernel
theorem d_Mo_value_207 : decode c_Mo_value 207 = .ok (.iadd, 1) := by decide +kernel
theorem d_Mo_value_208 : decode c_Mo_value 208 = .ok (.putfield 187, 3) := by decide +kernel
theorem d_Mo_value_211 : decode c_Mo_value 211 = .ok (.aload_n 0, 1) := by decide +kernel
theorem d_Mo_value_212 : decode c_Mo_value 212 = .ok (.getfield 23, 3) := by decide +kernel
theorem d_Mo_value_215 : decode c_Mo_value 215 = .ok (.iconst 0, 1) := by decide +kernel
theorem d_Mo_value_216 : decode c_Mo_value 216 = .ok (.iaload, 1) := by decide +kernel
theorem d_Mo_value_217 : decode c_Mo_value 217 = .ok (.ireturn, 1) := by decide +kernel
theorem d_Mo_undo_0 : decode c_Mo_undo 0 = .ok (.aload_n 0, 1) := by decide +kernel
theorem d_Mo_undo_1 : decode c_Mo_undo 1 = .ok (.getfield 198, 3) := by decide +kernel
theorem d_Mo_undo_4 : decode c_Mo_undo 4 = .ok (.ifCond .ne 6, 3) := by decide +kernel
theorem d_Mo_undo_7 : decode c_Mo_undo 7 = .ok (.bipush (-2), 2) := by decide +kernel
theorem d_Mo_undo_9 : decode c_Mo_undo 9 = .ok (.ireturn, 1) := by decide +kernel
theorem d_Mo_undo_10 : decode c_Mo_undo 10 = .ok (.aload_n 0, 1) := by decide +kernel
theorem d_Mo_undo_11 : decode c_Mo_undo 11 = .ok (.dup, 1) := by decide +kernel
theorem d_Mo_undo_12 : decode c_Mo_undo 12 = .ok (.getfield 198, 3) := by decide +kernel
theorem d_Mo_undo_15 : decode c_Mo_undo 15 = .ok (.iconst 1, 1) := by decide +kernel
theorem d_Mo_undo_16 : decode c_Mo_undo 16 = .ok (.isub, 1) := by decide +kernel
theorem d_Mo_undo_17 : decode c_Mo_undo 17 = .ok (.putfield 198, 3) := by decide +kernel
theorem d_Mo_undo_20 : decode c_Mo_undo 20 = .ok (.aload_n 0, 1) := by decide +kernel
theorem d_Mo_undo_21 : decode c_Mo_undo 21 = .ok (.getfield 13, 3) := by decide +kernel
theorem d_Mo_undo_24 : decode c_Mo_undo 24 = .ok (.bipush 32, 2) := by decide +kernel
theorem d_Mo_undo_26 : decode c_Mo_undo 26 = .ok (.aload_n 0, 1) := by decide +kernel
theorem d_Mo_undo_27 : decode c_Mo_undo 27 = .ok (.getfield 198, 3) := by decide +kernel
theorem d_Mo_undo_30 : decode c_Mo_undo 30 = .ok (.imul, 1) := by decide +kernel
theorem d_Mo_undo_31 : decode c_Mo_undo 31 = .ok (.aload_n 0, 1) := by decide +kernel
theorem d_Mo_undo_32 : decode c_Mo_undo 32 = .ok (.getfield 20, 3) := by decide +kernel
theorem d_Mo_undo_35 : decode c_Mo_undo 35 = .ok (.iconst 0, 1) := by decide +kernel
theorem d_Mo_undo_36 : decode c_Mo_undo 36 = .ok (.bipush 32, 2) := by decide +kernel
theorem d_Mo_undo_38 : decode c_Mo_undo 38 = .ok (.invokestatic 201, 3) := by decide +kernel
theorem d_Mo_undo_41 : decode c_Mo_undo 41 = .ok (.aload_n 0, 1) := by decide +kernel
theorem d_Mo_undo_42 : decode c_Mo_undo 42 = .ok (.getfield 198, 3) := by decide +kernel
theorem d_Mo_undo_45 : decode c_Mo_undo 45 = .ok (.ireturn, 1) := by decide +kernel
theorem d_Mo_cell_0 : decode c_Mo_cell 0 = .ok (.iload_n 1, 1) := by decide +kernel
theorem d_Mo_cell_1 : decode c_Mo_cell 1 = .ok (.iconst 0, 1) := by decide +kernel
theorem d_Mo_cell_2 : decode c_Mo_cell 2 = .ok (.bipush 31, 2) := by decide +kernel
theorem d_Mo_cell_4 : decode c_Mo_cell 4 = .ok (.invokestatic 36, 3) := by decide +kernel
theorem d_Mo_cell_7 : decode c_Mo_cell 7 = .ok (.ifCond .eq 13, 3) := by decide +kernel
theorem d_Mo_cell_10 : decode c_Mo_cell 10 = .ok (.aload_n 0, 1) := by decide +kernel
theorem d_Mo_cell_11 : decode c_Mo_cell 11 = .ok (.getfield 20, 3) := by decide +kernel
theorem d_Mo_cell_14 : decode c_Mo_cell 14 = .ok (.iload_n 1, 1) := by decide +kernel
theorem d_Mo_cell_15 : decode c_Mo_cell 15 = .ok (.iaload, 1) := by decide +kernel
theorem d_Mo_cell_16 : decode c_Mo_cell 16 = .ok (.i2l, 1) := by decide +kernel
theorem d_Mo_cell_17 : decode c_Mo_cell 17 = .ok (.goto 6, 3) := by decide +kernel
theorem d_Mo_cell_20 : decode c_Mo_cell 20 = .ok (.ldc2_w 84, 3) := by decide +kernel
theorem d_Mo_cell_23 : decode c_Mo_cell 23 = .ok (.lreturn, 1) := by decide +kernel
theorem d_Mo_set_0 : decode c_Mo_set 0 = .ok (.iload_n 1, 1) := by decide +kernel
theorem d_Mo_set_1 : decode c_Mo_set 1 = .ok (.iconst 0, 1) := by decide +kernel
theorem d_Mo_set_2 : decode c_Mo_set 2 = .ok (.bipush 31, 2) := by decide +kernel
theorem d_Mo_set_4 : decode c_Mo_set 4 = .ok (.invokestatic 36, 3) := by decide +kernel
theorem d_Mo_set_7 : decode c_Mo_set 7 = .ok (.ifCond .ne 5, 3) := by decide +kernel
theorem d_Mo_set_10 : decode c_Mo_set 10 = .ok (.iconst (-1), 1) := by decide +kernel
theorem d_Mo_set_11 : decode c_Mo_set 11 = .ok (.ireturn, 1) := by decide +kernel
theorem d_Mo_set_12 : decode c_Mo_set 12 = .ok (.aload_n 0, 1) := by decide +kernel
theorem d_Mo_set_13 : decode c_Mo_set 13 = .ok (.getfield 198, 3) := by decide +kernel
theorem d_Mo_set_16 : decode c_Mo_set 16 = .ok (.ifCond .le 6, 3) := by decide +kernel
theorem d_Mo_set_19 : decode c_Mo_set 19 = .ok (.bipush (-3), 2) := by decide +kernel
theorem d_Mo_set_21 : decode c_Mo_set 21 = .ok (.ireturn, 1) := by decide +kernel
theorem d_Mo_set_22 : decode c_Mo_set 22 = .ok (.aload_n 0, 1) := by decide +kernel
theorem d_Mo_set_23 : decode c_Mo_set 23 = .ok (.getfield 20, 3) := by decide +kernel
theorem d_Mo_set_26 : decode c_Mo_set 26 = .ok (.iload_n 1, 1) := by decide +kernel
theorem d_Mo_set_27 : decode c_Mo_set 27 = .ok (.iload_n 2, 1) := by decide +kernel
theorem d_Mo_set_28 : decode c_Mo_set 28 = .ok (.iastore, 1) := by decide +kernel
theorem d_Mo_set_29 : decode c_Mo_set 29 = .ok (.iconst 0, 1) := by decide +kernel
theorem d_Mo_set_30 : decode c_Mo_set 30 = .ok (.ireturn, 1) := by decide +kernel
theorem d_Mo_count_0 : decode c_Mo_count 0 = .ok (.iload_n 1, 1) := by decide +kernel
theorem d_Mo_count_1 : decode c_Mo_count 1 = .ok (.ifCond .ne 10, 3) := by decide +kernel
theorem d_Mo_count_4 : decode c_Mo_count 4 = .ok (.aload_n 0, 1) := by decide +kernel
theorem d_Mo_count_5 : decode c_Mo_count 5 = .ok (.getfield 198, 3) := by decide +kernel
theorem d_Mo_count_8 : decode c_Mo_count 8 = .ok (.goto 16, 3) := by decide +kernel
theorem d_Mo_count_11 : decode c_Mo_count 11 = .ok (.iload_n 1, 1) := by decide +kernel
theorem d_Mo_count_12 : decode c_Mo_count 12 = .ok (.iconst 1, 1) := by decide +kernel
theorem d_Mo_count_13 : decode c_Mo_count 13 = .ok (.if_icmp .ne 10, 3) := by decide +kernel
theorem d_Mo_count_16 : decode c_Mo_count 16 = .ok (.aload_n 0, 1) := by decide +kernel
theorem d_Mo_count_17 : decode c_Mo_count 17 = .ok (.getfield 32, 3) := by decide +kernel
theorem d_Mo_count_20 : decode c_Mo_count 20 = .ok (.goto 4, 3) := by decide +kernel
theorem d_Mo_count_23 : decode c_Mo_count 23 = .ok (.iconst (-1), 1) := by decide +kernel
theorem d_Mo_count_24 : decode c_Mo_count 24 = .ok (.ireturn, 1) := by decide +kernel
theorem d_La_law_0 : decode code 0 = .ok (.new 7, 3) := by decide +kernel
theorem d_La_law_3 : decode code 3 = .ok (.dup, 1) := by decide +kernel
theorem d_La_law_4 : decode code 4 = .ok (.invokespecial 9, 3) := by decide +kernel
theorem d_La_law_7 : decode code 7 = .ok (.astore_n 1, 1) := by decide +kernel
theorem d_La_law_8 : decode code 8 = .ok (.new 10, 3) := by decide +kernel
theorem d_La_law_11 : decode code 11 = .ok (.dup, 1) := by decide +kernel
theorem d_La_law_12 : decode code 12 = .ok (.invokespecial 12, 3) := by decide +kernel
theorem d_La_law_15 : decode code 15 = .ok (.astore_n 2, 1) := by decide +kernel
theorem d_La_law_16 : decode code 16 = .ok (.iconst 0, 1) := by decide +kernel
theorem d_La_law_17 : decode code 17 = .ok (.istore_n 3, 1) := by decide +kernel
theorem d_La_law_18 : decode code 18 = .ok (.iload_n 3, 1) := by decide +kernel
theorem d_La_law_19 : decode code 19 = .ok (.aload_n 0, 1) := by decide +kernel
theorem d_La_law_20 : decode code 20 = .ok (.arraylength, 1) := by decide +kernel
theorem d_La_law_21 : decode code 21 = .ok (.bipush 6, 2) := by decide +kernel
theorem d_La_law_23 : decode code 23 = .ok (.isub, 1) := by decide +kernel
theorem d_La_law_24 : decode code 24 = .ok (.if_icmp .gt 287, 3) := by decide +kernel
theorem d_La_law_27 : decode code 27 = .ok (.aload_n 0, 1) := by decide +kernel
theorem d_La_law_28 : decode code 28 = .ok (.iload_n 3, 1) := by decide +kernel
theorem d_La_law_29 : decode code 29 = .ok (.iaload, 1) := by decide +kernel
theorem d_La_law_30 : decode code 30 = .ok (.bipush 7, 2) := by decide +kernel
theorem d_La_law_32 : decode code 32 = .ok (.iand, 1) := by decide +kernel
theorem d_La_law_33 : decode code 33 = .ok (.tableswitch 272 0 7 #[47, 110, 133, 146, 179, 192, 216, 249], 47) := by decide +kernel
theorem d_La_law_80 : decode code 80 = .ok (.aload_n 1, 1) := by decide +kernel
theorem d_La_law_81 : decode code 81 = .ok (.aload_n 0, 1) := by decide +kernel
theorem d_La_law_82 : decode code 82 = .ok (.iload_n 3, 1) := by decide +kernel
theorem d_La_law_83 : decode code 83 = .ok (.iconst 1, 1) := by decide +kernel
theorem d_La_law_84 : decode code 84 = .ok (.iadd, 1) := by decide +kernel
theorem d_La_law_85 : decode code 85 = .ok (.iaload, 1) := by decide +kernel
theorem d_La_law_86 : decode code 86 = .ok (.aload_n 0, 1) := by decide +kernel
theorem d_La_law_87 : decode code 87 = .ok (.iload_n 3, 1) := by decide +kernel
theorem d_La_law_88 : decode code 88 = .ok (.iconst 2, 1) := by decide +kernel
theorem d_La_law_89 : decode code 89 = .ok (.iadd, 1) := by decide +kernel
theorem d_La_law_90 : decode code 90 = .ok (.iaload, 1) := by decide +kernel
theorem d_La_law_91 : decode code 91 = .ok (.aload_n 0, 1) := by decide +kernel
theorem d_La_law_92 : decode code 92 = .ok (.iload_n 3, 1) := by decide +kernel
theorem d_La_law_93 : decode code 93 = .ok (.iconst 3, 1) := by decide +kernel
theorem d_La_law_94 : decode code 94 = .ok (.iadd, 1) := by decide +kernel
theorem d_La_law_95 : decode code 95 = .ok (.iaload, 1) := by decide +kernel
theorem d_La_law_96 : decode code 96 = .ok (.aload_n 0, 1) := by decide +kernel
theorem d_La_law_97 : decode code 97 = .ok (.iload_n 3, 1) := by decide +kernel
theorem d_La_law_98 : decode code 98 = .ok (.iconst 4, 1) := by decide +kernel
theorem d_La_law_99 : decode code 99 = .ok (.iadd, 1) := by decide +kernel
theorem d_La_law_100 : decode code 100 = .ok (.iaload, 1) := by decide +kernel
theorem d_La_law_101 : decode code 101 = .ok (.aload_n 0, 1) := by decide +kernel
theorem d_La_law_102 : decode code 102 = .ok (.iload_n 3, 1) := by decide +kernel
theorem d_La_law_103 : decode code 103 = .ok (.iconst 5, 1) := by decide +kernel
theorem d_La_law_104 : decode code 104 = .ok (.iadd, 1) := by decide +kernel
theorem d_La_law_105 : decode code 105 = .ok (.iaload, 1) := by decide +kernel
theorem d_La_law_106 : decode code 106 = .ok (.invokevirtual 13, 3) := by decide +kernel
theorem d_La_law_109 : decode code 109 = .ok (.aload_n 2, 1) := by decide +kernel
theorem d_La_law_110 : decode code 110 = .ok (.aload_n 0, 1) := by decide +kernel
theorem d_La_law_111 : decode code 111 = .ok (.iload_n 3, 1) := by decide +kernel
theorem d_La_law_112 : decode code 112 = .ok (.iconst 1, 1) := by decide +kernel
theorem d_La_law_113 : decode code 113 = .ok (.iadd, 1) := by decide +kernel
theorem d_La_law_114 : decode code 114 = .ok (.iaload, 1) := by decide +kernel
theorem d_La_law_115 : decode code 115 = .ok (.aload_n 0, 1) := by decide +kernel
theorem d_La_law_116 : decode code 116 = .ok (.iload_n 3, 1) := by decide +kernel
theorem d_La_law_117 : decode code 117 = .ok (.iconst 2, 1) := by decide +kernel
theorem d_La_law_118 : decode code 118 = .ok (.iadd, 1) := by decide +kernel
theorem d_La_law_119 : decode code 119 = .ok (.iaload, 1) := by decide +kernel
theorem d_La_law_120 : decode code 120 = .ok (.aload_n 0, 1) := by decide +kernel
theorem d_La_law_121 : decode code 121 = .ok (.iload_n 3, 1) := by decide +kernel
theorem d_La_law_122 : decode code 122 = .ok (.iconst 3, 1) := by decide +kernel
theorem d_La_law_123 : decode code 123 = .ok (.iadd, 1) := by decide +kernel
theorem d_La_law_124 : decode code 124 = .ok (.iaload, 1) := by decide +kernel
theorem d_La_law_125 : decode code 125 = .ok (.aload_n 0, 1) := by decide +kernel
theorem d_La_law_126 : decode code 126 = .ok (.iload_n 3, 1) := by decide +kernel
theorem d_La_law_127 : decode code 127 = .ok (.iconst 4, 1) := by decide +kernel
theorem d_La_law_128 : decode code 128 = .ok (.iadd, 1) := by decide +kernel
end
section
theorem d_La_law_129 : decode code 129 = .ok (.iaload, 1) := by decide +kernel
theorem d_La_law_130 : decode code 130 = .ok (.aload_n 0, 1) := by decide +kernel
theorem d_La_law_131 : decode code 131 = .ok (.iload_n 3, 1) := by decide +kernel
theorem d_La_law_132 : decode code 132 = .ok (.iconst 5, 1) := by decide +kernel
theorem d_La_law_133 : decode code 133 = .ok (.iadd, 1) := by decide +kernel
theorem d_La_law_134 : decode code 134 = .ok (.iaload, 1) := by decide +kernel
theorem d_La_law_135 : decode code 135 = .ok (.invokevirtual 17, 3) := by decide +kernel
theorem d_La_law_138 : decode code 138 = .ok (.if_icmp .eq 167, 3) := by decide +kernel
theorem d_La_law_141 : decode code 141 = .ok (.iconst 0, 1) := by decide +kernel
theorem d_La_law_142 : decode code 142 = .ok (.ireturn, 1) := by decide +kernel
theorem d_La_law_143 : decode code 143 = .ok (.aload_n 1, 1) := by decide +kernel
theorem d_La_law_144 : decode code 144 = .ok (.aload_n 0, 1) := by decide +kernel
theorem d_La_law_145 : decode code 145 = .ok (.iload_n 3, 1) := by decide +kernel
theorem d_La_law_146 : decode code 146 = .ok (.iconst 1, 1) := by decide +kernel
theorem d_La_law_147 : decode code 147 = .ok (.iadd, 1) := by decide +kernel
theorem d_La_law_148 : decode code 148 = .ok (.iaload, 1) := by decide +kernel
theorem d_La_law_149 : decode code 149 = .ok (.invokevirtual 18, 3) := by decide +kernel
theorem d_La_law_152 : decode code 152 = .ok (.aload_n 2, 1) := by decide +kernel
theorem d_La_law_153 : decode code 153 = .ok (.aload_n 0, 1) := by decide +kernel
theorem d_La_law_154 : decode code 154 = .ok (.iload_n 3, 1) := by decide +kernel
theorem d_La_law_155 : decode code 155 = .ok (.iconst 1, 1) := by decide +kernel
theorem d_La_law_156 : decode code 156 = .ok (.iadd, 1) := by decide +kernel
theorem d_La_law_157 : decode code 157 = .ok (.iaload, 1) := by decide +kernel
theorem d_La_law_158 : decode code 158 = .ok (.invokevirtual 22, 3) := by decide +kernel
theorem d_La_law_161 : decode code 161 = .ok (.if_icmp .eq 144, 3) := by decide +kernel
theorem d_La_law_164 : decode code 164 = .ok (.iconst 0, 1) := by decide +kernel
theorem d_La_law_165 : decode code 165 = .ok (.ireturn, 1) := by decide +kernel
theorem d_La_law_166 : decode code 166 = .ok (.aload_n 1, 1) := by decide +kernel
theorem d_La_law_167 : decode code 167 = .ok (.invokevirtual 23, 3) := by decide +kernel
theorem d_La_law_170 : decode code 170 = .ok (.aload_n 2, 1) := by decide +kernel
theorem d_La_law_171 : decode code 171 = .ok (.invokevirtual 27, 3) := by decide +kernel
theorem d_La_law_174 : decode code 174 = .ok (.if_icmp .eq 131, 3) := by decide +kernel
theorem d_La_law_177 : decode code 177 = .ok (.iconst 0, 1) := by decide +kernel
theorem d_La_law_178 : decode code 178 = .ok (.ireturn, 1) := by decide +kernel
theorem d_La_law_179 : decode code 179 = .ok (.aload_n 1, 1) := by decide +kernel
theorem d_La_law_180 : decode code 180 = .ok (.aload_n 0, 1) := by decide +kernel
theorem d_La_law_181 : decode code 181 = .ok (.iload_n 3, 1) := by decide +kernel
theorem d_La_law_182 : decode code 182 = .ok (.iconst 1, 1) := by decide +kernel
theorem d_La_law_183 : decode code 183 = .ok (.iadd, 1) := by decide +kernel
theorem d_La_law_184 : decode code 184 = .ok (.iaload, 1) := by decide +kernel
theorem d_La_law_185 : decode code 185 = .ok (.aload_n 0, 1) := by decide +kernel
theorem d_La_law_186 : decode code 186 = .ok (.iload_n 3, 1) := by decide +kernel
theorem d_La_law_187 : decode code 187 = .ok (.iconst 2, 1) := by decide +kernel
theorem d_La_law_188 : decode code 188 = .ok (.iadd, 1) := by decide +kernel
theorem d_La_law_189 : decode code 189 = .ok (.iaload, 1) := by decide +kernel
theorem d_La_law_190 : decode code 190 = .ok (.invokevirtual 28, 3) := by decide +kernel
theorem d_La_law_193 : decode code 193 = .ok (.aload_n 2, 1) := by decide +kernel
theorem d_La_law_194 : decode code 194 = .ok (.aload_n 0, 1) := by decide +kernel
theorem d_La_law_195 : decode code 195 = .ok (.iload_n 3, 1) := by decide +kernel
theorem d_La_law_196 : decode code 196 = .ok (.iconst 1, 1) := by decide +kernel
theorem d_La_law_197 : decode code 197 = .ok (.iadd, 1) := by decide +kernel
theorem d_La_law_198 : decode code 198 = .ok (.iaload, 1) := by decide +kernel
theorem d_La_law_199 : decode code 199 = .ok (.aload_n 0, 1) := by decide +kernel
theorem d_La_law_200 : decode code 200 = .ok (.iload_n 3, 1) := by decide +kernel
theorem d_La_law_201 : decode code 201 = .ok (.iconst 2, 1) := by decide +kernel
theorem d_La_law_202 : decode code 202 = .ok (.iadd, 1) := by decide +kernel
theorem d_La_law_203 : decode code 203 = .ok (.iaload, 1) := by decide +kernel
theorem d_La_law_204 : decode code 204 = .ok (.invokevirtual 32, 3) := by decide +kernel
theorem d_La_law_207 : decode code 207 = .ok (.if_icmp .eq 98, 3) := by decide +kernel
theorem d_La_law_210 : decode code 210 = .ok (.iconst 0, 1) := by decide +kernel
theorem d_La_law_211 : decode code 211 = .ok (.ireturn, 1) := by decide +kernel
theorem d_La_law_212 : decode code 212 = .ok (.aload_n 1, 1) := by decide +kernel
theorem d_La_law_213 : decode code 213 = .ok (.invokevirtual 33, 3) := by decide +kernel
theorem d_La_law_216 : decode code 216 = .ok (.aload_n 2, 1) := by decide +kernel
theorem d_La_law_217 : decode code 217 = .ok (.invokevirtual 36, 3) := by decide +kernel
theorem d_La_law_220 : decode code 220 = .ok (.if_icmp .eq 85, 3) := by decide +kernel
theorem d_La_law_223 : decode code 223 = .ok (.iconst 0, 1) := by decide +kernel
theorem d_La_law_224 : decode code 224 = .ok (.ireturn, 1) := by decide +kernel
theorem d_La_law_225 : decode code 225 = .ok (.aload_n 1, 1) := by decide +kernel
theorem d_La_law_226 : decode code 226 = .ok (.aload_n 0, 1) := by decide +kernel
theorem d_La_law_227 : decode code 227 = .ok (.iload_n 3, 1) := by decide +kernel
theorem d_La_law_228 : decode code 228 = .ok (.iconst 1, 1) := by decide +kernel
theorem d_La_law_229 : decode code 229 = .ok (.iadd, 1) := by decide +kernel
theorem d_La_law_230 : decode code 230 = .ok (.iaload, 1) := by decide +kernel
theorem d_La_law_231 : decode code 231 = .ok (.invokevirtual 37, 3) := by decide +kernel
theorem d_La_law_234 : decode code 234 = .ok (.aload_n 2, 1) := by decide +kernel
theorem d_La_law_235 : decode code 235 = .ok (.aload_n 0, 1) := by decide +kernel
theorem d_La_law_236 : decode code 236 = .ok (.iload_n 3, 1) := by decide +kernel
theorem d_La_law_237 : decode code 237 = .ok (.iconst 1, 1) := by decide +kernel
theorem d_La_law_238 : decode code 238 = .ok (.iadd, 1) := by decide +kernel
theorem d_La_law_239 : decode code 239 = .ok (.iaload, 1) := by decide +kernel
theorem d_La_law_240 : decode code 240 = .ok (.invokevirtual 41, 3) := by decide +kernel
theorem d_La_law_243 : decode code 243 = .ok (.lcmp, 1) := by decide +kernel
theorem d_La_law_244 : decode code 244 = .ok (.ifCond .eq 61, 3) := by decide +kernel
theorem d_La_law_247 : decode code 247 = .ok (.iconst 0, 1) := by decide +kernel
theorem d_La_law_248 : decode code 248 = .ok (.ireturn, 1) := by decide +kernel
theorem d_La_law_249 : decode code 249 = .ok (.aload_n 1, 1) := by decide +kernel
theorem d_La_law_250 : decode code 250 = .ok (.aload_n 0, 1) := by decide +kernel
theorem d_La_law_251 : decode code 251 = .ok (.iload_n 3, 1) := by decide +kernel
theorem d_La_law_252 : decode code 252 = .ok (.iconst 1, 1) := by decide +kernel
theorem d_La_law_253 : decode code 253 = .ok (.iadd, 1) := by decide +kernel
theorem d_La_law_254 : decode code 254 = .ok (.iaload, 1) := by decide +kernel
theorem d_La_law_255 : decode code 255 = .ok (.aload_n 0, 1) := by decide +kernel
theorem d_La_law_256 : decode code 256 = .ok (.iload_n 3, 1) := by decide +kernel
theorem d_La_law_257 : decode code 257 = .ok (.iconst 2, 1) := by decide +kernel
theorem d_La_law_258 : decode code 258 = .ok (.iadd, 1) := by decide +kernel
theorem d_La_law_259 : decode code 259 = .ok (.iaload, 1) := by decide +kernel
theorem d_La_law_260 : decode code 260 = .ok (.invokevirtual 42, 3) := by decide +kernel
theorem d_La_law_263 : decode code 263 = .ok (.aload_n 2, 1) := by decide +kernel
theorem d_La_law_264 : decode code 264 = .ok (.aload_n 0, 1) := by decide +kernel
theorem d_La_law_265 : decode code 265 = .ok (.iload_n 3, 1) := by decide +kernel
theorem d_La_law_266 : decode code 266 = .ok (.iconst 1, 1) := by decide +kernel
theorem d_La_law_267 : decode code 267 = .ok (.iadd, 1) := by decide +kernel
theorem d_La_law_268 : decode code 268 = .ok (.iaload, 1) := by decide +kernel
theorem d_La_law_269 : decode code 269 = .ok (.aload_n 0, 1) := by decide +kernel
theorem d_La_law_270 : decode code 270 = .ok (.iload_n 3, 1) := by decide +kernel
theorem d_La_law_271 : decode code 271 = .ok (.iconst 2, 1) := by decide +kernel
theorem d_La_law_272 : decode code 272 = .ok (.iadd, 1) := by decide +kernel
theorem d_La_law_273 : decode code 273 = .ok (.iaload, 1) := by decide +kernel
theorem d_La_law_274 : decode code 274 = .ok (.invokevirtual 45, 3) := by decide +kernel
theorem d_La_law_277 : decode code 277 = .ok (.if_icmp .eq 28, 3) := by decide +kernel
theorem d_La_law_280 : decode code 280 = .ok (.iconst 0, 1) := by decide +kernel
theorem d_La_law_281 : decode code 281 = .ok (.ireturn, 1) := by decide +kernel
theorem d_La_law_282 : decode code 282 = .ok (.aload_n 1, 1) := by decide +kernel
theorem d_La_law_283 : decode code 283 = .ok (.aload_n 0, 1) := by decide +kernel
theorem d_La_law_284 : decode code 284 = .ok (.iload_n 3, 1) := by decide +kernel
theorem d_La_law_285 : decode code 285 = .ok (.iconst 1, 1) := by decide +kernel
theorem d_La_law_286 : decode code 286 = .ok (.iadd, 1) := by decide +kernel
theorem d_La_law_287 : decode code 287 = .ok (.iaload, 1) := by decide +kernel
theorem d_La_law_288 : decode code 288 = .ok (.invokevirtual 46, 3) := by decide +kernel
theorem d_La_law_291 : decode code 291 = .ok (.aload_n 2, 1) := by decide +kernel
theorem d_La_law_292 : decode code 292 = .ok (.aload_n 0, 1) := by decide +kernel
theorem d_La_law_293 : decode code 293 = .ok (.iload_n 3, 1) := by decide +kernel
theorem d_La_law_294 : decode code 294 = .ok (.iconst 1, 1) := by decide +kernel
theorem d_La_law_295 : decode code 295 = .ok (.iadd, 1) := by decide +kernel
theorem d_La_law_296 : decode code 296 = .ok (.iaload, 1) := by decide +kernel
theorem d_La_law_297 : decode code 297 = .ok (.invokevirtual 49, 3) := by decide +kernel
theorem d_La_law_300 : decode code 300 = .ok (.if_icmp .eq 5, 3) := by decide +kernel
theorem d_La_law_303 : decode code 303 = .ok (.iconst 0, 1) := by decide +kernel
theorem d_La_law_304 : decode code 304 = .ok (.ireturn, 1) := by decide +kernel
theorem d_La_law_305 : decode code 305 = .ok (.iinc 3 6, 3) := by decide +kernel
theorem d_La_law_308 : decode code 308 = .ok (.goto (-290), 3) := by decide +kernel
theorem d_La_law_311 : decode code 311 = .ok (.iconst 1, 1) := by decide +kernel
theorem d_La_law_312 : decode code 312 = .ok (.ireturn, 1) := by decide +kernel
end
section
theorem m_Ru_init : Cond.code y_Ru_init c_Ru_init 1 none ∈ rr_ws := rr_inw 65 (by decide +kernel) (by decide +kernel)
theorem m_Ta_init : Cond.code y_Ta_init c_Ta_init 1 none ∈ rr_ws := rr_inw 73 (by decide +kernel) (by decide +kernel)
theorem m_Re_init : Cond.code y_Re_init c_Re_init 1 none ∈ rr_ws := rr_inw 90 (by decide +kernel) (by decide +kernel)
theorem m_To_init : Cond.code y_To_init c_To_init 1 none ∈ rr_ws := rr_inw 96 (by decide +kernel) (by decide +kernel)
theorem m_Co_init : Cond.code y_Co_init c_Co_init 1 none ∈ rr_ws := rr_inw 119 (by decide +kernel) (by decide +kernel)
theorem m_Ma_init : Cond.code y_Ma_init c_Ma_init 1 none ∈ rr_ws := rr_inw 159 (by decide +kernel) (by decide +kernel)
theorem m_Ru_feed : Cond.code y_Ru_feed c_Ru_feed 6 (some .int) ∈ rr_ws := rr_inw 215 (by decide +kernel) (by decide +kernel)
theorem m_Ta_append : Cond.code y_Ta_append c_Ta_append 3 none ∈ rr_ws := rr_inw 219 (by decide +kernel) (by decide +kernel)
theorem m_Ru_end : Cond.code y_Ru_end c_Ru_end 2 (some .int) ∈ rr_ws := rr_inw 223 (by decide +kernel) (by decide +kernel)
theorem m_Ru_program : Cond.code y_Ru_program c_Ru_program 2 (some .int) ∈ rr_ws := rr_inw 227 (by decide +kernel) (by decide +kernel)
theorem m_Re_read : Cond.code y_Re_read c_Re_read 3 (some .int) ∈ rr_ws := rr_inw 231 (by decide +kernel) (by decide +kernel)
theorem m_To_split : Cond.code y_To_split c_To_split 4 none ∈ rr_ws := rr_inw 235 (by decide +kernel) (by decide +kernel)
theorem m_To_splitOne : Cond.code y_To_splitOne c_To_splitOne 4 (some .int) ∈ rr_ws := rr_inw 239 (by decide +kernel) (by decide +kernel)
theorem m_To_isLetter : Cond.code y_To_isLetter c_To_isLetter 1 (some .boolean) ∈ rr_ws := rr_inw 242 (by decide +kernel) (by decide +kernel)
theorem m_To_splitWord : Cond.code y_To_splitWord c_To_splitWord 4 (some .int) ∈ rr_ws := rr_inw 246 (by decide +kernel) (by decide +kernel)
theorem m_To_wordKind : Cond.code y_To_wordKind c_To_wordKind 3 (some .int) ∈ rr_ws := rr_inw 249 (by decide +kernel) (by decide +kernel)
theorem m_Ta_spells : Cond.code y_Ta_spells c_Ta_spells 5 (some .boolean) ∈ rr_ws := rr_inw 254 (by decide +kernel) (by decide +kernel)
theorem m_St_length : Cond.code y_St_length c_St_length 1 (some .int) ∈ rr_ws := rr_inw 258 (by decide +kernel) (by decide +kernel)
theorem m_St_coder : Cond.code y_St_coder c_St_coder 1 (some .byte) ∈ rr_ws := rr_inw 262 (by decide +kernel) (by decide +kernel)
theorem m_St_charAt : Cond.code y_St_charAt c_St_charAt 2 (some .char) ∈ rr_ws := rr_inw 268 (by decide +kernel) (by decide +kernel)
theorem m_St_isLatin1 : Cond.code y_St_isLatin1 c_St_isLatin1 1 (some .boolean) ∈ rr_ws := rr_inw 272 (by decide +kernel) (by decide +kernel)
theorem m_Sl_charAt : Cond.code y_Sl_charAt c_Sl_charAt 2 (some .char) ∈ rr_ws := rr_inw 275 (by decide +kernel) (by decide +kernel)
theorem m_St_checkIndex : Cond.code y_St_checkIndex c_St_checkIndex 2 none ∈ rr_ws := rr_inw 278 (by decide +kernel) (by decide +kernel)
theorem m_Pr_checkIndex : Cond.code y_Pr_checkIndex c_Pr_checkIndex 3 (some .int) ∈ rr_ws := rr_inw 283 (by decide +kernel) (by decide +kernel)
theorem m_To_add : Cond.code y_To_add c_To_add 4 none ∈ rr_ws := rr_inw 312 (by decide +kernel) (by decide +kernel)
theorem m_To_isDigit : Cond.code y_To_isDigit c_To_isDigit 1 (some .boolean) ∈ rr_ws := rr_inw 315 (by decide +kernel) (by decide +kernel)
theorem m_To_splitNumber : Cond.code y_To_splitNumber c_To_splitNumber 6 (some .int) ∈ rr_ws := rr_inw 319 (by decide +kernel) (by decide +kernel)
theorem m_Mt_minJ : Cond.code y_Mt_minJ c_Mt_minJ 4 (some .long) ∈ rr_ws := rr_inw 324 (by decide +kernel) (by decide +kernel)
theorem m_To_signKind : Cond.code y_To_signKind c_To_signKind 1 (some .int) ∈ rr_ws := rr_inw 328 (by decide +kernel) (by decide +kernel)
theorem m_Co_clear : Cond.code y_Co_clear c_Co_clear 1 none ∈ rr_ws := rr_inw 332 (by decide +kernel) (by decide +kernel)
theorem m_Re_readRule : Cond.code y_Re_readRule c_Re_readRule 2 (some .boolean) ∈ rr_ws := rr_inw 336 (by decide +kernel) (by decide +kernel)
theorem m_Re_pass : Cond.code y_Re_pass c_Re_pass 2 (some .boolean) ∈ rr_ws := rr_inw 340 (by decide +kernel) (by decide +kernel)
theorem m_Re_readTest : Cond.code y_Re_readTest c_Re_readTest 3 (some .boolean) ∈ rr_ws := rr_inw 344 (by decide +kernel) (by decide +kernel)
theorem m_Re_readSum : Cond.code y_Re_readSum c_Re_readSum 4 (some .boolean) ∈ rr_ws := rr_inw 348 (by decide +kernel) (by decide +kernel)
theorem m_Re_readTerm : Cond.code y_Re_readTerm c_Re_readTerm 3 (some .boolean) ∈ rr_ws := rr_inw 352 (by decide +kernel) (by decide +kernel)
theorem m_Re_readPart : Cond.code y_Re_readPart c_Re_readPart 3 (some .boolean) ∈ rr_ws := rr_inw 356 (by decide +kernel) (by decide +kernel)
theorem m_Re_looksAt : Cond.code y_Re_looksAt c_Re_looksAt 2 (some .boolean) ∈ rr_ws := rr_inw 360 (by decide +kernel) (by decide +kernel)
theorem m_Re_looksAtCellNumber : Cond.code y_Re_looksAtCellNumber c_Re_looksAtCellNumber 1 (some .boolean) ∈ rr_ws := rr_inw 364 (by decide +kernel) (by decide +kernel)
theorem m_Co_add : Cond.code y_Co_add c_Co_add 3 none ∈ rr_ws := rr_inw 368 (by decide +kernel) (by decide +kernel)
theorem m_Re_readEffect : Cond.code y_Re_readEffect c_Re_readEffect 2 (some .boolean) ∈ rr_ws := rr_inw 372 (by decide +kernel) (by decide +kernel)
theorem m_Co_closeRule : Cond.code y_Co_closeRule c_Co_closeRule 1 none ∈ rr_ws := rr_inw 376 (by decide +kernel) (by decide +kernel)
theorem m_Re_exchange : Cond.code y_Re_exchange c_Re_exchange 3 (some (.object "RuleRunner$Code")) ∈ rr_ws := rr_inw 380 (by decide +kernel) (by decide +kernel)
theorem m_Ru_run : Cond.code y_Ru_run c_Ru_run 3 (some .int) ∈ rr_ws := rr_inw 384 (by decide +kernel) (by decide +kernel)
theorem m_Ma_perform : Cond.code y_Ma_perform c_Ma_perform 6 (some .int) ∈ rr_ws := rr_inw 388 (by decide +kernel) (by decide +kernel)
theorem m_Ma_isTaken : Cond.code y_Ma_isTaken c_Ma_isTaken 7 (some .boolean) ∈ rr_ws := rr_inw 392 (by decide +kernel) (by decide +kernel)
theorem m_Ma_push : Cond.code y_Ma_push c_Ma_push 2 none ∈ rr_ws := rr_inw 396 (by decide +kernel) (by decide +kernel)
theorem m_Ma_pop : Cond.code y_Ma_pop c_Ma_pop 1 (some .int) ∈ rr_ws := rr_inw 400 (by decide +kernel) (by decide +kernel)
theorem m_Ma_addEffect : Cond.code y_Ma_addEffect c_Ma_addEffect 3 none ∈ rr_ws := rr_inw 404 (by decide +kernel) (by decide +kernel)
theorem m_Ma_calculate : Cond.code y_Ma_calculate c_Ma_calculate 4 none ∈ rr_ws := rr_inw 408 (by decide +kernel) (by decide +kernel)
theorem m_Ma_holds : Cond.code y_Ma_holds c_Ma_holds 4 (some .boolean) ∈ rr_ws := rr_inw 412 (by decide +kernel) (by decide +kernel)
theorem m_Ma_applyEffects : Cond.code y_Ma_applyEffects c_Ma_applyEffects 2 none ∈ rr_ws := rr_inw 416 (by decide +kernel) (by decide +kernel)
theorem m_Ma_change : Cond.code y_Ma_change c_Ma_change 3 none ∈ rr_ws := rr_inw 420 (by decide +kernel) (by decide +kernel)
theorem m_Ru_isCell : Cond.code y_Ru_isCell c_Ru_isCell 1 (some .boolean) ∈ rr_ws := rr_inw 423 (by decide +kernel) (by decide +kernel)
theorem m_Ru_undo : Cond.code y_Ru_undo c_Ru_undo 1 (some .int) ∈ rr_ws := rr_inw 427 (by decide +kernel) (by decide +kernel)
theorem m_Ma_takeBack : Cond.code y_Ma_takeBack c_Ma_takeBack 3 (some .int) ∈ rr_ws := rr_inw 431 (by decide +kernel) (by decide +kernel)
theorem m_Ru_cell : Cond.code y_Ru_cell c_Ru_cell 2 (some .long) ∈ rr_ws := rr_inw 435 (by decide +kernel) (by decide +kernel)
theorem m_Ru_set : Cond.code y_Ru_set c_Ru_set 3 (some .int) ∈ rr_ws := rr_inw 441 (by decide +kernel) (by decide +kernel)
theorem m_Ru_count : Cond.code y_Ru_count c_Ru_count 2 (some .int) ∈ rr_ws := rr_inw 445 (by decide +kernel) (by decide +kernel)
theorem m_Mo_init : Cond.code y_Mo_init c_Mo_init 1 none ∈ rr_ws := rr_inw 450 (by decide +kernel) (by decide +kernel)
theorem m_Mo_feed : Cond.code y_Mo_feed c_Mo_feed 8 (some .int) ∈ rr_ws := rr_inw 516 (by decide +kernel) (by decide +kernel)
theorem m_Mo_end : Cond.code y_Mo_end c_Mo_end 2 (some .int) ∈ rr_ws := rr_inw 520 (by decide +kernel) (by decide +kernel)
theorem m_Mo_in : Cond.code y_Mo_in c_Mo_in 3 (some .boolean) ∈ rr_ws := rr_inw 523 (by decide +kernel) (by decide +kernel)
theorem m_Mo_program : Cond.code y_Mo_program c_Mo_program 2 (some .int) ∈ rr_ws := rr_inw 527 (by decide +kernel) (by decide +kernel)
theorem m_Mo_step : Cond.code y_Mo_step c_Mo_step 3 none ∈ rr_ws := rr_inw 531 (by decide +kernel) (by decide +kernel)
theorem m_Mo_isLetter : Cond.code y_Mo_isLetter c_Mo_isLetter 1 (some .boolean) ∈ rr_ws := rr_inw 534 (by decide +kernel) (by decide +kernel)
theorem m_Mo_is : Cond.code y_Mo_is c_Mo_is 3 (some .boolean) ∈ rr_ws := rr_inw 539 (by decide +kernel) (by decide +kernel)
theorem m_Mo_isDigit : Cond.code y_Mo_isDigit c_Mo_isDigit 1 (some .boolean) ∈ rr_ws := rr_inw 550 (by decide +kernel) (by decide +kernel)
theorem m_Mo_rule : Cond.code y_Mo_rule c_Mo_rule 4 (some .boolean) ∈ rr_ws := rr_inw 559 (by decide +kernel) (by decide +kernel)
theorem m_Mo_bad : Cond.code y_Mo_bad c_Mo_bad 1 (some .boolean) ∈ rr_ws := rr_inw 563 (by decide +kernel) (by decide +kernel)
theorem m_Mo_put : Cond.code y_Mo_put c_Mo_put 2 none ∈ rr_ws := rr_inw 567 (by decide +kernel) (by decide +kernel)
theorem m_Mo_compare : Cond.code y_Mo_compare c_Mo_compare 2 (some .boolean) ∈ rr_ws := rr_inw 571 (by decide +kernel) (by decide +kernel)
theorem m_Mo_whole : Cond.code y_Mo_whole c_Mo_whole 1 (some .boolean) ∈ rr_ws := rr_inw 575 (by decide +kernel) (by decide +kernel)
theorem m_Mo_sum : Cond.code y_Mo_sum c_Mo_sum 3 (some .boolean) ∈ rr_ws := rr_inw 579 (by decide +kernel) (by decide +kernel)
theorem m_Mo_term : Cond.code y_Mo_term c_Mo_term 2 (some .boolean) ∈ rr_ws := rr_inw 583 (by decide +kernel) (by decide +kernel)
theorem m_Mo_part : Cond.code y_Mo_part c_Mo_part 2 (some .boolean) ∈ rr_ws := rr_inw 587 (by decide +kernel) (by decide +kernel)
theorem m_Mo_take : Cond.code y_Mo_take c_Mo_take 2 (some .boolean) ∈ rr_ws := rr_inw 593 (by decide +kernel) (by decide +kernel)
theorem m_Mo_cellZ : Cond.code y_Mo_cellZ c_Mo_cellZ 1 (some .boolean) ∈ rr_ws := rr_inw 597 (by decide +kernel) (by decide +kernel)
theorem m_Ar_copyOf : Cond.code y_Ar_copyOf c_Ar_copyOf 3 (some (.array .int)) ∈ rr_ws := rr_inw 610 (by decide +kernel) (by decide +kernel)
theorem m_Mt_min : Cond.code y_Mt_min c_Mt_min 2 (some .int) ∈ rr_ws := rr_inw 620 (by decide +kernel) (by decide +kernel)
theorem m_Mo_run : Cond.code y_Mo_run c_Mo_run 3 (some .int) ∈ rr_ws := rr_inw 627 (by decide +kernel) (by decide +kernel)
theorem m_Mo_perform : Cond.code y_Mo_perform c_Mo_perform 7 (some .int) ∈ rr_ws := rr_inw 632 (by decide +kernel) (by decide +kernel)
theorem m_Mo_holds : Cond.code y_Mo_holds c_Mo_holds 10 (some .boolean) ∈ rr_ws := rr_inw 636 (by decide +kernel) (by decide +kernel)
theorem m_Mo_value : Cond.code y_Mo_value c_Mo_value 6 (some .int) ∈ rr_ws := rr_inw 640 (by decide +kernel) (by decide +kernel)
theorem m_Mo_undo : Cond.code y_Mo_undo c_Mo_undo 1 (some .int) ∈ rr_ws := rr_inw 644 (by decide +kernel) (by decide +kernel)
theorem m_Mo_cell : Cond.code y_Mo_cell c_Mo_cell 2 (some .long) ∈ rr_ws := rr_inw 648 (by decide +kernel) (by decide +kernel)
theorem m_Mo_set : Cond.code y_Mo_set c_Mo_set 3 (some .int) ∈ rr_ws := rr_inw 652 (by decide +kernel) (by decide +kernel)
theorem m_Mo_count : Cond.code y_Mo_count c_Mo_count 2 (some .int) ∈ rr_ws := rr_inw 656 (by decide +kernel) (by decide +kernel)
theorem ol_Ru_3 : Cond.methodLink R_Ru 3 objectInit ∈ rr_ws := rr_inw 66 (by decide +kernel) (by decide +kernel)
theorem nl_Ru_9 : rr_NL R_Ru 9 3 [.null, .int 0] := ⟨_, _, rfl, rr_inw 69 (by decide +kernel) (by decide +kernel), rr_inw 70 (by decide +kernel) (by decide +kernel), rr_inw 48 (by decide +kernel) (by decide +kernel), by decide +kernel, by decide +kernel⟩
theorem il_Ru_11 : rr_LI R_Ru 11 y_Ta_init 0 := ⟨Or.inr ⟨"RuleRunner", rr_inn 71 (by decide +kernel) (by decide +kernel)⟩, rr_inw 72 (by decide +kernel) (by decide +kernel), rfl, rr_inw 48 (by decide +kernel) (by decide +kernel), ⟨by decide +kernel, by decide +kernel, by decide +kernel⟩⟩
theorem fl_Ru_12 : rr_FL R_Ru 12 5 0 := ⟨_, _, _, rfl, by decide, Or.inl (rr_inw 199 (by decide +kernel) (by decide +kernel))⟩
theorem fF_Ru_12 : ∃ (T : u_T) (N : Nat), rr_cl[5]? = some (R_Ru, T, N) ∧ 0 < N ∧ (T 0).1 = R_Ru ∧ (T 0).2.2.2 = true ∧ Cond.fieldLink R_Ru 12 (T 0).1 (T 0).2.1 (T 0).2.2.1 ∈ rr_ws := ⟨_, _, rfl, by decide, rfl, rfl, rr_inw 199 (by decide +kernel) (by decide +kernel)⟩
theorem nl_Ru_16 : rr_NL R_Ru 16 2 [.null, .null, .int 0, .int 0] := ⟨_, _, rfl, rr_inw 86 (by decide +kernel) (by decide +kernel), rr_inw 87 (by decide +kernel) (by decide +kernel), rr_inw 49 (by decide +kernel) (by decide +kernel), by decide +kernel, by decide +kernel⟩
theorem il_Ru_18 : rr_LI R_Ru 18 y_Re_init 0 := ⟨Or.inr ⟨"RuleRunner", rr_inn 88 (by decide +kernel) (by decide +kernel)⟩, rr_inw 89 (by decide +kernel) (by decide +kernel), rfl, rr_inw 49 (by decide +kernel) (by decide +kernel), ⟨by decide +kernel, by decide +kernel, by decide +kernel⟩⟩
theorem fl_Ru_19 : rr_FL R_Ru 19 5 1 := ⟨_, _, _, rfl, by decide, Or.inl (rr_inw 200 (by decide +kernel) (by decide +kernel))⟩
theorem fF_Ru_19 : ∃ (T : u_T) (N : Nat), rr_cl[5]? = some (R_Ru, T, N) ∧ 1 < N ∧ (T 1).1 = R_Ru ∧ (T 1).2.2.2 = true ∧ Cond.fieldLink R_Ru 19 (T 1).1 (T 1).2.1 (T 1).2.2.1 ∈ rr_ws := ⟨_, _, rfl, by decide, rfl, rfl, rr_inw 200 (by decide +kernel) (by decide +kernel)⟩
theorem nl_Ru_23 : rr_NL R_Ru 23 1 [.null, .null, .int 0, .null, .null, .int 0, .null, .null, .int 0, .null, .int 0] := ⟨_, _, rfl, rr_inw 155 (by decide +kernel) (by decide +kernel), rr_inw 156 (by decide +kernel) (by decide +kernel), rr_inw 52 (by decide +kernel) (by decide +kernel), by decide +kernel, by decide +kernel⟩
theorem il_Ru_25 : rr_LI R_Ru 25 y_Ma_init 0 := ⟨Or.inr ⟨"RuleRunner", rr_inn 157 (by decide +kernel) (by decide +kernel)⟩, rr_inw 158 (by decide +kernel) (by decide +kernel), rfl, rr_inw 52 (by decide +kernel) (by decide +kernel), ⟨by decide +kernel, by decide +kernel, by decide +kernel⟩⟩
theorem fl_Ru_26 : rr_FL R_Ru 26 5 2 := ⟨_, _, _, rfl, by decide, Or.inl (rr_inw 201 (by decide +kernel) (by decide +kernel))⟩
theorem fF_Ru_26 : ∃ (T : u_T) (N : Nat), rr_cl[5]? = some (R_Ru, T, N) ∧ 2 < N ∧ (T 2).1 = R_Ru ∧ (T 2).2.2.2 = true ∧ Cond.fieldLink R_Ru 26 (T 2).1 (T 2).2.1 (T 2).2.2.1 ∈ rr_ws := ⟨_, _, rfl, by decide, rfl, rfl, rr_inw 201 (by decide +kernel) (by decide +kernel)⟩
theorem nl_Ru_30 : rr_NL R_Ru 30 0 [.null, .null, .null, .int 0, .int 0] := ⟨_, _, rfl, rr_inw 197 (by decide +kernel) (by decide +kernel), rr_inw 116 (by decide +kernel) (by decide +kernel), rr_inw 51 (by decide +kernel) (by decide +kernel), by decide +kernel, by decide +kernel⟩
theorem il_Ru_32 : rr_LI R_Ru 32 y_Co_init 0 := ⟨Or.inr ⟨"RuleRunner", rr_inn 198 (by decide +kernel) (by decide +kernel)⟩, rr_inw 118 (by decide +kernel) (by decide +kernel), rfl, rr_inw 51 (by decide +kernel) (by decide +kernel), ⟨by decide +kernel, by decide +kernel, by decide +kernel⟩⟩
theorem fl_Ru_33 : rr_FL R_Ru 33 5 3 := ⟨_, _, _, rfl, by decide, Or.inl (rr_inw 202 (by decide +kernel) (by decide +kernel))⟩
theorem ol_Ta_3 : Cond.methodLink R_Ta 3 objectInit ∈ rr_ws := rr_inw 74 (by decide +kernel) (by decide +kernel)
theorem fl_Ta_9 : rr_FL R_Ta 9 3 0 := ⟨_, _, _, rfl, by decide, Or.inl (rr_inw 75 (by decide +kernel) (by decide +kernel))⟩
theorem fF_Ta_9 : ∃ (T : u_T) (N : Nat), rr_cl[3]? = some (R_Ta, T, N) ∧ 0 < N ∧ (T 0).1 = R_Ta ∧ (T 0).2.2.2 = true ∧ Cond.fieldLink R_Ta 9 (T 0).1 (T 0).2.1 (T 0).2.2.1 ∈ rr_ws := ⟨_, _, rfl, by decide, rfl, rfl, rr_inw 75 (by decide +kernel) (by decide +kernel)⟩
theorem ol_Re_3 : Cond.methodLink R_Re 3 objectInit ∈ rr_ws := rr_inw 91 (by decide +kernel) (by decide +kernel)
theorem nl_Re_9 : rr_NL R_Re 9 4 [.null, .null, .null, .int 0] := ⟨_, _, rfl, rr_inw 92 (by decide +kernel) (by decide +kernel), rr_inw 93 (by decide +kernel) (by decide +kernel), rr_inw 50 (by decide +kernel) (by decide +kernel), by decide +kernel, by decide +kernel⟩
theorem il_Re_11 : rr_LI R_Re 11 y_To_init 0 := ⟨Or.inr ⟨"RuleRunner", rr_inn 94 (by decide +kernel) (by decide +kernel)⟩, rr_inw 95 (by decide +kernel) (by decide +kernel), rfl, rr_inw 50 (by decide +kernel) (by decide +kernel), ⟨by decide +kernel, by decide +kernel, by decide +kernel⟩⟩
theorem fl_Re_12 : rr_FL R_Re 12 2 0 := ⟨_, _, _, rfl, by decide, Or.inl (rr_inw 142 (by decide +kernel) (by decide +kernel))⟩
theorem fF_Re_12 : ∃ (T : u_T) (N : Nat), rr_cl[2]? = some (R_Re, T, N) ∧ 0 < N ∧ (T 0).1 = R_Re ∧ (T 0).2.2.2 = true ∧ Cond.fieldLink R_Re 12 (T 0).1 (T 0).2.1 (T 0).2.2.1 ∈ rr_ws := ⟨_, _, rfl, by decide, rfl, rfl, rr_inw 142 (by decide +kernel) (by decide +kernel)⟩
theorem nl_Re_18 : rr_NL R_Re 18 0 [.null, .null, .null, .int 0, .int 0] := ⟨_, _, rfl, rr_inw 115 (by decide +kernel) (by decide +kernel), rr_inw 116 (by decide +kernel) (by decide +kernel), rr_inw 51 (by decide +kernel) (by decide +kernel), by decide +kernel, by decide +kernel⟩
theorem il_Re_20 : rr_LI R_Re 20 y_Co_init 0 := ⟨Or.inr ⟨"RuleRunner", rr_inn 117 (by decide +kernel) (by decide +kernel)⟩, rr_inw 118 (by decide +kernel) (by decide +kernel), rfl, rr_inw 51 (by decide +kernel) (by decide +kernel), ⟨by decide +kernel, by decide +kernel, by decide +kernel⟩⟩
theorem fl_Re_21 : rr_FL R_Re 21 2 1 := ⟨_, _, _, rfl, by decide, Or.inl (rr_inw 143 (by decide +kernel) (by decide +kernel))⟩
theorem ol_To_3 : Cond.methodLink R_To 3 objectInit ∈ rr_ws := rr_inw 97 (by decide +kernel) (by decide +kernel)
theorem fl_To_9 : rr_FL R_To 9 4 0 := ⟨_, _, _, rfl, by decide, Or.inl (rr_inw 98 (by decide +kernel) (by decide +kernel))⟩
theorem fF_To_9 : ∃ (T : u_T) (N : Nat), rr_cl[4]? = some (R_To, T, N) ∧ 0 < N ∧ (T 0).1 = R_To ∧ (T 0).2.2.2 = true ∧ Cond.fieldLink R_To 9 (T 0).1 (T 0).2.1 (T 0).2.2.1 ∈ rr_ws := ⟨_, _, rfl, by decide, rfl, rfl, rr_inw 98 (by decide +kernel) (by decide +kernel)⟩
theorem fl_To_15 : rr_FL R_To 15 4 1 := ⟨_, _, _, rfl, by decide, Or.inl (rr_inw 100 (by decide +kernel) (by decide +kernel))⟩
theorem fF_To_15 : ∃ (T : u_T) (N : Nat), rr_cl[4]? = some (R_To, T, N) ∧ 1 < N ∧ (T 1).1 = R_To ∧ (T 1).2.2.2 = true ∧ Cond.fieldLink R_To 15 (T 1).1 (T 1).2.1 (T 1).2.2.1 ∈ rr_ws := ⟨_, _, rfl, by decide, rfl, rfl, rr_inw 100 (by decide +kernel) (by decide +kernel)⟩
theorem fl_To_18 : rr_FL R_To 18 4 2 := ⟨_, _, _, rfl, by decide, Or.inl (rr_inw 102 (by decide +kernel) (by decide +kernel))⟩
theorem fF_To_18 : ∃ (T : u_T) (N : Nat), rr_cl[4]? = some (R_To, T, N) ∧ 2 < N ∧ (T 2).1 = R_To ∧ (T 2).2.2.2 = true ∧ Cond.fieldLink R_To 18 (T 2).1 (T 2).2.1 (T 2).2.2.1 ∈ rr_ws := ⟨_, _, rfl, by decide, rfl, rfl, rr_inw 102 (by decide +kernel) (by decide +kernel)⟩
theorem ol_Co_3 : Cond.methodLink R_Co 3 objectInit ∈ rr_ws := rr_inw 120 (by decide +kernel) (by decide +kernel)
theorem fl_Co_9 : rr_FL R_Co 9 0 0 := ⟨_, _, _, rfl, by decide, Or.inl (rr_inw 121 (by decide +kernel) (by decide +kernel))⟩
theorem fF_Co_9 : ∃ (T : u_T) (N : Nat), rr_cl[0]? = some (R_Co, T, N) ∧ 0 < N ∧ (T 0).1 = R_Co ∧ (T 0).2.2.2 = true ∧ Cond.fieldLink R_Co 9 (T 0).1 (T 0).2.1 (T 0).2.2.1 ∈ rr_ws := ⟨_, _, rfl, by decide, rfl, rfl, rr_inw 121 (by decide +kernel) (by decide +kernel)⟩
theorem fl_Co_15 : rr_FL R_Co 15 0 1 := ⟨_, _, _, rfl, by decide, Or.inl (rr_inw 123 (by decide +kernel) (by decide +kernel))⟩
theorem fF_Co_15 : ∃ (T : u_T) (N : Nat), rr_cl[0]? = some (R_Co, T, N) ∧ 1 < N ∧ (T 1).1 = R_Co ∧ (T 1).2.2.2 = true ∧ Cond.fieldLink R_Co 15 (T 1).1 (T 1).2.1 (T 1).2.2.1 ∈ rr_ws := ⟨_, _, rfl, by decide, rfl, rfl, rr_inw 123 (by decide +kernel) (by decide +kernel)⟩
theorem fl_Co_18 : rr_FL R_Co 18 0 2 := ⟨_, _, _, rfl, by decide, Or.inl (rr_inw 125 (by decide +kernel) (by decide +kernel))⟩
theorem fF_Co_18 : ∃ (T : u_T) (N : Nat), rr_cl[0]? = some (R_Co, T, N) ∧ 2 < N ∧ (T 2).1 = R_Co ∧ (T 2).2.2.2 = true ∧ Cond.fieldLink R_Co 18 (T 2).1 (T 2).2.1 (T 2).2.2.1 ∈ rr_ws := ⟨_, _, rfl, by decide, rfl, rfl, rr_inw 125 (by decide +kernel) (by decide +kernel)⟩
theorem ol_Ma_3 : Cond.methodLink R_Ma 3 objectInit ∈ rr_ws := rr_inw 160 (by decide +kernel) (by decide +kernel)
theorem fl_Ma_9 : rr_FL R_Ma 9 1 0 := ⟨_, _, _, rfl, by decide, Or.inl (rr_inw 161 (by decide +kernel) (by decide +kernel))⟩
theorem fF_Ma_9 : ∃ (T : u_T) (N : Nat), rr_cl[1]? = some (R_Ma, T, N) ∧ 0 < N ∧ (T 0).1 = R_Ma ∧ (T 0).2.2.2 = true ∧ Cond.fieldLink R_Ma 9 (T 0).1 (T 0).2.1 (T 0).2.2.1 ∈ rr_ws := ⟨_, _, rfl, by decide, rfl, rfl, rr_inw 161 (by decide +kernel) (by decide +kernel)⟩
theorem fl_Ma_15 : rr_FL R_Ma 15 1 1 := ⟨_, _, _, rfl, by decide, Or.inl (rr_inw 163 (by decide +kernel) (by decide +kernel))⟩
theorem fF_Ma_15 : ∃ (T : u_T) (N : Nat), rr_cl[1]? = some (R_Ma, T, N) ∧ 1 < N ∧ (T 1).1 = R_Ma ∧ (T 1).2.2.2 = true ∧ Cond.fieldLink R_Ma 15 (T 1).1 (T 1).2.1 (T 1).2.2.1 ∈ rr_ws := ⟨_, _, rfl, by decide, rfl, rfl, rr_inw 163 (by decide +kernel) (by decide +kernel)⟩
theorem fl_Ma_18 : rr_FL R_Ma 18 1 3 := ⟨_, _, _, rfl, by decide, Or.inl (rr_inw 165 (by decide +kernel) (by decide +kernel))⟩
theorem fF_Ma_18 : ∃ (T : u_T) (N : Nat), rr_cl[1]? = some (R_Ma, T, N) ∧ 3 < N ∧ (T 3).1 = R_Ma ∧ (T 3).2.2.2 = true ∧ Cond.fieldLink R_Ma 18 (T 3).1 (T 3).2.1 (T 3).2.2.1 ∈ rr_ws := ⟨_, _, rfl, by decide, rfl, rfl, rr_inw 165 (by decide +kernel) (by decide +kernel)⟩
theorem fl_Ma_21 : rr_FL R_Ma 21 1 4 := ⟨_, _, _, rfl, by decide, Or.inl (rr_inw 166 (by decide +kernel) (by decide +kernel))⟩
theorem fF_Ma_21 : ∃ (T : u_T) (N : Nat), rr_cl[1]? = some (R_Ma, T, N) ∧ 4 < N ∧ (T 4).1 = R_Ma ∧ (T 4).2.2.2 = true ∧ Cond.fieldLink R_Ma 21 (T 4).1 (T 4).2.1 (T 4).2.2.1 ∈ rr_ws := ⟨_, _, rfl, by decide, rfl, rfl, rr_inw 166 (by decide +kernel) (by decide +kernel)⟩
theorem fl_Ma_24 : rr_FL R_Ma 24 1 6 := ⟨_, _, _, rfl, by decide, Or.inl (rr_inw 168 (by decide +kernel) (by decide +kernel))⟩
theorem fF_Ma_24 : ∃ (T : u_T) (N : Nat), rr_cl[1]? = some (R_Ma, T, N) ∧ 6 < N ∧ (T 6).1 = R_Ma ∧ (T 6).2.2.2 = true ∧ Cond.fieldLink R_Ma 24 (T 6).1 (T 6).2.1 (T 6).2.2.1 ∈ rr_ws := ⟨_, _, rfl, by decide, rfl, rfl, rr_inw 168 (by decide +kernel) (by decide +kernel)⟩
theorem fl_Ma_27 : rr_FL R_Ma 27 1 7 := ⟨_, _, _, rfl, by decide, Or.inl (rr_inw 169 (by decide +kernel) (by decide +kernel))⟩
theorem fF_Ma_27 : ∃ (T : u_T) (N : Nat), rr_cl[1]? = some (R_Ma, T, N) ∧ 7 < N ∧ (T 7).1 = R_Ma ∧ (T 7).2.2.2 = true ∧ Cond.fieldLink R_Ma 27 (T 7).1 (T 7).2.1 (T 7).2.2.1 ∈ rr_ws := ⟨_, _, rfl, by decide, rfl, rfl, rr_inw 169 (by decide +kernel) (by decide +kernel)⟩
theorem fl_Ma_30 : rr_FL R_Ma 30 1 9 := ⟨_, _, _, rfl, by decide, Or.inl (rr_inw 171 (by decide +kernel) (by decide +kernel))⟩
theorem fF_Ma_30 : ∃ (T : u_T) (N : Nat), rr_cl[1]? = some (R_Ma, T, N) ∧ 9 < N ∧ (T 9).1 = R_Ma ∧ (T 9).2.2.2 = true ∧ Cond.fieldLink R_Ma 30 (T 9).1 (T 9).2.1 (T 9).2.2.1 ∈ rr_ws := ⟨_, _, rfl, by decide, rfl, rfl, rr_inw 171 (by decide +kernel) (by decide +kernel)⟩
theorem fl_Ru_37 : rr_FL R_Ru 37 3 1 := ⟨_, _, _, rfl, by decide, Or.inr ⟨"RuleRunner", rr_inn 77 (by decide +kernel) (by decide +kernel)⟩⟩
theorem il_Ru_41 : rr_LV R_Ru 41 y_Ta_append 1 := ⟨Or.inr ⟨"RuleRunner", rr_inn 216 (by decide +kernel) (by decide +kernel)⟩, rr_inw 218 (by decide +kernel) (by decide +kernel), rr_inw 0 (by decide +kernel) (by decide +kernel), rr_inw 48 (by decide +kernel) (by decide +kernel), ⟨by decide +kernel, by decide +kernel, by decide +kernel⟩⟩
theorem fl_Ta_15 : rr_FL R_Ta 15 3 1 := ⟨_, _, _, rfl, by decide, Or.inl (rr_inw 78 (by decide +kernel) (by decide +kernel))⟩
theorem il_Ru_45 : rr_LV R_Ru 45 y_Re_read 1 := ⟨Or.inr ⟨"RuleRunner", rr_inn 228 (by decide +kernel) (by decide +kernel)⟩, rr_inw 230 (by decide +kernel) (by decide +kernel), rr_inw 1 (by decide +kernel) (by decide +kernel), rr_inw 49 (by decide +kernel) (by decide +kernel), ⟨by decide +kernel, by decide +kernel, by decide +kernel⟩⟩
theorem il_Ru_49 : rr_LV R_Ru 49 y_Re_exchange 1 := ⟨Or.inr ⟨"RuleRunner", rr_inn 377 (by decide +kernel) (by decide +kernel)⟩, rr_inw 379 (by decide +kernel) (by decide +kernel), rr_inw 20 (by decide +kernel) (by decide +kernel), rr_inw 49 (by decide +kernel) (by decide +kernel), ⟨by decide +kernel, by decide +kernel, by decide +kernel⟩⟩
theorem il_Re_25 : rr_LV R_Re 25 y_To_split 1 := ⟨Or.inr ⟨"RuleRunner", rr_inn 232 (by decide +kernel) (by decide +kernel)⟩, rr_inw 234 (by decide +kernel) (by decide +kernel), rr_inw 2 (by decide +kernel) (by decide +kernel), rr_inw 50 (by decide +kernel) (by decide +kernel), ⟨by decide +kernel, by decide +kernel, by decide +kernel⟩⟩
theorem il_Re_29 : rr_LV R_Re 29 y_Co_clear 0 := ⟨Or.inr ⟨"RuleRunner", rr_inn 329 (by decide +kernel) (by decide +kernel)⟩, rr_inw 331 (by decide +kernel) (by decide +kernel), rr_inw 8 (by decide +kernel) (by decide +kernel), rr_inw 51 (by decide +kernel) (by decide +kernel), ⟨by decide +kernel, by decide +kernel, by decide +kernel⟩⟩
theorem fl_Re_32 : rr_FL R_Re 32 2 2 := ⟨_, _, _, rfl, by decide, Or.inl (rr_inw 144 (by decide +kernel) (by decide +kernel))⟩
theorem fl_Re_36 : rr_FL R_Re 36 2 3 := ⟨_, _, _, rfl, by decide, Or.inl (rr_inw 145 (by decide +kernel) (by decide +kernel))⟩
theorem il_Re_39 : rr_LV R_Re 39 y_Re_readRule 0 := ⟨Or.inl (rr_inw 333 (by decide +kernel) (by decide +kernel)), rr_inw 335 (by decide +kernel) (by decide +kernel), rr_inw 9 (by decide +kernel) (by decide +kernel), rr_inw 49 (by decide +kernel) (by decide +kernel), ⟨by decide +kernel, by decide +kernel, by decide +kernel⟩⟩
theorem il_Re_43 : rr_LV R_Re 43 y_Co_closeRule 0 := ⟨Or.inr ⟨"RuleRunner", rr_inn 373 (by decide +kernel) (by decide +kernel)⟩, rr_inw 375 (by decide +kernel) (by decide +kernel), rr_inw 19 (by decide +kernel) (by decide +kernel), rr_inw 51 (by decide +kernel) (by decide +kernel), ⟨by decide +kernel, by decide +kernel, by decide +kernel⟩⟩
theorem il_Re_46 : rr_LV R_Re 46 y_Re_looksAt 1 := ⟨Or.inl (rr_inw 357 (by decide +kernel) (by decide +kernel)), rr_inw 359 (by decide +kernel) (by decide +kernel), rr_inw 15 (by decide +kernel) (by decide +kernel), rr_inw 49 (by decide +kernel) (by decide +kernel), ⟨by decide +kernel, by decide +kernel, by decide +kernel⟩⟩
theorem il_Re_50 : rr_LV R_Re 50 y_Re_pass 1 := ⟨Or.inl (rr_inw 337 (by decide +kernel) (by decide +kernel)), rr_inw 339 (by decide +kernel) (by decide +kernel), rr_inw 10 (by decide +kernel) (by decide +kernel), rr_inw 49 (by decide +kernel) (by decide +kernel), ⟨by decide +kernel, by decide +kernel, by decide +kernel⟩⟩
theorem fl_Re_53 : rr_FL R_Re 53 4 2 := ⟨_, _, _, rfl, by decide, Or.inr ⟨"RuleRunner", rr_inn 103 (by decide +kernel) (by decide +kernel)⟩⟩
theorem fl_To_21 : rr_FL R_To 21 4 3 := ⟨_, _, _, rfl, by decide, Or.inl (rr_inw 104 (by decide +kernel) (by decide +kernel))⟩
theorem fl_To_25 : rr_FL R_To 25 3 1 := ⟨_, _, _, rfl, by decide, Or.inr ⟨"RuleRunner", rr_inn 79 (by decide +kernel) (by decide +kernel)⟩⟩
theorem fl_To_30 : rr_FL R_To 30 3 0 := ⟨_, _, _, rfl, by decide, Or.inr ⟨"RuleRunner", rr_inn 76 (by decide +kernel) (by decide +kernel)⟩⟩
theorem il_To_34 : rr_LV R_To 34 y_To_splitOne 2 := ⟨Or.inl (rr_inw 236 (by decide +kernel) (by decide +kernel)), rr_inw 238 (by decide +kernel) (by decide +kernel), rr_inw 3 (by decide +kernel) (by decide +kernel), rr_inw 50 (by decide +kernel) (by decide +kernel), ⟨by decide +kernel, by decide +kernel, by decide +kernel⟩⟩
theorem il_To_38 : rr_LV R_To 38 y_To_add 3 := ⟨Or.inl (rr_inw 309 (by decide +kernel) (by decide +kernel)), rr_inw 311 (by decide +kernel) (by decide +kernel), rr_inw 6 (by decide +kernel) (by decide +kernel), rr_inw 50 (by decide +kernel) (by decide +kernel), ⟨by decide +kernel, by decide +kernel, by decide +kernel⟩⟩
theorem il_To_42 : rr_LS R_To 42 y_To_isLetter 1 := ⟨Or.inl (rr_inw 240 (by decide +kernel) (by decide +kernel)), rr_inw 241 (by decide +kernel) (by decide +kernel), rr_inw 50 (by decide +kernel) (by decide +kernel), ⟨by decide +kernel, by decide +kernel, by decide +kernel⟩⟩
theorem il_To_46 : rr_LV R_To 46 y_To_splitWord 2 := ⟨Or.inl (rr_inw 243 (by decide +kernel) (by decide +kernel)), rr_inw 245 (by decide +kernel) (by decide +kernel), rr_inw 4 (by decide +kernel) (by decide +kernel), rr_inw 50 (by decide +kernel) (by decide +kernel), ⟨by decide +kernel, by decide +kernel, by decide +kernel⟩⟩
theorem il_To_49 : rr_LS R_To 49 y_To_isDigit 1 := ⟨Or.inl (rr_inw 313 (by decide +kernel) (by decide +kernel)), rr_inw 314 (by decide +kernel) (by decide +kernel), rr_inw 50 (by decide +kernel) (by decide +kernel), ⟨by decide +kernel, by decide +kernel, by decide +kernel⟩⟩
theorem il_To_52 : rr_LV R_To 52 y_To_splitNumber 2 := ⟨Or.inl (rr_inw 316 (by decide +kernel) (by decide +kernel)), rr_inw 318 (by decide +kernel) (by decide +kernel), rr_inw 7 (by decide +kernel) (by decide +kernel), rr_inw 50 (by decide +kernel) (by decide +kernel), ⟨by decide +kernel, by decide +kernel, by decide +kernel⟩⟩
theorem il_To_55 : rr_LS R_To 55 y_To_signKind 1 := ⟨Or.inl (rr_inw 326 (by decide +kernel) (by decide +kernel)), rr_inw 327 (by decide +kernel) (by decide +kernel), rr_inw 50 (by decide +kernel) (by decide +kernel), ⟨by decide +kernel, by decide +kernel, by decide +kernel⟩⟩
theorem il_To_59 : rr_LS R_To 59 y_To_wordKind 3 := ⟨Or.inl (rr_inw 247 (by decide +kernel) (by decide +kernel)), rr_inw 248 (by decide +kernel) (by decide +kernel), rr_inw 50 (by decide +kernel) (by decide +kernel), ⟨by decide +kernel, by decide +kernel, by decide +kernel⟩⟩
theorem sl_To_75 : (R_To, 75, "c", 6) ∈ rr_str := List.mem_of_getElem? (i := 0) rfl
theorem il_To_77 : rr_LV R_To 77 y_Ta_spells 3 := ⟨Or.inr ⟨"RuleRunner", rr_inn 251 (by decide +kernel) (by decide +kernel)⟩, rr_inw 253 (by decide +kernel) (by decide +kernel), rr_inw 5 (by decide +kernel) (by decide +kernel), rr_inw 48 (by decide +kernel) (by decide +kernel), ⟨by decide +kernel, by decide +kernel, by decide +kernel⟩⟩
theorem sl_To_81 : (R_To, 81, "if", 0) ∈ rr_str := List.mem_of_getElem? (i := 1) rfl
theorem sl_To_83 : (R_To, 83, "then", 1) ∈ rr_str := List.mem_of_getElem? (i := 2) rfl
theorem sl_To_85 : (R_To, 85, "else", 2) ∈ rr_str := List.mem_of_getElem? (i := 3) rfl
theorem sl_To_87 : (R_To, 87, "and", 3) ∈ rr_str := List.mem_of_getElem? (i := 4) rfl
theorem sl_To_89 : (R_To, 89, "server", 4) ∈ rr_str := List.mem_of_getElem? (i := 5) rfl
theorem sl_To_91 : (R_To, 91, "stamp", 5) ∈ rr_str := List.mem_of_getElem? (i := 6) rfl
theorem il_Ta_19 : rr_LV R_Ta 19 y_St_length 0 := ⟨Or.inl (rr_inw 255 (by decide +kernel) (by decide +kernel)), rr_inw 256 (by decide +kernel) (by decide +kernel), rr_inw 257 (by decide +kernel) (by decide +kernel), rr_inw 54 (by decide +kernel) (by decide +kernel), ⟨by decide +kernel, by decide +kernel, by decide +kernel⟩⟩
theorem il_Ta_24 : rr_LV R_Ta 24 y_St_charAt 1 := ⟨Or.inl (rr_inw 265 (by decide +kernel) (by decide +kernel)), rr_inw 266 (by decide +kernel) (by decide +kernel), rr_inw 267 (by decide +kernel) (by decide +kernel), rr_inw 54 (by decide +kernel) (by decide +kernel), ⟨by decide +kernel, by decide +kernel, by decide +kernel⟩⟩
theorem fs_St_9 : Cond.fieldLink R_St 9 "java/lang/String" "value" "[B" ∈ rr_ws := rr_inw 657 (by decide +kernel) (by decide +kernel)
theorem il_St_335 : rr_LV R_St 335 y_St_coder 0 := ⟨Or.inl (rr_inw 259 (by decide +kernel) (by decide +kernel)), rr_inw 260 (by decide +kernel) (by decide +kernel), rr_inw 261 (by decide +kernel) (by decide +kernel), rr_inw 54 (by decide +kernel) (by decide +kernel), ⟨by decide +kernel, by decide +kernel, by decide +kernel⟩⟩
theorem fs_St_38 : Cond.fieldLink R_St 38 "java/lang/String" "COMPACT_STRINGS" "Z" ∈ rr_ws := rr_inw 263 (by decide +kernel) (by decide +kernel)
theorem fs_St_15 : Cond.fieldLink R_St 15 "java/lang/String" "coder" "B" ∈ rr_ws := rr_inw 658 (by decide +kernel) (by decide +kernel)
theorem il_St_492 : rr_LV R_St 492 y_St_isLatin1 0 := ⟨Or.inl (rr_inw 269 (by decide +kernel) (by decide +kernel)), rr_inw 270 (by decide +kernel) (by decide +kernel), rr_inw 271 (by decide +kernel) (by decide +kernel), rr_inw 54 (by decide +kernel) (by decide +kernel), ⟨by decide +kernel, by decide +kernel, by decide +kernel⟩⟩
theorem il_St_495 : rr_LS R_St 495 y_Sl_charAt 2 := ⟨Or.inl (rr_inw 273 (by decide +kernel) (by decide +kernel)), rr_inw 274 (by decide +kernel) (by decide +kernel), rr_inw 55 (by decide +kernel) (by decide +kernel), ⟨by decide +kernel, by decide +kernel, by decide +kernel⟩⟩
theorem il_Sl_9 : rr_LS R_Sl 9 y_St_checkIndex 2 := ⟨Or.inl (rr_inw 276 (by decide +kernel) (by decide +kernel)), rr_inw 277 (by decide +kernel) (by decide +kernel), rr_inw 54 (by decide +kernel) (by decide +kernel), ⟨by decide +kernel, by decide +kernel, by decide +kernel⟩⟩
theorem fs_St_1053 : Cond.fieldLink R_St 1053 "jdk/internal/util/Preconditions" "SIOOBE_FORMATTER" "Ljava/util/function/BiFunction;" ∈ rr_ws := rr_inw 279 (by decide +kernel) (by decide +kernel)
theorem il_St_1059 : rr_LS R_St 1059 y_Pr_checkIndex 3 := ⟨Or.inl (rr_inw 281 (by decide +kernel) (by decide +kernel)), rr_inw 282 (by decide +kernel) (by decide +kernel), rr_inw 56 (by decide +kernel) (by decide +kernel), ⟨by decide +kernel, by decide +kernel, by decide +kernel⟩⟩
theorem kl_To_63 : Cond.constantLong R_To 63 10 ∈ rr_ws := rr_inw 320 (by decide +kernel) (by decide +kernel)
theorem kl_To_65 : Cond.constantLong R_To 65 2147483648 ∈ rr_ws := rr_inw 321 (by decide +kernel) (by decide +kernel)
theorem il_To_67 : rr_LS R_To 67 y_Mt_minJ 2 := ⟨Or.inl (rr_inw 322 (by decide +kernel) (by decide +kernel)), rr_inw 323 (by decide +kernel) (by decide +kernel), rr_inw 58 (by decide +kernel) (by decide +kernel), ⟨by decide +kernel, by decide +kernel, by decide +kernel⟩⟩
theorem kl_To_73 : Cond.constantLong R_To 73 2147483647 ∈ rr_ws := rr_inw 325 (by decide +kernel) (by decide +kernel)
theorem fl_Co_21 : rr_FL R_Co 21 0 3 := ⟨_, _, _, rfl, by decide, Or.inl (rr_inw 127 (by decide +kernel) (by decide +kernel))⟩
theorem fl_Co_25 : rr_FL R_Co 25 0 4 := ⟨_, _, _, rfl, by decide, Or.inl (rr_inw 128 (by decide +kernel) (by decide +kernel))⟩
theorem il_Re_57 : rr_LV R_Re 57 y_Re_readTest 0 := ⟨Or.inl (rr_inw 341 (by decide +kernel) (by decide +kernel)), rr_inw 343 (by decide +kernel) (by decide +kernel), rr_inw 11 (by decide +kernel) (by decide +kernel), rr_inw 49 (by decide +kernel) (by decide +kernel), ⟨by decide +kernel, by decide +kernel, by decide +kernel⟩⟩
theorem il_Re_60 : rr_LV R_Re 60 y_Re_readEffect 0 := ⟨Or.inl (rr_inw 369 (by decide +kernel) (by decide +kernel)), rr_inw 371 (by decide +kernel) (by decide +kernel), rr_inw 18 (by decide +kernel) (by decide +kernel), rr_inw 49 (by decide +kernel) (by decide +kernel), ⟨by decide +kernel, by decide +kernel, by decide +kernel⟩⟩
theorem fl_Re_66 : rr_FL R_Re 66 4 0 := ⟨_, _, _, rfl, by decide, Or.inr ⟨"RuleRunner", rr_inn 99 (by decide +kernel) (by decide +kernel)⟩⟩
theorem il_Re_63 : rr_LV R_Re 63 y_Re_readSum 1 := ⟨Or.inl (rr_inw 345 (by decide +kernel) (by decide +kernel)), rr_inw 347 (by decide +kernel) (by decide +kernel), rr_inw 12 (by decide +kernel) (by decide +kernel), rr_inw 49 (by decide +kernel) (by decide +kernel), ⟨by decide +kernel, by decide +kernel, by decide +kernel⟩⟩
theorem il_Re_69 : rr_LV R_Re 69 y_Co_add 2 := ⟨Or.inr ⟨"RuleRunner", rr_inn 365 (by decide +kernel) (by decide +kernel)⟩, rr_inw 367 (by decide +kernel) (by decide +kernel), rr_inw 17 (by decide +kernel) (by decide +kernel), rr_inw 51 (by decide +kernel) (by decide +kernel), ⟨by decide +kernel, by decide +kernel, by decide +kernel⟩⟩
theorem il_Re_79 : rr_LV R_Re 79 y_Re_readTerm 1 := ⟨Or.inl (rr_inw 349 (by decide +kernel) (by decide +kernel)), rr_inw 351 (by decide +kernel) (by decide +kernel), rr_inw 13 (by decide +kernel) (by decide +kernel), rr_inw 49 (by decide +kernel) (by decide +kernel), ⟨by decide +kernel, by decide +kernel, by decide +kernel⟩⟩
theorem il_Re_82 : rr_LV R_Re 82 y_Re_readPart 1 := ⟨Or.inl (rr_inw 353 (by decide +kernel) (by decide +kernel)), rr_inw 355 (by decide +kernel) (by decide +kernel), rr_inw 14 (by decide +kernel) (by decide +kernel), rr_inw 49 (by decide +kernel) (by decide +kernel), ⟨by decide +kernel, by decide +kernel, by decide +kernel⟩⟩
theorem il_Re_73 : rr_LV R_Re 73 y_Re_looksAtCellNumber 0 := ⟨Or.inl (rr_inw 361 (by decide +kernel) (by decide +kernel)), rr_inw 363 (by decide +kernel) (by decide +kernel), rr_inw 16 (by decide +kernel) (by decide +kernel), rr_inw 49 (by decide +kernel) (by decide +kernel), ⟨by decide +kernel, by decide +kernel, by decide +kernel⟩⟩
theorem fl_Re_76 : rr_FL R_Re 76 4 1 := ⟨_, _, _, rfl, by decide, Or.inr ⟨"RuleRunner", rr_inn 101 (by decide +kernel) (by decide +kernel)⟩⟩
theorem fl_Ru_53 : rr_FL R_Ru 53 0 4 := ⟨_, _, _, rfl, by decide, Or.inr ⟨"RuleRunner", rr_inn 130 (by decide +kernel) (by decide +kernel)⟩⟩
theorem il_Ru_56 : rr_LV R_Ru 56 y_Ma_perform 3 := ⟨Or.inr ⟨"RuleRunner", rr_inn 385 (by decide +kernel) (by decide +kernel)⟩, rr_inw 387 (by decide +kernel) (by decide +kernel), rr_inw 21 (by decide +kernel) (by decide +kernel), rr_inw 52 (by decide +kernel) (by decide +kernel), ⟨by decide +kernel, by decide +kernel, by decide +kernel⟩⟩
theorem fl_Ma_33 : rr_FL R_Ma 33 1 10 := ⟨_, _, _, rfl, by decide, Or.inl (rr_inw 172 (by decide +kernel) (by decide +kernel))⟩
theorem fl_Ma_37 : rr_FL R_Ma 37 1 8 := ⟨_, _, _, rfl, by decide, Or.inl (rr_inw 170 (by decide +kernel) (by decide +kernel))⟩
theorem fl_Ma_40 : rr_FL R_Ma 40 0 4 := ⟨_, _, _, rfl, by decide, Or.inr ⟨"RuleRunner", rr_inn 129 (by decide +kernel) (by decide +kernel)⟩⟩
theorem fl_Ma_45 : rr_FL R_Ma 45 0 2 := ⟨_, _, _, rfl, by decide, Or.inr ⟨"RuleRunner", rr_inn 126 (by decide +kernel) (by decide +kernel)⟩⟩
theorem il_Ma_48 : rr_LV R_Ma 48 y_Ma_isTaken 5 := ⟨Or.inl (rr_inw 389 (by decide +kernel) (by decide +kernel)), rr_inw 391 (by decide +kernel) (by decide +kernel), rr_inw 22 (by decide +kernel) (by decide +kernel), rr_inw 52 (by decide +kernel) (by decide +kernel), ⟨by decide +kernel, by decide +kernel, by decide +kernel⟩⟩
theorem il_Ma_52 : rr_LV R_Ma 52 y_Ma_applyEffects 0 := ⟨Or.inl (rr_inw 413 (by decide +kernel) (by decide +kernel)), rr_inw 415 (by decide +kernel) (by decide +kernel), rr_inw 28 (by decide +kernel) (by decide +kernel), rr_inw 52 (by decide +kernel) (by decide +kernel), ⟨by decide +kernel, by decide +kernel, by decide +kernel⟩⟩
theorem fl_Ma_55 : rr_FL R_Ma 55 1 2 := ⟨_, _, _, rfl, by decide, Or.inl (rr_inw 164 (by decide +kernel) (by decide +kernel))⟩
theorem fl_Ma_58 : rr_FL R_Ma 58 1 5 := ⟨_, _, _, rfl, by decide, Or.inl (rr_inw 167 (by decide +kernel) (by decide +kernel))⟩
theorem fl_Ma_61 : rr_FL R_Ma 61 0 0 := ⟨_, _, _, rfl, by decide, Or.inr ⟨"RuleRunner", rr_inn 122 (by decide +kernel) (by decide +kernel)⟩⟩
theorem fl_Ma_64 : rr_FL R_Ma 64 0 1 := ⟨_, _, _, rfl, by decide, Or.inr ⟨"RuleRunner", rr_inn 124 (by decide +kernel) (by decide +kernel)⟩⟩
theorem il_Ma_67 : rr_LV R_Ma 67 y_Ma_push 1 := ⟨Or.inl (rr_inw 393 (by decide +kernel) (by decide +kernel)), rr_inw 395 (by decide +kernel) (by decide +kernel), rr_inw 23 (by decide +kernel) (by decide +kernel), rr_inw 52 (by decide +kernel) (by decide +kernel), ⟨by decide +kernel, by decide +kernel, by decide +kernel⟩⟩
theorem il_Ma_71 : rr_LV R_Ma 71 y_Ma_pop 0 := ⟨Or.inl (rr_inw 397 (by decide +kernel) (by decide +kernel)), rr_inw 399 (by decide +kernel) (by decide +kernel), rr_inw 24 (by decide +kernel) (by decide +kernel), rr_inw 52 (by decide +kernel) (by decide +kernel), ⟨by decide +kernel, by decide +kernel, by decide +kernel⟩⟩
theorem il_Ma_75 : rr_LV R_Ma 75 y_Ma_addEffect 2 := ⟨Or.inl (rr_inw 401 (by decide +kernel) (by decide +kernel)), rr_inw 403 (by decide +kernel) (by decide +kernel), rr_inw 25 (by decide +kernel) (by decide +kernel), rr_inw 52 (by decide +kernel) (by decide +kernel), ⟨by decide +kernel, by decide +kernel, by decide +kernel⟩⟩
theorem il_Ma_79 : rr_LV R_Ma 79 y_Ma_calculate 1 := ⟨Or.inl (rr_inw 405 (by decide +kernel) (by decide +kernel)), rr_inw 407 (by decide +kernel) (by decide +kernel), rr_inw 26 (by decide +kernel) (by decide +kernel), rr_inw 52 (by decide +kernel) (by decide +kernel), ⟨by decide +kernel, by decide +kernel, by decide +kernel⟩⟩
theorem il_Ma_82 : rr_LV R_Ma 82 y_Ma_holds 1 := ⟨Or.inl (rr_inw 409 (by decide +kernel) (by decide +kernel)), rr_inw 411 (by decide +kernel) (by decide +kernel), rr_inw 27 (by decide +kernel) (by decide +kernel), rr_inw 52 (by decide +kernel) (by decide +kernel), ⟨by decide +kernel, by decide +kernel, by decide +kernel⟩⟩
theorem il_Ma_86 : rr_LV R_Ma 86 y_Ma_change 2 := ⟨Or.inl (rr_inw 417 (by decide +kernel) (by decide +kernel)), rr_inw 419 (by decide +kernel) (by decide +kernel), rr_inw 29 (by decide +kernel) (by decide +kernel), rr_inw 52 (by decide +kernel) (by decide +kernel), ⟨by decide +kernel, by decide +kernel, by decide +kernel⟩⟩
theorem il_Ma_89 : rr_LS R_Ma 89 y_Ru_isCell 1 := ⟨Or.inr ⟨"RuleRunner", rr_inn 421 (by decide +kernel) (by decide +kernel)⟩, rr_inw 422 (by decide +kernel) (by decide +kernel), rr_inw 47 (by decide +kernel) (by decide +kernel), ⟨by decide +kernel, by decide +kernel, by decide +kernel⟩⟩
theorem il_Ru_60 : rr_LV R_Ru 60 y_Ma_takeBack 0 := ⟨Or.inr ⟨"RuleRunner", rr_inn 428 (by decide +kernel) (by decide +kernel)⟩, rr_inw 430 (by decide +kernel) (by decide +kernel), rr_inw 30 (by decide +kernel) (by decide +kernel), rr_inw 52 (by decide +kernel) (by decide +kernel), ⟨by decide +kernel, by decide +kernel, by decide +kernel⟩⟩
theorem il_Ru_64 : rr_LS R_Ru 64 y_Ru_isCell 1 := ⟨Or.inl (rr_inw 436 (by decide +kernel) (by decide +kernel)), rr_inw 422 (by decide +kernel) (by decide +kernel), rr_inw 47 (by decide +kernel) (by decide +kernel), ⟨by decide +kernel, by decide +kernel, by decide +kernel⟩⟩
theorem fl_Ru_68 : rr_FL R_Ru 68 1 0 := ⟨_, _, _, rfl, by decide, Or.inr ⟨"RuleRunner", rr_inn 162 (by decide +kernel) (by decide +kernel)⟩⟩
theorem kl_Ru_72 : Cond.constantLong R_Ru 72 1099511627776 ∈ rr_ws := rr_inw 437 (by decide +kernel) (by decide +kernel)
theorem fl_Ru_74 : rr_FL R_Ru 74 1 10 := ⟨_, _, _, rfl, by decide, Or.inr ⟨"RuleRunner", rr_inn 173 (by decide +kernel) (by decide +kernel)⟩⟩
theorem ol_Mo_1 : Cond.methodLink R_Mo 1 objectInit ∈ rr_ws := rr_inw 451 (by decide +kernel) (by decide +kernel)
theorem fl_Mo_9 : rr_FL R_Mo 9 6 0 := ⟨_, _, _, rfl, by decide, Or.inl (rr_inw 452 (by decide +kernel) (by decide +kernel))⟩
theorem fF_Mo_9 : ∃ (T : u_T) (N : Nat), rr_cl[6]? = some (R_Mo, T, N) ∧ 0 < N ∧ (T 0).1 = R_Mo ∧ (T 0).2.2.2 = true ∧ Cond.fieldLink R_Mo 9 (T 0).1 (T 0).2.1 (T 0).2.2.1 ∈ rr_ws := ⟨_, _, rfl, by decide, rfl, rfl, rr_inw 452 (by decide +kernel) (by decide +kernel)⟩
theorem fl_Mo_13 : rr_FL R_Mo 13 6 3 := ⟨_, _, _, rfl, by decide, Or.inl (rr_inw 455 (by decide +kernel) (by decide +kernel))⟩
theorem fF_Mo_13 : ∃ (T : u_T) (N : Nat), rr_cl[6]? = some (R_Mo, T, N) ∧ 3 < N ∧ (T 3).1 = R_Mo ∧ (T 3).2.2.2 = true ∧ Cond.fieldLink R_Mo 13 (T 3).1 (T 3).2.1 (T 3).2.2.1 ∈ rr_ws := ⟨_, _, rfl, by decide, rfl, rfl, rr_inw 455 (by decide +kernel) (by decide +kernel)⟩
theorem fl_Mo_17 : rr_FL R_Mo 17 6 13 := ⟨_, _, _, rfl, by decide, Or.inl (rr_inw 465 (by decide +kernel) (by decide +kernel))⟩
theorem fF_Mo_17 : ∃ (T : u_T) (N : Nat), rr_cl[6]? = some (R_Mo, T, N) ∧ 13 < N ∧ (T 13).1 = R_Mo ∧ (T 13).2.2.2 = true ∧ Cond.fieldLink R_Mo 17 (T 13).1 (T 13).2.1 (T 13).2.2.1 ∈ rr_ws := ⟨_, _, rfl, by decide, rfl, rfl, rr_inw 465 (by decide +kernel) (by decide +kernel)⟩
theorem fl_Mo_20 : rr_FL R_Mo 20 6 15 := ⟨_, _, _, rfl, by decide, Or.inl (rr_inw 467 (by decide +kernel) (by decide +kernel))⟩
theorem fF_Mo_20 : ∃ (T : u_T) (N : Nat), rr_cl[6]? = some (R_Mo, T, N) ∧ 15 < N ∧ (T 15).1 = R_Mo ∧ (T 15).2.2.2 = true ∧ Cond.fieldLink R_Mo 20 (T 15).1 (T 15).2.1 (T 15).2.2.1 ∈ rr_ws := ⟨_, _, rfl, by decide, rfl, rfl, rr_inw 467 (by decide +kernel) (by decide +kernel)⟩
theorem fl_Mo_23 : rr_FL R_Mo 23 6 16 := ⟨_, _, _, rfl, by decide, Or.inl (rr_inw 468 (by decide +kernel) (by decide +kernel))⟩
theorem fF_Mo_23 : ∃ (T : u_T) (N : Nat), rr_cl[6]? = some (R_Mo, T, N) ∧ 16 < N ∧ (T 16).1 = R_Mo ∧ (T 16).2.2.2 = true ∧ Cond.fieldLink R_Mo 23 (T 16).1 (T 16).2.1 (T 16).2.2.1 ∈ rr_ws := ⟨_, _, rfl, by decide, rfl, rfl, rr_inw 468 (by decide +kernel) (by decide +kernel)⟩
theorem fl_Mo_26 : rr_FL R_Mo 26 6 17 := ⟨_, _, _, rfl, by decide, Or.inl (rr_inw 469 (by decide +kernel) (by decide +kernel))⟩
theorem fF_Mo_26 : ∃ (T : u_T) (N : Nat), rr_cl[6]? = some (R_Mo, T, N) ∧ 17 < N ∧ (T 17).1 = R_Mo ∧ (T 17).2.2.2 = true ∧ Cond.fieldLink R_Mo 26 (T 17).1 (T 17).2.1 (T 17).2.2.1 ∈ rr_ws := ⟨_, _, rfl, by decide, rfl, rfl, rr_inw 469 (by decide +kernel) (by decide +kernel)⟩
theorem fl_Mo_29 : rr_FL R_Mo 29 6 18 := ⟨_, _, _, rfl, by decide, Or.inl (rr_inw 470 (by decide +kernel) (by decide +kernel))⟩
theorem fF_Mo_29 : ∃ (T : u_T) (N : Nat), rr_cl[6]? = some (R_Mo, T, N) ∧ 18 < N ∧ (T 18).1 = R_Mo ∧ (T 18).2.2.2 = true ∧ Cond.fieldLink R_Mo 29 (T 18).1 (T 18).2.1 (T 18).2.2.1 ∈ rr_ws := ⟨_, _, rfl, by decide, rfl, rfl, rr_inw 470 (by decide +kernel) (by decide +kernel)⟩
theorem fl_Mo_32 : rr_FL R_Mo 32 6 1 := ⟨_, _, _, rfl, by decide, Or.inl (rr_inw 453 (by decide +kernel) (by decide +kernel))⟩
theorem il_Mo_36 : rr_LS R_Mo 36 y_Mo_in 3 := ⟨Or.inl (rr_inw 521 (by decide +kernel) (by decide +kernel)), rr_inw 522 (by decide +kernel) (by decide +kernel), rr_inw 53 (by decide +kernel) (by decide +kernel), ⟨by decide +kernel, by decide +kernel, by decide +kernel⟩⟩
theorem fl_Mo_43 : rr_FL R_Mo 43 6 6 := ⟨_, _, _, rfl, by decide, Or.inl (rr_inw 458 (by decide +kernel) (by decide +kernel))⟩
theorem fl_Mo_40 : rr_FL R_Mo 40 6 5 := ⟨_, _, _, rfl, by decide, Or.inl (rr_inw 457 (by decide +kernel) (by decide +kernel))⟩
theorem fl_Mo_110 : rr_FL R_Mo 110 6 10 := ⟨_, _, _, rfl, by decide, Or.inl (rr_inw 462 (by decide +kernel) (by decide +kernel))⟩
theorem fl_Mo_123 : rr_FL R_Mo 123 6 11 := ⟨_, _, _, rfl, by decide, Or.inl (rr_inw 463 (by decide +kernel) (by decide +kernel))⟩
theorem fl_Mo_120 : rr_FL R_Mo 120 6 14 := ⟨_, _, _, rfl, by decide, Or.inl (rr_inw 466 (by decide +kernel) (by decide +kernel))⟩
theorem il_Mo_117 : rr_LV R_Mo 117 y_Mo_step 0 := ⟨Or.inl (rr_inw 528 (by decide +kernel) (by decide +kernel)), rr_inw 530 (by decide +kernel) (by decide +kernel), rr_inw 31 (by decide +kernel) (by decide +kernel), rr_inw 53 (by decide +kernel) (by decide +kernel), ⟨by decide +kernel, by decide +kernel, by decide +kernel⟩⟩
theorem il_Mo_126 : rr_LV R_Mo 126 y_Mo_rule 0 := ⟨Or.inl (rr_inw 556 (by decide +kernel) (by decide +kernel)), rr_inw 558 (by decide +kernel) (by decide +kernel), rr_inw 33 (by decide +kernel) (by decide +kernel), rr_inw 53 (by decide +kernel) (by decide +kernel), ⟨by decide +kernel, by decide +kernel, by decide +kernel⟩⟩
theorem sl_Mo_67 : (R_Mo, 67, "else", 2) ∈ rr_str := List.mem_of_getElem? (i := 9) rfl
theorem il_Mo_61 : rr_LV R_Mo 61 y_Mo_is 1 := ⟨Or.inl (rr_inw 536 (by decide +kernel) (by decide +kernel)), rr_inw 538 (by decide +kernel) (by decide +kernel), rr_inw 32 (by decide +kernel) (by decide +kernel), rr_inw 53 (by decide +kernel) (by decide +kernel), ⟨by decide +kernel, by decide +kernel, by decide +kernel⟩⟩
theorem fl_Mo_49 : rr_FL R_Mo 49 6 7 := ⟨_, _, _, rfl, by decide, Or.inl (rr_inw 459 (by decide +kernel) (by decide +kernel))⟩
theorem il_Mo_113 : rr_LV R_Mo 113 y_Mo_bad 0 := ⟨Or.inl (rr_inw 560 (by decide +kernel) (by decide +kernel)), rr_inw 562 (by decide +kernel) (by decide +kernel), rr_inw 34 (by decide +kernel) (by decide +kernel), rr_inw 53 (by decide +kernel) (by decide +kernel), ⟨by decide +kernel, by decide +kernel, by decide +kernel⟩⟩
theorem il_Mo_129 : rr_LS R_Mo 129 y_Ar_copyOf 2 := ⟨Or.inl (rr_inw 608 (by decide +kernel) (by decide +kernel)), rr_inw 609 (by decide +kernel) (by decide +kernel), rr_inw 59 (by decide +kernel) (by decide +kernel), ⟨by decide +kernel, by decide +kernel, by decide +kernel⟩⟩
theorem fl_Mo_135 : rr_FL R_Mo 135 6 2 := ⟨_, _, _, rfl, by decide, Or.inl (rr_inw 454 (by decide +kernel) (by decide +kernel))⟩
theorem fl_Mo_46 : rr_FL R_Mo 46 6 8 := ⟨_, _, _, rfl, by decide, Or.inl (rr_inw 460 (by decide +kernel) (by decide +kernel))⟩
theorem il_Mo_52 : rr_LS R_Mo 52 y_Mo_isLetter 1 := ⟨Or.inl (rr_inw 532 (by decide +kernel) (by decide +kernel)), rr_inw 533 (by decide +kernel) (by decide +kernel), rr_inw 53 (by decide +kernel) (by decide +kernel), ⟨by decide +kernel, by decide +kernel, by decide +kernel⟩⟩
theorem fl_Mo_56 : rr_FL R_Mo 56 6 9 := ⟨_, _, _, rfl, by decide, Or.inl (rr_inw 461 (by decide +kernel) (by decide +kernel))⟩
theorem sl_Mo_59 : (R_Mo, 59, "if", 0) ∈ rr_str := List.mem_of_getElem? (i := 7) rfl
theorem sl_Mo_65 : (R_Mo, 65, "then", 1) ∈ rr_str := List.mem_of_getElem? (i := 8) rfl
theorem sl_Mo_69 : (R_Mo, 69, "and", 3) ∈ rr_str := List.mem_of_getElem? (i := 10) rfl
theorem sl_Mo_71 : (R_Mo, 71, "server", 4) ∈ rr_str := List.mem_of_getElem? (i := 11) rfl
theorem sl_Mo_73 : (R_Mo, 73, "stamp", 5) ∈ rr_str := List.mem_of_getElem? (i := 12) rfl
theorem sl_Mo_75 : (R_Mo, 75, "c", 6) ∈ rr_str := List.mem_of_getElem? (i := 13) rfl
theorem il_Mo_77 : rr_LS R_Mo 77 y_Mo_isDigit 1 := ⟨Or.inl (rr_inw 548 (by decide +kernel) (by decide +kernel)), rr_inw 549 (by decide +kernel) (by decide +kernel), rr_inw 53 (by decide +kernel) (by decide +kernel), ⟨by decide +kernel, by decide +kernel, by decide +kernel⟩⟩
theorem fl_Mo_80 : rr_FL R_Mo 80 6 12 := ⟨_, _, _, rfl, by decide, Or.inl (rr_inw 464 (by decide +kernel) (by decide +kernel))⟩
theorem kl_Mo_84 : Cond.constantLong R_Mo 84 1099511627776 ∈ rr_ws := rr_inw 551 (by decide +kernel) (by decide +kernel)
theorem kl_Mo_86 : Cond.constantLong R_Mo 86 10 ∈ rr_ws := rr_inw 552 (by decide +kernel) (by decide +kernel)
theorem kl_Mo_88 : Cond.constantLong R_Mo 88 48 ∈ rr_ws := rr_inw 553 (by decide +kernel) (by decide +kernel)
theorem il_Mo_90 : rr_LS R_Mo 90 y_Mt_minJ 2 := ⟨Or.inl (rr_inw 554 (by decide +kernel) (by decide +kernel)), rr_inw 323 (by decide +kernel) (by decide +kernel), rr_inw 58 (by decide +kernel) (by decide +kernel), ⟨by decide +kernel, by decide +kernel, by decide +kernel⟩⟩
theorem kl_Mo_98 : Cond.constantLong R_Mo 98 2147483647 ∈ rr_ws := rr_inw 555 (by decide +kernel) (by decide +kernel)
theorem il_Mo_100 : rr_LV R_Mo 100 y_St_length 0 := ⟨Or.inl (rr_inw 540 (by decide +kernel) (by decide +kernel)), rr_inw 256 (by decide +kernel) (by decide +kernel), rr_inw 257 (by decide +kernel) (by decide +kernel), rr_inw 54 (by decide +kernel) (by decide +kernel), ⟨by decide +kernel, by decide +kernel, by decide +kernel⟩⟩
theorem il_Mo_106 : rr_LV R_Mo 106 y_St_charAt 1 := ⟨Or.inl (rr_inw 541 (by decide +kernel) (by decide +kernel)), rr_inw 266 (by decide +kernel) (by decide +kernel), rr_inw 267 (by decide +kernel) (by decide +kernel), rr_inw 54 (by decide +kernel) (by decide +kernel), ⟨by decide +kernel, by decide +kernel, by decide +kernel⟩⟩
theorem il_Mo_138 : rr_LV R_Mo 138 y_Mo_put 1 := ⟨Or.inl (rr_inw 564 (by decide +kernel) (by decide +kernel)), rr_inw 566 (by decide +kernel) (by decide +kernel), rr_inw 35 (by decide +kernel) (by decide +kernel), rr_inw 53 (by decide +kernel) (by decide +kernel), ⟨by decide +kernel, by decide +kernel, by decide +kernel⟩⟩
theorem il_Mo_142 : rr_LV R_Mo 142 y_Mo_compare 0 := ⟨Or.inl (rr_inw 568 (by decide +kernel) (by decide +kernel)), rr_inw 570 (by decide +kernel) (by decide +kernel), rr_inw 36 (by decide +kernel) (by decide +kernel), rr_inw 53 (by decide +kernel) (by decide +kernel), ⟨by decide +kernel, by decide +kernel, by decide +kernel⟩⟩
theorem il_Mo_145 : rr_LV R_Mo 145 y_Mo_take 1 := ⟨Or.inl (rr_inw 590 (by decide +kernel) (by decide +kernel)), rr_inw 592 (by decide +kernel) (by decide +kernel), rr_inw 41 (by decide +kernel) (by decide +kernel), rr_inw 53 (by decide +kernel) (by decide +kernel), ⟨by decide +kernel, by decide +kernel, by decide +kernel⟩⟩
theorem il_Mo_148 : rr_LV R_Mo 148 y_Mo_cellZ 0 := ⟨Or.inl (rr_inw 594 (by decide +kernel) (by decide +kernel)), rr_inw 596 (by decide +kernel) (by decide +kernel), rr_inw 42 (by decide +kernel) (by decide +kernel), rr_inw 53 (by decide +kernel) (by decide +kernel), ⟨by decide +kernel, by decide +kernel, by decide +kernel⟩⟩
theorem sl_Mo_151 : (R_Mo, 151, ":=", 16) ∈ rr_str := List.mem_of_getElem? (i := 23) rfl
theorem il_Mo_153 : rr_LV R_Mo 153 y_Mo_whole 0 := ⟨Or.inl (rr_inw 572 (by decide +kernel) (by decide +kernel)), rr_inw 574 (by decide +kernel) (by decide +kernel), rr_inw 37 (by decide +kernel) (by decide +kernel), rr_inw 53 (by decide +kernel) (by decide +kernel), ⟨by decide +kernel, by decide +kernel, by decide +kernel⟩⟩
theorem sl_Mo_156 : (R_Mo, 156, ",", 17) ∈ rr_str := List.mem_of_getElem? (i := 24) rfl
theorem sl_Mo_160 : (R_Mo, 160, "=", 12) ∈ rr_str := List.mem_of_getElem? (i := 19) rfl
theorem sl_Mo_162 : (R_Mo, 162, "#", 13) ∈ rr_str := List.mem_of_getElem? (i := 20) rfl
theorem sl_Mo_164 : (R_Mo, 164, "<", 14) ∈ rr_str := List.mem_of_getElem? (i := 21) rfl
theorem sl_Mo_166 : (R_Mo, 166, ">", 15) ∈ rr_str := List.mem_of_getElem? (i := 22) rfl
theorem il_Mo_168 : rr_LV R_Mo 168 y_Mo_sum 1 := ⟨Or.inl (rr_inw 576 (by decide +kernel) (by decide +kernel)), rr_inw 578 (by decide +kernel) (by decide +kernel), rr_inw 38 (by decide +kernel) (by decide +kernel), rr_inw 53 (by decide +kernel) (by decide +kernel), ⟨by decide +kernel, by decide +kernel, by decide +kernel⟩⟩
theorem il_Mo_171 : rr_LV R_Mo 171 y_Mo_term 1 := ⟨Or.inl (rr_inw 580 (by decide +kernel) (by decide +kernel)), rr_inw 582 (by decide +kernel) (by decide +kernel), rr_inw 39 (by decide +kernel) (by decide +kernel), rr_inw 53 (by decide +kernel) (by decide +kernel), ⟨by decide +kernel, by decide +kernel, by decide +kernel⟩⟩
theorem sl_Mo_174 : (R_Mo, 174, "+", 10) ∈ rr_str := List.mem_of_getElem? (i := 17) rfl
theorem sl_Mo_176 : (R_Mo, 176, "-", 11) ∈ rr_str := List.mem_of_getElem? (i := 18) rfl
theorem il_Mo_178 : rr_LV R_Mo 178 y_Mo_part 1 := ⟨Or.inl (rr_inw 584 (by decide +kernel) (by decide +kernel)), rr_inw 586 (by decide +kernel) (by decide +kernel), rr_inw 40 (by decide +kernel) (by decide +kernel), rr_inw 53 (by decide +kernel) (by decide +kernel), ⟨by decide +kernel, by decide +kernel, by decide +kernel⟩⟩
theorem sl_Mo_181 : (R_Mo, 181, "*", 9) ∈ rr_str := List.mem_of_getElem? (i := 16) rfl
theorem sl_Mo_183 : (R_Mo, 183, "(", 7) ∈ rr_str := List.mem_of_getElem? (i := 14) rfl
theorem sl_Mo_185 : (R_Mo, 185, ")", 8) ∈ rr_str := List.mem_of_getElem? (i := 15) rfl
theorem kl_Mo_158 : Cond.constantLong R_Mo 158 32 ∈ rr_ws := rr_inw 598 (by decide +kernel) (by decide +kernel)
theorem il_Ar_304 : rr_LS R_Ar 304 y_Mt_min 2 := ⟨Or.inl (rr_inw 618 (by decide +kernel) (by decide +kernel)), rr_inw 619 (by decide +kernel) (by decide +kernel), rr_inw 58 (by decide +kernel) (by decide +kernel), ⟨by decide +kernel, by decide +kernel, by decide +kernel⟩⟩
theorem sy_Ar_150 : Cond.methodLink R_Ar 150 arraycopyName ∈ rr_ws := rr_inw 621 (by decide +kernel) (by decide +kernel)
theorem fl_Mo_198 : rr_FL R_Mo 198 6 4 := ⟨_, _, _, rfl, by decide, Or.inl (rr_inw 456 (by decide +kernel) (by decide +kernel))⟩
theorem sy_Mo_201 : Cond.methodLink R_Mo 201 arraycopyName ∈ rr_ws := rr_inw 628 (by decide +kernel) (by decide +kernel)
theorem il_Mo_207 : rr_LV R_Mo 207 y_Mo_perform 2 := ⟨Or.inl (rr_inw 629 (by decide +kernel) (by decide +kernel)), rr_inw 631 (by decide +kernel) (by decide +kernel), rr_inw 43 (by decide +kernel) (by decide +kernel), rr_inw 53 (by decide +kernel) (by decide +kernel), ⟨by decide +kernel, by decide +kernel, by decide +kernel⟩⟩
theorem fl_Mo_187 : rr_FL R_Mo 187 6 19 := ⟨_, _, _, rfl, by decide, Or.inl (rr_inw 471 (by decide +kernel) (by decide +kernel))⟩
theorem il_Mo_194 : rr_LV R_Mo 194 y_Mo_holds 2 := ⟨Or.inl (rr_inw 633 (by decide +kernel) (by decide +kernel)), rr_inw 635 (by decide +kernel) (by decide +kernel), rr_inw 44 (by decide +kernel) (by decide +kernel), rr_inw 53 (by decide +kernel) (by decide +kernel), ⟨by decide +kernel, by decide +kernel, by decide +kernel⟩⟩
theorem il_Mo_190 : rr_LV R_Mo 190 y_Mo_value 2 := ⟨Or.inl (rr_inw 637 (by decide +kernel) (by decide +kernel)), rr_inw 639 (by decide +kernel) (by decide +kernel), rr_inw 45 (by decide +kernel) (by decide +kernel), rr_inw 53 (by decide +kernel) (by decide +kernel), ⟨by decide +kernel, by decide +kernel, by decide +kernel⟩⟩
theorem nl_La_7 : rr_NL R_La 7 5 [.null, .null, .null, .null] := ⟨_, _, rfl, rr_inw 61 (by decide +kernel) (by decide +kernel), rr_inw 62 (by decide +kernel) (by decide +kernel), rr_inw 47 (by decide +kernel) (by decide +kernel), by decide +kernel, by decide +kernel⟩
theorem il_La_9 : rr_LI R_La 9 y_Ru_init 0 := ⟨Or.inl (rr_inw 63 (by decide +kernel) (by decide +kernel)), rr_inw 64 (by decide +kernel) (by decide +kernel), rfl, rr_inw 47 (by decide +kernel) (by decide +kernel), ⟨by decide +kernel, by decide +kernel, by decide +kernel⟩⟩
theorem nl_La_10 : rr_NL R_La 10 6 [.null, .int 0, .null, .null, .int 0, .int 0, .int 0, .int 0, .int 0, .int 0, .int 0, .int 0, .long 0, .null, .int 0, .null, .null, .null, .null, .int 0] := ⟨_, _, rfl, rr_inw 446 (by decide +kernel) (by decide +kernel), rr_inw 447 (by decide +kernel) (by decide +kernel), rr_inw 53 (by decide +kernel) (by decide +kernel), by decide +kernel, by decide +kernel⟩
theorem il_La_12 : rr_LI R_La 12 y_Mo_init 0 := ⟨Or.inl (rr_inw 448 (by decide +kernel) (by decide +kernel)), rr_inw 449 (by decide +kernel) (by decide +kernel), rfl, rr_inw 53 (by decide +kernel) (by decide +kernel), ⟨by decide +kernel, by decide +kernel, by decide +kernel⟩⟩
theorem il_La_13 : rr_LV R_La 13 y_Ru_feed 5 := ⟨Or.inl (rr_inw 212 (by decide +kernel) (by decide +kernel)), rr_inw 213 (by decide +kernel) (by decide +kernel), rr_inw 214 (by decide +kernel) (by decide +kernel), rr_inw 47 (by decide +kernel) (by decide +kernel), ⟨by decide +kernel, by decide +kernel, by decide +kernel⟩⟩
theorem il_La_17 : rr_LV R_La 17 y_Mo_feed 5 := ⟨Or.inl (rr_inw 513 (by decide +kernel) (by decide +kernel)), rr_inw 514 (by decide +kernel) (by decide +kernel), rr_inw 515 (by decide +kernel) (by decide +kernel), rr_inw 53 (by decide +kernel) (by decide +kernel), ⟨by decide +kernel, by decide +kernel, by decide +kernel⟩⟩
theorem il_La_18 : rr_LV R_La 18 y_Ru_end 1 := ⟨Or.inl (rr_inw 220 (by decide +kernel) (by decide +kernel)), rr_inw 221 (by decide +kernel) (by decide +kernel), rr_inw 222 (by decide +kernel) (by decide +kernel), rr_inw 47 (by decide +kernel) (by decide +kernel), ⟨by decide +kernel, by decide +kernel, by decide +kernel⟩⟩
theorem il_La_22 : rr_LV R_La 22 y_Mo_end 1 := ⟨Or.inl (rr_inw 517 (by decide +kernel) (by decide +kernel)), rr_inw 518 (by decide +kernel) (by decide +kernel), rr_inw 519 (by decide +kernel) (by decide +kernel), rr_inw 53 (by decide +kernel) (by decide +kernel), ⟨by decide +kernel, by decide +kernel, by decide +kernel⟩⟩
theorem il_La_23 : rr_LV R_La 23 y_Ru_program 0 := ⟨Or.inl (rr_inw 224 (by decide +kernel) (by decide +kernel)), rr_inw 225 (by decide +kernel) (by decide +kernel), rr_inw 226 (by decide +kernel) (by decide +kernel), rr_inw 47 (by decide +kernel) (by decide +kernel), ⟨by decide +kernel, by decide +kernel, by decide +kernel⟩⟩
theorem il_La_27 : rr_LV R_La 27 y_Mo_program 0 := ⟨Or.inl (rr_inw 524 (by decide +kernel) (by decide +kernel)), rr_inw 525 (by decide +kernel) (by decide +kernel), rr_inw 526 (by decide +kernel) (by decide +kernel), rr_inw 53 (by decide +kernel) (by decide +kernel), ⟨by decide +kernel, by decide +kernel, by decide +kernel⟩⟩
theorem il_La_28 : rr_LV R_La 28 y_Ru_run 2 := ⟨Or.inl (rr_inw 381 (by decide +kernel) (by decide +kernel)), rr_inw 382 (by decide +kernel) (by decide +kernel), rr_inw 383 (by decide +kernel) (by decide +kernel), rr_inw 47 (by decide +kernel) (by decide +kernel), ⟨by decide +kernel, by decide +kernel, by decide +kernel⟩⟩
theorem il_La_32 : rr_LV R_La 32 y_Mo_run 2 := ⟨Or.inl (rr_inw 624 (by decide +kernel) (by decide +kernel)), rr_inw 625 (by decide +kernel) (by decide +kernel), rr_inw 626 (by decide +kernel) (by decide +kernel), rr_inw 53 (by decide +kernel) (by decide +kernel), ⟨by decide +kernel, by decide +kernel, by decide +kernel⟩⟩
theorem il_La_33 : rr_LV R_La 33 y_Ru_undo 0 := ⟨Or.inl (rr_inw 424 (by decide +kernel) (by decide +kernel)), rr_inw 425 (by decide +kernel) (by decide +kernel), rr_inw 426 (by decide +kernel) (by decide +kernel), rr_inw 47 (by decide +kernel) (by decide +kernel), ⟨by decide +kernel, by decide +kernel, by decide +kernel⟩⟩
theorem il_La_36 : rr_LV R_La 36 y_Mo_undo 0 := ⟨Or.inl (rr_inw 641 (by decide +kernel) (by decide +kernel)), rr_inw 642 (by decide +kernel) (by decide +kernel), rr_inw 643 (by decide +kernel) (by decide +kernel), rr_inw 53 (by decide +kernel) (by decide +kernel), ⟨by decide +kernel, by decide +kernel, by decide +kernel⟩⟩
theorem il_La_37 : rr_LV R_La 37 y_Ru_cell 1 := ⟨Or.inl (rr_inw 432 (by decide +kernel) (by decide +kernel)), rr_inw 433 (by decide +kernel) (by decide +kernel), rr_inw 434 (by decide +kernel) (by decide +kernel), rr_inw 47 (by decide +kernel) (by decide +kernel), ⟨by decide +kernel, by decide +kernel, by decide +kernel⟩⟩
theorem il_La_41 : rr_LV R_La 41 y_Mo_cell 1 := ⟨Or.inl (rr_inw 645 (by decide +kernel) (by decide +kernel)), rr_inw 646 (by decide +kernel) (by decide +kernel), rr_inw 647 (by decide +kernel) (by decide +kernel), rr_inw 53 (by decide +kernel) (by decide +kernel), ⟨by decide +kernel, by decide +kernel, by decide +kernel⟩⟩
theorem il_La_42 : rr_LV R_La 42 y_Ru_set 2 := ⟨Or.inl (rr_inw 438 (by decide +kernel) (by decide +kernel)), rr_inw 439 (by decide +kernel) (by decide +kernel), rr_inw 440 (by decide +kernel) (by decide +kernel), rr_inw 47 (by decide +kernel) (by decide +kernel), ⟨by decide +kernel, by decide +kernel, by decide +kernel⟩⟩
theorem il_La_45 : rr_LV R_La 45 y_Mo_set 2 := ⟨Or.inl (rr_inw 649 (by decide +kernel) (by decide +kernel)), rr_inw 650 (by decide +kernel) (by decide +kernel), rr_inw 651 (by decide +kernel) (by decide +kernel), rr_inw 53 (by decide +kernel) (by decide +kernel), ⟨by decide +kernel, by decide +kernel, by decide +kernel⟩⟩
theorem il_La_46 : rr_LV R_La 46 y_Ru_count 1 := ⟨Or.inl (rr_inw 442 (by decide +kernel) (by decide +kernel)), rr_inw 443 (by decide +kernel) (by decide +kernel), rr_inw 444 (by decide +kernel) (by decide +kernel), rr_inw 47 (by decide +kernel) (by decide +kernel), ⟨by decide +kernel, by decide +kernel, by decide +kernel⟩⟩
theorem il_La_49 : rr_LV R_La 49 y_Mo_count 1 := ⟨Or.inl (rr_inw 653 (by decide +kernel) (by decide +kernel)), rr_inw 654 (by decide +kernel) (by decide +kernel), rr_inw 655 (by decide +kernel) (by decide +kernel), rr_inw 53 (by decide +kernel) (by decide +kernel), ⟨by decide +kernel, by decide +kernel, by decide +kernel⟩⟩
theorem rr_wSy : Cond.native arraycopyName ∈ rr_ws ∧ Cond.static arraycopyName ∈ rr_ws ∧ Cond.initialized "java/lang/System" ∈ rr_ws := ⟨rr_inw 623 (by decide +kernel) (by decide +kernel), rr_inw 622 (by decide +kernel) (by decide +kernel), rr_inw 60 (by decide +kernel) (by decide +kernel)⟩
end
section
/-! A SMALL MACHINE over the kit's worlds. A heap here is a list of cells, an address is a place in that list; addresses from rr_K0 on are constants (texts, their bytes, the script). Each row of part 11 turns 'rr_A' (the real machine comes to its end with Q) at an instruction into rr_A at the next one. -/
abbrev rr_H : Type := List va_E
def rr_K0 : Nat := 1000
/-- what stands fast: class numbers and field places; array classes (0 int, 1 byte); constants' addresses (0.. the texts, 100.. their bytes, 200 the script, 300 a formatter); the script's length and ints -/
abbrev rr_E : Type := va_G × (Nat → ClassId) × (Nat → Nat) × Nat × (Nat → Int32)
def rr_tys (E : rr_E) : List (ClassId × FieldType) := [(E.2.1 0, .int), (E.2.1 1, .byte)]
/-- a value here and there -/
def rr_v (E : rr_E) (ws : va_W) (v w : Value) : Prop := match v with
  | .ref i => if i < rr_K0 then ∃ (a : Nat) (e : va_E), ws[i]? = some (a, e) ∧ w = .ref a else w = .ref (E.2.2.1 (i - rr_K0))
  | u => w = u
def rr_vs (E : rr_E) (ws : va_W) : List Value → List Value → Prop
  | [], l => l = []
  | v :: t, l => ∃ (w : Value) (u : List Value), l = w :: u ∧ rr_v E ws v w ∧ rr_vs E ws t u
def rr_ls (E : rr_E) (ws : va_W) : List (Nat × Value) → List (Nat × Value) → Prop
  | [], l => l = []
  | q :: t, l => ∃ (w : Value) (u : List (Nat × Value)), l = (q.1, w) :: u ∧ rr_v E ws q.2 w ∧ rr_ls E ws t u
def rr_e (E : rr_E) (ws : va_W) (x y : va_E) : Prop := match x with
  | .inl a => y = .inl (E.2.1 a.1, a.2)
  | .inr o => ∃ fs : List Value, y = .inr (o.1, fs) ∧ rr_vs E ws o.2 fs
def rr_M (E : rr_E) (h : rr_H) (ws : va_W) : Prop := ws.length = h.length ∧ ∀ (k : Nat) (x : va_E), h[k]? = some x → ∃ (a : Nat) (y : va_E), ws[k]? = some (a, y) ∧ rr_e E ws x y
def rr_le (ws us : va_W) : Prop := ∀ (k a : Nat) (e : va_E), ws[k]? = some (a, e) → ∃ e' : va_E, us[k]? = some (a, e')
theorem rr_le.rf {ws : va_W} : rr_le ws ws := fun _ _ e h => ⟨e, h⟩
theorem rr_le.trans {a b c : va_W} (h1 : rr_le a b) (h2 : rr_le b c) : rr_le a c := fun k q e h => by
  obtain ⟨e1, g1⟩ := h1 k q e h
  exact h2 k q e1 g1
theorem rr_le.set {ws : va_W} {k a : Nat} {y0 y : va_E} (h : ws[k]? = some (a, y0)) : rr_le ws (ws.set k (a, y)) := by
  intro j b e hj
  by_cases q : k = j
  · subst q
    rw [h] at hj
    cases hj
    exact ⟨y, List.getElem?_set_self (List.getElem?_eq_some_iff.mp h).1⟩
  · exact ⟨e, by rw [List.getElem?_set_ne q]; exact hj⟩
theorem rr_le.push {ws us : va_W} : rr_le ws (ws ++ us) := by
  intro j b e hj
  exact ⟨e, by rw [List.getElem?_append_left (List.getElem?_eq_some_iff.mp hj).1]; exact hj⟩
theorem rr_v.mono {E : rr_E} {ws us : va_W} (hle : rr_le ws us) {v w : Value} (h : rr_v E ws v w) : rr_v E us v w := by
  cases v with
  | ref i =>
    unfold rr_v at h ⊢
    dsimp only at h ⊢
    by_cases hi : i < rr_K0
    · rw [if_pos hi] at h ⊢
      obtain ⟨a, e, h1, h2⟩ := h
      obtain ⟨e', h3⟩ := hle i a e h1
      exact ⟨a, e', h3, h2⟩
    · rw [if_neg hi] at h ⊢
      exact h
  | _ => exact h
theorem rr_v.cat {E : rr_E} {ws : va_W} {v w : Value} (h : rr_v E ws v w) : w.category = v.category := by
  cases v with
  | ref i =>
    unfold rr_v at h
    dsimp only at h
    by_cases hi : i < rr_K0
    · rw [if_pos hi] at h
      obtain ⟨a, e, h1, h2⟩ := h
      rw [h2]
      rfl
    · rw [if_neg hi] at h
      rw [h]
      rfl
  | _ => rw [show w = _ from h]
theorem rr_vs.mono {E : rr_E} {ws us : va_W} (hle : rr_le ws us) : ∀ {l l' : List Value}, rr_vs E ws l l' → rr_vs E us l l'
  | [], _, h => h
  | _ :: _, _, ⟨w, u, h1, h2, h3⟩ => ⟨w, u, h1, h2.mono hle, rr_vs.mono hle h3⟩
theorem rr_ls.mono {E : rr_E} {ws us : va_W} (hle : rr_le ws us) : ∀ {l l' : List (Nat × Value)}, rr_ls E ws l l' → rr_ls E us l l'
  | [], _, h => h
  | _ :: _, _, ⟨w, u, h1, h2, h3⟩ => ⟨w, u, h1, h2.mono hle, rr_ls.mono hle h3⟩
theorem rr_e.mono {E : rr_E} {ws us : va_W} (hle : rr_le ws us) {x y : va_E} (h : rr_e E ws x y) : rr_e E us x y := by
  cases x with
  | inl a => exact h
  | inr o =>
    obtain ⟨fs, h1, h2⟩ := h
    exact ⟨fs, h1, h2.mono hle⟩
theorem rr_vs.length {E : rr_E} {ws : va_W} : ∀ {l l' : List Value}, rr_vs E ws l l' → l'.length = l.length
  | [], _, h => by rw [show _ = [] from h]
  | _ :: _, _, ⟨w, u, h1, h2, h3⟩ => by rw [h1, List.length_cons, List.length_cons, rr_vs.length h3]
theorem rr_vs.cats {E : rr_E} {ws : va_W} : ∀ {l l' : List Value}, rr_vs E ws l l' → (l'.map fun v => v.category) = l.map fun v => v.category
  | [], _, h => by rw [show _ = [] from h]
  | _ :: _, _, ⟨w, u, h1, h2, h3⟩ => by rw [h1, List.map_cons, List.map_cons, rr_vs.cats h3, h2.cat]
theorem rr_vs.get {E : rr_E} {ws : va_W} : ∀ {l l' : List Value}, rr_vs E ws l l' → ∀ {k : Nat} {v : Value}, l[k]? = some v → ∃ w, l'[k]? = some w ∧ rr_v E ws v w
  | [], _, _, k, v, hk => by simp at hk
  | _ :: _, _, ⟨w, u, h1, h2, h3⟩, 0, v, hk => by
    simp only [List.getElem?_cons_zero, Option.some.injEq] at hk
    exact ⟨w, by rw [h1]; rfl, hk ▸ h2⟩
  | _ :: _, _, ⟨w, u, h1, h2, h3⟩, k + 1, v, hk => by
    rw [List.getElem?_cons_succ] at hk
    obtain ⟨w', g1, g2⟩ := rr_vs.get h3 hk
    exact ⟨w', by rw [h1, List.getElem?_cons_succ]; exact g1, g2⟩
theorem rr_vs.set {E : rr_E} {ws : va_W} {v w : Value} (hv : rr_v E ws v w) : ∀ {l l' : List Value}, rr_vs E ws l l' → ∀ (k : Nat), rr_vs E ws (l.set k v) (l'.set k w)
  | [], _, h, k => by rw [show _ = [] from h]; exact rfl
  | _ :: _, _, ⟨w', u, h1, h2, h3⟩, 0 => by rw [h1]; exact ⟨w, u, rfl, hv, h3⟩
  | _ :: _, _, ⟨w', u, h1, h2, h3⟩, k + 1 => by rw [h1]; exact ⟨w', u.set k w, rfl, h2, rr_vs.set hv h3 k⟩
theorem rr_vs.app {E : rr_E} {ws : va_W} : ∀ {a b a' b' : List Value}, rr_vs E ws a a' → rr_vs E ws b b' → rr_vs E ws (a ++ b) (a' ++ b')
  | [], _, _, _, h1, h2 => by rw [show _ = [] from h1]; exact h2
  | _ :: _, _, _, _, ⟨w', u, h1, h2, h3⟩, hb => by rw [h1]; exact ⟨w', _, rfl, h2, rr_vs.app h3 hb⟩
theorem rr_vs.split {E : rr_E} {ws : va_W} : ∀ {a b l : List Value}, rr_vs E ws (a ++ b) l → ∃ a' b', l = a' ++ b' ∧ rr_vs E ws a a' ∧ rr_vs E ws b b'
  | [], _, l, h => ⟨[], l, rfl, rfl, h⟩
  | _ :: _, _, _, ⟨w, u, h1, h2, h3⟩ => by
    obtain ⟨a', b', g1, g2, g3⟩ := rr_vs.split h3
    exact ⟨w :: a', b', by rw [h1, g1]; rfl, ⟨w, a', rfl, h2, g2⟩, g3⟩
theorem rr_vs.rev {E : rr_E} {ws : va_W} : ∀ {a a' : List Value}, rr_vs E ws a a' → rr_vs E ws a.reverse a'.reverse
  | [], _, h => by rw [show _ = [] from h]; exact rfl
  | _ :: _, _, ⟨w, u, h1, h2, h3⟩ => by
    rw [h1, List.reverse_cons, List.reverse_cons]
    exact rr_vs.app (rr_vs.rev h3) ⟨w, [], rfl, h2, rfl⟩
theorem rr_ls.fil {E : rr_E} {ws : va_W} (P : Nat → Nat → Bool) : ∀ {l l' : List (Nat × Value)}, rr_ls E ws l l' → rr_ls E ws (l.filter (fun q => P q.1 q.2.category)) (l'.filter (fun q => P q.1 q.2.category))
  | [], _, h => by rw [show _ = [] from h]; exact rfl
  | q :: t, _, ⟨w, u, h1, h2, h3⟩ => by
    rw [h1, List.filter_cons, List.filter_cons, h2.cat]
    have := rr_ls.fil P h3
    by_cases hp : P q.1 q.2.category = true
    · rw [if_pos hp, if_pos hp]
      exact ⟨w, _, rfl, h2, this⟩
    · rw [if_neg hp, if_neg hp]
      exact this
theorem rr_M.set {E : rr_E} {h : rr_H} {ws : va_W} (hM : rr_M E h ws) {k a : Nat} {x y y0 : va_E} (hk : ws[k]? = some (a, y0)) (he : rr_e E ws x y) : rr_M E (h.set k x) (ws.set k (a, y)) := by
  obtain ⟨hl, hm⟩ := hM
  have hlt : k < ws.length := (List.getElem?_eq_some_iff.mp hk).1
  refine ⟨by rw [List.length_set, List.length_set]; exact hl, fun j z hj => ?_⟩
  by_cases q : k = j
  · subst q
    rw [List.getElem?_set_self (by omega)] at hj
    cases hj
    exact ⟨a, y, List.getElem?_set_self hlt, he.mono (rr_le.set hk)⟩
  · rw [List.getElem?_set_ne q] at hj
    obtain ⟨b, y', g1, g2⟩ := hm j z hj
    exact ⟨b, y', by rw [List.getElem?_set_ne q]; exact g1, g2.mono (rr_le.set hk)⟩
theorem rr_M.push {E : rr_E} {h : rr_H} {ws : va_W} (hM : rr_M E h ws) {q : Nat} {x y : va_E} (he : rr_e E (ws ++ [(q, y)]) x y) : rr_M E (h ++ [x]) (ws ++ [(q, y)]) := by
  obtain ⟨hl, hm⟩ := hM
  refine ⟨by simp [hl], fun j z hj => ?_⟩
  by_cases g : j < h.length
  · rw [List.getElem?_append_left g] at hj
    obtain ⟨b, y', g1, g2⟩ := hm j z hj
    exact ⟨b, y', by rw [List.getElem?_append_left (by omega)]; exact g1, g2.mono rr_le.push⟩
  · rw [List.getElem?_append_right (by omega)] at hj
    have hz : j - h.length < 1 := (List.getElem?_eq_some_iff.mp hj).1
    have hj0 : j = h.length := by omega
    subst hj0
    rw [Nat.sub_self] at hj
    cases hj
    exact ⟨q, y, by rw [← hl, List.getElem?_append_right (Nat.le_refl _), Nat.sub_self]; rfl, he⟩
/-- the texts: 18 of them, by the Model's own entries -/
def rr_S (E : rr_E) (A : Nat → Prop) (U : State) (H : Heap) : Prop :=
  va_K E.1 rr_cl (rr_tys E) U ∧ (∀ w ∈ rr_nw, va_Nw w U) ∧ vk_S rr_nS rr_len rr_byt (fun j => E.2.2.1 j) (fun j => E.2.2.1 (100 + j)) A U H ∧
  (∀ q ∈ rr_str, vk_R q.1 q.2.1 q.2.2.1 (E.2.2.1 q.2.2.2) U) ∧ va_Z "java/lang/String" "COMPACT_STRINGS" "Z" (.int 1) A U H ∧
  (va_Z "jdk/internal/util/Preconditions" "SIOOBE_FORMATTER" "Ljava/util/function/BiFunction;" .null A U H ∨ va_Z "jdk/internal/util/Preconditions" "SIOOBE_FORMATTER" "Ljava/util/function/BiFunction;" (.ref (E.2.2.1 300)) A U H) ∧
  va_T .int (E.2.2.1 200) E.2.2.2.1 (fun j => .int (E.2.2.2.2 j)) A U H
theorem rr_isN_warm {w : Cond} (h : rr_isN w = true) {s U : State} (hW : s.WarmedH U.vm) (hZ : va_Nw w s) : va_Nw w U := by
  cases w with
  | fieldLinkNest a i b n d hh => exact va_Nw.warmF hW hZ
  | methodLinkNest a i x hh => exact va_Nw.warmM hW hZ
  | _ => cases h
theorem rr_isN_tab {w : Cond} (h : rr_isN w = true) : w.onTables = true := by
  cases w with
  | fieldLinkNest a i b n d hh => rfl
  | methodLinkNest a i x hh => rfl
  | _ => cases h
theorem rr_nw_is {w : Cond} (h : w ∈ rr_nw) : rr_isN w = true := (List.mem_filter.mp h).2
/-- what stands fast, at a callee's start -/
theorem rr_S.go {E : rr_E} {A B : Nat → Prop} {s U : State} {H : Heap} {locs : List Loc} (h : rr_S E A s s.heap) (hS : va_S A s.heap H locs) (hB : ∀ q, B q → A q) (hU : U.heap = H) (hW : s.WarmedH U.vm) : rr_S E B U U.heap := by
  obtain ⟨h1, h2, h3, h4, h5, h6, h7⟩ := h
  have kp := hS.2.1
  rw [hU]
  refine ⟨va_K.moved hW.alike h1, fun w hw => rr_isN_warm (rr_nw_is hw) hW (h2 w hw), ((h3.moved hW.alike).kept kp).narrow hB, fun q hq => (h4 q hq).warm hW, ((h5.moved hW.alike).kept kp).narrow hB, ?_, ((h7.moved hW.alike).kept kp).narrow hB⟩
  rcases h6 with h6 | h6
  · exact Or.inl (((h6.moved hW.alike).kept kp).narrow hB)
  · exact Or.inr (((h6.moved hW.alike).kept kp).narrow hB)
/-- the same tables and heap: the same -/
theorem rr_S.same {E : rr_E} {A : Nat → Prop} {s U : State} {H : Heap} (h : rr_S E A s H) (hv : U.vm = s.vm) : rr_S E A U H := by
  obtain ⟨h1, h2, h3, h4, h5, h6, h7⟩ := h
  have hal : s.vm.Alike U.vm := by rw [hv]; exact Vm.Alike.refl _
  refine ⟨va_K.moved hal h1, fun w hw => va_Nw.same (rr_isN_tab (rr_nw_is hw)) hv.symm (h2 w hw), h3.moved hal, fun q hq => (h4 q hq).same hv, h5.moved hal, ?_, h7.moved hal⟩
  rcases h6 with h6 | h6
  · exact Or.inl (h6.moved hal)
  · exact Or.inr (h6.moved hal)
/-- the world: here a heap h, there the cells ws of H -/
def rr_Wd (E : rr_E) (A : Nat → Prop) (h : rr_H) (ws : va_W) (H : Heap) : Prop := rr_M E h ws ∧ va_P E.1 rr_cl ws H ∧ va_D A ws
/-- a constructor? and, of the law alone, its script -/
abbrev rr_Kd : Type := Bool × Option (Nat × (Nat → Int32))
/-- a method at work: its class, code, locals, kind of answer; ini: a constructor -/
def rr_Cx (own : String) (cc : ByteArray) (nL : Nat) (rt : Option FieldType) (kd : rr_Kd) (E : rr_E) (A : Nat → Prop) (p : Program) (s : State) (m : MethodId) (args : Array Value) (meth : Method) (c : Code) : Prop :=
  p.tables.exec = Jvm.exec ∧ c.code = cc ∧ meth.sig.returnType = rt ∧ c.maxLocals = nL ∧ s.vm.findClass own = some m.cls ∧ (∀ w ∈ rr_ws, w.before args s = true) ∧ meth.locks = false ∧ (kd.1 = true → meth.name = "<init>") ∧ rr_S E A s s.heap ∧ (∀ q : Nat, s.heap.size ≤ q → A q) ∧ ∀ X, kd.2 = some X → E.2.2.2 = X
def rr_o (E : rr_E) (ws : va_W) : Option Value → Option Value → Prop
  | none, w => w = none
  | some v, w => ∃ w', w = some w' ∧ rr_v E ws v w'
/-- at pc the method gives r back -/
def rr_Rt (cc : ByteArray) (rt : Option FieldType) (pc : Nat) (r : Option Value) : Prop := match r with
  | none => rt = none ∧ decode cc pc = .ok (.return_, 1)
  | some (.int v) => decode cc pc = .ok (.ireturn, 1) ∧ ∃ ty, rt = some ty ∧ narrow ty (.int v) = .int v
  | some (.long _) => rt = some .long ∧ decode cc pc = .ok (.lreturn, 1)
  | some (.ref _) => decode cc pc = .ok (.areturn, 1) ∧ ∃ ty, rt = some ty ∧ ((∃ n, ty = .object n) ∨ ∃ t, ty = .array t)
  | _ => False
/-- the real machine, at a frame that is like (pc, lv, st) over a heap like h, comes to its end, with an answer and a heap that Q holds of -/
def rr_A (own : String) (cc : ByteArray) (nL : Nat) (rt : Option FieldType) (kd : rr_Kd) (R : Room) (Q : Option Value → rr_H → Prop) (kc ks : Nat) (pc : Nat) (lv : List (Nat × Value)) (st : List Value) (h : rr_H) : Prop :=
  ∀ (p : Program) (l : Launch) (e : Env) (s : State) (m : MethodId) (args : Array Value) (below : List Frame) (meth : Method) (c : Code) (E : rr_E) (A : Nat → Prop) (Qf : State → Prop) (w0 : va_W), rr_Cx own cc nL rt kd E A p s m args meth c →
  (∀ (r r' : Option Value) (h' : rr_H) (us : va_W) (H : Heap) (locs : List Loc) (pc' : Nat) (ls : Array Slot), rr_Rt cc rt pc' r' → Q r h' → rr_o E us r r' → rr_Wd E A h' us H → va_S A s.heap H locs → rr_le w0 us → W p l e R s m args below meth c H locs R.cells R.slots Qf (F0 m pc' ls r'.toList)) →
  ∀ (H : Heap) (locs : List Loc) (ws : va_W) (ls : Array Slot) (lv' : List (Nat × Value)) (st' : List Value), rr_Wd E A h ws H → va_S A s.heap H locs → rr_le w0 ws → lv_has ls nL lv' → rr_ls E ws lv lv' → rr_vs E ws st st' → W p l e R s m args below meth c H locs kc ks Qf (F0 m pc ls st')
/-- a method's contract, over a heap h -/
def rr_Spec (d : Nat) (y : MethodName) (cc : ByteArray) (nL : Nat) (rt : Option FieldType) (mc ms : Nat) (as : List Value) (h : rr_H) (Q : Option Value → rr_H → Prop) : Prop :=
  ∀ (l : Launch) (E : rr_E) (ws : va_W) (as' : List Value) (sz : Nat), rr_M E h ws → rr_vs E ws as as' →
  Met l y (.code y cc nL rt :: rr_ws) { frames := d, cells := mc, slots := ms, locals := d * 64 }
    (va_Pc as' (fun U => U.heap.size = sz ∧ va_P E.1 rr_cl ws U.heap ∧ va_D (fun _ => True) ws ∧ rr_S E (va_A ws sz) U U.heap))
    (fun _ st oc t => (∃ (r r' : Option Value) (h' : rr_H) (us : va_W), oc = .returned r' ∧ Q r h' ∧ rr_o E us r r' ∧ rr_Wd E (va_A ws sz) h' us t.heap ∧ rr_le ws us) ∧ va_F (va_A ws sz) st t) mc ms (va_A ws sz)
theorem rr_args {E : rr_E} {ws : va_W} : ∀ {as as' : List Value} (i : Nat), rr_vs E ws as as' → rr_ls E ws (lv_args i as) (lv_args i as')
  | [], _, i, h => by rw [show _ = [] from h]; exact rfl
  | v :: t, _, i, ⟨w, u, h1, h2, h3⟩ => by
    rw [h1]
    have hc := h2.cat
    unfold lv_args
    rw [hc]
    exact ⟨w, _, rfl, h2, rr_args _ h3⟩
theorem rr_slen {E : rr_E} {ws : va_W} : ∀ {as as' : List Value}, rr_vs E ws as as' → (lg_sl as').length = (lg_sl as).length
  | [], _, h => by rw [show _ = [] from h]
  | v :: t, _, ⟨w, u, h1, h2, h3⟩ => by
    rw [h1]
    have hc := h2.cat
    have ih := rr_slen h3
    have e1 : lg_sl (w :: u) = (if w.category = 2 then [.val w, .second] else [.val w]) ++ lg_sl u := rfl
    have e2 : lg_sl (v :: t) = (if v.category = 2 then [.val v, .second] else [.val v]) ++ lg_sl t := rfl
    rw [e1, e2, List.length_append, List.length_append, ih, hc]
    split <;> rfl
/-- a walk from the entry gives the contract -/
theorem rr_met {d : Nat} {y : MethodName} {own : String} {cc : ByteArray} {nL : Nat} {rt : Option FieldType} {kd : rr_Kd} {mc ms : Nat} {as : List Value} {h : rr_H} {Q : Option Value → rr_H → Prop} (hy : plainName y.cls = true) (hown : y.cls = own) (hini : kd.1 = true → y.name = "<init>") (hk2 : kd.2 = none) (hn : (lg_sl as).length ≤ nL)
    (hA : rr_A own cc nL rt kd { frames := d, cells := mc, slots := ms, locals := d * 64 } Q 0 0 0 (lv_args 0 as) [] h) : rr_Spec d y cc nL rt mc ms as h Q := by
  intro l E ws as' sz hM hvs
  refine Met.ofW (cc := cc) (maxL := nL) (ret := rt) hy rfl ?_
  intro p e s m args below meth c s₁ B hml hv
  obtain ⟨rfl, hsz, hP, hD0, hSt⟩ := hv
  have hts := atoms_spec (ws := .code y cc nL rt :: rr_ws) B.pre
  subst hsz
  have hlocks := B.notSynchronized
  have hD := hD0.self (sz := s.heap.size)
  have hr := B.returns
  have hl := lv_entry as' (n := nL) (by rw [rr_slen hvs]; exact hn)
  rw [lg_entry_eq]
  generalize (lg_sl as' ++ List.replicate (nL - (lg_sl as').length) Slot.unset).toArray = ls at hl ⊢
  refine hA p l e s m as'.toArray below meth c E (va_A ws s.heap.size) _ ws ⟨B.exec, B.bytes, hr, hml, by rw [← hown]; exact findClass_of_methodNamed B.named, fun w hw => hts w (List.mem_cons_of_mem _ hw), hlocks, fun hi => ((name_of_methodNamed B.named B.method).1).trans (hini hi), hSt, fun q hq => Or.inr hq, fun X hX => by rw [hk2] at hX; cases hX⟩ ?_ s.heap [] ws ls (lv_args 0 as') [] ⟨hM, hP, hD⟩ va_S.rf rr_le.rf hl (rr_args 0 hvs) rfl
  intro r r' h' us H locs pc' ls2 hRt hQ ho hWd hS hle
  have post : ∀ t : State, t.heap = H → ((∃ (r2 r2' : Option Value) (h2 : rr_H) (us2 : va_W), Outcome.returned r' = .returned r2' ∧ Q r2 h2 ∧ rr_o E us2 r2 r2' ∧ rr_Wd E (va_A ws s.heap.size) h2 us2 t.heap ∧ rr_le ws us2) ∧ va_F (va_A ws s.heap.size) s t) := fun t ht => ⟨⟨r, r', h', us, rfl, hQ, ho, by rw [ht]; exact hWd, hle⟩, hS.F ht⟩
  cases r' with
  | none =>
    obtain ⟨h1, h2⟩ := hRt
    exact W.vret B.exec B.bytes (hr.trans h1) (fun t ht hW => post t ht) hS.2.2 h2
  | some v =>
    cases v with
    | int v =>
      obtain ⟨h2, ty, h1, h3⟩ := hRt
      exact W.zret B.exec B.bytes (hr.trans h1) h3 (fun t ht hW => post t ht) hS.2.2 h2
    | long v =>
      obtain ⟨h1, h2⟩ := hRt
      exact W.lret B.exec B.bytes (hr.trans h1) (fun t ht hW => post t ht) hS.2.2 h2
    | ref a =>
      obtain ⟨h2, ty, h1, h3⟩ := hRt
      exact W.aret B.exec B.bytes (hr.trans h1) h3 (Or.inr ⟨a, rfl⟩) (fun t ht hW => post t ht) hS.2.2 h2
    | _ => exact absurd hRt id
end
section
/-! The rows of the small machine: an instruction a row. -/
def rr_get : List (Nat × Value) → Nat → Option Value
  | [], _ => none
  | q :: t, n => cond (Nat.beq q.1 n) (some q.2) (rr_get t n)
/-- storing a value of one slot, of two -/
def rr_p1 (i a b : Nat) : Bool := !(a == i) && !(a + 1 == i && b == 2)
def rr_p2 (i a b : Nat) : Bool := !(a == i) && (!(a == i + 1) && !(a + 1 == i && b == 2))
def rr_put (lv : List (Nat × Value)) (i : Nat) (v : Value) : List (Nat × Value) := (i, v) :: lv.filter (fun q => rr_p1 i q.1 q.2.category)
def rr_put2 (lv : List (Nat × Value)) (i : Nat) (v : Value) : List (Nat × Value) := (i, v) :: lv.filter (fun q => rr_p2 i q.1 q.2.category)
theorem rr_get_at {E : rr_E} {ws : va_W} {ls : Array Slot} {nL : Nat} {n : Nat} {v : Value} : ∀ {lv lv' : List (Nat × Value)}, lv_has ls nL lv' → rr_ls E ws lv lv' → rr_get lv n = some v → ∃ w, ls[n]? = some (.val w) ∧ rr_v E ws v w
  | [], _, _, _, hg => by cases hg
  | q :: t, _, hl, ⟨w, u, h1, h2, h3⟩, hg => by
    subst h1
    unfold rr_get at hg
    by_cases hq : Nat.beq q.1 n = true
    · rw [hq] at hg
      have e : q.1 = n := Nat.eq_of_beq_eq_true hq
      cases hg
      exact ⟨w, e ▸ hl.2.2 (q.1, w) List.mem_cons_self, h2⟩
    · rw [Bool.not_eq_true] at hq
      rw [hq] at hg
      exact rr_get_at (lv' := u) ⟨hl.1, hl.2.1, fun x hx => hl.2.2 x (List.mem_cons_of_mem _ hx)⟩ h3 hg
section ROWS
variable {own : String} {cc : ByteArray} {nL : Nat} {rt : Option FieldType} {kd : rr_Kd} {R : Room} {Q : Option Value → rr_H → Prop} {kc ks pc : Nat} {lv : List (Nat × Value)} {st : List Value} {h : rr_H}
/-- forget locals, or list them otherwise -/
def rr_sub (l l' : List (Nat × Value)) : Prop := ∀ q ∈ l', rr_get l q.1 = some q.2
theorem rr_lv_mk {E : rr_E} {ws : va_W} {ls : Array Slot} {n0 : Nat} {l l0 : List (Nat × Value)} (hl : lv_has ls n0 l0) (hr : rr_ls E ws l l0) : ∀ (l' : List (Nat × Value)), rr_sub l l' → ∃ l1, lv_has ls n0 l1 ∧ rr_ls E ws l' l1
  | [], _ => ⟨[], ⟨hl.1, hl.2.1, fun _ hq => by cases hq⟩, rfl⟩
  | q :: t, hs => by
    obtain ⟨w, h1, h2⟩ := rr_get_at hl hr (hs q List.mem_cons_self)
    obtain ⟨l1, g1, g2⟩ := rr_lv_mk hl hr t (fun x hx => hs x (List.mem_cons_of_mem _ hx))
    refine ⟨(q.1, w) :: l1, ⟨hl.1, hl.2.1, fun x hx => ?_⟩, w, l1, rfl, h2, g2⟩
    rcases List.mem_cons.mp hx with rfl | hx
    · exact h1
    · exact g1.2.2 x hx
theorem rr_lvs (lv' : List (Nat × Value)) (hs : lv'.map (fun q => rr_get lv q.1) = lv'.map (fun q => some q.2)) (k : rr_A own cc nL rt kd R Q kc ks pc lv' st h) : rr_A own cc nL rt kd R Q kc ks pc lv st h := by
  intro p l e s m args below meth c E A Qf w0 hC hret H locs ws ls l0 st' hW hS hle hl hlr hst
  have hsub : rr_sub lv lv' := by
    have : ∀ (t : List (Nat × Value)), t.map (fun q => rr_get lv q.1) = t.map (fun q => some q.2) → ∀ q ∈ t, rr_get lv q.1 = some q.2 := by
      intro t
      induction t with
      | nil => intro _ q hq; cases hq
      | cons a t ih =>
        intro he q hq
        rw [List.map_cons, List.map_cons, List.cons.injEq] at he
        rcases List.mem_cons.mp hq with rfl | hq
        · exact he.1
        · exact ih he.2 q hq
    exact this lv' hs
  obtain ⟨l1, g1, g2⟩ := rr_lv_mk hl hlr lv' hsub
  exact k p l e s m args below meth c E A Qf w0 hC hret H locs ws ls l1 st' hW hS hle g1 g2 hst
/-- the same state otherwise written -/
theorem rr_to (pc' : Nat) (lv' : List (Nat × Value)) (st' : List Value) (h' : rr_H) (k : rr_A own cc nL rt kd R Q kc ks pc' lv' st' h') (e1 : pc = pc' := by rfl) (e2 : lv = lv' := by rfl) (e3 : st = st' := by rfl) (e4 : h = h' := by rfl) : rr_A own cc nL rt kd R Q kc ks pc lv st h := by
  subst e1; subst e2; subst e3; subst e4; exact k
theorem rr_weak {Q' : Option Value → rr_H → Prop} (hq : ∀ r g, Q' r g → Q r g) (k : rr_A own cc nL rt kd R Q' kc ks pc lv st h) : rr_A own cc nL rt kd R Q kc ks pc lv st h := by
  intro p l e s m args below meth c E A Qf w0 hC hret
  exact k p l e s m args below meth c E A Qf w0 hC (fun r r' h' us H locs pc' ls a b => hret r r' h' us H locs pc' ls a (hq r h' b))
theorem rr_widen {kc' ks' : Nat} (h1 : kc ≤ kc') (h2 : ks ≤ ks') (k : rr_A own cc nL rt kd R Q kc' ks' pc lv st h) : rr_A own cc nL rt kd R Q kc ks pc lv st h := by
  intro p l e s m args below meth c E A Qf w0 hC hret H locs ws ls l0 st' hW hS hle hl hlr hst
  exact W.widen h1 h2 (k p l e s m args below meth c E A Qf w0 hC hret H locs ws ls l0 st' hW hS hle hl hlr hst)
theorem rr_iconst {n : Int} (v : Int32) (hd : decode cc pc = .ok (.iconst n, 1)) (hv : Int32.ofInt n = v) (k : rr_A own cc nL rt kd R Q kc ks (pc + 1) lv (.int v :: st) h) : rr_A own cc nL rt kd R Q kc ks pc lv st h := by
  intro p l e s m args below meth c E A Qf w0 hC hret H locs ws ls l0 st' hW hS hle hl hlr hst
  obtain ⟨hx, hb, hr, hml, hown, hts, hlk, hin, hSt, hA⟩ := id hC
  exact lv_iconst hx hb hd hv (k p l e s m args below meth c E A Qf w0 hC hret H locs ws ls l0 _ hW hS hle hl hlr ⟨_, _, rfl, rfl, hst⟩)
theorem rr_bipush {n : Int} (v : Int32) (hd : decode cc pc = .ok (.bipush n, 2)) (hv : (Int8.ofInt n).toInt32 = v) (k : rr_A own cc nL rt kd R Q kc ks (pc + 2) lv (.int v :: st) h) : rr_A own cc nL rt kd R Q kc ks pc lv st h := by
  intro p l e s m args below meth c E A Qf w0 hC hret H locs ws ls l0 st' hW hS hle hl hlr hst
  obtain ⟨hx, hb, hr, hml, hown, hts, hlk, hin, hSt, hA⟩ := id hC
  exact lv_bipush hx hb hd hv (k p l e s m args below meth c E A Qf w0 hC hret H locs ws ls l0 _ hW hS hle hl hlr ⟨_, _, rfl, rfl, hst⟩)
theorem rr_sipush {n : Int} (v : Int32) (hd : decode cc pc = .ok (.sipush n, 3)) (hv : (Int16.ofInt n).toInt32 = v) (k : rr_A own cc nL rt kd R Q kc ks (pc + 3) lv (.int v :: st) h) : rr_A own cc nL rt kd R Q kc ks pc lv st h := by
  intro p l e s m args below meth c E A Qf w0 hC hret H locs ws ls l0 st' hW hS hle hl hlr hst
  obtain ⟨hx, hb, hr, hml, hown, hts, hlk, hin, hSt, hA⟩ := id hC
  exact lv_sipush hx hb hd hv (k p l e s m args below meth c E A Qf w0 hC hret H locs ws ls l0 _ hW hS hle hl hlr ⟨_, _, rfl, rfl, hst⟩)
theorem rr_lconst {n : Fin 2} (v : Int64) (hd : decode cc pc = .ok (.lconst n, 1)) (hv : Int64.ofNat (n : Nat) = v) (k : rr_A own cc nL rt kd R Q kc ks (pc + 1) lv (.long v :: st) h) : rr_A own cc nL rt kd R Q kc ks pc lv st h := by
  intro p l e s m args below meth c E A Qf w0 hC hret H locs ws ls l0 st' hW hS hle hl hlr hst
  obtain ⟨hx, hb, hr, hml, hown, hts, hlk, hin, hSt, hA⟩ := id hC
  exact lv_lconst hx hb hd hv (k p l e s m args below meth c E A Qf w0 hC hret H locs ws ls l0 _ hW hS hle hl hlr ⟨_, _, rfl, rfl, hst⟩)
theorem rr_null  (hd : decode cc pc = .ok (.aconst_null, 1))  (k : rr_A own cc nL rt kd R Q kc ks (pc + 1) lv (.null :: st) h) : rr_A own cc nL rt kd R Q kc ks pc lv st h := by
  intro p l e s m args below meth c E A Qf w0 hC hret H locs ws ls l0 st' hW hS hle hl hlr hst
  obtain ⟨hx, hb, hr, hml, hown, hts, hlk, hin, hSt, hA⟩ := id hC
  exact lv_null hx hb hd (k p l e s m args below meth c E A Qf w0 hC hret H locs ws ls l0 _ hW hS hle hl hlr ⟨_, _, rfl, rfl, hst⟩)
theorem rr_iload_n {j : Fin 4} {i : Nat} {x : Int32} (hd : decode cc pc = .ok (.iload_n j, 1)) (hi : (j : Nat) = i) (hg : rr_get lv i = some (.int x)) (k : rr_A own cc nL rt kd R Q kc ks (pc + 1) lv (.int x :: st) h) : rr_A own cc nL rt kd R Q kc ks pc lv st h := by
  intro p l e s m args below meth c E A Qf w0 hC hret H locs ws ls l0 st' hW hS hle hl hlr hst
  obtain ⟨hx, hb, hr, hml, hown, hts, hlk, hin, hSt, hA⟩ := id hC
  obtain ⟨w, h1, h2⟩ := rr_get_at hl hlr hg
  rw [show w = .int x from h2] at h1
  exact lv_iload_n hx hb hd hi h1 (k p l e s m args below meth c E A Qf w0 hC hret H locs ws ls l0 _ hW hS hle hl hlr ⟨_, _, rfl, rfl, hst⟩)
theorem rr_iload {i : Nat} {x : Int32} (hd : decode cc pc = .ok (.iload i, 2)) (hg : rr_get lv i = some (.int x)) (k : rr_A own cc nL rt kd R Q kc ks (pc + 2) lv (.int x :: st) h) : rr_A own cc nL rt kd R Q kc ks pc lv st h := by
  intro p l e s m args below meth c E A Qf w0 hC hret H locs ws ls l0 st' hW hS hle hl hlr hst
  obtain ⟨hx, hb, hr, hml, hown, hts, hlk, hin, hSt, hA⟩ := id hC
  obtain ⟨w, h1, h2⟩ := rr_get_at hl hlr hg
  rw [show w = .int x from h2] at h1
  exact lv_iload hx hb hd h1 (k p l e s m args below meth c E A Qf w0 hC hret H locs ws ls l0 _ hW hS hle hl hlr ⟨_, _, rfl, rfl, hst⟩)
theorem rr_lload_n {j : Fin 4} {i : Nat} {x : Int64} (hd : decode cc pc = .ok (.lload_n j, 1)) (hi : (j : Nat) = i) (hg : rr_get lv i = some (.long x)) (k : rr_A own cc nL rt kd R Q kc ks (pc + 1) lv (.long x :: st) h) : rr_A own cc nL rt kd R Q kc ks pc lv st h := by
  intro p l e s m args below meth c E A Qf w0 hC hret H locs ws ls l0 st' hW hS hle hl hlr hst
  obtain ⟨hx, hb, hr, hml, hown, hts, hlk, hin, hSt, hA⟩ := id hC
  obtain ⟨w, h1, h2⟩ := rr_get_at hl hlr hg
  rw [show w = .long x from h2] at h1
  exact lv_lload_n hx hb hd hi h1 (k p l e s m args below meth c E A Qf w0 hC hret H locs ws ls l0 _ hW hS hle hl hlr ⟨_, _, rfl, rfl, hst⟩)
theorem rr_lload {i : Nat} {x : Int64} (hd : decode cc pc = .ok (.lload i, 2)) (hg : rr_get lv i = some (.long x)) (k : rr_A own cc nL rt kd R Q kc ks (pc + 2) lv (.long x :: st) h) : rr_A own cc nL rt kd R Q kc ks pc lv st h := by
  intro p l e s m args below meth c E A Qf w0 hC hret H locs ws ls l0 st' hW hS hle hl hlr hst
  obtain ⟨hx, hb, hr, hml, hown, hts, hlk, hin, hSt, hA⟩ := id hC
  obtain ⟨w, h1, h2⟩ := rr_get_at hl hlr hg
  rw [show w = .long x from h2] at h1
  exact lv_lload hx hb hd h1 (k p l e s m args below meth c E A Qf w0 hC hret H locs ws ls l0 _ hW hS hle hl hlr ⟨_, _, rfl, rfl, hst⟩)
theorem rr_refv {E : rr_E} {ws : va_W} {i : Nat} {w : Value} (h : rr_v E ws (.ref i) w) : ∃ a, w = .ref a := by
  unfold rr_v at h
  dsimp only at h
  split at h
  · obtain ⟨a, e, -, h2⟩ := h
    exact ⟨a, h2⟩
  · exact ⟨_, h⟩
theorem rr_aload_n {j : Fin 4} {i x : Nat} (hd : decode cc pc = .ok (.aload_n j, 1)) (hi : (j : Nat) = i) (hg : rr_get lv i = some (.ref x)) (k : rr_A own cc nL rt kd R Q kc ks (pc + 1) lv (.ref x :: st) h) : rr_A own cc nL rt kd R Q kc ks pc lv st h := by
  intro p l e s m args below meth c E A Qf w0 hC hret H locs ws ls l0 st' hW hS hle hl hlr hst
  obtain ⟨hx, hb, hr, hml, hown, hts, hlk, hin, hSt, hA⟩ := id hC
  obtain ⟨w, h1, h2⟩ := rr_get_at hl hlr hg
  obtain ⟨a, rfl⟩ := rr_refv h2
  exact lv_aload_n hx hb hd hi h1 (k p l e s m args below meth c E A Qf w0 hC hret H locs ws ls l0 _ hW hS hle hl hlr ⟨_, _, rfl, h2, hst⟩)
theorem rr_aload {i x : Nat} (hd : decode cc pc = .ok (.aload i, 2)) (hg : rr_get lv i = some (.ref x)) (k : rr_A own cc nL rt kd R Q kc ks (pc + 2) lv (.ref x :: st) h) : rr_A own cc nL rt kd R Q kc ks pc lv st h := by
  intro p l e s m args below meth c E A Qf w0 hC hret H locs ws ls l0 st' hW hS hle hl hlr hst
  obtain ⟨hx, hb, hr, hml, hown, hts, hlk, hin, hSt, hA⟩ := id hC
  obtain ⟨w, h1, h2⟩ := rr_get_at hl hlr hg
  obtain ⟨a, rfl⟩ := rr_refv h2
  exact lv_aload hx hb hd h1 (k p l e s m args below meth c E A Qf w0 hC hret H locs ws ls l0 _ hW hS hle hl hlr ⟨_, _, rfl, h2, hst⟩)
theorem rr_istore_n {j : Fin 4} {i : Nat} {x : Int32} (hd : decode cc pc = .ok (.istore_n j, 1)) (hi : (j : Nat) = i) (hn : i < nL) (k : rr_A own cc nL rt kd R Q kc ks (pc + 1) (rr_put lv i (.int x)) st h) : rr_A own cc nL rt kd R Q kc ks pc lv (.int x :: st) h := by
  intro p l e s m args below meth c E A Qf w0 hC hret H locs ws ls l0 st' hW hS hle hl hlr hst
  obtain ⟨hx, hb, hr, hml, hown, hts, hlk, hin, hSt, hA⟩ := id hC
  obtain ⟨w, u, rfl, hw, hu⟩ := hst
  obtain rfl : w = .int x := hw
  exact lv_istore_n hx hb hd hi hl hn rfl (fun ls' hl' => k p l e s m args below meth c E A Qf w0 hC hret H locs ws ls' _ _ hW hS hle hl' ⟨_, _, rfl, rfl, rr_ls.fil (rr_p1 i) hlr⟩ hu)
theorem rr_istore {i : Nat} {x : Int32} (hd : decode cc pc = .ok (.istore i, 2)) (hn : i < nL) (k : rr_A own cc nL rt kd R Q kc ks (pc + 2) (rr_put lv i (.int x)) st h) : rr_A own cc nL rt kd R Q kc ks pc lv (.int x :: st) h := by
  intro p l e s m args below meth c E A Qf w0 hC hret H locs ws ls l0 st' hW hS hle hl hlr hst
  obtain ⟨hx, hb, hr, hml, hown, hts, hlk, hin, hSt, hA⟩ := id hC
  obtain ⟨w, u, rfl, hw, hu⟩ := hst
  obtain rfl : w = .int x := hw
  exact lv_istore hx hb hd hl hn rfl (fun ls' hl' => k p l e s m args below meth c E A Qf w0 hC hret H locs ws ls' _ _ hW hS hle hl' ⟨_, _, rfl, rfl, rr_ls.fil (rr_p1 i) hlr⟩ hu)
theorem rr_astore_n {j : Fin 4} {i : Nat} {x : Nat} (hd : decode cc pc = .ok (.astore_n j, 1)) (hi : (j : Nat) = i) (hn : i < nL) (k : rr_A own cc nL rt kd R Q kc ks (pc + 1) (rr_put lv i (.ref x)) st h) : rr_A own cc nL rt kd R Q kc ks pc lv (.ref x :: st) h := by
  intro p l e s m args below meth c E A Qf w0 hC hret H locs ws ls l0 st' hW hS hle hl hlr hst
  obtain ⟨hx, hb, hr, hml, hown, hts, hlk, hin, hSt, hA⟩ := id hC
  obtain ⟨w, u, rfl, hw, hu⟩ := hst
  obtain ⟨a, rfl⟩ := rr_refv hw
  exact lv_astore_n hx hb hd hi hl hn rfl (fun ls' hl' => k p l e s m args below meth c E A Qf w0 hC hret H locs ws ls' _ _ hW hS hle hl' ⟨_, _, rfl, hw, rr_ls.fil (rr_p1 i) hlr⟩ hu)
theorem rr_astore {i : Nat} {x : Nat} (hd : decode cc pc = .ok (.astore i, 2)) (hn : i < nL) (k : rr_A own cc nL rt kd R Q kc ks (pc + 2) (rr_put lv i (.ref x)) st h) : rr_A own cc nL rt kd R Q kc ks pc lv (.ref x :: st) h := by
  intro p l e s m args below meth c E A Qf w0 hC hret H locs ws ls l0 st' hW hS hle hl hlr hst
  obtain ⟨hx, hb, hr, hml, hown, hts, hlk, hin, hSt, hA⟩ := id hC
  obtain ⟨w, u, rfl, hw, hu⟩ := hst
  obtain ⟨a, rfl⟩ := rr_refv hw
  exact lv_astore hx hb hd hl hn rfl (fun ls' hl' => k p l e s m args below meth c E A Qf w0 hC hret H locs ws ls' _ _ hW hS hle hl' ⟨_, _, rfl, hw, rr_ls.fil (rr_p1 i) hlr⟩ hu)
theorem rr_lstore_n {j : Fin 4} {i : Nat} {x : Int64} (hd : decode cc pc = .ok (.lstore_n j, 1)) (hi : (j : Nat) = i) (hn : i + 1 < nL) (k : rr_A own cc nL rt kd R Q kc ks (pc + 1) (rr_put2 lv i (.long x)) st h) : rr_A own cc nL rt kd R Q kc ks pc lv (.long x :: st) h := by
  intro p l e s m args below meth c E A Qf w0 hC hret H locs ws ls l0 st' hW hS hle hl hlr hst
  obtain ⟨hx, hb, hr, hml, hown, hts, hlk, hin, hSt, hA⟩ := id hC
  obtain ⟨w, u, rfl, hw, hu⟩ := hst
  obtain rfl : w = .long x := hw
  exact lv_lstore_n hx hb hd hi hl hn rfl (fun ls' hl' => k p l e s m args below meth c E A Qf w0 hC hret H locs ws ls' _ _ hW hS hle hl' ⟨_, _, rfl, rfl, rr_ls.fil (rr_p2 i) hlr⟩ hu)
theorem rr_lstore {i : Nat} {x : Int64} (hd : decode cc pc = .ok (.lstore i, 2)) (hn : i + 1 < nL) (k : rr_A own cc nL rt kd R Q kc ks (pc + 2) (rr_put2 lv i (.long x)) st h) : rr_A own cc nL rt kd R Q kc ks pc lv (.long x :: st) h := by
  intro p l e s m args below meth c E A Qf w0 hC hret H locs ws ls l0 st' hW hS hle hl hlr hst
  obtain ⟨hx, hb, hr, hml, hown, hts, hlk, hin, hSt, hA⟩ := id hC
  obtain ⟨w, u, rfl, hw, hu⟩ := hst
  obtain rfl : w = .long x := hw
  exact lv_lstore hx hb hd hl hn rfl (fun ls' hl' => k p l e s m args below meth c E A Qf w0 hC hret H locs ws ls' _ _ hW hS hle hl' ⟨_, _, rfl, rfl, rr_ls.fil (rr_p2 i) hlr⟩ hu)
theorem rr_iadd {x : Int32} {y : Int32} (hd : decode cc pc = .ok (.iadd, 1))  (k : rr_A own cc nL rt kd R Q kc ks (pc + 1) lv (.int (x + y) :: st) h) : rr_A own cc nL rt kd R Q kc ks pc lv (.int y :: .int x :: st) h := by
  intro p l e s m args below meth c E A Qf w0 hC hret H locs ws ls l0 st' hW hS hle hl hlr hst
  obtain ⟨hx, hb, hr, hml, hown, hts, hlk, hin, hSt, hA⟩ := id hC
  obtain ⟨w, u, rfl, hw, hu⟩ := hst
  obtain ⟨w2, u2, rfl, hw2, hu2⟩ := hu
  obtain rfl : w = .int y := hw
  obtain rfl : w2 = .int x := hw2
  exact lv_iadd hx hb hd  (k p l e s m args below meth c E A Qf w0 hC hret H locs ws ls l0 _ hW hS hle hl hlr ⟨_, _, rfl, rfl, hu2⟩)
theorem rr_isub {x : Int32} {y : Int32} (hd : decode cc pc = .ok (.isub, 1))  (k : rr_A own cc nL rt kd R Q kc ks (pc + 1) lv (.int (x - y) :: st) h) : rr_A own cc nL rt kd R Q kc ks pc lv (.int y :: .int x :: st) h := by
  intro p l e s m args below meth c E A Qf w0 hC hret H locs ws ls l0 st' hW hS hle hl hlr hst
  obtain ⟨hx, hb, hr, hml, hown, hts, hlk, hin, hSt, hA⟩ := id hC
  obtain ⟨w, u, rfl, hw, hu⟩ := hst
  obtain ⟨w2, u2, rfl, hw2, hu2⟩ := hu
  obtain rfl : w = .int y := hw
  obtain rfl : w2 = .int x := hw2
  exact lv_isub hx hb hd  (k p l e s m args below meth c E A Qf w0 hC hret H locs ws ls l0 _ hW hS hle hl hlr ⟨_, _, rfl, rfl, hu2⟩)
theorem rr_imul {x : Int32} {y : Int32} (hd : decode cc pc = .ok (.imul, 1))  (k : rr_A own cc nL rt kd R Q kc ks (pc + 1) lv (.int (x * y) :: st) h) : rr_A own cc nL rt kd R Q kc ks pc lv (.int y :: .int x :: st) h := by
  intro p l e s m args below meth c E A Qf w0 hC hret H locs ws ls l0 st' hW hS hle hl hlr hst
  obtain ⟨hx, hb, hr, hml, hown, hts, hlk, hin, hSt, hA⟩ := id hC
  obtain ⟨w, u, rfl, hw, hu⟩ := hst
  obtain ⟨w2, u2, rfl, hw2, hu2⟩ := hu
  obtain rfl : w = .int y := hw
  obtain rfl : w2 = .int x := hw2
  exact lv_imul hx hb hd  (k p l e s m args below meth c E A Qf w0 hC hret H locs ws ls l0 _ hW hS hle hl hlr ⟨_, _, rfl, rfl, hu2⟩)
theorem rr_iand {x : Int32} {y : Int32} (hd : decode cc pc = .ok (.iand, 1))  (k : rr_A own cc nL rt kd R Q kc ks (pc + 1) lv (.int (x &&& y) :: st) h) : rr_A own cc nL rt kd R Q kc ks pc lv (.int y :: .int x :: st) h := by
  intro p l e s m args below meth c E A Qf w0 hC hret H locs ws ls l0 st' hW hS hle hl hlr hst
  obtain ⟨hx, hb, hr, hml, hown, hts, hlk, hin, hSt, hA⟩ := id hC
  obtain ⟨w, u, rfl, hw, hu⟩ := hst
  obtain ⟨w2, u2, rfl, hw2, hu2⟩ := hu
  obtain rfl : w = .int y := hw
  obtain rfl : w2 = .int x := hw2
  exact lv_iand hx hb hd  (k p l e s m args below meth c E A Qf w0 hC hret H locs ws ls l0 _ hW hS hle hl hlr ⟨_, _, rfl, rfl, hu2⟩)
theorem rr_ior {x : Int32} {y : Int32} (hd : decode cc pc = .ok (.ior, 1))  (k : rr_A own cc nL rt kd R Q kc ks (pc + 1) lv (.int (x ||| y) :: st) h) : rr_A own cc nL rt kd R Q kc ks pc lv (.int y :: .int x :: st) h := by
  intro p l e s m args below meth c E A Qf w0 hC hret H locs ws ls l0 st' hW hS hle hl hlr hst
  obtain ⟨hx, hb, hr, hml, hown, hts, hlk, hin, hSt, hA⟩ := id hC
  obtain ⟨w, u, rfl, hw, hu⟩ := hst
  obtain ⟨w2, u2, rfl, hw2, hu2⟩ := hu
  obtain rfl : w = .int y := hw
  obtain rfl : w2 = .int x := hw2
  exact lv_ior hx hb hd  (k p l e s m args below meth c E A Qf w0 hC hret H locs ws ls l0 _ hW hS hle hl hlr ⟨_, _, rfl, rfl, hu2⟩)
theorem rr_ixor {x : Int32} {y : Int32} (hd : decode cc pc = .ok (.ixor, 1))  (k : rr_A own cc nL rt kd R Q kc ks (pc + 1) lv (.int (x ^^^ y) :: st) h) : rr_A own cc nL rt kd R Q kc ks pc lv (.int y :: .int x :: st) h := by
  intro p l e s m args below meth c E A Qf w0 hC hret H locs ws ls l0 st' hW hS hle hl hlr hst
  obtain ⟨hx, hb, hr, hml, hown, hts, hlk, hin, hSt, hA⟩ := id hC
  obtain ⟨w, u, rfl, hw, hu⟩ := hst
  obtain ⟨w2, u2, rfl, hw2, hu2⟩ := hu
  obtain rfl : w = .int y := hw
  obtain rfl : w2 = .int x := hw2
  exact lv_ixor hx hb hd  (k p l e s m args below meth c E A Qf w0 hC hret H locs ws ls l0 _ hW hS hle hl hlr ⟨_, _, rfl, rfl, hu2⟩)
theorem rr_ishl {x : Int32} {y : Int32} (hd : decode cc pc = .ok (.ishl, 1))  (k : rr_A own cc nL rt kd R Q kc ks (pc + 1) lv (.int (x <<< (y &&& 31)) :: st) h) : rr_A own cc nL rt kd R Q kc ks pc lv (.int y :: .int x :: st) h := by
  intro p l e s m args below meth c E A Qf w0 hC hret H locs ws ls l0 st' hW hS hle hl hlr hst
  obtain ⟨hx, hb, hr, hml, hown, hts, hlk, hin, hSt, hA⟩ := id hC
  obtain ⟨w, u, rfl, hw, hu⟩ := hst
  obtain ⟨w2, u2, rfl, hw2, hu2⟩ := hu
  obtain rfl : w = .int y := hw
  obtain rfl : w2 = .int x := hw2
  exact lv_ishl hx hb hd  (k p l e s m args below meth c E A Qf w0 hC hret H locs ws ls l0 _ hW hS hle hl hlr ⟨_, _, rfl, rfl, hu2⟩)
theorem rr_ishr {x : Int32} {y : Int32} (hd : decode cc pc = .ok (.ishr, 1))  (k : rr_A own cc nL rt kd R Q kc ks (pc + 1) lv (.int (x >>> (y &&& 31)) :: st) h) : rr_A own cc nL rt kd R Q kc ks pc lv (.int y :: .int x :: st) h := by
  intro p l e s m args below meth c E A Qf w0 hC hret H locs ws ls l0 st' hW hS hle hl hlr hst
  obtain ⟨hx, hb, hr, hml, hown, hts, hlk, hin, hSt, hA⟩ := id hC
  obtain ⟨w, u, rfl, hw, hu⟩ := hst
  obtain ⟨w2, u2, rfl, hw2, hu2⟩ := hu
  obtain rfl : w = .int y := hw
  obtain rfl : w2 = .int x := hw2
  exact lv_ishr hx hb hd  (k p l e s m args below meth c E A Qf w0 hC hret H locs ws ls l0 _ hW hS hle hl hlr ⟨_, _, rfl, rfl, hu2⟩)
theorem rr_ladd {x : Int64} {y : Int64} (hd : decode cc pc = .ok (.ladd, 1))  (k : rr_A own cc nL rt kd R Q kc ks (pc + 1) lv (.long (x + y) :: st) h) : rr_A own cc nL rt kd R Q kc ks pc lv (.long y :: .long x :: st) h := by
  intro p l e s m args below meth c E A Qf w0 hC hret H locs ws ls l0 st' hW hS hle hl hlr hst
  obtain ⟨hx, hb, hr, hml, hown, hts, hlk, hin, hSt, hA⟩ := id hC
  obtain ⟨w, u, rfl, hw, hu⟩ := hst
  obtain ⟨w2, u2, rfl, hw2, hu2⟩ := hu
  obtain rfl : w = .long y := hw
  obtain rfl : w2 = .long x := hw2
  exact lv_ladd hx hb hd  (k p l e s m args below meth c E A Qf w0 hC hret H locs ws ls l0 _ hW hS hle hl hlr ⟨_, _, rfl, rfl, hu2⟩)
theorem rr_lsub {x : Int64} {y : Int64} (hd : decode cc pc = .ok (.lsub, 1))  (k : rr_A own cc nL rt kd R Q kc ks (pc + 1) lv (.long (x - y) :: st) h) : rr_A own cc nL rt kd R Q kc ks pc lv (.long y :: .long x :: st) h := by
  intro p l e s m args below meth c E A Qf w0 hC hret H locs ws ls l0 st' hW hS hle hl hlr hst
  obtain ⟨hx, hb, hr, hml, hown, hts, hlk, hin, hSt, hA⟩ := id hC
  obtain ⟨w, u, rfl, hw, hu⟩ := hst
  obtain ⟨w2, u2, rfl, hw2, hu2⟩ := hu
  obtain rfl : w = .long y := hw
  obtain rfl : w2 = .long x := hw2
  exact lv_lsub hx hb hd  (k p l e s m args below meth c E A Qf w0 hC hret H locs ws ls l0 _ hW hS hle hl hlr ⟨_, _, rfl, rfl, hu2⟩)
theorem rr_lmul {x : Int64} {y : Int64} (hd : decode cc pc = .ok (.lmul, 1))  (k : rr_A own cc nL rt kd R Q kc ks (pc + 1) lv (.long (x * y) :: st) h) : rr_A own cc nL rt kd R Q kc ks pc lv (.long y :: .long x :: st) h := by
  intro p l e s m args below meth c E A Qf w0 hC hret H locs ws ls l0 st' hW hS hle hl hlr hst
  obtain ⟨hx, hb, hr, hml, hown, hts, hlk, hin, hSt, hA⟩ := id hC
  obtain ⟨w, u, rfl, hw, hu⟩ := hst
  obtain ⟨w2, u2, rfl, hw2, hu2⟩ := hu
  obtain rfl : w = .long y := hw
  obtain rfl : w2 = .long x := hw2
  exact lv_lmul hx hb hd  (k p l e s m args below meth c E A Qf w0 hC hret H locs ws ls l0 _ hW hS hle hl hlr ⟨_, _, rfl, rfl, hu2⟩)
theorem rr_idiv {x : Int32} {y : Int32} (hd : decode cc pc = .ok (.idiv, 1)) (hne : ¬ y = 0) (k : rr_A own cc nL rt kd R Q kc ks (pc + 1) lv (.int (x / y) :: st) h) : rr_A own cc nL rt kd R Q kc ks pc lv (.int y :: .int x :: st) h := by
  intro p l e s m args below meth c E A Qf w0 hC hret H locs ws ls l0 st' hW hS hle hl hlr hst
  obtain ⟨hx, hb, hr, hml, hown, hts, hlk, hin, hSt, hA⟩ := id hC
  obtain ⟨w, u, rfl, hw, hu⟩ := hst
  obtain ⟨w2, u2, rfl, hw2, hu2⟩ := hu
  obtain rfl : w = .int y := hw
  obtain rfl : w2 = .int x := hw2
  exact lv_idiv hx hb hd hne (k p l e s m args below meth c E A Qf w0 hC hret H locs ws ls l0 _ hW hS hle hl hlr ⟨_, _, rfl, rfl, hu2⟩)
theorem rr_irem {x : Int32} {y : Int32} (hd : decode cc pc = .ok (.irem, 1)) (hne : ¬ y = 0) (k : rr_A own cc nL rt kd R Q kc ks (pc + 1) lv (.int (x - x / y * y) :: st) h) : rr_A own cc nL rt kd R Q kc ks pc lv (.int y :: .int x :: st) h := by
  intro p l e s m args below meth c E A Qf w0 hC hret H locs ws ls l0 st' hW hS hle hl hlr hst
  obtain ⟨hx, hb, hr, hml, hown, hts, hlk, hin, hSt, hA⟩ := id hC
  obtain ⟨w, u, rfl, hw, hu⟩ := hst
  obtain ⟨w2, u2, rfl, hw2, hu2⟩ := hu
  obtain rfl : w = .int y := hw
  obtain rfl : w2 = .int x := hw2
  exact lv_irem hx hb hd hne (k p l e s m args below meth c E A Qf w0 hC hret H locs ws ls l0 _ hW hS hle hl hlr ⟨_, _, rfl, rfl, hu2⟩)
theorem rr_i2l {x : Int32} (hd : decode cc pc = .ok (.i2l, 1)) (k : rr_A own cc nL rt kd R Q kc ks (pc + 1) lv (.long (x.toInt64) :: st) h) : rr_A own cc nL rt kd R Q kc ks pc lv (.int x :: st) h := by
  intro p l e s m args below meth c E A Qf w0 hC hret H locs ws ls l0 st' hW hS hle hl hlr hst
  obtain ⟨hx, hb, hr, hml, hown, hts, hlk, hin, hSt, hA⟩ := id hC
  obtain ⟨w, u, rfl, hw, hu⟩ := hst
  obtain rfl : w = .int x := hw
  exact lv_i2l hx hb hd rfl (k p l e s m args below meth c E A Qf w0 hC hret H locs ws ls l0 _ hW hS hle hl hlr ⟨_, _, rfl, rfl, hu⟩)
theorem rr_l2i {x : Int64} (hd : decode cc pc = .ok (.l2i, 1)) (k : rr_A own cc nL rt kd R Q kc ks (pc + 1) lv (.int (x.toInt32) :: st) h) : rr_A own cc nL rt kd R Q kc ks pc lv (.long x :: st) h := by
  intro p l e s m args below meth c E A Qf w0 hC hret H locs ws ls l0 st' hW hS hle hl hlr hst
  obtain ⟨hx, hb, hr, hml, hown, hts, hlk, hin, hSt, hA⟩ := id hC
  obtain ⟨w, u, rfl, hw, hu⟩ := hst
  obtain rfl : w = .long x := hw
  exact lv_l2i hx hb hd rfl (k p l e s m args below meth c E A Qf w0 hC hret H locs ws ls l0 _ hW hS hle hl hlr ⟨_, _, rfl, rfl, hu⟩)
theorem rr_i2b {x : Int32} (hd : decode cc pc = .ok (.i2b, 1)) (k : rr_A own cc nL rt kd R Q kc ks (pc + 1) lv (.int (x.toInt8.toInt32) :: st) h) : rr_A own cc nL rt kd R Q kc ks pc lv (.int x :: st) h := by
  intro p l e s m args below meth c E A Qf w0 hC hret H locs ws ls l0 st' hW hS hle hl hlr hst
  obtain ⟨hx, hb, hr, hml, hown, hts, hlk, hin, hSt, hA⟩ := id hC
  obtain ⟨w, u, rfl, hw, hu⟩ := hst
  obtain rfl : w = .int x := hw
  exact lv_i2b hx hb hd rfl (k p l e s m args below meth c E A Qf w0 hC hret H locs ws ls l0 _ hW hS hle hl hlr ⟨_, _, rfl, rfl, hu⟩)
theorem rr_i2c {x : Int32} (hd : decode cc pc = .ok (.i2c, 1)) (k : rr_A own cc nL rt kd R Q kc ks (pc + 1) lv (.int ((x.toUInt32 % 65536).toInt32) :: st) h) : rr_A own cc nL rt kd R Q kc ks pc lv (.int x :: st) h := by
  intro p l e s m args below meth c E A Qf w0 hC hret H locs ws ls l0 st' hW hS hle hl hlr hst
  obtain ⟨hx, hb, hr, hml, hown, hts, hlk, hin, hSt, hA⟩ := id hC
  obtain ⟨w, u, rfl, hw, hu⟩ := hst
  obtain rfl : w = .int x := hw
  exact lv_i2c hx hb hd rfl (k p l e s m args below meth c E A Qf w0 hC hret H locs ws ls l0 _ hW hS hle hl hlr ⟨_, _, rfl, rfl, hu⟩)
theorem rr_dup {v : Value} (hd : decode cc pc = .ok (.dup, 1)) (hc : v.category = 1) (k : rr_A own cc nL rt kd R Q kc ks (pc + 1) lv (v :: v :: st) h) : rr_A own cc nL rt kd R Q kc ks pc lv (v :: st) h := by
  intro p l e s m args below meth c E A Qf w0 hC hret H locs ws ls l0 st' hW hS hle hl hlr hst
  obtain ⟨hx, hb, hr, hml, hown, hts, hlk, hin, hSt, hA⟩ := id hC
  obtain ⟨w, u, rfl, hw, hu⟩ := hst
  exact lv_dup hx hb hd (hw.cat.trans hc) (k p l e s m args below meth c E A Qf w0 hC hret H locs ws ls l0 _ hW hS hle hl hlr ⟨_, _, rfl, hw, _, _, rfl, hw, hu⟩)
theorem rr_pop {v : Value} (hd : decode cc pc = .ok (.pop, 1)) (hc : v.category = 1) (k : rr_A own cc nL rt kd R Q kc ks (pc + 1) lv st h) : rr_A own cc nL rt kd R Q kc ks pc lv (v :: st) h := by
  intro p l e s m args below meth c E A Qf w0 hC hret H locs ws ls l0 st' hW hS hle hl hlr hst
  obtain ⟨hx, hb, hr, hml, hown, hts, hlk, hin, hSt, hA⟩ := id hC
  obtain ⟨w, u, rfl, hw, hu⟩ := hst
  exact lv_pop hx hb hd (hw.cat.trans hc) (k p l e s m args below meth c E A Qf w0 hC hret H locs ws ls l0 _ hW hS hle hl hlr hu)
theorem rr_dup_x1 {v v2 : Value} (hd : decode cc pc = .ok (.dup_x1, 1)) (hc : v.category = 1) (hc2 : v2.category = 1) (k : rr_A own cc nL rt kd R Q kc ks (pc + 1) lv (v :: v2 :: v :: st) h) : rr_A own cc nL rt kd R Q kc ks pc lv (v :: v2 :: st) h := by
  intro p l e s m args below meth c E A Qf w0 hC hret H locs ws ls l0 st' hW hS hle hl hlr hst
  obtain ⟨hx, hb, hr, hml, hown, hts, hlk, hin, hSt, hA⟩ := id hC
  obtain ⟨w, u, rfl, hw, hu⟩ := hst
  obtain ⟨w2, u2, rfl, hw2, hu2⟩ := hu
  exact lv_dup_x1 hx hb hd (hw.cat.trans hc) (hw2.cat.trans hc2) (k p l e s m args below meth c E A Qf w0 hC hret H locs ws ls l0 _ hW hS hle hl hlr ⟨_, _, rfl, hw, _, _, rfl, hw2, _, _, rfl, hw, hu2⟩)
theorem rr_dup2 {v v2 : Value} (hd : decode cc pc = .ok (.dup2, 1)) (hc : v.category = 1) (hc2 : v2.category = 1) (k : rr_A own cc nL rt kd R Q kc ks (pc + 1) lv (v :: v2 :: v :: v2 :: st) h) : rr_A own cc nL rt kd R Q kc ks pc lv (v :: v2 :: st) h := by
  intro p l e s m args below meth c E A Qf w0 hC hret H locs ws ls l0 st' hW hS hle hl hlr hst
  obtain ⟨hx, hb, hr, hml, hown, hts, hlk, hin, hSt, hA⟩ := id hC
  obtain ⟨w, u, rfl, hw, hu⟩ := hst
  obtain ⟨w2, u2, rfl, hw2, hu2⟩ := hu
  exact lv_dup2_11 hx hb hd (hw.cat.trans hc) (hw2.cat.trans hc2) (k p l e s m args below meth c E A Qf w0 hC hret H locs ws ls l0 _ hW hS hle hl hlr ⟨_, _, rfl, hw, _, _, rfl, hw2, _, _, rfl, hw, _, _, rfl, hw2, hu2⟩)
theorem rr_if_eq {x : Int32} {off : Int} (tgt : Nat) (hd : decode cc pc = .ok (.ifCond .eq off, 3)) (ht : (pc : Int) + off = (tgt : Int)) (kt : x = 0 → rr_A own cc nL rt kd R Q kc ks tgt lv st h) (kf : ¬ x = 0 → rr_A own cc nL rt kd R Q kc ks (pc + 3) lv st h) : rr_A own cc nL rt kd R Q kc ks pc lv (.int x :: st) h := by
  intro p l e s m args below meth c E A Qf w0 hC hret H locs ws ls l0 st' hW hS hle hl hlr hst
  obtain ⟨hx, hb, hr, hml, hown, hts, hlk, hin, hSt, hA⟩ := id hC
  obtain ⟨w, u, rfl, hw, hu⟩ := hst
  obtain rfl : w = .int x := hw
  exact lv_if_eq hx hb hd ht (fun hq => kt hq p l e s m args below meth c E A Qf w0 hC hret H locs ws ls l0 _ hW hS hle hl hlr hu) (fun hq => kf hq p l e s m args below meth c E A Qf w0 hC hret H locs ws ls l0 _ hW hS hle hl hlr hu)
theorem rr_if_ne {x : Int32} {off : Int} (tgt : Nat) (hd : decode cc pc = .ok (.ifCond .ne off, 3)) (ht : (pc : Int) + off = (tgt : Int)) (kt : ¬ x = 0 → rr_A own cc nL rt kd R Q kc ks tgt lv st h) (kf : x = 0 → rr_A own cc nL rt kd R Q kc ks (pc + 3) lv st h) : rr_A own cc nL rt kd R Q kc ks pc lv (.int x :: st) h := by
  intro p l e s m args below meth c E A Qf w0 hC hret H locs ws ls l0 st' hW hS hle hl hlr hst
  obtain ⟨hx, hb, hr, hml, hown, hts, hlk, hin, hSt, hA⟩ := id hC
  obtain ⟨w, u, rfl, hw, hu⟩ := hst
  obtain rfl : w = .int x := hw
  exact lv_if_ne hx hb hd ht (fun hq => kt hq p l e s m args below meth c E A Qf w0 hC hret H locs ws ls l0 _ hW hS hle hl hlr hu) (fun hq => kf hq p l e s m args below meth c E A Qf w0 hC hret H locs ws ls l0 _ hW hS hle hl hlr hu)
theorem rr_if_lt {x : Int32} {off : Int} (tgt : Nat) (hd : decode cc pc = .ok (.ifCond .lt off, 3)) (ht : (pc : Int) + off = (tgt : Int)) (kt : x < 0 → rr_A own cc nL rt kd R Q kc ks tgt lv st h) (kf : ¬ x < 0 → rr_A own cc nL rt kd R Q kc ks (pc + 3) lv st h) : rr_A own cc nL rt kd R Q kc ks pc lv (.int x :: st) h := by
  intro p l e s m args below meth c E A Qf w0 hC hret H locs ws ls l0 st' hW hS hle hl hlr hst
  obtain ⟨hx, hb, hr, hml, hown, hts, hlk, hin, hSt, hA⟩ := id hC
  obtain ⟨w, u, rfl, hw, hu⟩ := hst
  obtain rfl : w = .int x := hw
  exact lv_if_lt hx hb hd ht (fun hq => kt hq p l e s m args below meth c E A Qf w0 hC hret H locs ws ls l0 _ hW hS hle hl hlr hu) (fun hq => kf hq p l e s m args below meth c E A Qf w0 hC hret H locs ws ls l0 _ hW hS hle hl hlr hu)
theorem rr_if_ge {x : Int32} {off : Int} (tgt : Nat) (hd : decode cc pc = .ok (.ifCond .ge off, 3)) (ht : (pc : Int) + off = (tgt : Int)) (kt : 0 ≤ x → rr_A own cc nL rt kd R Q kc ks tgt lv st h) (kf : ¬ 0 ≤ x → rr_A own cc nL rt kd R Q kc ks (pc + 3) lv st h) : rr_A own cc nL rt kd R Q kc ks pc lv (.int x :: st) h := by
  intro p l e s m args below meth c E A Qf w0 hC hret H locs ws ls l0 st' hW hS hle hl hlr hst
  obtain ⟨hx, hb, hr, hml, hown, hts, hlk, hin, hSt, hA⟩ := id hC
  obtain ⟨w, u, rfl, hw, hu⟩ := hst
  obtain rfl : w = .int x := hw
  exact lv_if_ge hx hb hd ht (fun hq => kt hq p l e s m args below meth c E A Qf w0 hC hret H locs ws ls l0 _ hW hS hle hl hlr hu) (fun hq => kf hq p l e s m args below meth c E A Qf w0 hC hret H locs ws ls l0 _ hW hS hle hl hlr hu)
theorem rr_if_gt {x : Int32} {off : Int} (tgt : Nat) (hd : decode cc pc = .ok (.ifCond .gt off, 3)) (ht : (pc : Int) + off = (tgt : Int)) (kt : 0 < x → rr_A own cc nL rt kd R Q kc ks tgt lv st h) (kf : ¬ 0 < x → rr_A own cc nL rt kd R Q kc ks (pc + 3) lv st h) : rr_A own cc nL rt kd R Q kc ks pc lv (.int x :: st) h := by
  intro p l e s m args below meth c E A Qf w0 hC hret H locs ws ls l0 st' hW hS hle hl hlr hst
  obtain ⟨hx, hb, hr, hml, hown, hts, hlk, hin, hSt, hA⟩ := id hC
  obtain ⟨w, u, rfl, hw, hu⟩ := hst
  obtain rfl : w = .int x := hw
  exact lv_if_gt hx hb hd ht (fun hq => kt hq p l e s m args below meth c E A Qf w0 hC hret H locs ws ls l0 _ hW hS hle hl hlr hu) (fun hq => kf hq p l e s m args below meth c E A Qf w0 hC hret H locs ws ls l0 _ hW hS hle hl hlr hu)
theorem rr_if_le {x : Int32} {off : Int} (tgt : Nat) (hd : decode cc pc = .ok (.ifCond .le off, 3)) (ht : (pc : Int) + off = (tgt : Int)) (kt : x ≤ 0 → rr_A own cc nL rt kd R Q kc ks tgt lv st h) (kf : ¬ x ≤ 0 → rr_A own cc nL rt kd R Q kc ks (pc + 3) lv st h) : rr_A own cc nL rt kd R Q kc ks pc lv (.int x :: st) h := by
  intro p l e s m args below meth c E A Qf w0 hC hret H locs ws ls l0 st' hW hS hle hl hlr hst
  obtain ⟨hx, hb, hr, hml, hown, hts, hlk, hin, hSt, hA⟩ := id hC
  obtain ⟨w, u, rfl, hw, hu⟩ := hst
  obtain rfl : w = .int x := hw
  exact lv_if_le hx hb hd ht (fun hq => kt hq p l e s m args below meth c E A Qf w0 hC hret H locs ws ls l0 _ hW hS hle hl hlr hu) (fun hq => kf hq p l e s m args below meth c E A Qf w0 hC hret H locs ws ls l0 _ hW hS hle hl hlr hu)
theorem rr_icmp_eq {x y : Int32} {off : Int} (tgt : Nat) (hd : decode cc pc = .ok (.if_icmp .eq off, 3)) (ht : (pc : Int) + off = (tgt : Int)) (kt : x = y → rr_A own cc nL rt kd R Q kc ks tgt lv st h) (kf : ¬ x = y → rr_A own cc nL rt kd R Q kc ks (pc + 3) lv st h) : rr_A own cc nL rt kd R Q kc ks pc lv (.int y :: .int x :: st) h := by
  intro p l e s m args below meth c E A Qf w0 hC hret H locs ws ls l0 st' hW hS hle hl hlr hst
  obtain ⟨hx, hb, hr, hml, hown, hts, hlk, hin, hSt, hA⟩ := id hC
  obtain ⟨w, u, rfl, hw, hu⟩ := hst
  obtain ⟨w2, u2, rfl, hw2, hu2⟩ := hu
  obtain rfl : w = .int y := hw
  obtain rfl : w2 = .int x := hw2
  exact lv_icmp_eq hx hb hd ht (fun hq => kt hq p l e s m args below meth c E A Qf w0 hC hret H locs ws ls l0 _ hW hS hle hl hlr hu2) (fun hq => kf hq p l e s m args below meth c E A Qf w0 hC hret H locs ws ls l0 _ hW hS hle hl hlr hu2)
theorem rr_icmp_ne {x y : Int32} {off : Int} (tgt : Nat) (hd : decode cc pc = .ok (.if_icmp .ne off, 3)) (ht : (pc : Int) + off = (tgt : Int)) (kt : ¬ x = y → rr_A own cc nL rt kd R Q kc ks tgt lv st h) (kf : x = y → rr_A own cc nL rt kd R Q kc ks (pc + 3) lv st h) : rr_A own cc nL rt kd R Q kc ks pc lv (.int y :: .int x :: st) h := by
  intro p l e s m args below meth c E A Qf w0 hC hret H locs ws ls l0 st' hW hS hle hl hlr hst
  obtain ⟨hx, hb, hr, hml, hown, hts, hlk, hin, hSt, hA⟩ := id hC
  obtain ⟨w, u, rfl, hw, hu⟩ := hst
  obtain ⟨w2, u2, rfl, hw2, hu2⟩ := hu
  obtain rfl : w = .int y := hw
  obtain rfl : w2 = .int x := hw2
  exact lv_icmp_ne hx hb hd ht (fun hq => kt hq p l e s m args below meth c E A Qf w0 hC hret H locs ws ls l0 _ hW hS hle hl hlr hu2) (fun hq => kf hq p l e s m args below meth c E A Qf w0 hC hret H locs ws ls l0 _ hW hS hle hl hlr hu2)
theorem rr_icmp_lt {x y : Int32} {off : Int} (tgt : Nat) (hd : decode cc pc = .ok (.if_icmp .lt off, 3)) (ht : (pc : Int) + off = (tgt : Int)) (kt : x < y → rr_A own cc nL rt kd R Q kc ks tgt lv st h) (kf : ¬ x < y → rr_A own cc nL rt kd R Q kc ks (pc + 3) lv st h) : rr_A own cc nL rt kd R Q kc ks pc lv (.int y :: .int x :: st) h := by
  intro p l e s m args below meth c E A Qf w0 hC hret H locs ws ls l0 st' hW hS hle hl hlr hst
  obtain ⟨hx, hb, hr, hml, hown, hts, hlk, hin, hSt, hA⟩ := id hC
  obtain ⟨w, u, rfl, hw, hu⟩ := hst
  obtain ⟨w2, u2, rfl, hw2, hu2⟩ := hu
  obtain rfl : w = .int y := hw
  obtain rfl : w2 = .int x := hw2
  exact lv_icmp_lt hx hb hd ht (fun hq => kt hq p l e s m args below meth c E A Qf w0 hC hret H locs ws ls l0 _ hW hS hle hl hlr hu2) (fun hq => kf hq p l e s m args below meth c E A Qf w0 hC hret H locs ws ls l0 _ hW hS hle hl hlr hu2)
theorem rr_icmp_ge {x y : Int32} {off : Int} (tgt : Nat) (hd : decode cc pc = .ok (.if_icmp .ge off, 3)) (ht : (pc : Int) + off = (tgt : Int)) (kt : y ≤ x → rr_A own cc nL rt kd R Q kc ks tgt lv st h) (kf : ¬ y ≤ x → rr_A own cc nL rt kd R Q kc ks (pc + 3) lv st h) : rr_A own cc nL rt kd R Q kc ks pc lv (.int y :: .int x :: st) h := by
  intro p l e s m args below meth c E A Qf w0 hC hret H locs ws ls l0 st' hW hS hle hl hlr hst
  obtain ⟨hx, hb, hr, hml, hown, hts, hlk, hin, hSt, hA⟩ := id hC
  obtain ⟨w, u, rfl, hw, hu⟩ := hst
  obtain ⟨w2, u2, rfl, hw2, hu2⟩ := hu
  obtain rfl : w = .int y := hw
  obtain rfl : w2 = .int x := hw2
  exact lv_icmp_ge hx hb hd ht (fun hq => kt hq p l e s m args below meth c E A Qf w0 hC hret H locs ws ls l0 _ hW hS hle hl hlr hu2) (fun hq => kf hq p l e s m args below meth c E A Qf w0 hC hret H locs ws ls l0 _ hW hS hle hl hlr hu2)
theorem rr_icmp_gt {x y : Int32} {off : Int} (tgt : Nat) (hd : decode cc pc = .ok (.if_icmp .gt off, 3)) (ht : (pc : Int) + off = (tgt : Int)) (kt : y < x → rr_A own cc nL rt kd R Q kc ks tgt lv st h) (kf : ¬ y < x → rr_A own cc nL rt kd R Q kc ks (pc + 3) lv st h) : rr_A own cc nL rt kd R Q kc ks pc lv (.int y :: .int x :: st) h := by
  intro p l e s m args below meth c E A Qf w0 hC hret H locs ws ls l0 st' hW hS hle hl hlr hst
  obtain ⟨hx, hb, hr, hml, hown, hts, hlk, hin, hSt, hA⟩ := id hC
  obtain ⟨w, u, rfl, hw, hu⟩ := hst
  obtain ⟨w2, u2, rfl, hw2, hu2⟩ := hu
  obtain rfl : w = .int y := hw
  obtain rfl : w2 = .int x := hw2
  exact lv_icmp_gt hx hb hd ht (fun hq => kt hq p l e s m args below meth c E A Qf w0 hC hret H locs ws ls l0 _ hW hS hle hl hlr hu2) (fun hq => kf hq p l e s m args below meth c E A Qf w0 hC hret H locs ws ls l0 _ hW hS hle hl hlr hu2)
theorem rr_icmp_le {x y : Int32} {off : Int} (tgt : Nat) (hd : decode cc pc = .ok (.if_icmp .le off, 3)) (ht : (pc : Int) + off = (tgt : Int)) (kt : x ≤ y → rr_A own cc nL rt kd R Q kc ks tgt lv st h) (kf : ¬ x ≤ y → rr_A own cc nL rt kd R Q kc ks (pc + 3) lv st h) : rr_A own cc nL rt kd R Q kc ks pc lv (.int y :: .int x :: st) h := by
  intro p l e s m args below meth c E A Qf w0 hC hret H locs ws ls l0 st' hW hS hle hl hlr hst
  obtain ⟨hx, hb, hr, hml, hown, hts, hlk, hin, hSt, hA⟩ := id hC
  obtain ⟨w, u, rfl, hw, hu⟩ := hst
  obtain ⟨w2, u2, rfl, hw2, hu2⟩ := hu
  obtain rfl : w = .int y := hw
  obtain rfl : w2 = .int x := hw2
  exact lv_icmp_le hx hb hd ht (fun hq => kt hq p l e s m args below meth c E A Qf w0 hC hret H locs ws ls l0 _ hW hS hle hl hlr hu2) (fun hq => kf hq p l e s m args below meth c E A Qf w0 hC hret H locs ws ls l0 _ hW hS hle hl hlr hu2)
theorem rr_goto {off : Int} (tgt : Nat) (hd : decode cc pc = .ok (.goto off, 3)) (ht : (pc : Int) + off = (tgt : Int)) (k : rr_A own cc nL rt kd R Q kc ks tgt lv st h) : rr_A own cc nL rt kd R Q kc ks pc lv st h := by
  intro p l e s m args below meth c E A Qf w0 hC hret H locs ws ls l0 st' hW hS hle hl hlr hst
  obtain ⟨hx, hb, hr, hml, hown, hts, hlk, hin, hSt, hA⟩ := id hC
  exact lv_goto hx hb hd ht (k p l e s m args below meth c E A Qf w0 hC hret H locs ws ls l0 _ hW hS hle hl hlr hst)
theorem rr_nonnull {x : Nat} {off : Int} (tgt : Nat) (hd : decode cc pc = .ok (.ifnonnull off, 3)) (ht : (pc : Int) + off = (tgt : Int)) (k : rr_A own cc nL rt kd R Q kc ks tgt lv st h) : rr_A own cc nL rt kd R Q kc ks pc lv (.ref x :: st) h := by
  intro p l e s m args below meth c E A Qf w0 hC hret H locs ws ls l0 st' hW hS hle hl hlr hst
  obtain ⟨hx, hb, hr, hml, hown, hts, hlk, hin, hSt, hA⟩ := id hC
  obtain ⟨w, u, rfl, hw, hu⟩ := hst
  obtain ⟨a, rfl⟩ := rr_refv hw
  exact lv_ifnonnull hx hb hd ht (k p l e s m args below meth c E A Qf w0 hC hret H locs ws ls l0 _ hW hS hle hl hlr hu)
theorem rr_nonnullN {off : Int} (hd : decode cc pc = .ok (.ifnonnull off, 3)) (k : rr_A own cc nL rt kd R Q kc ks (pc + 3) lv st h) : rr_A own cc nL rt kd R Q kc ks pc lv (.null :: st) h := by
  intro p l e s m args below meth c E A Qf w0 hC hret H locs ws ls l0 st' hW hS hle hl hlr hst
  obtain ⟨hx, hb, hr, hml, hown, hts, hlk, hin, hSt, hA⟩ := id hC
  obtain ⟨w, u, rfl, hw, hu⟩ := hst
  obtain rfl : w = .null := hw
  exact lv_ifnonnullN hx hb hd (k p l e s m args below meth c E A Qf w0 hC hret H locs ws ls l0 _ hW hS hle hl hlr hu)
theorem rr_lcmp {x y : Int64} (hd : decode cc pc = .ok (.lcmp, 1)) (k : rr_A own cc nL rt kd R Q kc ks (pc + 1) lv (.int (lg_cmp x y) :: st) h) : rr_A own cc nL rt kd R Q kc ks pc lv (.long y :: .long x :: st) h := by
  intro p l e s m args below meth c E A Qf w0 hC hret H locs ws ls l0 st' hW hS hle hl hlr hst
  obtain ⟨hx, hb, hr, hml, hown, hts, hlk, hin, hSt, hA⟩ := id hC
  obtain ⟨w, u, rfl, hw, hu⟩ := hst
  obtain ⟨w2, u2, rfl, hw2, hu2⟩ := hu
  obtain rfl : w = .long y := hw
  obtain rfl : w2 = .long x := hw2
  exact W.lcmp hx hb hd (k p l e s m args below meth c E A Qf w0 hC hret H locs ws ls l0 _ hW hS hle hl hlr ⟨_, _, rfl, rfl, hu2⟩)
theorem rr_iinc {i : Nat} {n : Int} {x : Int32} (v : Int32) (hd : decode cc pc = .ok (.iinc i n, 3)) (hv : Int32.ofInt n = v) (hg : rr_get lv i = some (.int x)) (hn : i < nL) (k : rr_A own cc nL rt kd R Q kc ks (pc + 3) (rr_put lv i (.int (x + v))) st h) : rr_A own cc nL rt kd R Q kc ks pc lv st h := by
  intro p l e s m args below meth c E A Qf w0 hC hret H locs ws ls l0 st' hW hS hle hl hlr hst
  obtain ⟨hx, hb, hr, hml, hown, hts, hlk, hin, hSt, hA⟩ := id hC
  obtain ⟨w, h1, h2⟩ := rr_get_at hl hlr hg
  obtain rfl : w = .int x := h2
  have hl2 : lv_has ls nL ((i, .int x) :: l0) := ⟨hl.1, hl.2.1, fun q hq => by
    rcases List.mem_cons.mp hq with rfl | hq
    · exact h1
    · exact hl.2.2 q hq⟩
  subst hv
  refine lv_iinc hx hb hd hl2 (k := 0) rfl rfl hn rfl (fun ls' hl' => ?_)
  rw [List.filter_cons_of_neg (by simp)] at hl'
  exact k p l e s m args below meth c E A Qf w0 hC hret H locs ws ls' _ _ hW hS hle hl' ⟨_, _, rfl, rfl, rr_ls.fil (rr_p1 i) hlr⟩ hst
theorem rr_tin {x : Int32} {dflt lo hi : Int} {offs : Array Int} {len : Nat} (tgt : Nat) (off : Int) (hd : decode cc pc = .ok (.tableswitch dflt lo hi offs, len)) (h1 : ¬ x.toInt < lo) (h2 : ¬ hi < x.toInt) (ho : offs[(x.toInt - lo).toNat]? = some off) (ht : (pc : Int) + off = (tgt : Int)) (k : rr_A own cc nL rt kd R Q kc ks tgt lv st h) : rr_A own cc nL rt kd R Q kc ks pc lv (.int x :: st) h := by
  intro p l e s m args below meth c E A Qf w0 hC hret H locs ws ls l0 st' hW hS hle hl hlr hst
  obtain ⟨hx, hb, hr, hml, hown, hts, hlk, hin, hSt, hA⟩ := id hC
  obtain ⟨w, u, rfl, hw, hu⟩ := hst
  obtain rfl : w = .int x := hw
  exact lv_tableIn hx hb hd h1 h2 ho ht (k p l e s m args below meth c E A Qf w0 hC hret H locs ws ls l0 _ hW hS hle hl hlr hu)
theorem rr_tout {x : Int32} {dflt lo hi : Int} {offs : Array Int} {len : Nat} (tgt : Nat) (hd : decode cc pc = .ok (.tableswitch dflt lo hi offs, len)) (h1 : x.toInt < lo ∨ hi < x.toInt) (ht : (pc : Int) + dflt = (tgt : Int)) (k : rr_A own cc nL rt kd R Q kc ks tgt lv st h) : rr_A own cc nL rt kd R Q kc ks pc lv (.int x :: st) h := by
  intro p l e s m args below meth c E A Qf w0 hC hret H locs ws ls l0 st' hW hS hle hl hlr hst
  obtain ⟨hx, hb, hr, hml, hown, hts, hlk, hin, hSt, hA⟩ := id hC
  obtain ⟨w, u, rfl, hw, hu⟩ := hst
  obtain rfl : w = .int x := hw
  exact lv_tableOut hx hb hd h1 ht (k p l e s m args below meth c E A Qf w0 hC hret H locs ws ls l0 _ hW hS hle hl hlr hu)
theorem rr_lsw {x : Int32} {dflt : Int} {ps : Array (Int × Int)} {len : Nat} (tgt : Nat) (off : Int) (hd : decode cc pc = .ok (.lookupswitch dflt ps, len)) (hp : (ps.toList.zip (ps.toList.drop 1)).all (fun (a, next) => a.1 < next.1) = true) (ho : Op.lookupswitch.offset ps.toList dflt x.toInt = off) (ht : (pc : Int) + off = (tgt : Int)) (k : rr_A own cc nL rt kd R Q kc ks tgt lv st h) : rr_A own cc nL rt kd R Q kc ks pc lv (.int x :: st) h := by
  intro p l e s m args below meth c E A Qf w0 hC hret H locs ws ls l0 st' hW hS hle hl hlr hst
  obtain ⟨hx, hb, hr, hml, hown, hts, hlk, hin, hSt, hA⟩ := id hC
  obtain ⟨w, u, rfl, hw, hu⟩ := hst
  obtain rfl : w = .int x := hw
  exact lv_lookup hx hb hd hp ho ht (k p l e s m args below meth c E A Qf w0 hC hret H locs ws ls l0 _ hW hS hle hl hlr hu)
-- returns
theorem rr_ireturn {x : Int32} {ty : FieldType} (hd : decode cc pc = .ok (.ireturn, 1)) (hty : rt = some ty) (hn : narrow ty (.int x) = .int x) (hc : kc ≤ R.cells) (hs : ks ≤ R.slots) (hq : Q (some (.int x)) h) : rr_A own cc nL rt kd R Q kc ks pc lv [.int x] h := by
  intro p l e s m args below meth c E A Qf w0 hC hret H locs ws ls l0 st' hW hS hle hl hlr hst
  obtain ⟨hx, hb, hr, hml, hown, hts, hlk, hin, hSt, hA⟩ := id hC
  obtain ⟨w, u, rfl, hw, hu⟩ := hst
  obtain rfl : w = .int x := hw
  obtain rfl : u = [] := hu
  exact W.widen hc hs (hret (some (.int x)) (some (.int x)) h ws H locs pc ls ⟨hd, ty, hty, hn⟩ hq ⟨_, rfl, rfl⟩ hW hS hle)
theorem rr_lreturn {x : Int64} (hd : decode cc pc = .ok (.lreturn, 1)) (hty : rt = some .long) (hc : kc ≤ R.cells) (hs : ks ≤ R.slots) (hq : Q (some (.long x)) h) : rr_A own cc nL rt kd R Q kc ks pc lv [.long x] h := by
  intro p l e s m args below meth c E A Qf w0 hC hret H locs ws ls l0 st' hW hS hle hl hlr hst
  obtain ⟨hx, hb, hr, hml, hown, hts, hlk, hin, hSt, hA⟩ := id hC
  obtain ⟨w, u, rfl, hw, hu⟩ := hst
  obtain rfl : w = .long x := hw
  obtain rfl : u = [] := hu
  exact W.widen hc hs (hret (some (.long x)) (some (.long x)) h ws H locs pc ls ⟨hty, hd⟩ hq ⟨_, rfl, rfl⟩ hW hS hle)
theorem rr_areturn {x : Nat} {ty : FieldType} (hd : decode cc pc = .ok (.areturn, 1)) (hty : rt = some ty) (hn : (∃ n, ty = .object n) ∨ ∃ t, ty = .array t) (hc : kc ≤ R.cells) (hs : ks ≤ R.slots) (hq : Q (some (.ref x)) h) : rr_A own cc nL rt kd R Q kc ks pc lv [.ref x] h := by
  intro p l e s m args below meth c E A Qf w0 hC hret H locs ws ls l0 st' hW hS hle hl hlr hst
  obtain ⟨hx, hb, hr, hml, hown, hts, hlk, hin, hSt, hA⟩ := id hC
  obtain ⟨w, u, rfl, hw, hu⟩ := hst
  obtain ⟨a, rfl⟩ := rr_refv hw
  obtain rfl : u = [] := hu
  exact W.widen hc hs (hret (some (.ref x)) (some (.ref a)) h ws H locs pc ls ⟨hd, ty, hty, hn⟩ hq ⟨_, rfl, hw⟩ hW hS hle)
theorem rr_return (hd : decode cc pc = .ok (.return_, 1)) (hty : rt = none) (hc : kc ≤ R.cells) (hs : ks ≤ R.slots) (hq : Q none h) : rr_A own cc nL rt kd R Q kc ks pc lv [] h := by
  intro p l e s m args below meth c E A Qf w0 hC hret H locs ws ls l0 st' hW hS hle hl hlr hst
  obtain ⟨hx, hb, hr, hml, hown, hts, hlk, hin, hSt, hA⟩ := id hC
  obtain rfl : st' = [] := hst
  exact W.widen hc hs (hret none none h ws H locs pc ls ⟨hty, hd⟩ hq rfl hW hS hle)
-- fields
theorem rr_clok : ∀ (ci : Nat) (C : String) (T : u_T) (N : Nat), rr_cl[ci]? = some (C, T, N) → (∀ w ∈ u_ws C T N, w ∈ rr_ws) ∧ (∀ k, k < N → parseFieldDescriptor (T k).2.2.1 = some (rr_ty ci k)) ∧ (∀ a, a < N → ∀ b, b < N → a ≠ b → (T a).2.1 ≠ (T b).2.1) := by
  intro ci C T N hc
  match ci, hc with
  | 0, hc => cases hc; exact ⟨wi_Co, ty_Co, nm_Co⟩
  | 1, hc => cases hc; exact ⟨wi_Ma, ty_Ma, nm_Ma⟩
  | 2, hc => cases hc; exact ⟨wi_Re, ty_Re, nm_Re⟩
  | 3, hc => cases hc; exact ⟨wi_Ta, ty_Ta, nm_Ta⟩
  | 4, hc => cases hc; exact ⟨wi_To, ty_To, nm_To⟩
  | 5, hc => cases hc; exact ⟨wi_Ru, ty_Ru, nm_Ru⟩
  | 6, hc => cases hc; exact ⟨wi_Mo, ty_Mo, nm_Mo⟩
  | ci + 7, hc => simp [rr_cl] at hc
theorem rr_at {E : rr_E} {A : Nat → Prop} {ws : va_W} {H : Heap} {a : Nat} {w : Value} {x : va_E} (hW : rr_Wd E A h ws H) (hv : rr_v E ws (.ref a) w) (ha : h[a]? = some x) (hk : Nat.ble rr_K0 a = false) : ∃ (b : Nat) (y : va_E), w = .ref b ∧ ws[a]? = some (b, y) ∧ rr_e E ws x y := by
  obtain ⟨b, y, g1, g2⟩ := hW.1.2 a x ha
  have hlt : a < rr_K0 := by
    rcases Nat.lt_or_ge a rr_K0 with q | q
    · exact q
    · rw [Nat.ble_eq_true_of_le q] at hk; cases hk
  unfold rr_v at hv
  dsimp only at hv
  rw [if_pos hlt] at hv
  obtain ⟨b', e', g3, g4⟩ := hv
  rw [g1] at g3
  cases g3
  exact ⟨b, y, g4, g1, g2⟩
theorem rr_getf {a idx ci kf : Nat} {fs : List Value} {v : Value} (hd : decode cc pc = .ok (.getfield idx, 3)) (hL : rr_FL own idx ci kf) (ha : h[a]? = some (.inr (ci, fs))) (hv : fs[kf]? = some v) (k : rr_A own cc nL rt kd R Q kc ks (pc + 3) lv (v :: st) h) (hk : Nat.ble rr_K0 a = false := by rfl) : rr_A own cc nL rt kd R Q kc ks pc lv (.ref a :: st) h := by
  intro p l e s m args below meth c E A Qf w0 hC hret H locs ws ls l0 st' hW hS hle hl hlr hst
  obtain ⟨hx, hb, hr, hml, hown, hts, hlk, hin, hSt, hA⟩ := id hC
  obtain ⟨w, u, rfl, hw, hu⟩ := hst
  obtain ⟨b, y, rfl, g1, fs', rfl, g3⟩ := rr_at hW hw ha hk
  obtain ⟨w', q1, q2⟩ := g3.get hv
  obtain ⟨C, T, N, hcl, hkN, hln⟩ := hL
  obtain ⟨c1, c2, c3⟩ := rr_clok ci C T N hcl
  have nx := k p l e s m args below meth c E A Qf w0 hC hret H locs ws ls l0 _ hW hS hle hl hlr ⟨_, _, rfl, q2, hu⟩
  rcases hln with hln | ⟨host, hln⟩
  · exact va_get (D := E.1) hx hb hts c1 hown hSt.1 hW.2.1 a g1 hcl kf hkN (hts _ hln) (fun _ h9 => h9) q1 hd nx
  · exact va_getN (D := E.1) hx hb hts c1 hown hSt.1 hW.2.1 a g1 hcl kf hkN (va_Nw.use rfl (hSt.2.1 _ hln)) (fun _ h9 => h9) q1 hd nx
/-- a value of a field's kind -/
def rr_fit : FieldType → Value → Bool
  | .int, .int _ => true
  | .long, .long _ => true
  | .object _, .ref _ => true
  | .array _, .ref _ => true
  | _, _ => false
theorem rr_fit_ok {E : rr_E} {ws : va_W} {ty : FieldType} {v w : Value} (h : rr_fit ty v = true) (hv : rr_v E ws v w) : narrow ty w = w ∧ fits ty w = true := by
  cases v with
  | ref i =>
    obtain ⟨a, rfl⟩ := rr_refv hv
    cases ty <;> first | exact ⟨rfl, rfl⟩ | cases h
  | int x =>
    obtain rfl : w = .int x := hv
    cases ty <;> first | exact ⟨rfl, rfl⟩ | cases h
  | long x =>
    obtain rfl : w = .long x := hv
    cases ty <;> first | exact ⟨rfl, rfl⟩ | cases h
  | _ => cases ty <;> cases h
theorem rr_fin {own : String} {idx ci k : Nat} (hL : rr_FL own idx ci k) : True := trivial
/-- is the field final -/
def rr_final (ci k : Nat) : Bool := match rr_cl[ci]? with
  | some q => (q.2.1 k).2.2.2
  | none => false
theorem rr_putf {a idx ci kf : Nat} {fs : List Value} {v : Value} (hd : decode cc pc = .ok (.putfield idx, 3)) (hL : rr_FL own idx ci kf) (hfn : rr_final ci kf = false) (ha : h[a]? = some (.inr (ci, fs))) (hf : rr_fit (rr_ty ci kf) v = true) (hl2 : Nat.blt kf fs.length = true) (k : rr_A own cc nL rt kd R Q kc ks (pc + 3) lv st (h.set a (.inr (ci, fs.set kf v)))) (hk : Nat.ble rr_K0 a = false := by rfl) : rr_A own cc nL rt kd R Q kc ks pc lv (v :: .ref a :: st) h := by
  intro p l e s m args below meth c E A Qf w0 hC hret H locs ws ls l0 st' hW hS hle hl hlr hst
  obtain ⟨hx, hb, hr, hml, hown, hts, hlk, hin, hSt, hA⟩ := id hC
  obtain ⟨w, u, rfl, hw, hu⟩ := hst
  obtain ⟨w2, u2, rfl, hw2, hu2⟩ := hu
  obtain ⟨b, y, rfl, g1, fs', rfl, g3⟩ := rr_at hW hw2 ha hk
  obtain ⟨C, T, N, hcl, hkN, hln⟩ := hL
  obtain ⟨c1, c2, c3⟩ := rr_clok ci C T N hcl
  obtain ⟨n1, n2⟩ := rr_fit_ok hf hw
  have hfin : (T kf).2.2.2 = false := by unfold rr_final at hfn; rw [hcl] at hfn; exact hfn
  have hlen : kf < fs'.length := by rw [g3.length]; exact Nat.blt_eq.mp hl2
  have nx : ∀ (H1 : Heap) (locs1 : List Loc), va_P E.1 rr_cl (ws.set a (b, .inr (ci, fs'.set kf w))) H1 → va_D A (ws.set a (b, .inr (ci, fs'.set kf w))) → va_S A s.heap H1 locs1 → W p l e R s m args below meth c H1 locs1 kc ks Qf (F0 m (pc + 3) ls u2) := by
    intro H1 locs1 hP1 hD1 hS1
    have hle2 : rr_le ws (ws.set a (b, .inr (ci, fs'.set kf w))) := rr_le.set g1
    exact k p l e s m args below meth c E A Qf w0 hC hret H1 locs1 _ ls l0 _ ⟨hW.1.set g1 ⟨_, rfl, rr_vs.set hw g3 kf⟩, hP1, hD1⟩ hS1 (hle.trans hle2) hl (hlr.mono hle2) (hu2.mono hle2)
  rcases hln with hln | ⟨host, hln⟩
  · exact va_put (D := E.1) hx hb hts c1 (rr_ty ci) c2 c3 hown hSt.1 hW.2.1 hW.2.2 hS a g1 hcl kf hkN (hts _ hln) (fun _ h9 => h9) hfin (c2 kf hkN) n1 n2 hlen hd nx
  · exact va_putN (D := E.1) hx hb hts c1 (rr_ty ci) c2 c3 hown hSt.1 hW.2.1 hW.2.2 hS a g1 hcl kf hkN (va_Nw.use rfl (hSt.2.1 _ hln)) (fun _ h9 => h9) hfin (c2 kf hkN) n1 n2 hlen hd nx
/-- a final field, in a constructor -/
theorem rr_putF {a idx ci kf : Nat} {fs : List Value} {v : Value} (hd : decode cc pc = .ok (.putfield idx, 3)) (hi : kd.1 = true) (hL : ∃ (T : u_T) (N : Nat), rr_cl[ci]? = some (own, T, N) ∧ kf < N ∧ (T kf).1 = own ∧ (T kf).2.2.2 = true ∧ Cond.fieldLink own idx (T kf).1 (T kf).2.1 (T kf).2.2.1 ∈ rr_ws) (ha : h[a]? = some (.inr (ci, fs))) (hf : rr_fit (rr_ty ci kf) v = true) (hl2 : Nat.blt kf fs.length = true) (k : rr_A own cc nL rt kd R Q kc ks (pc + 3) lv st (h.set a (.inr (ci, fs.set kf v)))) (hk : Nat.ble rr_K0 a = false := by rfl) : rr_A own cc nL rt kd R Q kc ks pc lv (v :: .ref a :: st) h := by
  intro p l e s m args below meth c E A Qf w0 hC hret H locs ws ls l0 st' hW hS hle hl hlr hst
  obtain ⟨hx, hb, hr, hml, hown, hts, hlk, hin, hSt, hA⟩ := id hC
  obtain ⟨w, u, rfl, hw, hu⟩ := hst
  obtain ⟨w2, u2, rfl, hw2, hu2⟩ := hu
  obtain ⟨b, y, rfl, g1, fs', rfl, g3⟩ := rr_at hW hw2 ha hk
  obtain ⟨T, N, hcl, hkN, hdec, hfin, hln⟩ := hL
  obtain ⟨c1, c2, c3⟩ := rr_clok ci own T N hcl
  obtain ⟨n1, n2⟩ := rr_fit_ok hf hw
  have hlen : kf < fs'.length := by rw [g3.length]; exact Nat.blt_eq.mp hl2
  refine va_putF (D := E.1) hx hb hts c1 (rr_ty ci) c2 c3 hown hSt.1 hW.2.1 hW.2.2 hS a g1 hcl kf hkN (hts _ hln) (fun _ h9 => h9) hfin (hin hi) hdec (c2 kf hkN) n1 n2 hlen hd ?_
  intro H1 locs1 hP1 hD1 hS1
  have hle2 : rr_le ws (ws.set a (b, .inr (ci, fs'.set kf w))) := rr_le.set g1
  exact k p l e s m args below meth c E A Qf w0 hC hret H1 locs1 _ ls l0 _ ⟨hW.1.set g1 ⟨_, rfl, rr_vs.set hw g3 kf⟩, hP1, hD1⟩ hS1 (hle.trans hle2) hl (hlr.mono hle2) (hu2.mono hle2)
-- arrays
theorem rr_iald {a n : Nat} {f : Nat → Int32} {i : Int32} (hd : decode cc pc = .ok (.iaload, 1)) (ha : h[a]? = some (.inl (0, n, .inl f))) (hin : vp_in i n) (k : rr_A own cc nL rt kd R Q kc ks (pc + 1) lv (.int (f i.toNatClampNeg) :: st) h) (hk : Nat.ble rr_K0 a = false := by rfl) : rr_A own cc nL rt kd R Q kc ks pc lv (.int i :: .ref a :: st) h := by
  intro p l e s m args below meth c E A Qf w0 hC hret H locs ws ls l0 st' hW hS hle hl hlr hst
  obtain ⟨hx, hb, hr, hml, hown, hts, hlk, hin0, hSt, hA⟩ := id hC
  obtain ⟨w, u, rfl, hw, hu⟩ := hst
  obtain ⟨w2, u2, rfl, hw2, hu2⟩ := hu
  obtain rfl : w = .int i := hw
  obtain ⟨b, y, rfl, g1, rfl⟩ := rr_at hW hw2 ha hk
  exact va_iald (D := E.1) hx hb hSt.1 hW.2.1 a 0 g1 rfl hin hd (k p l e s m args below meth c E A Qf w0 hC hret H locs ws ls l0 _ hW hS hle hl hlr ⟨_, _, rfl, rfl, hu2⟩)
theorem rr_bald {a n : Nat} {f : Nat → Int32} {i : Int32} (hd : decode cc pc = .ok (.baload, 1)) (ha : h[a]? = some (.inl (1, n, .inl f))) (hin : vp_in i n) (k : rr_A own cc nL rt kd R Q kc ks (pc + 1) lv (.int (f i.toNatClampNeg) :: st) h) (hk : Nat.ble rr_K0 a = false := by rfl) : rr_A own cc nL rt kd R Q kc ks pc lv (.int i :: .ref a :: st) h := by
  intro p l e s m args below meth c E A Qf w0 hC hret H locs ws ls l0 st' hW hS hle hl hlr hst
  obtain ⟨hx, hb, hr, hml, hown, hts, hlk, hin0, hSt, hA⟩ := id hC
  obtain ⟨w, u, rfl, hw, hu⟩ := hst
  obtain ⟨w2, u2, rfl, hw2, hu2⟩ := hu
  obtain rfl : w = .int i := hw
  obtain ⟨b, y, rfl, g1, rfl⟩ := rr_at hW hw2 ha hk
  exact va_bald (D := E.1) hx hb hSt.1 hW.2.1 a 1 g1 rfl hin hd (k p l e s m args below meth c E A Qf w0 hC hret H locs ws ls l0 _ hW hS hle hl hlr ⟨_, _, rfl, rfl, hu2⟩)
theorem rr_iast {a n : Nat} {f : Nat → Int32} {i x : Int32} (hd : decode cc pc = .ok (.iastore, 1)) (ha : h[a]? = some (.inl (0, n, .inl f))) (hin : vp_in i n) (k : rr_A own cc nL rt kd R Q kc ks (pc + 1) lv st (h.set a (.inl (0, n, .inl (upd f i.toNatClampNeg x))))) (hk : Nat.ble rr_K0 a = false := by rfl) : rr_A own cc nL rt kd R Q kc ks pc lv (.int x :: .int i :: .ref a :: st) h := by
  intro p l e s m args below meth c E A Qf w0 hC hret H locs ws ls l0 st' hW hS hle hl hlr hst
  obtain ⟨hx, hb, hr, hml, hown, hts, hlk, hin0, hSt, hA⟩ := id hC
  obtain ⟨w, u, rfl, hw, hu⟩ := hst
  obtain ⟨w2, u2, rfl, hw2, hu2⟩ := hu
  obtain ⟨w3, u3, rfl, hw3, hu3⟩ := hu2
  obtain rfl : w = .int x := hw
  obtain rfl : w2 = .int i := hw2
  obtain ⟨b, y, rfl, g1, rfl⟩ := rr_at hW hw3 ha hk
  refine va_iast (D := E.1) hx hb hSt.1 hW.2.1 hW.2.2 hS a 0 g1 rfl hin hd ?_
  intro H1 locs1 hP1 hD1 hS1
  have hle2 : rr_le ws (ws.set a (b, .inl (E.2.1 0, n, .inl (upd f i.toNatClampNeg x)))) := rr_le.set g1
  exact k p l e s m args below meth c E A Qf w0 hC hret H1 locs1 _ ls l0 _ ⟨hW.1.set g1 rfl, hP1, hD1⟩ hS1 (hle.trans hle2) hl (hlr.mono hle2) (hu3.mono hle2)
theorem rr_bast {a n : Nat} {f : Nat → Int32} {i x : Int32} (hd : decode cc pc = .ok (.bastore, 1)) (ha : h[a]? = some (.inl (1, n, .inl f))) (hin : vp_in i n) (k : rr_A own cc nL rt kd R Q kc ks (pc + 1) lv st (h.set a (.inl (1, n, .inl (upd f i.toNatClampNeg (vp_nar .byte x)))))) (hk : Nat.ble rr_K0 a = false := by rfl) : rr_A own cc nL rt kd R Q kc ks pc lv (.int x :: .int i :: .ref a :: st) h := by
  intro p l e s m args below meth c E A Qf w0 hC hret H locs ws ls l0 st' hW hS hle hl hlr hst
  obtain ⟨hx, hb, hr, hml, hown, hts, hlk, hin0, hSt, hA⟩ := id hC
  obtain ⟨w, u, rfl, hw, hu⟩ := hst
  obtain ⟨w2, u2, rfl, hw2, hu2⟩ := hu
  obtain ⟨w3, u3, rfl, hw3, hu3⟩ := hu2
  obtain rfl : w = .int x := hw
  obtain rfl : w2 = .int i := hw2
  obtain ⟨b, y, rfl, g1, rfl⟩ := rr_at hW hw3 ha hk
  refine va_bast (D := E.1) hx hb hSt.1 hW.2.1 hW.2.2 hS a 1 g1 rfl hin hd ?_
  intro H1 locs1 hP1 hD1 hS1
  have hle2 : rr_le ws (ws.set a (b, .inl (E.2.1 1, n, .inl (upd f i.toNatClampNeg (vp_nar .byte x))))) := rr_le.set g1
  exact k p l e s m args below meth c E A Qf w0 hC hret H1 locs1 _ ls l0 _ ⟨hW.1.set g1 rfl, hP1, hD1⟩ hS1 (hle.trans hle2) hl (hlr.mono hle2) (hu3.mono hle2)
theorem rr_alen {a t n : Nat} {x : (Nat → Int32) ⊕ (Nat → Int64) ⊕ (Nat → UInt32) ⊕ (Nat → UInt64) ⊕ (Nat → Option Nat)} (hd : decode cc pc = .ok (.arraylength, 1)) (ha : h[a]? = some (.inl (t, n, x))) (ht : t = 0 ∨ t = 1) (k : rr_A own cc nL rt kd R Q kc ks (pc + 1) lv (.int (Int32.ofNat n) :: st) h) (hk : Nat.ble rr_K0 a = false := by rfl) : rr_A own cc nL rt kd R Q kc ks pc lv (.ref a :: st) h := by
  intro p l e s m args below meth c E A Qf w0 hC hret H locs ws ls l0 st' hW hS hle hl hlr hst
  obtain ⟨hx, hb, hr, hml, hown, hts, hlk, hin, hSt, hA⟩ := id hC
  obtain ⟨w, u, rfl, hw, hu⟩ := hst
  obtain ⟨b, y, rfl, g1, rfl⟩ := rr_at hW hw ha hk
  have nx := k p l e s m args below meth c E A Qf w0 hC hret H locs ws ls l0 _ hW hS hle hl hlr ⟨_, _, rfl, rfl, hu⟩
  rcases ht with rfl | rfl
  · exact va_alen (D := E.1) hx hb hSt.1 hW.2.1 a 0 g1 rfl rfl hd nx
  · exact va_alen (D := E.1) hx hb hSt.1 hW.2.1 a 1 g1 rfl rfl hd nx
end ROWS
end
section
section CALLS
variable {own : String} {cc : ByteArray} {nL : Nat} {rt : Option FieldType} {kd : rr_Kd} {R : Room} {Q : Option Value → rr_H → Prop} {kc ks pc : Nat} {lv : List (Nat × Value)} {st : List Value} {h : rr_H}
theorem rr_vK {E : rr_E} {ws : va_W} {j : Nat} {w : Value} : rr_v E ws (.ref (rr_K0 + j)) w ↔ w = .ref (E.2.2.1 j) := by
  unfold rr_v
  dsimp only
  rw [if_neg (Nat.not_lt.mpr (Nat.le_add_right rr_K0 j)), Nat.add_sub_cancel_left]
/-- a text -/
theorem rr_ldcS {idx j : Nat} {tx : String} (hd : decode cc pc = .ok (.ldc idx, 2)) (hs : (own, idx, tx, j) ∈ rr_str) (k : rr_A own cc nL rt kd R Q kc ks (pc + 2) lv (.ref (rr_K0 + j) :: st) h) : rr_A own cc nL rt kd R Q kc ks pc lv st h := by
  intro p l e s m args below meth c E A Qf w0 hC hret H locs ws ls l0 st' hW hS hle hl hlr hst
  obtain ⟨hx, hb, hr, hml, hown, hts, hlk, hin, hSt, hA⟩ := id hC
  exact va_ldcS hx hb hown (hSt.2.2.2.1 _ hs) hd (k p l e s m args below meth c E A Qf w0 hC hret H locs ws ls l0 _ hW hS hle hl hlr ⟨_, _, rfl, rr_vK.mpr rfl, hst⟩)
theorem rr_ldc2 {idx : Nat} {v : Int64} (hd : decode cc pc = .ok (.ldc2_w idx, 3)) (hw : Cond.constantLong own idx v ∈ rr_ws) (k : rr_A own cc nL rt kd R Q kc ks (pc + 3) lv (.long v :: st) h) : rr_A own cc nL rt kd R Q kc ks pc lv st h := by
  intro p l e s m args below meth c E A Qf w0 hC hret H locs ws ls l0 st' hW hS hle hl hlr hst
  obtain ⟨hx, hb, hr, hml, hown, hts, hlk, hin, hSt, hA⟩ := id hC
  exact lv_ldc2 hx hb hown (hts _ hw) hd (k p l e s m args below meth c E A Qf w0 hC hret H locs ws ls l0 _ hW hS hle hl hlr ⟨_, _, rfl, rfl, hst⟩)
/-- a text's bytes, its coder -/
theorem rr_getSv {idx j : Nat} (hd : decode cc pc = .ok (.getfield idx, 3)) (hw : Cond.fieldLink own idx "java/lang/String" "value" "[B" ∈ rr_ws) (hj : j < rr_nS) (k : rr_A own cc nL rt kd R Q kc ks (pc + 3) lv (.ref (rr_K0 + (100 + j)) :: st) h) : rr_A own cc nL rt kd R Q kc ks pc lv (.ref (rr_K0 + j) :: st) h := by
  intro p l e s m args below meth c E A Qf w0 hC hret H locs ws ls l0 st' hW hS hle hl hlr hst
  obtain ⟨hx, hb, hr, hml, hown, hts, hlk, hin, hSt, hA⟩ := id hC
  obtain ⟨w, u, rfl, hwv, hu⟩ := hst
  obtain rfl := rr_vK.mp hwv
  exact vk_getf hx hb (hSt.2.2.1.1 j hj).2.2.1 hS hown (hts _ hw) (fun _ h9 => h9) hd (k p l e s m args below meth c E A Qf w0 hC hret H locs ws ls l0 _ hW hS hle hl hlr ⟨_, _, rfl, rr_vK.mpr rfl, hu⟩)
theorem rr_getSc {idx j : Nat} (hd : decode cc pc = .ok (.getfield idx, 3)) (hw : Cond.fieldLink own idx "java/lang/String" "coder" "B" ∈ rr_ws) (hj : j < rr_nS) (k : rr_A own cc nL rt kd R Q kc ks (pc + 3) lv (.int 0 :: st) h) : rr_A own cc nL rt kd R Q kc ks pc lv (.ref (rr_K0 + j) :: st) h := by
  intro p l e s m args below meth c E A Qf w0 hC hret H locs ws ls l0 st' hW hS hle hl hlr hst
  obtain ⟨hx, hb, hr, hml, hown, hts, hlk, hin, hSt, hA⟩ := id hC
  obtain ⟨w, u, rfl, hwv, hu⟩ := hst
  obtain rfl := rr_vK.mp hwv
  exact vk_getf hx hb (hSt.2.2.1.1 j hj).2.1 hS hown (hts _ hw) (fun _ h9 => h9) hd (k p l e s m args below meth c E A Qf w0 hC hret H locs ws ls l0 _ hW hS hle hl hlr ⟨_, _, rfl, rfl, hu⟩)
theorem rr_lenS {j : Nat} (hd : decode cc pc = .ok (.arraylength, 1)) (hj : j < rr_nS) (k : rr_A own cc nL rt kd R Q kc ks (pc + 1) lv (.int (Int32.ofNat (rr_len.getD j 0)) :: st) h) : rr_A own cc nL rt kd R Q kc ks pc lv (.ref (rr_K0 + (100 + j)) :: st) h := by
  intro p l e s m args below meth c E A Qf w0 hC hret H locs ws ls l0 st' hW hS hle hl hlr hst
  obtain ⟨hx, hb, hr, hml, hown, hts, hlk, hin, hSt, hA⟩ := id hC
  obtain ⟨w, u, rfl, hwv, hu⟩ := hst
  obtain rfl := rr_vK.mp hwv
  exact va_tlen hx hb (hSt.2.2.1.1 j hj).2.2.2 hS rfl hd (k p l e s m args below meth c E A Qf w0 hC hret H locs ws ls l0 _ hW hS hle hl hlr ⟨_, _, rfl, rfl, hu⟩)
theorem rr_baldS {j : Nat} {i : Int32} (hd : decode cc pc = .ok (.baload, 1)) (hj : j < rr_nS) (hi : vp_in i (rr_len.getD j 0)) (k : rr_A own cc nL rt kd R Q kc ks (pc + 1) lv (.int ((rr_byt.getD j []).getD i.toNatClampNeg 0) :: st) h) : rr_A own cc nL rt kd R Q kc ks pc lv (.int i :: .ref (rr_K0 + (100 + j)) :: st) h := by
  intro p l e s m args below meth c E A Qf w0 hC hret H locs ws ls l0 st' hW hS hle hl hlr hst
  obtain ⟨hx, hb, hr, hml, hown, hts, hlk, hin, hSt, hA⟩ := id hC
  obtain ⟨w, u, rfl, hwv, hu⟩ := hst
  obtain ⟨w2, u2, rfl, hwv2, hu2⟩ := hu
  obtain rfl : w = .int i := hwv
  obtain rfl := rr_vK.mp hwv2
  exact va_tb hx hb (hSt.2.2.1.1 j hj).2.2.2 hS hi rfl hd (k p l e s m args below meth c E A Qf w0 hC hret H locs ws ls l0 _ hW hS hle hl hlr ⟨_, _, rfl, rfl, hu2⟩)
theorem rr_getsC {idx : Nat} (hd : decode cc pc = .ok (.getstatic idx, 3)) (hw : Cond.fieldLink own idx "java/lang/String" "COMPACT_STRINGS" "Z" ∈ rr_ws) (k : rr_A own cc nL rt kd R Q kc ks (pc + 3) lv (.int 1 :: st) h) : rr_A own cc nL rt kd R Q kc ks pc lv st h := by
  intro p l e s m args below meth c E A Qf w0 hC hret H locs ws ls l0 st' hW hS hle hl hlr hst
  obtain ⟨hx, hb, hr, hml, hown, hts, hlk, hin, hSt, hA⟩ := id hC
  exact va_gets hx hb hSt.2.2.2.2.1 hS hown (hts _ hw) (fun _ h9 => h9) hd (k p l e s m args below meth c E A Qf w0 hC hret H locs ws ls l0 _ hW hS hle hl hlr ⟨_, _, rfl, rfl, hst⟩)
theorem rr_getsF {idx : Nat} (hd : decode cc pc = .ok (.getstatic idx, 3)) (hw : Cond.fieldLink own idx "jdk/internal/util/Preconditions" "SIOOBE_FORMATTER" "Ljava/util/function/BiFunction;" ∈ rr_ws) (k : ∀ v : Value, v = .null ∨ v = .ref (rr_K0 + 300) → rr_A own cc nL rt kd R Q kc ks (pc + 3) lv (v :: st) h) : rr_A own cc nL rt kd R Q kc ks pc lv st h := by
  intro p l e s m args below meth c E A Qf w0 hC hret H locs ws ls l0 st' hW hS hle hl hlr hst
  obtain ⟨hx, hb, hr, hml, hown, hts, hlk, hin, hSt, hA⟩ := id hC
  rcases hSt.2.2.2.2.2.1 with hZ | hZ
  · exact va_gets hx hb hZ hS hown (hts _ hw) (fun _ h9 => h9) hd (k .null (Or.inl rfl) p l e s m args below meth c E A Qf w0 hC hret H locs ws ls l0 _ hW hS hle hl hlr ⟨_, _, rfl, rfl, hst⟩)
  · exact va_gets hx hb hZ hS hown (hts _ hw) (fun _ h9 => h9) hd (k _ (Or.inr rfl) p l e s m args below meth c E A Qf w0 hC hret H locs ws ls l0 _ hW hS hle hl hlr ⟨_, _, rfl, rr_vK.mpr rfl, hst⟩)
/-- the script -/
theorem rr_slen2 {L : Nat} {xs : Nat → Int32} (hkd : kd.2 = some (L, xs)) (hd : decode cc pc = .ok (.arraylength, 1)) (k : rr_A own cc nL rt kd R Q kc ks (pc + 1) lv (.int (Int32.ofNat L) :: st) h) : rr_A own cc nL rt kd R Q kc ks pc lv (.ref (rr_K0 + 200) :: st) h := by
  intro p l e s m args below meth c E A Qf w0 hC hret H locs ws ls l0 st' hW hS hle hl hlr hst
  obtain ⟨hx, hb, hr, hml, hown, hts, hlk, hin, hSt, hA⟩ := id hC
  obtain ⟨w, u, rfl, hwv, hu⟩ := hst
  obtain rfl := rr_vK.mp hwv
  have hX := hA.2 _ hkd
  have hT := hSt.2.2.2.2.2.2
  rw [hX] at hT
  exact va_tlen hx hb hT hS rfl hd (k p l e s m args below meth c E A Qf w0 hC hret H locs ws ls l0 _ hW hS hle hl hlr ⟨_, _, rfl, rfl, hu⟩)
theorem rr_sld {L : Nat} {xs : Nat → Int32} {i : Int32} (hkd : kd.2 = some (L, xs)) (hd : decode cc pc = .ok (.iaload, 1)) (hi : vp_in i L) (k : rr_A own cc nL rt kd R Q kc ks (pc + 1) lv (.int (xs i.toNatClampNeg) :: st) h) : rr_A own cc nL rt kd R Q kc ks pc lv (.int i :: .ref (rr_K0 + 200) :: st) h := by
  intro p l e s m args below meth c E A Qf w0 hC hret H locs ws ls l0 st' hW hS hle hl hlr hst
  obtain ⟨hx, hb, hr, hml, hown, hts, hlk, hin, hSt, hA⟩ := id hC
  obtain ⟨w, u, rfl, hwv, hu⟩ := hst
  obtain ⟨w2, u2, rfl, hwv2, hu2⟩ := hu
  obtain rfl : w = .int i := hwv
  obtain rfl := rr_vK.mp hwv2
  have hX := hA.2 _ hkd
  have hT := hSt.2.2.2.2.2.2
  rw [hX] at hT
  exact va_ti hx hb hT hS hi rfl hd (k p l e s m args below meth c E A Qf w0 hC hret H locs ws ls l0 _ hW hS hle hl hlr ⟨_, _, rfl, rfl, hu2⟩)
theorem rr_vs_plain {E : rr_E} {ws : va_W} : ∀ {l : List Value}, l.all rr_plain = true → rr_vs E ws l l
  | [], _ => rfl
  | v :: t, h => by
    rw [List.all_cons, Bool.and_eq_true] at h
    refine ⟨v, t, rfl, ?_, rr_vs_plain h.2⟩
    cases v with
    | ref i => cases h.1
    | _ => exact rfl
theorem rr_new {idx ci : Nat} {fs : List Value} (hd : decode cc pc = .ok (.new idx, 3)) (hL : rr_NL own idx ci fs) (hc : kc + 1 ≤ R.cells) (hs : ks + fs.length ≤ R.slots) (hlen : h.length < rr_K0) (k : rr_A own cc nL rt kd R Q (kc + 1) (ks + fs.length) (pc + 3) lv (.ref h.length :: st) (h ++ [.inr (ci, fs)])) : rr_A own cc nL rt kd R Q kc ks pc lv st h := by
  intro p l e s m args below meth c E A Qf w0 hC hret H locs ws ls l0 st' hW hS hle hl hlr hst
  obtain ⟨hx, hb, hr, hml, hown, hts, hlk, hin, hSt, hA⟩ := id hC
  obtain ⟨C, T, hcl, q1, q2, q3, q4, q5⟩ := hL
  obtain ⟨c1, c2, c3⟩ := rr_clok ci C T _ hcl
  refine va_new (D := E.1) hx hb hts c1 (rr_ty ci) c2 hown (hts _ q1) (hts _ q2) (hts _ q3) hSt.1 hW.2.1 hW.2.2 hS hA.1 hcl q4 hc hs hd (fun q H1 hP1 hD1 hS1 => ?_)
  have hle2 : rr_le ws (ws ++ [(q, .inr (ci, fs))]) := rr_le.push
  refine k p l e s m args below meth c E A Qf w0 hC hret H1 locs _ ls l0 _ ⟨hW.1.push ⟨fs, rfl, rr_vs_plain q5⟩, hP1, hD1⟩ hS1 (hle.trans hle2) hl (hlr.mono hle2) ⟨_, _, rfl, ?_, hst.mono hle2⟩
  unfold rr_v
  dsimp only
  rw [if_pos hlen]
  exact ⟨q, _, by rw [← hW.1.1, List.getElem?_append_right (Nat.le_refl _), Nat.sub_self]; rfl, rfl⟩
theorem rr_newI {n : Int32} (N : Nat) (hd : decode cc pc = .ok (.newarray .int, 2)) (hn : ¬ n < 0) (hN : n.toNatClampNeg = N) (hb4 : N ≤ 100000000) (hc : kc + 1 ≤ R.cells) (hs : ks + N ≤ R.slots) (hlen : h.length < rr_K0) (k : rr_A own cc nL rt kd R Q (kc + 1) (ks + N) (pc + 2) lv (.ref h.length :: st) (h ++ [.inl (0, N, .inl (fun _ => 0))])) : rr_A own cc nL rt kd R Q kc ks pc lv (.int n :: st) h := by
  intro p l e s m args below meth c E A Qf w0 hC hret H locs ws ls l0 st' hW hS hle hl hlr hst
  obtain ⟨hx, hb, hr, hml, hown, hts, hlk, hin, hSt, hA⟩ := id hC
  obtain ⟨w, u, rfl, hwv, hu⟩ := hst
  obtain rfl : w = .int n := hwv
  refine va_newa (D := E.1) (atype := .int) (ty := .int) hx hb (hts _ rr_wI) rfl hSt.1 hW.2.1 hW.2.2 hS hA.1 (a0 := (N, .inl (fun _ => 0))) (fun cA => rfl) hn hN (by simp [componentBytes]; omega) hc hs hd (fun q cA H1 hK1 hP1 hD1 hS1 => ?_)
  have e1 := (hK1.2 2 _ rfl).2
  have e2 := (hSt.1.2 0 _ rfl).2
  obtain rfl : E.2.1 0 = cA := Option.some.inj (e2.symm.trans e1)
  have hle2 : rr_le ws (ws ++ [(q, .inl (E.2.1 0, N, .inl (fun _ => 0)))]) := rr_le.push
  refine k p l e s m args below meth c E A Qf w0 hC hret H1 locs _ ls l0 _ ⟨hW.1.push rfl, hP1, hD1⟩ hS1 (hle.trans hle2) hl (hlr.mono hle2) ⟨_, _, rfl, ?_, hu.mono hle2⟩
  unfold rr_v
  dsimp only
  rw [if_pos hlen]
  exact ⟨q, _, by rw [← hW.1.1, List.getElem?_append_right (Nat.le_refl _), Nat.sub_self]; rfl, rfl⟩
theorem rr_newB {n : Int32} (N : Nat) (hd : decode cc pc = .ok (.newarray .byte, 2)) (hn : ¬ n < 0) (hN : n.toNatClampNeg = N) (hb4 : N ≤ 100000000) (hc : kc + 1 ≤ R.cells) (hs : ks + N ≤ R.slots) (hlen : h.length < rr_K0) (k : rr_A own cc nL rt kd R Q (kc + 1) (ks + N) (pc + 2) lv (.ref h.length :: st) (h ++ [.inl (1, N, .inl (fun _ => 0))])) : rr_A own cc nL rt kd R Q kc ks pc lv (.int n :: st) h := by
  intro p l e s m args below meth c E A Qf w0 hC hret H locs ws ls l0 st' hW hS hle hl hlr hst
  obtain ⟨hx, hb, hr, hml, hown, hts, hlk, hin, hSt, hA⟩ := id hC
  obtain ⟨w, u, rfl, hwv, hu⟩ := hst
  obtain rfl : w = .int n := hwv
  refine va_newa (D := E.1) (atype := .byte) (ty := .byte) hx hb (hts _ rr_wB) rfl hSt.1 hW.2.1 hW.2.2 hS hA.1 (a0 := (N, .inl (fun _ => 0))) (fun cA => rfl) hn hN (by simp [componentBytes]; omega) hc hs hd (fun q cA H1 hK1 hP1 hD1 hS1 => ?_)
  have e1 := (hK1.2 2 _ rfl).2
  have e2 := (hSt.1.2 1 _ rfl).2
  obtain rfl : E.2.1 1 = cA := Option.some.inj (e2.symm.trans e1)
  have hle2 : rr_le ws (ws ++ [(q, .inl (E.2.1 1, N, .inl (fun _ => 0)))]) := rr_le.push
  refine k p l e s m args below meth c E A Qf w0 hC hret H1 locs _ ls l0 _ ⟨hW.1.push rfl, hP1, hD1⟩ hS1 (hle.trans hle2) hl (hlr.mono hle2) ⟨_, _, rfl, ?_, hu.mono hle2⟩
  unfold rr_v
  dsimp only
  rw [if_pos hlen]
  exact ⟨q, _, by rw [← hW.1.1, List.getElem?_append_right (Nat.le_refl _), Nat.sub_self]; rfl, rfl⟩
/-- Object(): nothing -/
theorem rr_objInit {idx a : Nat} (hd : decode cc pc = .ok (.invokespecial idx, 3)) (hw : Cond.methodLink own idx objectInit ∈ rr_ws) (hrm : 1 ≤ R.frames) (hrl : 12 + ((st.map fun v => v.category).sum) ≤ R.locals) (k : rr_A own cc nL rt kd R Q kc ks (pc + 3) lv st h) : rr_A own cc nL rt kd R Q kc ks pc lv (.ref a :: st) h := by
  intro p l e s m args below meth c E A Qf w0 hC hret H locs ws ls l0 st' hW hS hle hl hlr hst
  obtain ⟨hx, hb, hr, hml, hown, hts, hlk, hin, hSt, hA⟩ := id hC
  obtain ⟨w, u, rfl, hwv, hu⟩ := hst
  obtain ⟨b, rfl⟩ := rr_refv hwv
  have hloc : 2 * (F0 m pc ls (.ref b :: u)).monitorRoom + (u.map fun v => v.category).sum + 12 ≤ R.locals := by
    rw [hu.cats]
    show 2 * 0 + _ + 12 ≤ R.locals
    omega
  refine W.objInit hx hb hown (hts _ hw) (hts _ rr_wO1) (hts _ rr_wO2) rfl (by rw [hml]; exact hl.1) rfl hd hrm hloc ?_
  exact k p l e s m args below meth c E A Qf w0 hC hret H locs ws ls l0 _ hW hS hle hl hlr hu
/-! Calls. -/
theorem rr_good {y : MethodName} {c2 : ByteArray} {n2 : Nat} {r2 : Option FieldType} (hm : Cond.code y c2 n2 r2 ∈ rr_ws) : GoodIn rr_ws (.code y c2 n2 r2 :: rr_ws) := by
  intro w hw
  have hw2 : w ∈ rr_ws := by
    rcases List.mem_cons.mp hw with rfl | hw
    · exact hm
    · exact hw
  exact ⟨hw2, good_of_word (List.mem_filter.mp hw2).2⟩
theorem rr_free {A : Nat → Prop} {ws : va_W} {H0 H : Heap} {locs : List Loc} (hD : va_D A ws) (hS : va_S A H0 H locs) (hA : ∀ q : Nat, H0.size ≤ q → A q) : ∀ q, va_A ws H.size q → A q := by
  rintro q (⟨k, e, hk⟩ | hq)
  · exact hD.2 k (q, e) hk
  · exact hA q (Nat.le_trans hS.1 hq)
def rr_Qm (E : rr_E) (ws : va_W) (sz : Nat) (Qc : Option Value → rr_H → Prop) : Array Value → State → Outcome → State → Prop := fun _ st oc t => (∃ (r r' : Option Value) (h' : rr_H) (us : va_W), oc = .returned r' ∧ Qc r h' ∧ rr_o E us r r' ∧ rr_Wd E (va_A ws sz) h' us t.heap ∧ rr_le ws us) ∧ va_F (va_A ws sz) st t
def rr_Pm (E : rr_E) (ws : va_W) (sz : Nat) (as' : List Value) : Array Value → State → Prop := va_Pc as' (fun U => U.heap.size = sz ∧ va_P E.1 rr_cl ws U.heap ∧ va_D (fun _ => True) ws ∧ rr_S E (va_A ws sz) U U.heap)
theorem rr_blind {E : rr_E} {ws : va_W} {sz : Nat} {as' : List Value} : FrameBlind (rr_Pm E ws sz as') := by
  intro a U g mk q
  obtain ⟨q0, q1, qP, qD, qS⟩ := q
  exact ⟨q0, q1, qP, qD, qS.same rfl⟩
theorem rr_pre {E : rr_E} {A : Nat → Prop} {ws : va_W} {s : State} {H : Heap} {locs : List Loc} {as' : List Value} {h : rr_H} (hW : rr_Wd E A h ws H) (hS : va_S A s.heap H locs) (hA : ∀ q : Nat, s.heap.size ≤ q → A q) (hSt : rr_S E A s s.heap) : ∀ U : State, U.heap = H → s.WarmedH U.vm → rr_Pm E ws H.size as' as'.toArray U :=
  fun U hU hWm => ⟨rfl, by rw [hU], by rw [hU]; exact hW.2.1, hW.2.2.weaken (fun _ _ _ _ => trivial), hSt.go hS (rr_free hW.2.2 hS hA) hU hWm⟩
theorem rr_callX {p : Program} {l : Launch} {e : Env} {s : State} {m : MethodId} {args : Array Value} {below : List Frame} {meth : Method} {c : Code} {H : Heap} {locs : List Loc} {Qf : State → Prop} {mc ms : Nat} {ls : Array Slot} {st0 rest : List Value} {E : rr_E} {A : Nat → Prop} {ws : va_W} {Qc : Option Value → rr_H → Prop} {a : Array Value} {h : rr_H}
    (hr : va_Run p l e R s m args below meth c H locs kc ks mc ms (F0 m pc ls st0) rest (rr_Qm E ws H.size Qc a) (va_A ws H.size)) (hW : rr_Wd E A h ws H) (hS : va_S A s.heap H locs) (hA : ∀ q : Nat, s.heap.size ≤ q → A q)
    (kk : ∀ (r r' : Option Value) (h' : rr_H) (us : va_W) (H1 : Heap) (locs1 : List Loc), Qc r h' → rr_o E us r r' → rr_Wd E A h' us H1 → va_S A s.heap H1 locs1 → rr_le ws us → W p l e R s m args below meth c H1 locs1 (kc + mc) (ks + ms) Qf (F0 m (pc + 3) ls (r'.toList ++ rest))) : W p l e R s m args below meth c H locs kc ks Qf (F0 m pc ls st0) := by
  intro T hT X
  obtain ⟨v, st₀, t, T', L, h0, X', hL, e1, e2, ⟨⟨r, r', h', us, hv, hq, ho, hWd, hle⟩, hz, hk⟩, st⟩ := hr T hT X
  cases hv
  rw [h0] at hz hk
  have hF := rr_free hW.2.2 hS hA
  obtain ⟨t2, a1, b1⟩ := kk r v h' us T'.heap (locs ++ L) hq ho ⟨hWd.1, by rw [e1]; exact hWd.2.1, hWd.2.2.weaken (fun _ _ _ hh => hF _ hh)⟩
    ⟨Nat.le_trans hS.1 (by rw [e1]; exact hz), fun q h1 h2 => by rw [e1, hk q (Nat.lt_of_lt_of_le h1 hS.1) (fun z => h2 (hF q z))]; exact hS.2.1 q h1 h2, fun q hq => by
      rcases List.mem_append.mp hq with h | h
      · exact hS.2.2 q h
      · exact hF _ (hL q h)⟩ hle T' rfl X'
  exact ⟨t2, st t2 a1, b1⟩
theorem rr_o.vs {E : rr_E} {us : va_W} {r r' : Option Value} (h : rr_o E us r r') : rr_vs E us r.toList r'.toList := by
  cases r with
  | none => rw [show r' = none from h]; exact rfl
  | some v =>
    obtain ⟨w, h1, h2⟩ := h
    rw [h1]
    exact ⟨w, [], rfl, h2, rfl⟩
theorem rr_sum8 {E : rr_E} {ws : va_W} {m : MethodId} {ls : Array Slot} {st0 : List Value} {a b : List Value} (h : rr_vs E ws a b) (h8 : (a.map fun v => v.category).sum ≤ 8) : 2 * (F0 m pc ls st0).monitorRoom + (b.map fun v => v.category).sum ≤ 8 := lv_room (by rw [h.cats]; exact h8)
/-- a method of an object -/
theorem rr_callV0 {d idx n : Nat} {y : MethodName} {c2 : ByteArray} {n2 : Nat} {r2 : Option FieldType} {mc ms a : Nat} {As rest : List Value} {Qc : Option Value → rr_H → Prop} (hd : decode cc pc = .ok (.invokevirtual idx, 3)) (hL : rr_LV own idx y n) (hm : Cond.code y c2 n2 r2 ∈ rr_ws) (hSp : rr_Spec d y c2 n2 r2 mc ms (.ref a :: As) h Qc)
    (hrecv : ∀ (s : State) (E : rr_E) (A : Nat → Prop) (ws : va_W) (H : Heap) (locs : List Loc) (b : Nat), rr_S E A s s.heap → va_S A s.heap H locs → rr_Wd E A h ws H → rr_v E ws (.ref a) (.ref b) → ∃ cell : Cell, H[b]? = some cell ∧ cell.vm.isStatics = false ∧ s.vm.findClass y.cls = some cell.cls)
    (hn : As.length = n) (hst0 : st = As.reverse ++ .ref a :: rest) (h8 : (rest.map fun v => v.category).sum ≤ 8) (hR1 : d + 1 ≤ R.frames) (hR2 : 8 + (n2 + 11) + d * 64 ≤ R.locals) (hc : kc + mc ≤ R.cells) (hs : ks + ms ≤ R.slots)
    (k : ∀ r h', Qc r h' → rr_A own cc nL rt kd R Q (kc + mc) (ks + ms) (pc + 3) lv (r.toList ++ rest) h') : rr_A own cc nL rt kd R Q kc ks pc lv st h := by
  intro p l e s m args below meth c E A Qf w0 hC hret H locs ws ls l0 st' hW hS hle hl hlr hst
  obtain ⟨hx, hb, hr, hml, hown, hts, hlk, hin, hSt, hA⟩ := id hC
  rw [hst0] at hst
  obtain ⟨A', B', rfl, g1, g2⟩ := hst.split
  obtain ⟨w, u, rfl, hwv, hu⟩ := g2
  obtain ⟨b, rfl⟩ := rr_refv hwv
  obtain ⟨l1, l2, l3, l4, l5⟩ := hL
  have hAs : rr_vs E ws As A'.reverse := by have := g1.rev; rwa [List.reverse_reverse] at this
  have hM := hSp l E ws (.ref b :: A'.reverse) H.size hW.1 ⟨_, _, rfl, hwv, hAs⟩
  have hst1 : A' ++ .ref b :: u = A'.reverse.reverse ++ .ref b :: u := by rw [List.reverse_reverse]
  have hlen : A'.reverse.length = n := by rw [hAs.length]; exact hn
  have hP : PreV s H y.cls b (rr_Pm E ws H.size (.ref b :: A'.reverse)) A'.reverse := ⟨rr_blind, hrecv s E A ws H locs b hSt hS hW hwv, rr_pre hW hS hA.1 hSt⟩
  have hrun : va_Run p l e R s m args below meth c H locs kc ks mc ms (F0 m pc ls (A' ++ .ref b :: u)) u (rr_Qm E ws H.size Qc (Value.ref b :: A'.reverse).toArray) (va_A ws H.size) := by
    rcases l1 with l1 | ⟨host, l1⟩
    · exact va_runV ⟨hx, hb, hml, hown, hts⟩ hM ⟨callB_of n hts (rr_good hm) rfl rfl rfl (hts _ l4) (hts _ l1) l5 ⟨hR1, hR2⟩, hts _ l2, hts _ l3⟩ hP rfl hlen hl.1 hst1 (rr_sum8 hu h8) hd ⟨hc, hs⟩
    · exact va_runVN ⟨hx, hb, hml, hown, hts⟩ hM ⟨va_cnB n hts (rr_good hm) rfl rfl rfl (hSt.2.1 _ l1) (hts _ l4) l5 ⟨hR1, hR2⟩, hts _ l2, hts _ l3⟩ hP rfl hlen hl.1 hst1 (rr_sum8 hu h8) hd ⟨hc, hs⟩
  refine rr_callX hrun hW hS hA.1 (fun r r' h' us H1 locs1 q1 q2 q3 q4 q5 => ?_)
  exact k r h' q1 p l e s m args below meth c E A Qf w0 hC hret H1 locs1 us ls l0 _ q3 q4 (hle.trans q5) hl (hlr.mono q5) (rr_vs.app q2.vs (hu.mono q5))
theorem rr_callV {d idx n : Nat} {y : MethodName} {c2 : ByteArray} {n2 : Nat} {r2 : Option FieldType} {mc ms a ci : Nat} {fs : List Value} {As rest : List Value} {Qc : Option Value → rr_H → Prop} (hd : decode cc pc = .ok (.invokevirtual idx, 3)) (hL : rr_LV own idx y n) (hm : Cond.code y c2 n2 r2 ∈ rr_ws) (hSp : rr_Spec d y c2 n2 r2 mc ms (.ref a :: As) h Qc) (ha : h[a]? = some (.inr (ci, fs))) (hci : (rr_cl[ci]?).map (fun q => q.1) = some y.cls)
    (hn : As.length = n) (hst0 : st = As.reverse ++ .ref a :: rest) (h8 : (rest.map fun v => v.category).sum ≤ 8) (hR1 : d + 1 ≤ R.frames) (hR2 : 8 + (n2 + 11) + d * 64 ≤ R.locals) (hc : kc + mc ≤ R.cells) (hs : ks + ms ≤ R.slots)
    (k : ∀ r h', Qc r h' → rr_A own cc nL rt kd R Q (kc + mc) (ks + ms) (pc + 3) lv (r.toList ++ rest) h') (hk : Nat.ble rr_K0 a = false := by rfl) : rr_A own cc nL rt kd R Q kc ks pc lv st h := by
  refine rr_callV0 hd hL hm hSp ?_ hn hst0 h8 hR1 hR2 hc hs k
  intro s E A ws H locs b hSt hS hW hv
  obtain ⟨b', y', e1, g1, fs', rfl, g3⟩ := rr_at hW hv ha hk
  cases e1
  cases hq : rr_cl[ci]? with
  | none => rw [hq] at hci; cases hci
  | some q =>
    rw [hq] at hci
    have h1 : q.1 = y.cls := Option.some.inj hci
    rw [← h1]
    exact va_recv hSt.1 hW.2.1 hq g1
/-- a method of a text -/
theorem rr_callS0 {d idx n : Nat} {y : MethodName} {c2 : ByteArray} {n2 : Nat} {r2 : Option FieldType} {mc ms j : Nat} {As rest : List Value} {Qc : Option Value → rr_H → Prop} (hd : decode cc pc = .ok (.invokevirtual idx, 3)) (hL : rr_LV own idx y n) (hm : Cond.code y c2 n2 r2 ∈ rr_ws) (hSp : rr_Spec d y c2 n2 r2 mc ms (.ref (rr_K0 + j) :: As) h Qc) (hj : j < rr_nS) (hci : y.cls = "java/lang/String")
    (hn : As.length = n) (hst0 : st = As.reverse ++ .ref (rr_K0 + j) :: rest) (h8 : (rest.map fun v => v.category).sum ≤ 8) (hR1 : d + 1 ≤ R.frames) (hR2 : 8 + (n2 + 11) + d * 64 ≤ R.locals) (hc : kc + mc ≤ R.cells) (hs : ks + ms ≤ R.slots)
    (k : ∀ r h', Qc r h' → rr_A own cc nL rt kd R Q (kc + mc) (ks + ms) (pc + 3) lv (r.toList ++ rest) h') : rr_A own cc nL rt kd R Q kc ks pc lv st h := by
  refine rr_callV0 hd hL hm hSp ?_ hn hst0 h8 hR1 hR2 hc hs k
  intro s E A ws H locs b hSt hS hW hv
  have hb := rr_vK.mp hv
  cases hb
  rw [hci]
  exact vk_recv hSt.2.2.1 hj hS
/-- a static method -/
theorem rr_callS {d idx n : Nat} {y : MethodName} {c2 : ByteArray} {n2 : Nat} {r2 : Option FieldType} {mc ms : Nat} {As rest : List Value} {Qc : Option Value → rr_H → Prop} (hd : decode cc pc = .ok (.invokestatic idx, 3)) (hL : rr_LS own idx y n) (hm : Cond.code y c2 n2 r2 ∈ rr_ws) (hSp : rr_Spec d y c2 n2 r2 mc ms As h Qc)
    (hn : As.length = n) (hst0 : st = As.reverse ++ rest) (h8 : (rest.map fun v => v.category).sum ≤ 8) (hR1 : d + 1 ≤ R.frames) (hR2 : 8 + (n2 + 11) + d * 64 ≤ R.locals) (hc : kc + mc ≤ R.cells) (hs : ks + ms ≤ R.slots)
    (k : ∀ r h', Qc r h' → rr_A own cc nL rt kd R Q (kc + mc) (ks + ms) (pc + 3) lv (r.toList ++ rest) h') : rr_A own cc nL rt kd R Q kc ks pc lv st h := by
  intro p l e s m args below meth c E A Qf w0 hC hret H locs ws ls l0 st' hW hS hle hl hlr hst
  obtain ⟨hx, hb, hr, hml, hown, hts, hlk, hin, hSt, hA⟩ := id hC
  rw [hst0] at hst
  obtain ⟨A', u, rfl, g1, hu⟩ := hst.split
  obtain ⟨l1, l2, l4, l5⟩ := hL
  have hAs : rr_vs E ws As A'.reverse := by have := g1.rev; rwa [List.reverse_reverse] at this
  have hM := hSp l E ws A'.reverse H.size hW.1 hAs
  have hst1 : A' ++ u = A'.reverse.reverse ++ u := by rw [List.reverse_reverse]
  have hlen : A'.reverse.length = n := by rw [hAs.length]; exact hn
  have hP : PreS s H (rr_Pm E ws H.size A'.reverse) A'.reverse := ⟨rr_blind, rr_pre hW hS hA.1 hSt⟩
  have hrun : va_Run p l e R s m args below meth c H locs kc ks mc ms (F0 m pc ls (A' ++ u)) u (rr_Qm E ws H.size Qc A'.reverse.toArray) (va_A ws H.size) := by
    rcases l1 with l1 | ⟨host, l1⟩
    · exact va_runS ⟨hx, hb, hml, hown, hts⟩ hM ⟨callB_of n hts (rr_good hm) rfl rfl rfl (hts _ l4) (hts _ l1) l5 ⟨hR1, hR2⟩, hts _ l2⟩ hP rfl hlen hl.1 hst1 (rr_sum8 hu h8) hd ⟨hc, hs⟩
    · exact va_runSN ⟨hx, hb, hml, hown, hts⟩ hM ⟨va_cnB n hts (rr_good hm) rfl rfl rfl (hSt.2.1 _ l1) (hts _ l4) l5 ⟨hR1, hR2⟩, hts _ l2, trivial⟩ hP rfl hlen hl.1 hst1 (rr_sum8 hu h8) hd ⟨hc, hs⟩
  refine rr_callX hrun hW hS hA.1 (fun r r' h' us H1 locs1 q1 q2 q3 q4 q5 => ?_)
  exact k r h' q1 p l e s m args below meth c E A Qf w0 hC hret H1 locs1 us ls l0 _ q3 q4 (hle.trans q5) hl (hlr.mono q5) (rr_vs.app q2.vs (hu.mono q5))
/-- a constructor -/
theorem rr_callI {d idx n : Nat} {y : MethodName} {c2 : ByteArray} {n2 : Nat} {mc ms a : Nat} {As rest : List Value} {Qc : Option Value → rr_H → Prop} (hd : decode cc pc = .ok (.invokespecial idx, 3)) (hL : rr_LI own idx y n) (hm : Cond.code y c2 n2 none ∈ rr_ws) (hSp : rr_Spec d y c2 n2 none mc ms (.ref a :: As) h Qc)
    (hn : As.length = n) (hst0 : st = As.reverse ++ .ref a :: rest) (h8 : (rest.map fun v => v.category).sum ≤ 8) (hR1 : d + 1 ≤ R.frames) (hR2 : 8 + (n2 + 11) + d * 64 ≤ R.locals) (hc : kc + mc ≤ R.cells) (hs : ks + ms ≤ R.slots)
    (k : ∀ r h', Qc r h' → rr_A own cc nL rt kd R Q (kc + mc) (ks + ms) (pc + 3) lv (r.toList ++ rest) h') : rr_A own cc nL rt kd R Q kc ks pc lv st h := by
  intro p l e s m args below meth c E A Qf w0 hC hret H locs ws ls l0 st' hW hS hle hl hlr hst
  obtain ⟨hx, hb, hr, hml, hown, hts, hlk, hin, hSt, hA⟩ := id hC
  rw [hst0] at hst
  obtain ⟨A', B', rfl, g1, g2⟩ := hst.split
  obtain ⟨w, u, rfl, hwv, hu⟩ := g2
  obtain ⟨b, rfl⟩ := rr_refv hwv
  obtain ⟨l1, l2, l3, l4, l5⟩ := hL
  have hAs : rr_vs E ws As A'.reverse := by have := g1.rev; rwa [List.reverse_reverse] at this
  have hM := hSp l E ws (.ref b :: A'.reverse) H.size hW.1 ⟨_, _, rfl, hwv, hAs⟩
  have hst1 : A' ++ .ref b :: u = A'.reverse.reverse ++ .ref b :: u := by rw [List.reverse_reverse]
  have hlen : A'.reverse.length = n := by rw [hAs.length]; exact hn
  have hP : PreS s H (rr_Pm E ws H.size (.ref b :: A'.reverse)) (.ref b :: A'.reverse) := ⟨rr_blind, rr_pre hW hS hA.1 hSt⟩
  have hrun : va_Run p l e R s m args below meth c H locs kc ks mc ms (F0 m pc ls (A' ++ .ref b :: u)) u (rr_Qm E ws H.size Qc (Value.ref b :: A'.reverse).toArray) (va_A ws H.size) := by
    rcases l1 with l1 | ⟨host, l1⟩
    · exact va_runI ⟨hx, hb, hml, hown, hts⟩ hM ⟨callB_of n hts (rr_good hm) rfl rfl rfl (hts _ l4) (hts _ l1) l5 ⟨hR1, hR2⟩, l3, hts _ l2⟩ hP rfl hlen hl.1 hst1 (rr_sum8 hu h8) hd ⟨hc, hs⟩
    · exact va_runIN ⟨hx, hb, hml, hown, hts⟩ hM ⟨va_cnB n hts (rr_good hm) rfl rfl rfl (hSt.2.1 _ l1) (hts _ l4) l5 ⟨hR1, hR2⟩, l3, hts _ l2⟩ hP rfl hlen hl.1 hst1 (rr_sum8 hu h8) hd ⟨hc, hs⟩
  refine rr_callX hrun hW hS hA.1 (fun r r' h' us H1 locs1 q1 q2 q3 q4 q5 => ?_)
  exact k r h' q1 p l e s m args below meth c E A Qf w0 hC hret H1 locs1 us ls l0 _ q3 q4 (hle.trans q5) hl (hlr.mono q5) (rr_vs.app q2.vs (hu.mono q5))
end CALLS
end
section
/-! The texts' own methods. -/
def sp_ch (j i : Nat) : Int32 := (rr_byt.getD j []).getD i 0
theorem sp_ch_ok : ∀ j, j < 18 → ∀ i, i < 6 → (((sp_ch j i &&& 255).toUInt32 % 65536).toInt32 = sp_ch j i ∧ narrow .char (.int (sp_ch j i)) = .int (sp_ch j i)) := by decide +kernel
theorem sp_len_ok : ∀ j, j < 18 → rr_len.getD j 0 ≤ 6 := by decide +kernel

set_option maxRecDepth 100000 in
set_option maxHeartbeats 4000000 in
theorem s_St_coder {h : rr_H} {j : Nat} (hj : j < rr_nS) : rr_Spec 0 y_St_coder c_St_coder 1 (some .byte) 0 0 [.ref (rr_K0 + j)] (h) (fun r h1 => r = some (.int 0) ∧ h1 = h) := by
  refine rr_met (own := R_St) (kd := (false, none)) (by decide +kernel) rfl (fun h => by cases h) rfl (Nat.le_of_ble_eq_true rfl) ?_
  refine rr_getsC d_St_coder_0 fs_St_38 ?_
  refine rr_if_eq 13 d_St_coder_3 (by decide) (fun c9 => absurd c9 (by decide)) (fun _ => ?_)
  refine rr_aload_n d_St_coder_6 rfl rfl ?_
  refine rr_getSc d_St_coder_7 fs_St_15 (hj) ?_
  refine rr_goto 14 d_St_coder_10 (by decide) ?_
  exact rr_ireturn d_St_coder_14 rfl rfl (Nat.le_of_ble_eq_true rfl) (Nat.le_of_ble_eq_true rfl) (⟨rfl, rfl⟩)

set_option maxRecDepth 100000 in
set_option maxHeartbeats 4000000 in
theorem s_St_isLatin1 {h : rr_H} {j : Nat} (hj : j < rr_nS) : rr_Spec 0 y_St_isLatin1 c_St_isLatin1 1 (some .boolean) 0 0 [.ref (rr_K0 + j)] (h) (fun r h1 => r = some (.int 1) ∧ h1 = h) := by
  refine rr_met (own := R_St) (kd := (false, none)) (by decide +kernel) rfl (fun h => by cases h) rfl (Nat.le_of_ble_eq_true rfl) ?_
  refine rr_getsC d_St_isLatin1_0 fs_St_38 ?_
  refine rr_if_eq 17 d_St_isLatin1_3 (by decide) (fun c9 => absurd c9 (by decide)) (fun _ => ?_)
  refine rr_aload_n d_St_isLatin1_6 rfl rfl ?_
  refine rr_getSc d_St_isLatin1_7 fs_St_15 (hj) ?_
  refine rr_if_ne 17 d_St_isLatin1_10 (by decide) (fun c9 => absurd (rfl) c9) (fun _ => ?_)
  refine rr_iconst 1 d_St_isLatin1_13 rfl ?_
  refine rr_goto 18 d_St_isLatin1_14 (by decide) ?_
  exact rr_ireturn d_St_isLatin1_18 rfl rfl (Nat.le_of_ble_eq_true rfl) (Nat.le_of_ble_eq_true rfl) (⟨rfl, rfl⟩)

set_option maxRecDepth 100000 in
set_option maxHeartbeats 4000000 in
theorem s_St_length {h : rr_H} {j : Nat} (hj : j < rr_nS) : rr_Spec 1 y_St_length c_St_length 1 (some .int) 0 0 [.ref (rr_K0 + j)] (h) (fun r h1 => r = some (.int (nI (rr_len.getD j 0))) ∧ h1 = h) := by
  refine rr_met (own := R_St) (kd := (false, none)) (by decide +kernel) rfl (fun h => by cases h) rfl (Nat.le_of_ble_eq_true rfl) ?_
  refine rr_aload_n d_St_length_0 rfl rfl ?_
  refine rr_getSv d_St_length_1 fs_St_9 (hj) ?_
  refine rr_lenS d_St_length_4 (hj) ?_
  refine rr_aload_n d_St_length_5 rfl rfl ?_
  refine rr_callS0 d_St_length_6 il_St_335 m_St_coder (s_St_coder hj) hj rfl rfl rfl (Nat.le_of_ble_eq_true rfl) (Nat.le_of_ble_eq_true rfl) (Nat.le_of_ble_eq_true rfl) (Nat.le_of_ble_eq_true rfl) (Nat.le_of_ble_eq_true rfl) (fun r h1 hq => ?_)
  obtain ⟨rfl, rfl⟩ := hq
  refine rr_ishr d_St_length_9 ?_
  have e : Int32.ofNat (rr_len.getD j 0) >>> ((0 : Int32) &&& 31) = nI (rr_len.getD j 0) := sb_shr0 _
  exact rr_ireturn d_St_length_10 rfl rfl (Nat.le_of_ble_eq_true rfl) (Nat.le_of_ble_eq_true rfl) (⟨by rw [e], rfl⟩)

set_option maxRecDepth 100000 in
set_option maxHeartbeats 4000000 in
theorem s_Pr_checkIndex {h : rr_H} {i j : Nat} {v : Value} (hj : j < rr_nS) (hi : i < rr_len.getD j 0) (hv : v = .null ∨ v = .ref (rr_K0 + 300)) : rr_Spec 0 y_Pr_checkIndex c_Pr_checkIndex 3 (some .int) 0 0 [.int (nI i), .int (nI (rr_len.getD j 0)), v] (h) (fun r h1 => r = some (.int (nI i)) ∧ h1 = h) := by
  have h6 := sp_len_ok j hj
  rcases hv with rfl | rfl
  · refine rr_met (own := R_Pr) (kd := (false, none)) (by decide +kernel) rfl (fun h => by cases h) rfl (Nat.le_of_ble_eq_true rfl) ?_
    refine rr_iload_n d_Pr_checkIndex_0 rfl rfl ?_
    refine rr_if_lt 9 d_Pr_checkIndex_1 (by decide) (fun c9 => absurd c9 (nI_pos (by omega))) (fun _ => ?_)
    refine rr_iload_n d_Pr_checkIndex_4 rfl rfl ?_
    refine rr_iload_n d_Pr_checkIndex_5 rfl rfl ?_
    refine rr_icmp_lt 16 d_Pr_checkIndex_6 (by decide) (fun _ => ?_) (fun c9 => absurd (nI_lt hi (by omega)) c9)
    refine rr_iload_n d_Pr_checkIndex_16 rfl rfl ?_
    exact rr_ireturn d_Pr_checkIndex_17 rfl rfl (Nat.le_of_ble_eq_true rfl) (Nat.le_of_ble_eq_true rfl) (⟨rfl, rfl⟩)
  · refine rr_met (own := R_Pr) (kd := (false, none)) (by decide +kernel) rfl (fun h => by cases h) rfl (Nat.le_of_ble_eq_true rfl) ?_
    refine rr_iload_n d_Pr_checkIndex_0 rfl rfl ?_
    refine rr_if_lt 9 d_Pr_checkIndex_1 (by decide) (fun c9 => absurd c9 (nI_pos (by omega))) (fun _ => ?_)
    refine rr_iload_n d_Pr_checkIndex_4 rfl rfl ?_
    refine rr_iload_n d_Pr_checkIndex_5 rfl rfl ?_
    refine rr_icmp_lt 16 d_Pr_checkIndex_6 (by decide) (fun _ => ?_) (fun c9 => absurd (nI_lt hi (by omega)) c9)
    refine rr_iload_n d_Pr_checkIndex_16 rfl rfl ?_
    exact rr_ireturn d_Pr_checkIndex_17 rfl rfl (Nat.le_of_ble_eq_true rfl) (Nat.le_of_ble_eq_true rfl) (⟨rfl, rfl⟩)

set_option maxRecDepth 100000 in
set_option maxHeartbeats 4000000 in
theorem s_St_checkIndex {h : rr_H} {i j : Nat} (hj : j < rr_nS) (hi : i < rr_len.getD j 0) : rr_Spec 1 y_St_checkIndex c_St_checkIndex 2 none 0 0 [.int (nI i), .int (nI (rr_len.getD j 0))] (h) (fun r h1 => r = none ∧ h1 = h) := by
  refine rr_met (own := R_St) (kd := (false, none)) (by decide +kernel) rfl (fun h => by cases h) rfl (Nat.le_of_ble_eq_true rfl) ?_
  refine rr_iload_n d_St_checkIndex_0 rfl rfl ?_
  refine rr_iload_n d_St_checkIndex_1 rfl rfl ?_
  refine rr_getsF d_St_checkIndex_2 fs_St_1053 (fun v hv => ?_)
  refine rr_callS d_St_checkIndex_5 il_St_1059 m_Pr_checkIndex (s_Pr_checkIndex hj hi hv) rfl rfl (Nat.le_of_ble_eq_true rfl) (Nat.le_of_ble_eq_true rfl) (Nat.le_of_ble_eq_true rfl) (Nat.le_of_ble_eq_true rfl) (Nat.le_of_ble_eq_true rfl) (fun r h1 hq => ?_)
  obtain ⟨rfl, rfl⟩ := hq
  refine rr_pop d_St_checkIndex_8 rfl ?_
  exact rr_return d_St_checkIndex_9 rfl (Nat.le_of_ble_eq_true rfl) (Nat.le_of_ble_eq_true rfl) (⟨rfl, rfl⟩)

set_option maxRecDepth 100000 in
set_option maxHeartbeats 4000000 in
theorem s_Sl_charAt {h : rr_H} {i j : Nat} (hj : j < rr_nS) (hi : i < rr_len.getD j 0) : rr_Spec 2 y_Sl_charAt c_Sl_charAt 2 (some .char) 0 0 [.ref (rr_K0 + (100 + j)), .int (nI i)] (h) (fun r h1 => r = some (.int (sp_ch j i)) ∧ h1 = h) := by
  have h6 := sp_len_ok j hj
  obtain ⟨e1, e2⟩ := sp_ch_ok j hj i (by omega)
  refine rr_met (own := R_Sl) (kd := (false, none)) (by decide +kernel) rfl (fun h => by cases h) rfl (Nat.le_of_ble_eq_true rfl) ?_
  refine rr_iload_n d_Sl_charAt_0 rfl rfl ?_
  refine rr_aload_n d_Sl_charAt_1 rfl rfl ?_
  refine rr_lenS d_Sl_charAt_2 (hj) ?_
  refine rr_callS d_Sl_charAt_3 il_Sl_9 m_St_checkIndex (s_St_checkIndex hj hi) rfl rfl (Nat.le_of_ble_eq_true rfl) (Nat.le_of_ble_eq_true rfl) (Nat.le_of_ble_eq_true rfl) (Nat.le_of_ble_eq_true rfl) (Nat.le_of_ble_eq_true rfl) (fun r h1 hq => ?_)
  obtain ⟨rfl, rfl⟩ := hq
  refine rr_aload_n d_Sl_charAt_6 rfl rfl ?_
  refine rr_iload_n d_Sl_charAt_7 rfl rfl ?_
  refine rr_baldS d_Sl_charAt_8 (hj) (vp_in_nI hi (by omega)) ?_
  refine rr_sipush 255 d_Sl_charAt_9 rfl ?_
  refine rr_iand d_Sl_charAt_12 ?_
  refine rr_i2c d_Sl_charAt_13 ?_
  rw [nI_clamp (by omega), show (rr_byt.getD j []).getD i 0 = sp_ch j i from rfl, e1]
  exact rr_ireturn d_Sl_charAt_14 rfl e2 (Nat.le_of_ble_eq_true rfl) (Nat.le_of_ble_eq_true rfl) (⟨rfl, rfl⟩)

set_option maxRecDepth 100000 in
set_option maxHeartbeats 4000000 in
theorem s_St_charAt {h : rr_H} {i j : Nat} (hj : j < rr_nS) (hi : i < rr_len.getD j 0) : rr_Spec 3 y_St_charAt c_St_charAt 2 (some .char) 0 0 [.ref (rr_K0 + j), .int (nI i)] (h) (fun r h1 => r = some (.int (sp_ch j i)) ∧ h1 = h) := by
  have h6 := sp_len_ok j hj
  obtain ⟨e1, e2⟩ := sp_ch_ok j hj i (by omega)
  refine rr_met (own := R_St) (kd := (false, none)) (by decide +kernel) rfl (fun h => by cases h) rfl (Nat.le_of_ble_eq_true rfl) ?_
  refine rr_aload_n d_St_charAt_0 rfl rfl ?_
  refine rr_callS0 d_St_charAt_1 il_St_492 m_St_isLatin1 (s_St_isLatin1 hj) hj rfl rfl rfl (Nat.le_of_ble_eq_true rfl) (Nat.le_of_ble_eq_true rfl) (Nat.le_of_ble_eq_true rfl) (Nat.le_of_ble_eq_true rfl) (Nat.le_of_ble_eq_true rfl) (fun r h1 hq => ?_)
  obtain ⟨rfl, rfl⟩ := hq
  refine rr_if_eq 16 d_St_charAt_4 (by decide) (fun c9 => absurd c9 (by decide)) (fun _ => ?_)
  refine rr_aload_n d_St_charAt_7 rfl rfl ?_
  refine rr_getSv d_St_charAt_8 fs_St_9 (hj) ?_
  refine rr_iload_n d_St_charAt_11 rfl rfl ?_
  refine rr_callS d_St_charAt_12 il_St_495 m_Sl_charAt (s_Sl_charAt hj hi) rfl rfl (Nat.le_of_ble_eq_true rfl) (Nat.le_of_ble_eq_true rfl) (Nat.le_of_ble_eq_true rfl) (Nat.le_of_ble_eq_true rfl) (Nat.le_of_ble_eq_true rfl) (fun r h1 hq => ?_)
  obtain ⟨rfl, rfl⟩ := hq
  exact rr_ireturn d_St_charAt_15 rfl e2 (Nat.le_of_ble_eq_true rfl) (Nat.le_of_ble_eq_true rfl) (⟨rfl, rfl⟩)
end
section
/-! Math.min and System.arraycopy, by the kit. -/

theorem ml_To_67 : Cond.methodLink R_To 67 Lib.MathLoose.min_long.x ∈ rr_ws := rr_inw 322 (by decide +kernel) (by decide +kernel)
theorem ml_Mo_90 : Cond.methodLink R_Mo 90 Lib.MathLoose.min_long.x ∈ rr_ws := rr_inw 554 (by decide +kernel) (by decide +kernel)
theorem ml_Ar_304 : Cond.methodLink R_Ar 304 Lib.Math.min.name ∈ rr_ws := rr_inw 618 (by decide +kernel) (by decide +kernel)
theorem mw_J : Cond.static Lib.MathLoose.min_long.x ∈ rr_ws ∧ Cond.initialized "java/lang/Math" ∈ rr_ws ∧ Cond.code Lib.MathLoose.min_long.x Lib.MathLoose.min_long.code 4 (some .long) ∈ rr_ws := ⟨rr_inw 323 (by decide +kernel) (by decide +kernel), rr_inw 58 (by decide +kernel) (by decide +kernel), rr_inw 324 (by decide +kernel) (by decide +kernel)⟩
theorem mw_I : Cond.static Lib.Math.min.name ∈ rr_ws ∧ Cond.initialized "java/lang/Math" ∈ rr_ws ∧ Cond.code Lib.Math.min.name Lib.Math.min.code 2 (some .int) ∈ rr_ws := ⟨rr_inw 619 (by decide +kernel) (by decide +kernel), rr_inw 58 (by decide +kernel) (by decide +kernel), rr_inw 620 (by decide +kernel) (by decide +kernel)⟩
section MATH
variable {own : String} {cc : ByteArray} {nL : Nat} {rt : Option FieldType} {kd : rr_Kd} {R : Room} {Q : Option Value → rr_H → Prop} {kc ks pc : Nat} {lv : List (Nat × Value)} {st : List Value} {h : rr_H}
theorem rr_minJ {idx : Nat} {x y : Int64} (hd : decode cc pc = .ok (.invokestatic idx, 3)) (hm : Cond.methodLink own idx Lib.MathLoose.min_long.x ∈ rr_ws) (hf : 1 ≤ R.frames) (hlo : (st.map fun v => v.category).sum + 15 ≤ R.locals) (hc : kc ≤ R.cells) (hs : ks ≤ R.slots) (k : rr_A own cc nL rt kd R Q kc ks (pc + 3) lv (.long (if y < x then y else x) :: st) h) : rr_A own cc nL rt kd R Q kc ks pc lv (.long y :: .long x :: st) h := by
  intro p l e s m args below meth c E A Qf w0 hC hret H locs ws ls l0 st' hW hS hle hl hlr hst
  obtain ⟨hx, hb, hr, hml, hown, hts, hlk, hin, hSt, hA⟩ := id hC
  obtain ⟨w, u, rfl, hwv, hu⟩ := hst
  obtain ⟨w2, u2, rfl, hwv2, hu2⟩ := hu
  obtain rfl : w = .long y := hwv
  obtain rfl : w2 = .long x := hwv2
  exact va_mmin_long hx hb (by rw [hml]; exact hl.1.symm) hown (hts _ hm) (hts _ mw_J.1) (hts _ mw_J.2.1) (hts _ mw_J.2.2) hf (by rw [hu2.cats]; exact hlo) hc hs hd (k p l e s m args below meth c E A Qf w0 hC hret H locs ws ls l0 _ hW hS hle hl hlr ⟨_, _, rfl, rfl, hu2⟩)
theorem rr_minI {idx : Nat} {x y : Int32} (hd : decode cc pc = .ok (.invokestatic idx, 3)) (hm : Cond.methodLink own idx Lib.Math.min.name ∈ rr_ws) (hf : 1 ≤ R.frames) (hlo : (st.map fun v => v.category).sum + 13 ≤ R.locals) (hc : kc ≤ R.cells) (hs : ks ≤ R.slots) (k : rr_A own cc nL rt kd R Q kc ks (pc + 3) lv (.int (if y < x then y else x) :: st) h) : rr_A own cc nL rt kd R Q kc ks pc lv (.int y :: .int x :: st) h := by
  intro p l e s m args below meth c E A Qf w0 hC hret H locs ws ls l0 st' hW hS hle hl hlr hst
  obtain ⟨hx, hb, hr, hml, hown, hts, hlk, hin, hSt, hA⟩ := id hC
  obtain ⟨w, u, rfl, hwv, hu⟩ := hst
  obtain ⟨w2, u2, rfl, hwv2, hu2⟩ := hu
  obtain rfl : w = .int y := hwv
  obtain rfl : w2 = .int x := hwv2
  exact va_mmin hx hb (by rw [hml]; exact hl.1.symm) hown (hts _ hm) (hts _ mw_I.1) (hts _ mw_I.2.1) (hts _ mw_I.2.2) hf (by rw [hu2.cats]; exact hlo) hc hs hd (k p l e s m args below meth c E A Qf w0 hC hret H locs ws ls l0 _ hW hS hle hl hlr ⟨_, _, rfl, rfl, hu2⟩)
theorem rr_copyI {idx a b n0 n1 : Nat} {f g : Nat → Int32} {sp dp n : Int32} (hd : decode cc pc = .ok (.invokestatic idx, 3)) (hm : Cond.methodLink own idx arraycopyName ∈ rr_ws) (ha : h[a]? = some (.inl (0, n0, .inl f))) (hb2 : h[b]? = some (.inl (0, n1, .inl g))) (h1 : ¬ sp < 0) (h2 : ¬ dp < 0) (h3 : ¬ n < 0) (h4 : sp.toNatClampNeg + n.toNatClampNeg ≤ n0) (h5 : dp.toNatClampNeg + n.toNatClampNeg ≤ n1) (hf : 1 ≤ R.frames) (hlo : (st.map fun v => v.category).sum + 18 ≤ R.locals)
    (k : rr_A own cc nL rt kd R Q kc ks (pc + 3) lv st (h.set b (.inl (0, n1, .inl (va_cpy f g sp.toNatClampNeg dp.toNatClampNeg n.toNatClampNeg))))) (hka : Nat.ble rr_K0 a = false := by rfl) (hkb : Nat.ble rr_K0 b = false := by rfl) : rr_A own cc nL rt kd R Q kc ks pc lv (.int n :: .int dp :: .ref b :: .int sp :: .ref a :: st) h := by
  intro p l e s m args below meth c E A Qf w0 hC hret H locs ws ls l0 st' hW hS hle hl hlr hst
  obtain ⟨hx, hb, hr, hml, hown, hts, hlk, hin, hSt, hA⟩ := id hC
  obtain ⟨w, u, rfl, hwv, hu⟩ := hst
  obtain ⟨w2, u2, rfl, hwv2, hu2⟩ := hu
  obtain ⟨w3, u3, rfl, hwv3, hu3⟩ := hu2
  obtain ⟨w4, u4, rfl, hwv4, hu4⟩ := hu3
  obtain ⟨w5, u5, rfl, hwv5, hu5⟩ := hu4
  obtain rfl : w = .int n := hwv
  obtain rfl : w2 = .int dp := hwv2
  obtain rfl : w4 = .int sp := hwv4
  obtain ⟨b', y, rfl, g1, rfl⟩ := rr_at hW hwv3 hb2 hkb
  obtain ⟨a', y, rfl, g2, rfl⟩ := rr_at hW hwv5 ha hka
  refine va_copyi (D := E.1) hx hb (by rw [hml]; exact hl.1.symm) hown (hts _ hm) (hts _ rr_wSy.1) (hts _ rr_wSy.2.1) (hts _ rr_wSy.2.2) hSt.1 hW.2.1 hW.2.2 hS a b 0 0 g2 g1 rfl rfl rfl h1 h2 h3 h4 h5 (fun _ _ => rfl) hf (by rw [hu5.cats]; exact hlo) hd ?_
  intro H1 locs1 hP1 hD1 hS1
  have hle2 := rr_le.set (y := .inl (E.2.1 0, n1, .inl (va_cpy f g sp.toNatClampNeg dp.toNatClampNeg n.toNatClampNeg))) g1
  exact k p l e s m args below meth c E A Qf w0 hC hret H1 locs1 _ ls l0 _ ⟨hW.1.set g1 rfl, hP1, hD1⟩ hS1 (hle.trans hle2) hl (hlr.mono hle2) (hu5.mono hle2)
end MATH
end
section
/-! What both programs compute: tokens. -/
def sp_b (b : Bool) : Int32 := cond b 1 0
def sp_isL (x : Int32) : Bool := decide (97 ≤ x) && decide (x ≤ 122)
def sp_isD (x : Int32) : Bool := decide (48 ≤ x) && decide (x ≤ 57)
/-- the first place from p on, of the next k, where P doesn't hold -/
def sp_run (P : Int32 → Bool) (f : Nat → Int32) : Nat → Nat → Nat
  | p, 0 => p
  | p, k + 1 => if P (f p) = true then sp_run P f (p + 1) k else p
def sp_dg (x : Int32) : Nat := x.toNatClampNeg - 48
/-- the number that the digits from p on say, a ahead of them -/
def sp_nv (f : Nat → Int32) : Nat → Nat → Nat → Nat
  | _, 0, a => a
  | p, k + 1, a => if sp_isD (f p) = true then sp_nv f (p + 1) k (a * 10 + sp_dg (f p)) else a
def sp_eqs (f : Nat → Int32) (p j : Nat) : Nat → Nat → Bool
  | _, 0 => true
  | i, k + 1 => decide (f (p + i) = sp_ch j i) && sp_eqs f p j (i + 1) k
def sp_spell (f : Nat → Int32) (p e j : Nat) : Bool := decide (p + rr_len.getD j 0 = e) && sp_eqs f p j 0 (rr_len.getD j 0)
/-- kinds of tokens: 0 end, 1 none, 2 if, 3 then, 4 else, 5 and, 6 server, 7 stamp, 8 c, 9 number, 10 = 11 # 12 < 13 > 14 + 15 - 16 * 17 := 18 , 19 ( 20 ) -/
def sp_wk (f : Nat → Int32) (p e : Nat) : Nat := if sp_spell f p e 6 = true then 8 else if sp_spell f p e 0 = true then 2 else if sp_spell f p e 1 = true then 3 else if sp_spell f p e 2 = true then 4 else if sp_spell f p e 3 = true then 5 else if sp_spell f p e 4 = true then 6 else if sp_spell f p e 5 = true then 7 else 1
def sp_sk (x : Int32) : Nat := if x = 61 then 10 else if x = 35 then 11 else if x = 60 then 12 else if x = 62 then 13 else if x = 43 then 14 else if x = 45 then 15 else if x = 42 then 16 else if x = 44 then 18 else if x = 40 then 19 else if x = 41 then 20 else 1
/-- the token at p (no blank, below n): its kind, its value, the place behind it -/
def sp_tok (f : Nat → Int32) (n p : Nat) : Nat × Int32 × Nat :=
  if sp_isL (f p) = true then (sp_wk f p (sp_run sp_isL f p (n - p)), 0, sp_run sp_isL f p (n - p))
  else if sp_isD (f p) = true then (if sp_nv f p (n - p) 0 < 2147483648 then (9, nI (sp_nv f p (n - p) 0), sp_run sp_isD f p (n - p)) else (1, 0, sp_run sp_isD f p (n - p)))
  else if f p = 58 ∧ p + 1 < n ∧ f (p + 1) = 61 then (17, 0, p + 2)
  else (sp_sk (f p), 0, p + 1)
/-- the next token from p on, blanks passed: kind, value, place, the place behind it -/
def sp_next (f : Nat → Int32) (n p : Nat) : Nat × Int32 × Nat × Nat :=
  let q := sp_run (fun x => decide (x = 32)) f p (n - p)
  if q < n then ((sp_tok f n q).1, (sp_tok f n q).2.1, q, (sp_tok f n q).2.2) else (0, 0, n, n)
theorem sp_run_ge {P : Int32 → Bool} {f : Nat → Int32} : ∀ (k p : Nat), p ≤ sp_run P f p k ∧ sp_run P f p k ≤ p + k
  | 0, p => ⟨Nat.le_refl _, Nat.le_refl _⟩
  | k + 1, p => by
    unfold sp_run
    split
    · have := sp_run_ge (P := P) (f := f) k (p + 1)
      omega
    · omega
theorem sp_run_pos {P : Int32 → Bool} {f : Nat → Int32} {k p : Nat} (hk : 0 < k) (hp : P (f p) = true) : p < sp_run P f p k := by
  obtain ⟨k, rfl⟩ : ∃ j, k = j + 1 := ⟨k - 1, by omega⟩
  unfold sp_run
  rw [if_pos hp]
  have := sp_run_ge (P := P) (f := f) k (p + 1)
  omega
theorem sp_isD_of {x : Int32} (h : sp_isD x = true) : ∃ c : Nat, 48 ≤ c ∧ c ≤ 57 ∧ x = nI c := by
  unfold sp_isD at h
  simp only [Bool.and_eq_true, decide_eq_true_eq] at h
  obtain ⟨h1, h2⟩ := h
  have h0 : ¬ x < 0 := by
    intro q
    have a : x.toInt < 0 := by simpa using Int32.lt_iff_toInt_lt.mp q
    have b : (48 : Int) ≤ x.toInt := by simpa using Int32.le_iff_toInt_le.mp h1
    omega
  obtain ⟨j, hj, rfl⟩ := nI_of h0
  refine ⟨j, ?_, ?_, rfl⟩
  · exact (nI_leI (a := 48) (b := j) (by omega) hj).mp h1
  · exact (nI_leI (a := j) (b := 57) hj (by omega)).mp h2
end
section
/-! The tape; cells; counts. -/
/-- a byte is put -/
def ta_b (x s : Int32) : Int32 := vp_nar .byte (x >>> (s &&& 31)).toInt8.toInt32
def ta_4 (f : Nat → Int32) (n : Nat) (x : Int32) : Nat → Int32 := upd (upd (upd (upd f n (ta_b x 24)) (n + 1) (ta_b x 16)) (n + 2) (ta_b x 8)) (n + 3) (ta_b x 0)
def ta_20 (f : Nat → Int32) (n : Nat) (a b c d e : Int32) : Nat → Int32 := ta_4 (ta_4 (ta_4 (ta_4 (ta_4 f n a) (n + 4) b) (n + 8) c) (n + 12) d) (n + 16) e

set_option maxRecDepth 100000 in
set_option maxHeartbeats 4000000 in
theorem s_Ta_append {x0 : va_E} {g : rr_H} {n : Nat} {f : Nat → Int32} {x : Int32} (hn : n + 4 ≤ 400) : rr_Spec 1 y_Ta_append c_Ta_append 3 none 0 0 [.ref 1, .int x] (x0 :: .inr (3, [.ref 2, .int (nI n)]) :: .inl (1, 400, .inl (f)) :: g) (fun r h1 => r = none ∧ h1 = x0 :: .inr (3, [.ref 2, .int (nI (n + 4))]) :: .inl (1, 400, .inl (ta_4 f n x)) :: g) := by
  refine rr_met (own := R_Ta) (kd := (false, none)) (by decide +kernel) rfl (fun h => by cases h) rfl (Nat.le_of_ble_eq_true rfl) ?_
  refine rr_bipush 24 d_Ta_append_0 rfl ?_
  refine rr_istore_n d_Ta_append_2 rfl (by decide) ?_
  refine rr_iload_n d_Ta_append_3 rfl rfl ?_
  refine rr_if_lt 46 d_Ta_append_4 (by decide) (fun c9 => absurd c9 (by decide)) (fun _ => ?_)
  refine rr_aload_n d_Ta_append_7 rfl rfl ?_
  refine rr_getf d_Ta_append_8 fl_Ta_15 rfl rfl ?_
  refine rr_sipush 400 d_Ta_append_11 rfl ?_
  refine rr_icmp_ge 40 d_Ta_append_14 (by decide) (fun c9 => absurd c9 (nI_ge (a := n) (b := 400) (by omega) (by decide))) (fun _ => ?_)
  refine rr_aload_n d_Ta_append_17 rfl rfl ?_
  refine rr_getf d_Ta_append_18 fl_Ta_9 rfl rfl ?_
  refine rr_aload_n d_Ta_append_21 rfl rfl ?_
  refine rr_getf d_Ta_append_22 fl_Ta_15 rfl rfl ?_
  refine rr_iload_n d_Ta_append_25 rfl rfl ?_
  refine rr_iload_n d_Ta_append_26 rfl rfl ?_
  refine rr_ishr d_Ta_append_27 ?_
  refine rr_i2b d_Ta_append_28 ?_
  refine rr_bast d_Ta_append_29 rfl (vp_in_nI (n := n) (by omega) (by decide)) ?_
  refine rr_aload_n d_Ta_append_30 rfl rfl ?_
  refine rr_dup d_Ta_append_31 rfl ?_
  refine rr_getf d_Ta_append_32 fl_Ta_15 rfl rfl ?_
  refine rr_iconst 1 d_Ta_append_35 rfl ?_
  refine rr_iadd d_Ta_append_36 ?_
  refine rr_putf d_Ta_append_37 fl_Ta_15 rfl rfl rfl rfl ?_
  refine rr_iinc (-8) d_Ta_append_40 rfl rfl (by decide) ?_
  refine rr_goto 3 d_Ta_append_43 (by decide) ?_
  rw [nI_1, nI_clamp (by omega)]
  refine rr_iload_n d_Ta_append_3 rfl rfl ?_
  refine rr_if_lt 46 d_Ta_append_4 (by decide) (fun c9 => absurd c9 (by decide)) (fun _ => ?_)
  refine rr_aload_n d_Ta_append_7 rfl rfl ?_
  refine rr_getf d_Ta_append_8 fl_Ta_15 rfl rfl ?_
  refine rr_sipush 400 d_Ta_append_11 rfl ?_
  refine rr_icmp_ge 40 d_Ta_append_14 (by decide) (fun c9 => absurd c9 (nI_ge (a := (n + 1)) (b := 400) (by omega) (by decide))) (fun _ => ?_)
  refine rr_aload_n d_Ta_append_17 rfl rfl ?_
  refine rr_getf d_Ta_append_18 fl_Ta_9 rfl rfl ?_
  refine rr_aload_n d_Ta_append_21 rfl rfl ?_
  refine rr_getf d_Ta_append_22 fl_Ta_15 rfl rfl ?_
  refine rr_iload_n d_Ta_append_25 rfl rfl ?_
  refine rr_iload_n d_Ta_append_26 rfl rfl ?_
  refine rr_ishr d_Ta_append_27 ?_
  refine rr_i2b d_Ta_append_28 ?_
  refine rr_bast d_Ta_append_29 rfl (vp_in_nI (n := (n + 1)) (by omega) (by decide)) ?_
  refine rr_aload_n d_Ta_append_30 rfl rfl ?_
  refine rr_dup d_Ta_append_31 rfl ?_
  refine rr_getf d_Ta_append_32 fl_Ta_15 rfl rfl ?_
  refine rr_iconst 1 d_Ta_append_35 rfl ?_
  refine rr_iadd d_Ta_append_36 ?_
  refine rr_putf d_Ta_append_37 fl_Ta_15 rfl rfl rfl rfl ?_
  refine rr_iinc (-8) d_Ta_append_40 rfl rfl (by decide) ?_
  refine rr_goto 3 d_Ta_append_43 (by decide) ?_
  rw [nI_1, nI_clamp (by omega)]
  refine rr_iload_n d_Ta_append_3 rfl rfl ?_
  refine rr_if_lt 46 d_Ta_append_4 (by decide) (fun c9 => absurd c9 (by decide)) (fun _ => ?_)
  refine rr_aload_n d_Ta_append_7 rfl rfl ?_
  refine rr_getf d_Ta_append_8 fl_Ta_15 rfl rfl ?_
  refine rr_sipush 400 d_Ta_append_11 rfl ?_
  refine rr_icmp_ge 40 d_Ta_append_14 (by decide) (fun c9 => absurd c9 (nI_ge (a := (n + 2)) (b := 400) (by omega) (by decide))) (fun _ => ?_)
  refine rr_aload_n d_Ta_append_17 rfl rfl ?_
  refine rr_getf d_Ta_append_18 fl_Ta_9 rfl rfl ?_
  refine rr_aload_n d_Ta_append_21 rfl rfl ?_
  refine rr_getf d_Ta_append_22 fl_Ta_15 rfl rfl ?_
  refine rr_iload_n d_Ta_append_25 rfl rfl ?_
  refine rr_iload_n d_Ta_append_26 rfl rfl ?_
  refine rr_ishr d_Ta_append_27 ?_
  refine rr_i2b d_Ta_append_28 ?_
  refine rr_bast d_Ta_append_29 rfl (vp_in_nI (n := (n + 2)) (by omega) (by decide)) ?_
  refine rr_aload_n d_Ta_append_30 rfl rfl ?_
  refine rr_dup d_Ta_append_31 rfl ?_
  refine rr_getf d_Ta_append_32 fl_Ta_15 rfl rfl ?_
  refine rr_iconst 1 d_Ta_append_35 rfl ?_
  refine rr_iadd d_Ta_append_36 ?_
  refine rr_putf d_Ta_append_37 fl_Ta_15 rfl rfl rfl rfl ?_
  refine rr_iinc (-8) d_Ta_append_40 rfl rfl (by decide) ?_
  refine rr_goto 3 d_Ta_append_43 (by decide) ?_
  rw [nI_1, nI_clamp (by omega)]
  refine rr_iload_n d_Ta_append_3 rfl rfl ?_
  refine rr_if_lt 46 d_Ta_append_4 (by decide) (fun c9 => absurd c9 (by decide)) (fun _ => ?_)
  refine rr_aload_n d_Ta_append_7 rfl rfl ?_
  refine rr_getf d_Ta_append_8 fl_Ta_15 rfl rfl ?_
  refine rr_sipush 400 d_Ta_append_11 rfl ?_
  refine rr_icmp_ge 40 d_Ta_append_14 (by decide) (fun c9 => absurd c9 (nI_ge (a := (n + 3)) (b := 400) (by omega) (by decide))) (fun _ => ?_)
  refine rr_aload_n d_Ta_append_17 rfl rfl ?_
  refine rr_getf d_Ta_append_18 fl_Ta_9 rfl rfl ?_
  refine rr_aload_n d_Ta_append_21 rfl rfl ?_
  refine rr_getf d_Ta_append_22 fl_Ta_15 rfl rfl ?_
  refine rr_iload_n d_Ta_append_25 rfl rfl ?_
  refine rr_iload_n d_Ta_append_26 rfl rfl ?_
  refine rr_ishr d_Ta_append_27 ?_
  refine rr_i2b d_Ta_append_28 ?_
  refine rr_bast d_Ta_append_29 rfl (vp_in_nI (n := (n + 3)) (by omega) (by decide)) ?_
  refine rr_aload_n d_Ta_append_30 rfl rfl ?_
  refine rr_dup d_Ta_append_31 rfl ?_
  refine rr_getf d_Ta_append_32 fl_Ta_15 rfl rfl ?_
  refine rr_iconst 1 d_Ta_append_35 rfl ?_
  refine rr_iadd d_Ta_append_36 ?_
  refine rr_putf d_Ta_append_37 fl_Ta_15 rfl rfl rfl rfl ?_
  refine rr_iinc (-8) d_Ta_append_40 rfl rfl (by decide) ?_
  refine rr_goto 3 d_Ta_append_43 (by decide) ?_
  rw [nI_1, nI_clamp (by omega)]
  refine rr_iload_n d_Ta_append_3 rfl rfl ?_
  refine rr_if_lt 46 d_Ta_append_4 (by decide) (fun _ => ?_) (fun c9 => absurd (by decide) c9)
  exact rr_return d_Ta_append_46 rfl (Nat.le_of_ble_eq_true rfl) (Nat.le_of_ble_eq_true rfl) (⟨rfl, rfl⟩)

set_option maxRecDepth 100000 in
set_option maxHeartbeats 4000000 in
theorem s_Ru_feed {g : rr_H} {n : Nat} {f : Nat → Int32} {a b c d e : Int32} (hn : n ≤ 400) : rr_Spec 2 y_Ru_feed c_Ru_feed 6 (some .int) 0 0 [.ref 0, .int a, .int b, .int c, .int d, .int e] (.inr (5, [.ref 1, .ref 3, .ref 12, .ref 20]) :: .inr (3, [.ref 2, .int (nI n)]) :: .inl (1, 400, .inl (f)) :: g) (fun r h1 => if n + 20 ≤ 400 then r = some (.int (nI (n + 20))) ∧ h1 = .inr (5, [.ref 1, .ref 3, .ref 12, .ref 20]) :: .inr (3, [.ref 2, .int (nI (n + 20))]) :: .inl (1, 400, .inl (ta_20 f n a b c d e)) :: g else r = some (.int (-3)) ∧ h1 = .inr (5, [.ref 1, .ref 3, .ref 12, .ref 20]) :: .inr (3, [.ref 2, .int (nI n)]) :: .inl (1, 400, .inl (f)) :: g) := by
  refine rr_met (own := R_Ru) (kd := (false, none)) (by decide +kernel) rfl (fun h => by cases h) rfl (Nat.le_of_ble_eq_true rfl) ?_
  refine rr_aload_n d_Ru_feed_0 rfl rfl ?_
  refine rr_getf d_Ru_feed_1 fl_Ru_12 rfl rfl ?_
  refine rr_getf d_Ru_feed_4 fl_Ru_37 rfl rfl ?_
  refine rr_bipush 20 d_Ru_feed_7 rfl ?_
  refine rr_iadd d_Ru_feed_9 ?_
  refine rr_sipush 400 d_Ru_feed_10 rfl ?_
  rw [show (nI n + 20 : Int32) = nI (n + 20) from nI_add n 20]
  refine rr_icmp_le 19 d_Ru_feed_13 (by decide) (fun hc => ?_) (fun hc => ?_)
  · have h20 : n + 20 ≤ 400 := (nI_leI (by omega) (by decide)).mp hc
    simp only [if_pos h20]
    refine rr_aload_n d_Ru_feed_19 rfl rfl ?_
    refine rr_getf d_Ru_feed_20 fl_Ru_12 rfl rfl ?_
    refine rr_iload_n d_Ru_feed_23 rfl rfl ?_
    refine rr_callV d_Ru_feed_24 il_Ru_41 m_Ta_append (s_Ta_append (n := n) (by omega)) rfl rfl rfl rfl (Nat.le_of_ble_eq_true rfl) (Nat.le_of_ble_eq_true rfl) (Nat.le_of_ble_eq_true rfl) (Nat.le_of_ble_eq_true rfl) (Nat.le_of_ble_eq_true rfl) (fun r h1 hq => ?_)
    obtain ⟨rfl, rfl⟩ := hq
    refine rr_aload_n d_Ru_feed_27 rfl rfl ?_
    refine rr_getf d_Ru_feed_28 fl_Ru_12 rfl rfl ?_
    refine rr_iload_n d_Ru_feed_31 rfl rfl ?_
    refine rr_callV d_Ru_feed_32 il_Ru_41 m_Ta_append (s_Ta_append (n := (n + 4)) (by omega)) rfl rfl rfl rfl (Nat.le_of_ble_eq_true rfl) (Nat.le_of_ble_eq_true rfl) (Nat.le_of_ble_eq_true rfl) (Nat.le_of_ble_eq_true rfl) (Nat.le_of_ble_eq_true rfl) (fun r h1 hq => ?_)
    obtain ⟨rfl, rfl⟩ := hq
    refine rr_aload_n d_Ru_feed_35 rfl rfl ?_
    refine rr_getf d_Ru_feed_36 fl_Ru_12 rfl rfl ?_
    refine rr_iload_n d_Ru_feed_39 rfl rfl ?_
    refine rr_callV d_Ru_feed_40 il_Ru_41 m_Ta_append (s_Ta_append (n := (n + 8)) (by omega)) rfl rfl rfl rfl (Nat.le_of_ble_eq_true rfl) (Nat.le_of_ble_eq_true rfl) (Nat.le_of_ble_eq_true rfl) (Nat.le_of_ble_eq_true rfl) (Nat.le_of_ble_eq_true rfl) (fun r h1 hq => ?_)
    obtain ⟨rfl, rfl⟩ := hq
    refine rr_aload_n d_Ru_feed_43 rfl rfl ?_
    refine rr_getf d_Ru_feed_44 fl_Ru_12 rfl rfl ?_
    refine rr_iload d_Ru_feed_47 rfl ?_
    refine rr_callV d_Ru_feed_49 il_Ru_41 m_Ta_append (s_Ta_append (n := (n + 12)) (by omega)) rfl rfl rfl rfl (Nat.le_of_ble_eq_true rfl) (Nat.le_of_ble_eq_true rfl) (Nat.le_of_ble_eq_true rfl) (Nat.le_of_ble_eq_true rfl) (Nat.le_of_ble_eq_true rfl) (fun r h1 hq => ?_)
    obtain ⟨rfl, rfl⟩ := hq
    refine rr_aload_n d_Ru_feed_52 rfl rfl ?_
    refine rr_getf d_Ru_feed_53 fl_Ru_12 rfl rfl ?_
    refine rr_iload d_Ru_feed_56 rfl ?_
    refine rr_callV d_Ru_feed_58 il_Ru_41 m_Ta_append (s_Ta_append (n := (n + 16)) (by omega)) rfl rfl rfl rfl (Nat.le_of_ble_eq_true rfl) (Nat.le_of_ble_eq_true rfl) (Nat.le_of_ble_eq_true rfl) (Nat.le_of_ble_eq_true rfl) (Nat.le_of_ble_eq_true rfl) (fun r h1 hq => ?_)
    obtain ⟨rfl, rfl⟩ := hq
    refine rr_aload_n d_Ru_feed_61 rfl rfl ?_
    refine rr_getf d_Ru_feed_62 fl_Ru_12 rfl rfl ?_
    refine rr_getf d_Ru_feed_65 fl_Ru_37 rfl rfl ?_
    exact rr_ireturn d_Ru_feed_68 rfl rfl (Nat.le_of_ble_eq_true rfl) (Nat.le_of_ble_eq_true rfl) (⟨rfl, rfl⟩)
  · have h20 : ¬ n + 20 ≤ 400 := fun q => hc ((nI_leI (by omega) (by decide)).mpr q)
    simp only [if_neg h20]
    refine rr_bipush (-3) d_Ru_feed_16 rfl ?_
    exact rr_ireturn d_Ru_feed_18 rfl rfl (Nat.le_of_ble_eq_true rfl) (Nat.le_of_ble_eq_true rfl) (⟨rfl, rfl⟩)

set_option maxRecDepth 100000 in
set_option maxHeartbeats 4000000 in
theorem s_Ru_end {g : rr_H} {n : Nat} {f : Nat → Int32} {x : Int32} (hn : n ≤ 400) : rr_Spec 1 y_Ru_end c_Ru_end 2 (some .int) 0 0 [.ref 0, .int x] (.inr (5, [.ref 1, .ref 3, .ref 12, .ref 20]) :: .inr (3, [.ref 2, .int (nI n)]) :: .inl (1, 400, .inl (f)) :: g) (fun r h1 => (∃ k : Nat, k ≤ n ∧ x = nI k ∧ r = some (.int x) ∧ h1 = .inr (5, [.ref 1, .ref 3, .ref 12, .ref 20]) :: .inr (3, [.ref 2, .int (nI k)]) :: .inl (1, 400, .inl (f)) :: g) ∨ ((x < 0 ∨ ¬ x ≤ nI n) ∧ r = some (.int (-1)) ∧ h1 = .inr (5, [.ref 1, .ref 3, .ref 12, .ref 20]) :: .inr (3, [.ref 2, .int (nI n)]) :: .inl (1, 400, .inl (f)) :: g)) := by
  refine rr_met (own := R_Ru) (kd := (false, none)) (by decide +kernel) rfl (fun h => by cases h) rfl (Nat.le_of_ble_eq_true rfl) ?_
  refine rr_iload_n d_Ru_end_0 rfl rfl ?_
  refine rr_if_lt 15 d_Ru_end_1 (by decide) (fun hc => ?_) (fun hc => ?_)
  · skip
    refine rr_iconst (-1) d_Ru_end_15 rfl ?_
    exact rr_ireturn d_Ru_end_16 rfl rfl (Nat.le_of_ble_eq_true rfl) (Nat.le_of_ble_eq_true rfl) (Or.inr ⟨Or.inl hc, rfl, rfl⟩)
  · skip
    refine rr_iload_n d_Ru_end_4 rfl rfl ?_
    refine rr_aload_n d_Ru_end_5 rfl rfl ?_
    refine rr_getf d_Ru_end_6 fl_Ru_12 rfl rfl ?_
    refine rr_getf d_Ru_end_9 fl_Ru_37 rfl rfl ?_
    refine rr_icmp_le 17 d_Ru_end_12 (by decide) (fun hd => ?_) (fun hd => ?_)
    · obtain ⟨k, hk, rfl⟩ := nI_of2 (nI_toInt (n := n) (by omega)) hc hd
      refine rr_aload_n d_Ru_end_17 rfl rfl ?_
      refine rr_getf d_Ru_end_18 fl_Ru_12 rfl rfl ?_
      refine rr_iload_n d_Ru_end_21 rfl rfl ?_
      refine rr_putf d_Ru_end_22 fl_Ru_37 rfl rfl rfl rfl ?_
      refine rr_iload_n d_Ru_end_25 rfl rfl ?_
      exact rr_ireturn d_Ru_end_26 rfl rfl (Nat.le_of_ble_eq_true rfl) (Nat.le_of_ble_eq_true rfl) (Or.inl ⟨k, hk, rfl, rfl, rfl⟩)
    · skip
      refine rr_iconst (-1) d_Ru_end_15 rfl ?_
      exact rr_ireturn d_Ru_end_16 rfl rfl (Nat.le_of_ble_eq_true rfl) (Nat.le_of_ble_eq_true rfl) (Or.inr ⟨Or.inr hd, rfl, rfl⟩)

set_option maxRecDepth 100000 in
set_option maxHeartbeats 4000000 in
theorem s_Ru_isCell {h : rr_H} {x : Int32} : rr_Spec 0 y_Ru_isCell c_Ru_isCell 1 (some .boolean) 0 0 [.int x] (h) (fun r h1 => r = some (.int (sp_b (decide (0 ≤ x ∧ x < 32)))) ∧ h1 = h) := by
  refine rr_met (own := R_Ru) (kd := (false, none)) (by decide +kernel) rfl (fun h => by cases h) rfl (Nat.le_of_ble_eq_true rfl) ?_
  refine rr_iload_n d_Ru_isCell_0 rfl rfl ?_
  refine rr_if_lt 14 d_Ru_isCell_1 (by decide) (fun hc => ?_) (fun hc => ?_)
  · have e : decide (0 ≤ x ∧ x < 32) = false := decide_eq_false (fun q => Int32.not_le.mpr hc q.1)
    rw [e]
    refine rr_iconst 0 d_Ru_isCell_14 rfl ?_
    exact rr_ireturn d_Ru_isCell_15 rfl rfl (Nat.le_of_ble_eq_true rfl) (Nat.le_of_ble_eq_true rfl) (⟨rfl, rfl⟩)
  · skip
    refine rr_iload_n d_Ru_isCell_4 rfl rfl ?_
    refine rr_bipush 32 d_Ru_isCell_5 rfl ?_
    refine rr_icmp_ge 14 d_Ru_isCell_7 (by decide) (fun hd => ?_) (fun hd => ?_)
    · have e : decide (0 ≤ x ∧ x < 32) = false := decide_eq_false (fun q => Int32.not_lt.mpr hd q.2)
      rw [e]
      refine rr_iconst 0 d_Ru_isCell_14 rfl ?_
      exact rr_ireturn d_Ru_isCell_15 rfl rfl (Nat.le_of_ble_eq_true rfl) (Nat.le_of_ble_eq_true rfl) (⟨rfl, rfl⟩)
    · have e : decide (0 ≤ x ∧ x < 32) = true := decide_eq_true ⟨Int32.not_lt.mp hc, Int32.not_le.mp hd⟩
      rw [e]
      refine rr_iconst 1 d_Ru_isCell_10 rfl ?_
      refine rr_goto 15 d_Ru_isCell_11 (by decide) ?_
      exact rr_ireturn d_Ru_isCell_15 rfl rfl (Nat.le_of_ble_eq_true rfl) (Nat.le_of_ble_eq_true rfl) (⟨rfl, rfl⟩)

theorem ce_in {x : Int32} (h : 0 ≤ x ∧ x < 32) : ∃ k : Nat, k < 32 ∧ x = nI k := by
  obtain ⟨k, hk, rfl⟩ := nI_of (Int32.not_lt.mpr h.1)
  exact ⟨k, (nI_ltI (b := 32) hk (by decide)).mp h.2, rfl⟩

set_option maxRecDepth 100000 in
set_option maxHeartbeats 4000000 in
theorem s_Ru_cell {x1 x2 x3 x4 x5 x6 x7 x8 x9 x10 x11 : va_E} {g : rr_H} {fc : Nat → Int32} {hg ef cg ru x : Int32} : rr_Spec 1 y_Ru_cell c_Ru_cell 2 (some .long) 0 0 [.ref 0, .int x] (.inr (5, [.ref 1, .ref 3, .ref 12, .ref 20]) :: x1 :: x2 :: x3 :: x4 :: x5 :: x6 :: x7 :: x8 :: x9 :: x10 :: x11 :: .inr (1, [.ref 13, .ref 14, .int hg, .ref 15, .ref 16, .int ef, .ref 17, .ref 18, .int cg, .ref 19, .int ru]) :: .inl (0, 32, .inl (fc)) :: g) (fun r h1 => r = some (.long (if 0 ≤ x ∧ x < 32 then (fc x.toNatClampNeg).toInt64 else 1099511627776)) ∧ h1 = .inr (5, [.ref 1, .ref 3, .ref 12, .ref 20]) :: x1 :: x2 :: x3 :: x4 :: x5 :: x6 :: x7 :: x8 :: x9 :: x10 :: x11 :: .inr (1, [.ref 13, .ref 14, .int hg, .ref 15, .ref 16, .int ef, .ref 17, .ref 18, .int cg, .ref 19, .int ru]) :: .inl (0, 32, .inl (fc)) :: g) := by
  refine rr_met (own := R_Ru) (kd := (false, none)) (by decide +kernel) rfl (fun h => by cases h) rfl (Nat.le_of_ble_eq_true rfl) ?_
  refine rr_iload_n d_Ru_cell_0 rfl rfl ?_
  refine rr_callS d_Ru_cell_1 il_Ru_64 m_Ru_isCell (s_Ru_isCell) rfl rfl (Nat.le_of_ble_eq_true rfl) (Nat.le_of_ble_eq_true rfl) (Nat.le_of_ble_eq_true rfl) (Nat.le_of_ble_eq_true rfl) (Nat.le_of_ble_eq_true rfl) (fun r h1 hq => ?_)
  obtain ⟨rfl, rfl⟩ := hq
  by_cases hx : 0 ≤ x ∧ x < 32
  · rw [if_pos hx, show decide (0 ≤ x ∧ x < 32) = true from decide_eq_true hx]
    obtain ⟨k, hk, rfl⟩ := ce_in hx
    refine rr_if_eq 20 d_Ru_cell_4 (by decide) (fun c9 => absurd c9 (by decide)) (fun _ => ?_)
    refine rr_aload_n d_Ru_cell_7 rfl rfl ?_
    refine rr_getf d_Ru_cell_8 fl_Ru_26 rfl rfl ?_
    refine rr_getf d_Ru_cell_11 fl_Ru_68 rfl rfl ?_
    refine rr_iload_n d_Ru_cell_14 rfl rfl ?_
    refine rr_iald d_Ru_cell_15 rfl (vp_in_nI hk (by decide)) ?_
    refine rr_i2l d_Ru_cell_16 ?_
    refine rr_goto 23 d_Ru_cell_17 (by decide) ?_
    exact rr_lreturn d_Ru_cell_23 rfl (Nat.le_of_ble_eq_true rfl) (Nat.le_of_ble_eq_true rfl) (⟨rfl, rfl⟩)
  · rw [if_neg hx, show decide (0 ≤ x ∧ x < 32) = false from decide_eq_false hx]
    refine rr_if_eq 20 d_Ru_cell_4 (by decide) (fun _ => ?_) (fun c9 => absurd (rfl) c9)
    refine rr_ldc2 d_Ru_cell_20 kl_Ru_72 ?_
    exact rr_lreturn d_Ru_cell_23 rfl (Nat.le_of_ble_eq_true rfl) (Nat.le_of_ble_eq_true rfl) (⟨rfl, rfl⟩)

set_option maxRecDepth 100000 in
set_option maxHeartbeats 4000000 in
theorem s_Ru_set {x1 x2 x3 x4 x5 x6 x7 x8 x9 x10 x11 : va_E} {g : rr_H} {fc : Nat → Int32} {ru : Nat} {hg ef cg x v : Int32} (hru : ru ≤ 200) : rr_Spec 1 y_Ru_set c_Ru_set 3 (some .int) 0 0 [.ref 0, .int x, .int v] (.inr (5, [.ref 1, .ref 3, .ref 12, .ref 20]) :: x1 :: x2 :: x3 :: x4 :: x5 :: x6 :: x7 :: x8 :: x9 :: x10 :: x11 :: .inr (1, [.ref 13, .ref 14, .int hg, .ref 15, .ref 16, .int ef, .ref 17, .ref 18, .int cg, .ref 19, .int (nI ru)]) :: .inl (0, 32, .inl (fc)) :: g) (fun r h1 => if 0 ≤ x ∧ x < 32 then (if 0 < ru then r = some (.int (-3)) ∧ h1 = .inr (5, [.ref 1, .ref 3, .ref 12, .ref 20]) :: x1 :: x2 :: x3 :: x4 :: x5 :: x6 :: x7 :: x8 :: x9 :: x10 :: x11 :: .inr (1, [.ref 13, .ref 14, .int hg, .ref 15, .ref 16, .int ef, .ref 17, .ref 18, .int cg, .ref 19, .int (nI ru)]) :: .inl (0, 32, .inl (fc)) :: g else r = some (.int 0) ∧ h1 = .inr (5, [.ref 1, .ref 3, .ref 12, .ref 20]) :: x1 :: x2 :: x3 :: x4 :: x5 :: x6 :: x7 :: x8 :: x9 :: x10 :: x11 :: .inr (1, [.ref 13, .ref 14, .int hg, .ref 15, .ref 16, .int ef, .ref 17, .ref 18, .int cg, .ref 19, .int (nI ru)]) :: .inl (0, 32, .inl (upd fc x.toNatClampNeg v)) :: g) else r = some (.int (-1)) ∧ h1 = .inr (5, [.ref 1, .ref 3, .ref 12, .ref 20]) :: x1 :: x2 :: x3 :: x4 :: x5 :: x6 :: x7 :: x8 :: x9 :: x10 :: x11 :: .inr (1, [.ref 13, .ref 14, .int hg, .ref 15, .ref 16, .int ef, .ref 17, .ref 18, .int cg, .ref 19, .int (nI ru)]) :: .inl (0, 32, .inl (fc)) :: g) := by
  refine rr_met (own := R_Ru) (kd := (false, none)) (by decide +kernel) rfl (fun h => by cases h) rfl (Nat.le_of_ble_eq_true rfl) ?_
  refine rr_iload_n d_Ru_set_0 rfl rfl ?_
  refine rr_callS d_Ru_set_1 il_Ru_64 m_Ru_isCell (s_Ru_isCell) rfl rfl (Nat.le_of_ble_eq_true rfl) (Nat.le_of_ble_eq_true rfl) (Nat.le_of_ble_eq_true rfl) (Nat.le_of_ble_eq_true rfl) (Nat.le_of_ble_eq_true rfl) (fun r h1 hq => ?_)
  obtain ⟨rfl, rfl⟩ := hq
  by_cases hx : 0 ≤ x ∧ x < 32
  · simp only [if_pos hx]
    rw [show decide (0 ≤ x ∧ x < 32) = true from decide_eq_true hx]
    obtain ⟨k, hk, rfl⟩ := ce_in hx
    refine rr_if_ne 9 d_Ru_set_4 (by decide) (fun _ => ?_) (fun c9 => absurd c9 (by decide))
    refine rr_aload_n d_Ru_set_9 rfl rfl ?_
    refine rr_getf d_Ru_set_10 fl_Ru_26 rfl rfl ?_
    refine rr_getf d_Ru_set_13 fl_Ru_74 rfl rfl ?_
    refine rr_if_le 22 d_Ru_set_16 (by decide) (fun hc => ?_) (fun hc => ?_)
    · have h0 : ¬ 0 < ru := fun q => nI_nle q (by omega) hc
      simp only [if_neg h0]
      refine rr_aload_n d_Ru_set_22 rfl rfl ?_
      refine rr_getf d_Ru_set_23 fl_Ru_26 rfl rfl ?_
      refine rr_getf d_Ru_set_26 fl_Ru_68 rfl rfl ?_
      refine rr_iload_n d_Ru_set_29 rfl rfl ?_
      refine rr_iload_n d_Ru_set_30 rfl rfl ?_
      refine rr_iast d_Ru_set_31 rfl (vp_in_nI hk (by decide)) ?_
      refine rr_iconst 0 d_Ru_set_32 rfl ?_
      exact rr_ireturn d_Ru_set_33 rfl rfl (Nat.le_of_ble_eq_true rfl) (Nat.le_of_ble_eq_true rfl) (⟨rfl, rfl⟩)
    · have h0 : 0 < ru := by
        rcases Nat.eq_zero_or_pos ru with rfl | q
        · exact absurd (by decide) hc
        · exact q
      simp only [if_pos h0]
      refine rr_bipush (-3) d_Ru_set_19 rfl ?_
      exact rr_ireturn d_Ru_set_21 rfl rfl (Nat.le_of_ble_eq_true rfl) (Nat.le_of_ble_eq_true rfl) (⟨rfl, rfl⟩)
  · simp only [if_neg hx]
    rw [show decide (0 ≤ x ∧ x < 32) = false from decide_eq_false hx]
    refine rr_if_ne 9 d_Ru_set_4 (by decide) (fun c9 => absurd (rfl) c9) (fun _ => ?_)
    refine rr_iconst (-1) d_Ru_set_7 rfl ?_
    exact rr_ireturn d_Ru_set_8 rfl rfl (Nat.le_of_ble_eq_true rfl) (Nat.le_of_ble_eq_true rfl) (⟨rfl, rfl⟩)

set_option maxRecDepth 100000 in
set_option maxHeartbeats 4000000 in
theorem s_Ru_count {x3 x4 x5 x6 x7 x8 x9 x10 x11 : va_E} {g : rr_H} {n : Nat} {f : Nat → Int32} {hg ef cg ru x : Int32} : rr_Spec 0 y_Ru_count c_Ru_count 2 (some .int) 0 0 [.ref 0, .int x] (.inr (5, [.ref 1, .ref 3, .ref 12, .ref 20]) :: .inr (3, [.ref 2, .int (nI n)]) :: .inl (1, 400, .inl (f)) :: x3 :: x4 :: x5 :: x6 :: x7 :: x8 :: x9 :: x10 :: x11 :: .inr (1, [.ref 13, .ref 14, .int hg, .ref 15, .ref 16, .int ef, .ref 17, .ref 18, .int cg, .ref 19, .int ru]) :: g) (fun r h1 => r = some (.int (if x = 0 then ru else if x = 1 then nI n else -1)) ∧ h1 = .inr (5, [.ref 1, .ref 3, .ref 12, .ref 20]) :: .inr (3, [.ref 2, .int (nI n)]) :: .inl (1, 400, .inl (f)) :: x3 :: x4 :: x5 :: x6 :: x7 :: x8 :: x9 :: x10 :: x11 :: .inr (1, [.ref 13, .ref 14, .int hg, .ref 15, .ref 16, .int ef, .ref 17, .ref 18, .int cg, .ref 19, .int ru]) :: g) := by
  refine rr_met (own := R_Ru) (kd := (false, none)) (by decide +kernel) rfl (fun h => by cases h) rfl (Nat.le_of_ble_eq_true rfl) ?_
  refine rr_iload_n d_Ru_count_0 rfl rfl ?_
  by_cases h0 : x = 0
  · subst h0
    refine rr_lsw 28 27 d_Ru_count_1 (by decide) (by decide) (by decide) ?_
    refine rr_aload_n d_Ru_count_28 rfl rfl ?_
    refine rr_getf d_Ru_count_29 fl_Ru_26 rfl rfl ?_
    refine rr_getf d_Ru_count_32 fl_Ru_74 rfl rfl ?_
    exact rr_ireturn d_Ru_count_35 rfl rfl (Nat.le_of_ble_eq_true rfl) (Nat.le_of_ble_eq_true rfl) (⟨rfl, rfl⟩)
  · by_cases h1 : x = 1
    · subst h1
      refine rr_lsw 36 35 d_Ru_count_1 (by decide) (by decide) (by decide) ?_
      refine rr_aload_n d_Ru_count_36 rfl rfl ?_
      refine rr_getf d_Ru_count_37 fl_Ru_12 rfl rfl ?_
      refine rr_getf d_Ru_count_40 fl_Ru_37 rfl rfl ?_
      exact rr_ireturn d_Ru_count_43 rfl rfl (Nat.le_of_ble_eq_true rfl) (Nat.le_of_ble_eq_true rfl) (⟨rfl, rfl⟩)
    · rw [if_neg h0, if_neg h1]
      refine rr_lsw 44 43 d_Ru_count_1 (by decide) (by rw [lv_osw h0 (by decide), lv_osw h1 (by decide)]; rfl) (by decide) ?_
      refine rr_iconst (-1) d_Ru_count_44 rfl ?_
      exact rr_ireturn d_Ru_count_45 rfl rfl (Nat.le_of_ble_eq_true rfl) (Nat.le_of_ble_eq_true rfl) (⟨rfl, rfl⟩)
end
section
/-! The tokens. -/

set_option maxRecDepth 100000 in
set_option maxHeartbeats 4000000 in
theorem s_To_add {x0 x3 : va_E} {g : rr_H} {n m : Nat} {f fk fv fp : Nat → Int32} {a b c : Int32} (hm : m ≤ 400) : rr_Spec 0 y_To_add c_To_add 4 none 0 0 [.ref 4, .int a, .int b, .int c] (x0 :: .inr (3, [.ref 2, .int (nI n)]) :: .inl (1, 400, .inl (f)) :: x3 :: .inr (4, [.ref 5, .ref 6, .ref 7, .int (nI m)]) :: .inl (0, 401, .inl (fk)) :: .inl (0, 401, .inl (fv)) :: .inl (0, 401, .inl (fp)) :: g) (fun r h1 => r = none ∧ h1 = x0 :: .inr (3, [.ref 2, .int (nI n)]) :: .inl (1, 400, .inl (f)) :: x3 :: .inr (4, [.ref 5, .ref 6, .ref 7, .int (nI (m + 1))]) :: .inl (0, 401, .inl (upd fk m a)) :: .inl (0, 401, .inl (upd fv m b)) :: .inl (0, 401, .inl (upd fp m c)) :: g) := by
  refine rr_met (own := R_To) (kd := (false, none)) (by decide +kernel) rfl (fun h => by cases h) rfl (Nat.le_of_ble_eq_true rfl) ?_
  refine rr_aload_n d_To_add_0 rfl rfl ?_
  refine rr_getf d_To_add_1 fl_To_21 rfl rfl ?_
  refine rr_sipush 400 d_To_add_4 rfl ?_
  refine rr_icmp_gt 50 d_To_add_7 (by decide) (fun c9 => absurd c9 (nI_nlt (a := 400) (b := m) hm (by decide))) (fun _ => ?_)
  refine rr_aload_n d_To_add_10 rfl rfl ?_
  refine rr_getf d_To_add_11 fl_To_9 rfl rfl ?_
  refine rr_aload_n d_To_add_14 rfl rfl ?_
  refine rr_getf d_To_add_15 fl_To_21 rfl rfl ?_
  refine rr_iload_n d_To_add_18 rfl rfl ?_
  refine rr_iast d_To_add_19 rfl (vp_in_nI (n := m) (by omega) (by decide)) ?_
  refine rr_aload_n d_To_add_20 rfl rfl ?_
  refine rr_getf d_To_add_21 fl_To_15 rfl rfl ?_
  refine rr_aload_n d_To_add_24 rfl rfl ?_
  refine rr_getf d_To_add_25 fl_To_21 rfl rfl ?_
  refine rr_iload_n d_To_add_28 rfl rfl ?_
  refine rr_iast d_To_add_29 rfl (vp_in_nI (n := m) (by omega) (by decide)) ?_
  refine rr_aload_n d_To_add_30 rfl rfl ?_
  refine rr_getf d_To_add_31 fl_To_18 rfl rfl ?_
  refine rr_aload_n d_To_add_34 rfl rfl ?_
  refine rr_getf d_To_add_35 fl_To_21 rfl rfl ?_
  refine rr_iload_n d_To_add_38 rfl rfl ?_
  refine rr_iast d_To_add_39 rfl (vp_in_nI (n := m) (by omega) (by decide)) ?_
  refine rr_aload_n d_To_add_40 rfl rfl ?_
  refine rr_dup d_To_add_41 rfl ?_
  refine rr_getf d_To_add_42 fl_To_21 rfl rfl ?_
  refine rr_iconst 1 d_To_add_45 rfl ?_
  refine rr_iadd d_To_add_46 ?_
  refine rr_putf d_To_add_47 fl_To_21 rfl rfl rfl rfl ?_
  rw [nI_1, nI_clamp (by omega)]
  exact rr_return d_To_add_50 rfl (Nat.le_of_ble_eq_true rfl) (Nat.le_of_ble_eq_true rfl) (⟨rfl, rfl⟩)

set_option maxRecDepth 100000 in
set_option maxHeartbeats 4000000 in
theorem s_To_isLetter {h : rr_H} {x : Int32} : rr_Spec 0 y_To_isLetter c_To_isLetter 1 (some .boolean) 0 0 [.int x] (h) (fun r h1 => r = some (.int (sp_b (sp_isL x))) ∧ h1 = h) := by
  refine rr_met (own := R_To) (kd := (false, none)) (by decide +kernel) rfl (fun h => by cases h) rfl (Nat.le_of_ble_eq_true rfl) ?_
  refine rr_iload_n d_To_isLetter_0 rfl rfl ?_
  refine rr_bipush 97 d_To_isLetter_1 rfl ?_
  refine rr_icmp_lt 16 d_To_isLetter_3 (by decide) (fun hc => ?_) (fun hc => ?_)
  · have e : sp_isL x = false := by
      unfold sp_isL
      rw [decide_eq_false (Int32.not_le.mpr hc)]
      rfl
    rw [e]
    refine rr_iconst 0 d_To_isLetter_16 rfl ?_
    exact rr_ireturn d_To_isLetter_17 rfl rfl (Nat.le_of_ble_eq_true rfl) (Nat.le_of_ble_eq_true rfl) (⟨rfl, rfl⟩)
  · skip
    refine rr_iload_n d_To_isLetter_6 rfl rfl ?_
    refine rr_bipush 122 d_To_isLetter_7 rfl ?_
    refine rr_icmp_gt 16 d_To_isLetter_9 (by decide) (fun hd => ?_) (fun hd => ?_)
    · have e : sp_isL x = false := by
        unfold sp_isL
        rw [decide_eq_false (Int32.not_le.mpr hd), Bool.and_false]
      rw [e]
      refine rr_iconst 0 d_To_isLetter_16 rfl ?_
      exact rr_ireturn d_To_isLetter_17 rfl rfl (Nat.le_of_ble_eq_true rfl) (Nat.le_of_ble_eq_true rfl) (⟨rfl, rfl⟩)
    · have e : sp_isL x = true := by
        unfold sp_isL
        rw [decide_eq_true (Int32.not_lt.mp hc), decide_eq_true (Int32.not_lt.mp hd)]
        rfl
      rw [e]
      refine rr_iconst 1 d_To_isLetter_12 rfl ?_
      refine rr_goto 17 d_To_isLetter_13 (by decide) ?_
      exact rr_ireturn d_To_isLetter_17 rfl rfl (Nat.le_of_ble_eq_true rfl) (Nat.le_of_ble_eq_true rfl) (⟨rfl, rfl⟩)

set_option maxRecDepth 100000 in
set_option maxHeartbeats 4000000 in
theorem s_To_isDigit {h : rr_H} {x : Int32} : rr_Spec 0 y_To_isDigit c_To_isDigit 1 (some .boolean) 0 0 [.int x] (h) (fun r h1 => r = some (.int (sp_b (sp_isD x))) ∧ h1 = h) := by
  refine rr_met (own := R_To) (kd := (false, none)) (by decide +kernel) rfl (fun h => by cases h) rfl (Nat.le_of_ble_eq_true rfl) ?_
  refine rr_iload_n d_To_isDigit_0 rfl rfl ?_
  refine rr_bipush 48 d_To_isDigit_1 rfl ?_
  refine rr_icmp_lt 16 d_To_isDigit_3 (by decide) (fun hc => ?_) (fun hc => ?_)
  · have e : sp_isD x = false := by
      unfold sp_isD
      rw [decide_eq_false (Int32.not_le.mpr hc)]
      rfl
    rw [e]
    refine rr_iconst 0 d_To_isDigit_16 rfl ?_
    exact rr_ireturn d_To_isDigit_17 rfl rfl (Nat.le_of_ble_eq_true rfl) (Nat.le_of_ble_eq_true rfl) (⟨rfl, rfl⟩)
  · skip
    refine rr_iload_n d_To_isDigit_6 rfl rfl ?_
    refine rr_bipush 57 d_To_isDigit_7 rfl ?_
    refine rr_icmp_gt 16 d_To_isDigit_9 (by decide) (fun hd => ?_) (fun hd => ?_)
    · have e : sp_isD x = false := by
        unfold sp_isD
        rw [decide_eq_false (Int32.not_le.mpr hd), Bool.and_false]
      rw [e]
      refine rr_iconst 0 d_To_isDigit_16 rfl ?_
      exact rr_ireturn d_To_isDigit_17 rfl rfl (Nat.le_of_ble_eq_true rfl) (Nat.le_of_ble_eq_true rfl) (⟨rfl, rfl⟩)
    · have e : sp_isD x = true := by
        unfold sp_isD
        rw [decide_eq_true (Int32.not_lt.mp hc), decide_eq_true (Int32.not_lt.mp hd)]
        rfl
      rw [e]
      refine rr_iconst 1 d_To_isDigit_12 rfl ?_
      refine rr_goto 17 d_To_isDigit_13 (by decide) ?_
      exact rr_ireturn d_To_isDigit_17 rfl rfl (Nat.le_of_ble_eq_true rfl) (Nat.le_of_ble_eq_true rfl) (⟨rfl, rfl⟩)

theorem sk_in {x : Int32} (h1 : ¬ x.toInt < 35) (h2 : ¬ 62 < x.toInt) : ∃ k : Nat, 35 ≤ k ∧ k ≤ 62 ∧ x = nI k := by
  have h0 : ¬ x < 0 := by
    intro q
    have a : x.toInt < 0 := by simpa using Int32.lt_iff_toInt_lt.mp q
    omega
  obtain ⟨j, hj, rfl⟩ := nI_of h0
  rw [nI_toInt hj] at h1 h2
  exact ⟨j, by omega, by omega, rfl⟩
theorem sk_out {x : Int32} (h : x.toInt < 35 ∨ 62 < x.toInt) : sp_sk x = 1 := by
  have key : ∀ k : Nat, 35 ≤ k → k ≤ 62 → ¬ x = nI k := by
    rintro k h1 h2 rfl
    rw [nI_toInt (by omega)] at h
    omega
  unfold sp_sk
  rw [if_neg (show ¬ x = 61 from key 61 (by omega) (by omega)), if_neg (show ¬ x = 35 from key 35 (by omega) (by omega)), if_neg (show ¬ x = 60 from key 60 (by omega) (by omega)), if_neg (show ¬ x = 62 from key 62 (by omega) (by omega)), if_neg (show ¬ x = 43 from key 43 (by omega) (by omega)), if_neg (show ¬ x = 45 from key 45 (by omega) (by omega)), if_neg (show ¬ x = 42 from key 42 (by omega) (by omega)), if_neg (show ¬ x = 44 from key 44 (by omega) (by omega)), if_neg (show ¬ x = 40 from key 40 (by omega) (by omega)), if_neg (show ¬ x = 41 from key 41 (by omega) (by omega))]
set_option maxRecDepth 100000 in
set_option maxHeartbeats 4000000 in
theorem s_To_signKind {h : rr_H} {x : Int32} : rr_Spec 0 y_To_signKind c_To_signKind 1 (some .int) 0 0 [.int x] (h) (fun r h1 => r = some (.int (nI (sp_sk x))) ∧ h1 = h) := by
  refine rr_met (own := R_To) (kd := (false, none)) (by decide +kernel) rfl (fun h => by cases h) rfl (Nat.le_of_ble_eq_true rfl) ?_
  refine rr_iload_n d_To_signKind_0 rfl rfl ?_
  by_cases ho : x.toInt < 35 ∨ 62 < x.toInt
  · rw [sk_out ho]
    refine rr_tout 158 d_To_signKind_1 ho (by decide) ?_
    refine rr_iconst 1 d_To_signKind_158 rfl ?_
    exact rr_ireturn d_To_signKind_159 rfl rfl (Nat.le_of_ble_eq_true rfl) (Nat.le_of_ble_eq_true rfl) (⟨rfl, rfl⟩)
  · obtain ⟨k, hk1, hk2, rfl⟩ := sk_in (fun q => ho (Or.inl q)) (fun q => ho (Or.inr q))
    rcases (show k = 35 ∨ k = 36 ∨ k = 37 ∨ k = 38 ∨ k = 39 ∨ k = 40 ∨ k = 41 ∨ k = 42 ∨ k = 43 ∨ k = 44 ∨ k = 45 ∨ k = 46 ∨ k = 47 ∨ k = 48 ∨ k = 49 ∨ k = 50 ∨ k = 51 ∨ k = 52 ∨ k = 53 ∨ k = 54 ∨ k = 55 ∨ k = 56 ∨ k = 57 ∨ k = 58 ∨ k = 59 ∨ k = 60 ∨ k = 61 ∨ k = 62 by omega) with rfl | rfl | rfl | rfl | rfl | rfl | rfl | rfl | rfl | rfl | rfl | rfl | rfl | rfl | rfl | rfl | rfl | rfl | rfl | rfl | rfl | rfl | rfl | rfl | rfl | rfl | rfl | rfl
    · refine rr_tin 131 130 d_To_signKind_1 (by decide) (by decide) rfl (by decide) ?_
      refine rr_bipush 11 d_To_signKind_131 rfl ?_
      exact rr_ireturn d_To_signKind_133 rfl rfl (Nat.le_of_ble_eq_true rfl) (Nat.le_of_ble_eq_true rfl) (⟨rfl, rfl⟩)
    · refine rr_tin 158 157 d_To_signKind_1 (by decide) (by decide) rfl (by decide) ?_
      refine rr_iconst 1 d_To_signKind_158 rfl ?_
      exact rr_ireturn d_To_signKind_159 rfl rfl (Nat.le_of_ble_eq_true rfl) (Nat.le_of_ble_eq_true rfl) (⟨rfl, rfl⟩)
    · refine rr_tin 158 157 d_To_signKind_1 (by decide) (by decide) rfl (by decide) ?_
      refine rr_iconst 1 d_To_signKind_158 rfl ?_
      exact rr_ireturn d_To_signKind_159 rfl rfl (Nat.le_of_ble_eq_true rfl) (Nat.le_of_ble_eq_true rfl) (⟨rfl, rfl⟩)
    · refine rr_tin 158 157 d_To_signKind_1 (by decide) (by decide) rfl (by decide) ?_
      refine rr_iconst 1 d_To_signKind_158 rfl ?_
      exact rr_ireturn d_To_signKind_159 rfl rfl (Nat.le_of_ble_eq_true rfl) (Nat.le_of_ble_eq_true rfl) (⟨rfl, rfl⟩)
    · refine rr_tin 158 157 d_To_signKind_1 (by decide) (by decide) rfl (by decide) ?_
      refine rr_iconst 1 d_To_signKind_158 rfl ?_
      exact rr_ireturn d_To_signKind_159 rfl rfl (Nat.le_of_ble_eq_true rfl) (Nat.le_of_ble_eq_true rfl) (⟨rfl, rfl⟩)
    · refine rr_tin 152 151 d_To_signKind_1 (by decide) (by decide) rfl (by decide) ?_
      refine rr_bipush 19 d_To_signKind_152 rfl ?_
      exact rr_ireturn d_To_signKind_154 rfl rfl (Nat.le_of_ble_eq_true rfl) (Nat.le_of_ble_eq_true rfl) (⟨rfl, rfl⟩)
    · refine rr_tin 155 154 d_To_signKind_1 (by decide) (by decide) rfl (by decide) ?_
      refine rr_bipush 20 d_To_signKind_155 rfl ?_
      exact rr_ireturn d_To_signKind_157 rfl rfl (Nat.le_of_ble_eq_true rfl) (Nat.le_of_ble_eq_true rfl) (⟨rfl, rfl⟩)
    · refine rr_tin 146 145 d_To_signKind_1 (by decide) (by decide) rfl (by decide) ?_
      refine rr_bipush 16 d_To_signKind_146 rfl ?_
      exact rr_ireturn d_To_signKind_148 rfl rfl (Nat.le_of_ble_eq_true rfl) (Nat.le_of_ble_eq_true rfl) (⟨rfl, rfl⟩)
    · refine rr_tin 140 139 d_To_signKind_1 (by decide) (by decide) rfl (by decide) ?_
      refine rr_bipush 14 d_To_signKind_140 rfl ?_
      exact rr_ireturn d_To_signKind_142 rfl rfl (Nat.le_of_ble_eq_true rfl) (Nat.le_of_ble_eq_true rfl) (⟨rfl, rfl⟩)
    · refine rr_tin 149 148 d_To_signKind_1 (by decide) (by decide) rfl (by decide) ?_
      refine rr_bipush 18 d_To_signKind_149 rfl ?_
      exact rr_ireturn d_To_signKind_151 rfl rfl (Nat.le_of_ble_eq_true rfl) (Nat.le_of_ble_eq_true rfl) (⟨rfl, rfl⟩)
    · refine rr_tin 143 142 d_To_signKind_1 (by decide) (by decide) rfl (by decide) ?_
      refine rr_bipush 15 d_To_signKind_143 rfl ?_
      exact rr_ireturn d_To_signKind_145 rfl rfl (Nat.le_of_ble_eq_true rfl) (Nat.le_of_ble_eq_true rfl) (⟨rfl, rfl⟩)
    · refine rr_tin 158 157 d_To_signKind_1 (by decide) (by decide) rfl (by decide) ?_
      refine rr_iconst 1 d_To_signKind_158 rfl ?_
      exact rr_ireturn d_To_signKind_159 rfl rfl (Nat.le_of_ble_eq_true rfl) (Nat.le_of_ble_eq_true rfl) (⟨rfl, rfl⟩)
    · refine rr_tin 158 157 d_To_signKind_1 (by decide) (by decide) rfl (by decide) ?_
      refine rr_iconst 1 d_To_signKind_158 rfl ?_
      exact rr_ireturn d_To_signKind_159 rfl rfl (Nat.le_of_ble_eq_true rfl) (Nat.le_of_ble_eq_true rfl) (⟨rfl, rfl⟩)
    · refine rr_tin 158 157 d_To_signKind_1 (by decide) (by decide) rfl (by decide) ?_
      refine rr_iconst 1 d_To_signKind_158 rfl ?_
      exact rr_ireturn d_To_signKind_159 rfl rfl (Nat.le_of_ble_eq_true rfl) (Nat.le_of_ble_eq_true rfl) (⟨rfl, rfl⟩)
    · refine rr_tin 158 157 d_To_signKind_1 (by decide) (by decide) rfl (by decide) ?_
      refine rr_iconst 1 d_To_signKind_158 rfl ?_
      exact rr_ireturn d_To_signKind_159 rfl rfl (Nat.le_of_ble_eq_true rfl) (Nat.le_of_ble_eq_true rfl) (⟨rfl, rfl⟩)
    · refine rr_tin 158 157 d_To_signKind_1 (by decide) (by decide) rfl (by decide) ?_
      refine rr_iconst 1 d_To_signKind_158 rfl ?_
      exact rr_ireturn d_To_signKind_159 rfl rfl (Nat.le_of_ble_eq_true rfl) (Nat.le_of_ble_eq_true rfl) (⟨rfl, rfl⟩)
    · refine rr_tin 158 157 d_To_signKind_1 (by decide) (by decide) rfl (by decide) ?_
      refine rr_iconst 1 d_To_signKind_158 rfl ?_
      exact rr_ireturn d_To_signKind_159 rfl rfl (Nat.le_of_ble_eq_true rfl) (Nat.le_of_ble_eq_true rfl) (⟨rfl, rfl⟩)
    · refine rr_tin 158 157 d_To_signKind_1 (by decide) (by decide) rfl (by decide) ?_
      refine rr_iconst 1 d_To_signKind_158 rfl ?_
      exact rr_ireturn d_To_signKind_159 rfl rfl (Nat.le_of_ble_eq_true rfl) (Nat.le_of_ble_eq_true rfl) (⟨rfl, rfl⟩)
    · refine rr_tin 158 157 d_To_signKind_1 (by decide) (by decide) rfl (by decide) ?_
      refine rr_iconst 1 d_To_signKind_158 rfl ?_
      exact rr_ireturn d_To_signKind_159 rfl rfl (Nat.le_of_ble_eq_true rfl) (Nat.le_of_ble_eq_true rfl) (⟨rfl, rfl⟩)
    · refine rr_tin 158 157 d_To_signKind_1 (by decide) (by decide) rfl (by decide) ?_
      refine rr_iconst 1 d_To_signKind_158 rfl ?_
      exact rr_ireturn d_To_signKind_159 rfl rfl (Nat.le_of_ble_eq_true rfl) (Nat.le_of_ble_eq_true rfl) (⟨rfl, rfl⟩)
    · refine rr_tin 158 157 d_To_signKind_1 (by decide) (by decide) rfl (by decide) ?_
      refine rr_iconst 1 d_To_signKind_158 rfl ?_
      exact rr_ireturn d_To_signKind_159 rfl rfl (Nat.le_of_ble_eq_true rfl) (Nat.le_of_ble_eq_true rfl) (⟨rfl, rfl⟩)
    · refine rr_tin 158 157 d_To_signKind_1 (by decide) (by decide) rfl (by decide) ?_
      refine rr_iconst 1 d_To_signKind_158 rfl ?_
      exact rr_ireturn d_To_signKind_159 rfl rfl (Nat.le_of_ble_eq_true rfl) (Nat.le_of_ble_eq_true rfl) (⟨rfl, rfl⟩)
    · refine rr_tin 158 157 d_To_signKind_1 (by decide) (by decide) rfl (by decide) ?_
      refine rr_iconst 1 d_To_signKind_158 rfl ?_
      exact rr_ireturn d_To_signKind_159 rfl rfl (Nat.le_of_ble_eq_true rfl) (Nat.le_of_ble_eq_true rfl) (⟨rfl, rfl⟩)
    · refine rr_tin 158 157 d_To_signKind_1 (by decide) (by decide) rfl (by decide) ?_
      refine rr_iconst 1 d_To_signKind_158 rfl ?_
      exact rr_ireturn d_To_signKind_159 rfl rfl (Nat.le_of_ble_eq_true rfl) (Nat.le_of_ble_eq_true rfl) (⟨rfl, rfl⟩)
    · refine rr_tin 158 157 d_To_signKind_1 (by decide) (by decide) rfl (by decide) ?_
      refine rr_iconst 1 d_To_signKind_158 rfl ?_
      exact rr_ireturn d_To_signKind_159 rfl rfl (Nat.le_of_ble_eq_true rfl) (Nat.le_of_ble_eq_true rfl) (⟨rfl, rfl⟩)
    · refine rr_tin 134 133 d_To_signKind_1 (by decide) (by decide) rfl (by decide) ?_
      refine rr_bipush 12 d_To_signKind_134 rfl ?_
      exact rr_ireturn d_To_signKind_136 rfl rfl (Nat.le_of_ble_eq_true rfl) (Nat.le_of_ble_eq_true rfl) (⟨rfl, rfl⟩)
    · refine rr_tin 128 127 d_To_signKind_1 (by decide) (by decide) rfl (by decide) ?_
      refine rr_bipush 10 d_To_signKind_128 rfl ?_
      exact rr_ireturn d_To_signKind_130 rfl rfl (Nat.le_of_ble_eq_true rfl) (Nat.le_of_ble_eq_true rfl) (⟨rfl, rfl⟩)
    · refine rr_tin 137 136 d_To_signKind_1 (by decide) (by decide) rfl (by decide) ?_
      refine rr_bipush 13 d_To_signKind_137 rfl ?_
      exact rr_ireturn d_To_signKind_139 rfl rfl (Nat.le_of_ble_eq_true rfl) (Nat.le_of_ble_eq_true rfl) (⟨rfl, rfl⟩)

set_option maxRecDepth 100000 in
set_option maxHeartbeats 4000000 in
theorem l_spells {x0 : va_E} {g : rr_H} {n : Nat} {f : Nat → Int32} {p e j : Nat} (hj : j < rr_nS) (he : e ≤ 400) (hp : p + rr_len.getD j 0 = e) : ∀ (k i : Nat), i + k = rr_len.getD j 0 → rr_A R_Ta c_Ta_spells 5 (some .boolean) (false, none) { frames := 4, cells := 0, slots := 0, locals := 4 * 64 } (fun r h1 => r = some (.int (sp_b (sp_eqs f p j i k))) ∧ h1 = x0 :: .inr (3, [.ref 2, .int (nI n)]) :: .inl (1, 400, .inl (f)) :: g) 0 0 15 [(4, .int (nI i)), (0, .ref 1), (1, .ref (rr_K0 + j)), (2, .int (nI p)), (3, .int (nI e))] [] (x0 :: .inr (3, [.ref 2, .int (nI n)]) :: .inl (1, 400, .inl (f)) :: g) := by
  have h6 := sp_len_ok j hj
  intro k
  induction k with
  | zero =>
    intro i hi
    refine rr_iload d_Ta_spells_15 rfl ?_
    refine rr_aload_n d_Ta_spells_17 rfl rfl ?_
    refine rr_callS0 d_Ta_spells_18 il_Ta_19 m_St_length (s_St_length hj) hj rfl rfl rfl (Nat.le_of_ble_eq_true rfl) (Nat.le_of_ble_eq_true rfl) (Nat.le_of_ble_eq_true rfl) (Nat.le_of_ble_eq_true rfl) (Nat.le_of_ble_eq_true rfl) (fun r h1 hq => ?_)
    obtain ⟨rfl, rfl⟩ := hq
    refine rr_icmp_ge 50 d_Ta_spells_21 (by decide) (fun _ => ?_) (fun c9 => absurd (nI_le (by omega) (by omega)) c9)
    refine rr_iconst 1 d_Ta_spells_50 rfl ?_
    exact rr_ireturn d_Ta_spells_51 rfl rfl (Nat.le_of_ble_eq_true rfl) (Nat.le_of_ble_eq_true rfl) (⟨rfl, rfl⟩)
  | succ k ih =>
    intro i hi
    refine rr_iload d_Ta_spells_15 rfl ?_
    refine rr_aload_n d_Ta_spells_17 rfl rfl ?_
    refine rr_callS0 d_Ta_spells_18 il_Ta_19 m_St_length (s_St_length hj) hj rfl rfl rfl (Nat.le_of_ble_eq_true rfl) (Nat.le_of_ble_eq_true rfl) (Nat.le_of_ble_eq_true rfl) (Nat.le_of_ble_eq_true rfl) (Nat.le_of_ble_eq_true rfl) (fun r h1 hq => ?_)
    obtain ⟨rfl, rfl⟩ := hq
    refine rr_icmp_ge 50 d_Ta_spells_21 (by decide) (fun c9 => absurd c9 (nI_ge (by omega) (by omega))) (fun _ => ?_)
    refine rr_aload_n d_Ta_spells_24 rfl rfl ?_
    refine rr_getf d_Ta_spells_25 fl_Ta_9 rfl rfl ?_
    refine rr_iload_n d_Ta_spells_28 rfl rfl ?_
    refine rr_iload d_Ta_spells_29 rfl ?_
    refine rr_iadd d_Ta_spells_31 ?_
    rw [nI_add]
    refine rr_bald d_Ta_spells_32 rfl (vp_in_nI (n := p + i) (by omega) (by decide)) ?_
    refine rr_aload_n d_Ta_spells_33 rfl rfl ?_
    refine rr_iload d_Ta_spells_34 rfl ?_
    rw [nI_clamp (by omega)]
    refine rr_callS0 d_Ta_spells_36 il_Ta_24 m_St_charAt (s_St_charAt hj (i := i) (by omega)) hj rfl rfl rfl (Nat.le_of_ble_eq_true rfl) (Nat.le_of_ble_eq_true rfl) (Nat.le_of_ble_eq_true rfl) (Nat.le_of_ble_eq_true rfl) (Nat.le_of_ble_eq_true rfl) (fun r h1 hq => ?_)
    obtain ⟨rfl, rfl⟩ := hq
    refine rr_icmp_eq 44 d_Ta_spells_39 (by decide) (fun hc => ?_) (fun hc => ?_)
    · have e1 : sp_eqs f p j i (k + 1) = sp_eqs f p j (i + 1) k := by
        show (decide (f (p + i) = sp_ch j i) && sp_eqs f p j (i + 1) k) = _
        rw [decide_eq_true hc]
        rfl
      rw [e1]
      refine rr_iinc 1 d_Ta_spells_44 rfl rfl (by decide) ?_
      refine rr_goto 15 d_Ta_spells_47 (by decide) ?_
      rw [nI_1]
      exact rr_lvs _ rfl (ih (i + 1) (by omega))
    · have e1 : sp_eqs f p j i (k + 1) = false := by
        show (decide (f (p + i) = sp_ch j i) && sp_eqs f p j (i + 1) k) = _
        rw [decide_eq_false hc]
        rfl
      rw [e1]
      refine rr_iconst 0 d_Ta_spells_42 rfl ?_
      exact rr_ireturn d_Ta_spells_43 rfl rfl (Nat.le_of_ble_eq_true rfl) (Nat.le_of_ble_eq_true rfl) (⟨rfl, rfl⟩)

set_option maxRecDepth 100000 in
set_option maxHeartbeats 4000000 in
theorem s_Ta_spells {x0 : va_E} {g : rr_H} {n : Nat} {f : Nat → Int32} {p e j : Nat} (hj : j < rr_nS) (hpe : p ≤ e) (he : e ≤ 400) : rr_Spec 4 y_Ta_spells c_Ta_spells 5 (some .boolean) 0 0 [.ref 1, .ref (rr_K0 + j), .int (nI p), .int (nI e)] (x0 :: .inr (3, [.ref 2, .int (nI n)]) :: .inl (1, 400, .inl (f)) :: g) (fun r h1 => r = some (.int (sp_b (sp_spell f p e j))) ∧ h1 = x0 :: .inr (3, [.ref 2, .int (nI n)]) :: .inl (1, 400, .inl (f)) :: g) := by
  have h6 := sp_len_ok j hj
  refine rr_met (own := R_Ta) (kd := (false, none)) (by decide +kernel) rfl (fun h => by cases h) rfl (Nat.le_of_ble_eq_true rfl) ?_
  refine rr_aload_n d_Ta_spells_0 rfl rfl ?_
  refine rr_callS0 d_Ta_spells_1 il_Ta_19 m_St_length (s_St_length hj) hj rfl rfl rfl (Nat.le_of_ble_eq_true rfl) (Nat.le_of_ble_eq_true rfl) (Nat.le_of_ble_eq_true rfl) (Nat.le_of_ble_eq_true rfl) (Nat.le_of_ble_eq_true rfl) (fun r h1 hq => ?_)
  obtain ⟨rfl, rfl⟩ := hq
  refine rr_iload_n d_Ta_spells_4 rfl rfl ?_
  refine rr_iload_n d_Ta_spells_5 rfl rfl ?_
  refine rr_isub d_Ta_spells_6 ?_
  rw [pk_sub hpe]
  refine rr_icmp_eq 12 d_Ta_spells_7 (by decide) (fun hc => ?_) (fun hc => ?_)
  · have hp : p + rr_len.getD j 0 = e := by
      have := (nI_eq (by omega) (by omega)).mp hc
      omega
    have e1 : sp_spell f p e j = sp_eqs f p j 0 (rr_len.getD j 0) := by
      unfold sp_spell
      rw [decide_eq_true hp]
      rfl
    rw [e1]
    refine rr_iconst 0 d_Ta_spells_12 rfl ?_
    refine rr_istore d_Ta_spells_13 (by decide) ?_
    exact rr_lvs _ rfl (l_spells hj he hp (rr_len.getD j 0) 0 (by omega))
  · have e1 : sp_spell f p e j = false := by
      unfold sp_spell
      rw [decide_eq_false (fun q => hc ((nI_eq (by omega) (by omega)).mpr (by omega)))]
      rfl
    rw [e1]
    refine rr_iconst 0 d_Ta_spells_10 rfl ?_
    exact rr_ireturn d_Ta_spells_11 rfl rfl (Nat.le_of_ble_eq_true rfl) (Nat.le_of_ble_eq_true rfl) (⟨rfl, rfl⟩)

set_option maxRecDepth 100000 in
set_option maxHeartbeats 4000000 in
theorem s_To_wordKind {x0 : va_E} {g : rr_H} {n : Nat} {f : Nat → Int32} {p e : Nat} (hpe : p ≤ e) (he : e ≤ 400) : rr_Spec 5 y_To_wordKind c_To_wordKind 3 (some .int) 0 0 [.ref 1, .int (nI p), .int (nI e)] (x0 :: .inr (3, [.ref 2, .int (nI n)]) :: .inl (1, 400, .inl (f)) :: g) (fun r h1 => r = some (.int (nI (sp_wk f p e))) ∧ h1 = x0 :: .inr (3, [.ref 2, .int (nI n)]) :: .inl (1, 400, .inl (f)) :: g) := by
  unfold sp_wk
  refine rr_met (own := R_To) (kd := (false, none)) (by decide +kernel) rfl (fun h => by cases h) rfl (Nat.le_of_ble_eq_true rfl) ?_
  refine rr_aload_n d_To_wordKind_0 rfl rfl ?_
  refine rr_ldcS d_To_wordKind_1 sl_To_75 ?_
  refine rr_iload_n d_To_wordKind_3 rfl rfl ?_
  refine rr_iload_n d_To_wordKind_4 rfl rfl ?_
  refine rr_callV d_To_wordKind_5 il_To_77 m_Ta_spells (s_Ta_spells (j := 6) (by decide) hpe he) rfl rfl rfl rfl (Nat.le_of_ble_eq_true rfl) (Nat.le_of_ble_eq_true rfl) (Nat.le_of_ble_eq_true rfl) (Nat.le_of_ble_eq_true rfl) (Nat.le_of_ble_eq_true rfl) (fun r h1 hq => ?_)
  obtain ⟨rfl, rfl⟩ := hq
  by_cases b6 : sp_spell f p e 6 = true
  · rw [if_pos b6, b6]
    refine rr_if_eq 14 d_To_wordKind_8 (by decide) (fun c9 => absurd c9 (by decide)) (fun _ => ?_)
    refine rr_bipush 8 d_To_wordKind_11 rfl ?_
    exact rr_ireturn d_To_wordKind_13 rfl rfl (Nat.le_of_ble_eq_true rfl) (Nat.le_of_ble_eq_true rfl) (⟨rfl, rfl⟩)
  rw [if_neg b6, (Bool.not_eq_true _).mp b6]
  refine rr_if_eq 14 d_To_wordKind_8 (by decide) (fun _ => ?_) (fun c9 => absurd (rfl) c9)
  refine rr_aload_n d_To_wordKind_14 rfl rfl ?_
  refine rr_ldcS d_To_wordKind_15 sl_To_81 ?_
  refine rr_iload_n d_To_wordKind_17 rfl rfl ?_
  refine rr_iload_n d_To_wordKind_18 rfl rfl ?_
  refine rr_callV d_To_wordKind_19 il_To_77 m_Ta_spells (s_Ta_spells (j := 0) (by decide) hpe he) rfl rfl rfl rfl (Nat.le_of_ble_eq_true rfl) (Nat.le_of_ble_eq_true rfl) (Nat.le_of_ble_eq_true rfl) (Nat.le_of_ble_eq_true rfl) (Nat.le_of_ble_eq_true rfl) (fun r h1 hq => ?_)
  obtain ⟨rfl, rfl⟩ := hq
  by_cases b0 : sp_spell f p e 0 = true
  · rw [if_pos b0, b0]
    refine rr_if_eq 27 d_To_wordKind_22 (by decide) (fun c9 => absurd c9 (by decide)) (fun _ => ?_)
    refine rr_iconst 2 d_To_wordKind_25 rfl ?_
    exact rr_ireturn d_To_wordKind_26 rfl rfl (Nat.le_of_ble_eq_true rfl) (Nat.le_of_ble_eq_true rfl) (⟨rfl, rfl⟩)
  rw [if_neg b0, (Bool.not_eq_true _).mp b0]
  refine rr_if_eq 27 d_To_wordKind_22 (by decide) (fun _ => ?_) (fun c9 => absurd (rfl) c9)
  refine rr_aload_n d_To_wordKind_27 rfl rfl ?_
  refine rr_ldcS d_To_wordKind_28 sl_To_83 ?_
  refine rr_iload_n d_To_wordKind_30 rfl rfl ?_
  refine rr_iload_n d_To_wordKind_31 rfl rfl ?_
  refine rr_callV d_To_wordKind_32 il_To_77 m_Ta_spells (s_Ta_spells (j := 1) (by decide) hpe he) rfl rfl rfl rfl (Nat.le_of_ble_eq_true rfl) (Nat.le_of_ble_eq_true rfl) (Nat.le_of_ble_eq_true rfl) (Nat.le_of_ble_eq_true rfl) (Nat.le_of_ble_eq_true rfl) (fun r h1 hq => ?_)
  obtain ⟨rfl, rfl⟩ := hq
  by_cases b1 : sp_spell f p e 1 = true
  · rw [if_pos b1, b1]
    refine rr_if_eq 40 d_To_wordKind_35 (by decide) (fun c9 => absurd c9 (by decide)) (fun _ => ?_)
    refine rr_iconst 3 d_To_wordKind_38 rfl ?_
    exact rr_ireturn d_To_wordKind_39 rfl rfl (Nat.le_of_ble_eq_true rfl) (Nat.le_of_ble_eq_true rfl) (⟨rfl, rfl⟩)
  rw [if_neg b1, (Bool.not_eq_true _).mp b1]
  refine rr_if_eq 40 d_To_wordKind_35 (by decide) (fun _ => ?_) (fun c9 => absurd (rfl) c9)
  refine rr_aload_n d_To_wordKind_40 rfl rfl ?_
  refine rr_ldcS d_To_wordKind_41 sl_To_85 ?_
  refine rr_iload_n d_To_wordKind_43 rfl rfl ?_
  refine rr_iload_n d_To_wordKind_44 rfl rfl ?_
  refine rr_callV d_To_wordKind_45 il_To_77 m_Ta_spells (s_Ta_spells (j := 2) (by decide) hpe he) rfl rfl rfl rfl (Nat.le_of_ble_eq_true rfl) (Nat.le_of_ble_eq_true rfl) (Nat.le_of_ble_eq_true rfl) (Nat.le_of_ble_eq_true rfl) (Nat.le_of_ble_eq_true rfl) (fun r h1 hq => ?_)
  obtain ⟨rfl, rfl⟩ := hq
  by_cases b2 : sp_spell f p e 2 = true
  · rw [if_pos b2, b2]
    refine rr_if_eq 53 d_To_wordKind_48 (by decide) (fun c9 => absurd c9 (by decide)) (fun _ => ?_)
    refine rr_iconst 4 d_To_wordKind_51 rfl ?_
    exact rr_ireturn d_To_wordKind_52 rfl rfl (Nat.le_of_ble_eq_true rfl) (Nat.le_of_ble_eq_true rfl) (⟨rfl, rfl⟩)
  rw [if_neg b2, (Bool.not_eq_true _).mp b2]
  refine rr_if_eq 53 d_To_wordKind_48 (by decide) (fun _ => ?_) (fun c9 => absurd (rfl) c9)
  refine rr_aload_n d_To_wordKind_53 rfl rfl ?_
  refine rr_ldcS d_To_wordKind_54 sl_To_87 ?_
  refine rr_iload_n d_To_wordKind_56 rfl rfl ?_
  refine rr_iload_n d_To_wordKind_57 rfl rfl ?_
  refine rr_callV d_To_wordKind_58 il_To_77 m_Ta_spells (s_Ta_spells (j := 3) (by decide) hpe he) rfl rfl rfl rfl (Nat.le_of_ble_eq_true rfl) (Nat.le_of_ble_eq_true rfl) (Nat.le_of_ble_eq_true rfl) (Nat.le_of_ble_eq_true rfl) (Nat.le_of_ble_eq_true rfl) (fun r h1 hq => ?_)
  obtain ⟨rfl, rfl⟩ := hq
  by_cases b3 : sp_spell f p e 3 = true
  · rw [if_pos b3, b3]
    refine rr_if_eq 66 d_To_wordKind_61 (by decide) (fun c9 => absurd c9 (by decide)) (fun _ => ?_)
    refine rr_iconst 5 d_To_wordKind_64 rfl ?_
    exact rr_ireturn d_To_wordKind_65 rfl rfl (Nat.le_of_ble_eq_true rfl) (Nat.le_of_ble_eq_true rfl) (⟨rfl, rfl⟩)
  rw [if_neg b3, (Bool.not_eq_true _).mp b3]
  refine rr_if_eq 66 d_To_wordKind_61 (by decide) (fun _ => ?_) (fun c9 => absurd (rfl) c9)
  refine rr_aload_n d_To_wordKind_66 rfl rfl ?_
  refine rr_ldcS d_To_wordKind_67 sl_To_89 ?_
  refine rr_iload_n d_To_wordKind_69 rfl rfl ?_
  refine rr_iload_n d_To_wordKind_70 rfl rfl ?_
  refine rr_callV d_To_wordKind_71 il_To_77 m_Ta_spells (s_Ta_spells (j := 4) (by decide) hpe he) rfl rfl rfl rfl (Nat.le_of_ble_eq_true rfl) (Nat.le_of_ble_eq_true rfl) (Nat.le_of_ble_eq_true rfl) (Nat.le_of_ble_eq_true rfl) (Nat.le_of_ble_eq_true rfl) (fun r h1 hq => ?_)
  obtain ⟨rfl, rfl⟩ := hq
  by_cases b4 : sp_spell f p e 4 = true
  · rw [if_pos b4, b4]
    refine rr_if_eq 80 d_To_wordKind_74 (by decide) (fun c9 => absurd c9 (by decide)) (fun _ => ?_)
    refine rr_bipush 6 d_To_wordKind_77 rfl ?_
    exact rr_ireturn d_To_wordKind_79 rfl rfl (Nat.le_of_ble_eq_true rfl) (Nat.le_of_ble_eq_true rfl) (⟨rfl, rfl⟩)
  rw [if_neg b4, (Bool.not_eq_true _).mp b4]
  refine rr_if_eq 80 d_To_wordKind_74 (by decide) (fun _ => ?_) (fun c9 => absurd (rfl) c9)
  refine rr_aload_n d_To_wordKind_80 rfl rfl ?_
  refine rr_ldcS d_To_wordKind_81 sl_To_91 ?_
  refine rr_iload_n d_To_wordKind_83 rfl rfl ?_
  refine rr_iload_n d_To_wordKind_84 rfl rfl ?_
  refine rr_callV d_To_wordKind_85 il_To_77 m_Ta_spells (s_Ta_spells (j := 5) (by decide) hpe he) rfl rfl rfl rfl (Nat.le_of_ble_eq_true rfl) (Nat.le_of_ble_eq_true rfl) (Nat.le_of_ble_eq_true rfl) (Nat.le_of_ble_eq_true rfl) (Nat.le_of_ble_eq_true rfl) (fun r h1 hq => ?_)
  obtain ⟨rfl, rfl⟩ := hq
  by_cases b5 : sp_spell f p e 5 = true
  · rw [if_pos b5, b5]
    refine rr_if_eq 94 d_To_wordKind_88 (by decide) (fun c9 => absurd c9 (by decide)) (fun _ => ?_)
    refine rr_bipush 7 d_To_wordKind_91 rfl ?_
    exact rr_ireturn d_To_wordKind_93 rfl rfl (Nat.le_of_ble_eq_true rfl) (Nat.le_of_ble_eq_true rfl) (⟨rfl, rfl⟩)
  rw [if_neg b5, (Bool.not_eq_true _).mp b5]
  refine rr_if_eq 94 d_To_wordKind_88 (by decide) (fun _ => ?_) (fun c9 => absurd (rfl) c9)
  refine rr_iconst 1 d_To_wordKind_94 rfl ?_
  exact rr_ireturn d_To_wordKind_95 rfl rfl (Nat.le_of_ble_eq_true rfl) (Nat.le_of_ble_eq_true rfl) (⟨rfl, rfl⟩)

set_option maxRecDepth 100000 in
set_option maxHeartbeats 4000000 in
theorem l_splitWord {x0 x3 : va_E} {g : rr_H} {n m : Nat} {f fk fv fp : Nat → Int32} {p e : Nat} (hn : n ≤ 400) (hm : m ≤ 400) (hpe : p ≤ e) (hen : e ≤ n) : ∀ (k i : Nat), i + k = n → sp_run sp_isL f i k = e → rr_A R_To c_To_splitWord 4 (some .int) (false, none) { frames := 6, cells := 0, slots := 0, locals := 6 * 64 } (fun r h1 => r = some (.int (nI e)) ∧ h1 = x0 :: .inr (3, [.ref 2, .int (nI n)]) :: .inl (1, 400, .inl (f)) :: x3 :: .inr (4, [.ref 5, .ref 6, .ref 7, .int (nI (m + 1))]) :: .inl (0, 401, .inl (upd fk m (nI (sp_wk f p e)))) :: .inl (0, 401, .inl (upd fv m 0)) :: .inl (0, 401, .inl (upd fp m (nI p))) :: g) 0 0 2 [(3, .int (nI i)), (0, .ref 4), (1, .ref 1), (2, .int (nI p))] [] (x0 :: .inr (3, [.ref 2, .int (nI n)]) :: .inl (1, 400, .inl (f)) :: x3 :: .inr (4, [.ref 5, .ref 6, .ref 7, .int (nI m)]) :: .inl (0, 401, .inl (fk)) :: .inl (0, 401, .inl (fv)) :: .inl (0, 401, .inl (fp)) :: g) := by
  have fin : rr_A R_To c_To_splitWord 4 (some .int) (false, none) { frames := 6, cells := 0, slots := 0, locals := 6 * 64 } (fun r h1 => r = some (.int (nI e)) ∧ h1 = x0 :: .inr (3, [.ref 2, .int (nI n)]) :: .inl (1, 400, .inl (f)) :: x3 :: .inr (4, [.ref 5, .ref 6, .ref 7, .int (nI (m + 1))]) :: .inl (0, 401, .inl (upd fk m (nI (sp_wk f p e)))) :: .inl (0, 401, .inl (upd fv m 0)) :: .inl (0, 401, .inl (upd fp m (nI p))) :: g) 0 0 28 [(3, .int (nI e)), (0, .ref 4), (1, .ref 1), (2, .int (nI p))] [] (x0 :: .inr (3, [.ref 2, .int (nI n)]) :: .inl (1, 400, .inl (f)) :: x3 :: .inr (4, [.ref 5, .ref 6, .ref 7, .int (nI m)]) :: .inl (0, 401, .inl (fk)) :: .inl (0, 401, .inl (fv)) :: .inl (0, 401, .inl (fp)) :: g) := by
    refine rr_aload_n d_To_splitWord_28 rfl rfl ?_
    refine rr_aload_n d_To_splitWord_29 rfl rfl ?_
    refine rr_iload_n d_To_splitWord_30 rfl rfl ?_
    refine rr_iload_n d_To_splitWord_31 rfl rfl ?_
    refine rr_callS d_To_splitWord_32 il_To_59 m_To_wordKind (s_To_wordKind hpe (by omega)) rfl rfl (Nat.le_of_ble_eq_true rfl) (Nat.le_of_ble_eq_true rfl) (Nat.le_of_ble_eq_true rfl) (Nat.le_of_ble_eq_true rfl) (Nat.le_of_ble_eq_true rfl) (fun r h1 hq => ?_)
    obtain ⟨rfl, rfl⟩ := hq
    refine rr_iconst 0 d_To_splitWord_35 rfl ?_
    refine rr_iload_n d_To_splitWord_36 rfl rfl ?_
    refine rr_callV d_To_splitWord_37 il_To_38 m_To_add (s_To_add hm) rfl rfl rfl rfl (Nat.le_of_ble_eq_true rfl) (Nat.le_of_ble_eq_true rfl) (Nat.le_of_ble_eq_true rfl) (Nat.le_of_ble_eq_true rfl) (Nat.le_of_ble_eq_true rfl) (fun r h1 hq => ?_)
    obtain ⟨rfl, rfl⟩ := hq
    refine rr_iload_n d_To_splitWord_40 rfl rfl ?_
    exact rr_ireturn d_To_splitWord_41 rfl rfl (Nat.le_of_ble_eq_true rfl) (Nat.le_of_ble_eq_true rfl) (⟨rfl, rfl⟩)
  intro k
  induction k with
  | zero =>
    intro i hi he
    have : i = e := he
    subst this
    refine rr_iload_n d_To_splitWord_2 rfl rfl ?_
    refine rr_aload_n d_To_splitWord_3 rfl rfl ?_
    refine rr_getf d_To_splitWord_4 fl_To_25 rfl rfl ?_
    refine rr_icmp_ge 28 d_To_splitWord_7 (by decide) (fun _ => ?_) (fun c9 => absurd (nI_le (by omega) (by omega)) c9)
    exact fin
  | succ k ih =>
    intro i hi he
    refine rr_iload_n d_To_splitWord_2 rfl rfl ?_
    refine rr_aload_n d_To_splitWord_3 rfl rfl ?_
    refine rr_getf d_To_splitWord_4 fl_To_25 rfl rfl ?_
    refine rr_icmp_ge 28 d_To_splitWord_7 (by decide) (fun c9 => absurd c9 (nI_ge (by omega) (by omega))) (fun _ => ?_)
    refine rr_aload_n d_To_splitWord_10 rfl rfl ?_
    refine rr_getf d_To_splitWord_11 fl_To_30 rfl rfl ?_
    refine rr_iload_n d_To_splitWord_14 rfl rfl ?_
    refine rr_bald d_To_splitWord_15 rfl (vp_in_nI (n := i) (by omega) (by decide)) ?_
    rw [nI_clamp (by omega)]
    refine rr_callS d_To_splitWord_16 il_To_42 m_To_isLetter (s_To_isLetter) rfl rfl (Nat.le_of_ble_eq_true rfl) (Nat.le_of_ble_eq_true rfl) (Nat.le_of_ble_eq_true rfl) (Nat.le_of_ble_eq_true rfl) (Nat.le_of_ble_eq_true rfl) (fun r h1 hq => ?_)
    obtain ⟨rfl, rfl⟩ := hq
    unfold sp_run at he
    by_cases hc : sp_isL (f i) = true
    · rw [if_pos hc] at he
      rw [hc]
      refine rr_if_eq 28 d_To_splitWord_19 (by decide) (fun c9 => absurd c9 (by decide)) (fun _ => ?_)
      refine rr_iinc 1 d_To_splitWord_22 rfl rfl (by decide) ?_
      refine rr_goto 2 d_To_splitWord_25 (by decide) ?_
      rw [nI_1]
      exact rr_lvs _ rfl (ih (i + 1) (by omega) he)
    · rw [if_neg hc] at he
      subst he
      rw [(Bool.not_eq_true _).mp hc]
      refine rr_if_eq 28 d_To_splitWord_19 (by decide) (fun _ => ?_) (fun c9 => absurd (rfl) c9)
      exact fin

set_option maxRecDepth 100000 in
set_option maxHeartbeats 4000000 in
theorem s_To_splitWord {x0 x3 : va_E} {g : rr_H} {n m : Nat} {f fk fv fp : Nat → Int32} {p : Nat} (hn : n ≤ 400) (hm : m ≤ 400) (hp : p ≤ n) : rr_Spec 6 y_To_splitWord c_To_splitWord 4 (some .int) 0 0 [.ref 4, .ref 1, .int (nI p)] (x0 :: .inr (3, [.ref 2, .int (nI n)]) :: .inl (1, 400, .inl (f)) :: x3 :: .inr (4, [.ref 5, .ref 6, .ref 7, .int (nI m)]) :: .inl (0, 401, .inl (fk)) :: .inl (0, 401, .inl (fv)) :: .inl (0, 401, .inl (fp)) :: g) (fun r h1 => r = some (.int (nI (sp_run sp_isL f p (n - p)))) ∧ h1 = x0 :: .inr (3, [.ref 2, .int (nI n)]) :: .inl (1, 400, .inl (f)) :: x3 :: .inr (4, [.ref 5, .ref 6, .ref 7, .int (nI (m + 1))]) :: .inl (0, 401, .inl (upd fk m (nI (sp_wk f p (sp_run sp_isL f p (n - p)))))) :: .inl (0, 401, .inl (upd fv m 0)) :: .inl (0, 401, .inl (upd fp m (nI p))) :: g) := by
  have hr := sp_run_ge (P := sp_isL) (f := f) (n - p) p
  refine rr_met (own := R_To) (kd := (false, none)) (by decide +kernel) rfl (fun h => by cases h) rfl (Nat.le_of_ble_eq_true rfl) ?_
  refine rr_iload_n d_To_splitWord_0 rfl rfl ?_
  refine rr_istore_n d_To_splitWord_1 rfl (by decide) ?_
  exact rr_lvs _ rfl (l_splitWord hn hm (by omega) (by omega) (n - p) p (by omega) rfl)

theorem nu_min (a : Nat) (M : Nat) (d : Nat) : min (min a M * 10 + d) M = min (a * 10 + d) M := by omega
/-- a step of the number, held at 2^31 -/
theorem nu_step {a : Nat} {x : Int32} (hx : sp_isD x = true) : (if (2147483648 : Int64) < lN (min a 2147483648) * 10 + (x - 48).toInt64 then (2147483648 : Int64) else lN (min a 2147483648) * 10 + (x - 48).toInt64) = lN (min (a * 10 + sp_dg x) 2147483648) := by
  obtain ⟨c, h1, h2, rfl⟩ := sp_isD_of hx
  have e1 : (nI c - 48 : Int32) = nI (c - 48) := pk_sub (b := 48) h1
  have e2 : sp_dg (nI c) = c - 48 := by unfold sp_dg; rw [nI_clamp (by omega)]
  rw [e1, e2, nI_l (by omega), show (10 : Int64) = lN 10 from rfl, lN_mul, lN_add, show (2147483648 : Int64) = lN 2147483648 from rfl, ← nu_min]
  have hb : min a 2147483648 * 10 + (c - 48) < 2 ^ 63 := by omega
  by_cases h : 2147483648 < min a 2147483648 * 10 + (c - 48)
  · rw [if_pos ((pk_lLT (by omega) hb).mpr h)]
    exact congrArg lN (by omega)
  · rw [if_neg (fun q => h ((pk_lLT (by omega) hb).mp q))]
    exact congrArg lN (by omega)
theorem nu_end {a : Nat} : lg_cmp (lN (min a 2147483648)) 2147483647 ≤ 0 ↔ a < 2147483648 := by
  rw [show (2147483647 : Int64) = lN 2147483647 from rfl]
  unfold lg_cmp
  by_cases h : a < 2147483648
  · rw [if_neg (fun q => by have := (pk_lLT (by omega) (by omega)).mp q; omega)]
    refine ⟨fun _ => h, fun _ => ?_⟩
    split <;> decide
  · rw [if_pos ((pk_lLT (by omega) (by omega)).mpr (by omega))]
    exact ⟨fun q => absurd q (by decide), fun q => absurd q h⟩

set_option maxRecDepth 100000 in
set_option maxHeartbeats 4000000 in
theorem l_splitNumber {x0 x3 : va_E} {g : rr_H} {n m : Nat} {f fk fv fp : Nat → Int32} {p e v : Nat} (hn : n ≤ 400) (hm : m ≤ 400) : ∀ (k i a : Nat), i + k = n → sp_run sp_isD f i k = e → sp_nv f i k a = v → rr_A R_To c_To_splitNumber 6 (some .int) (false, none) { frames := 2, cells := 0, slots := 0, locals := 2 * 64 } (fun r h1 => r = some (.int (nI (e))) ∧ h1 = if v < 2147483648 then x0 :: .inr (3, [.ref 2, .int (nI n)]) :: .inl (1, 400, .inl (f)) :: x3 :: .inr (4, [.ref 5, .ref 6, .ref 7, .int (nI (m + 1))]) :: .inl (0, 401, .inl (upd fk m 9)) :: .inl (0, 401, .inl (upd fv m (nI (v)))) :: .inl (0, 401, .inl (upd fp m (nI p))) :: g else x0 :: .inr (3, [.ref 2, .int (nI n)]) :: .inl (1, 400, .inl (f)) :: x3 :: .inr (4, [.ref 5, .ref 6, .ref 7, .int (nI (m + 1))]) :: .inl (0, 401, .inl (upd fk m 1)) :: .inl (0, 401, .inl (upd fv m 0)) :: .inl (0, 401, .inl (upd fp m (nI p))) :: g) 0 0 5 [(5, .int (nI i)), (3, .long (lN (min a 2147483648))), (0, .ref 4), (1, .ref 1), (2, .int (nI p))] [] (x0 :: .inr (3, [.ref 2, .int (nI n)]) :: .inl (1, 400, .inl (f)) :: x3 :: .inr (4, [.ref 5, .ref 6, .ref 7, .int (nI m)]) :: .inl (0, 401, .inl (fk)) :: .inl (0, 401, .inl (fv)) :: .inl (0, 401, .inl (fp)) :: g) := by
  have fin : ∀ a : Nat, a = v → rr_A R_To c_To_splitNumber 6 (some .int) (false, none) { frames := 2, cells := 0, slots := 0, locals := 2 * 64 } (fun r h1 => r = some (.int (nI (e))) ∧ h1 = if v < 2147483648 then x0 :: .inr (3, [.ref 2, .int (nI n)]) :: .inl (1, 400, .inl (f)) :: x3 :: .inr (4, [.ref 5, .ref 6, .ref 7, .int (nI (m + 1))]) :: .inl (0, 401, .inl (upd fk m 9)) :: .inl (0, 401, .inl (upd fv m (nI (v)))) :: .inl (0, 401, .inl (upd fp m (nI p))) :: g else x0 :: .inr (3, [.ref 2, .int (nI n)]) :: .inl (1, 400, .inl (f)) :: x3 :: .inr (4, [.ref 5, .ref 6, .ref 7, .int (nI (m + 1))]) :: .inl (0, 401, .inl (upd fk m 1)) :: .inl (0, 401, .inl (upd fv m 0)) :: .inl (0, 401, .inl (upd fp m (nI p))) :: g) 0 0 57 [(5, .int (nI e)), (3, .long (lN (min a 2147483648))), (0, .ref 4), (1, .ref 1), (2, .int (nI p))] [] (x0 :: .inr (3, [.ref 2, .int (nI n)]) :: .inl (1, 400, .inl (f)) :: x3 :: .inr (4, [.ref 5, .ref 6, .ref 7, .int (nI m)]) :: .inl (0, 401, .inl (fk)) :: .inl (0, 401, .inl (fv)) :: .inl (0, 401, .inl (fp)) :: g) := by
    rintro a rfl
    refine rr_lload_n d_To_splitNumber_57 rfl rfl ?_
    refine rr_ldc2 d_To_splitNumber_58 kl_To_73 ?_
    refine rr_lcmp d_To_splitNumber_61 ?_
    refine rr_if_le 75 d_To_splitNumber_62 (by decide) (fun hc => ?_) (fun hc => ?_)
    · have hv := nu_end.mp hc
      rw [if_pos hv]
      refine rr_aload_n d_To_splitNumber_75 rfl rfl ?_
      refine rr_bipush 9 d_To_splitNumber_76 rfl ?_
      refine rr_lload_n d_To_splitNumber_78 rfl rfl ?_
      refine rr_l2i d_To_splitNumber_79 ?_
      refine rr_iload_n d_To_splitNumber_80 rfl rfl ?_
      rw [Nat.min_eq_left (by omega : a ≤ 2147483648), lN_i]
      refine rr_callV d_To_splitNumber_81 il_To_38 m_To_add (s_To_add hm) rfl rfl rfl rfl (Nat.le_of_ble_eq_true rfl) (Nat.le_of_ble_eq_true rfl) (Nat.le_of_ble_eq_true rfl) (Nat.le_of_ble_eq_true rfl) (Nat.le_of_ble_eq_true rfl) (fun r h1 hq => ?_)
      obtain ⟨rfl, rfl⟩ := hq
      refine rr_iload d_To_splitNumber_84 rfl ?_
      exact rr_ireturn d_To_splitNumber_86 rfl rfl (Nat.le_of_ble_eq_true rfl) (Nat.le_of_ble_eq_true rfl) (⟨rfl, rfl⟩)
    · have hv : ¬ a < 2147483648 := fun q => hc (nu_end.mpr q)
      rw [if_neg hv]
      refine rr_aload_n d_To_splitNumber_65 rfl rfl ?_
      refine rr_iconst 1 d_To_splitNumber_66 rfl ?_
      refine rr_iconst 0 d_To_splitNumber_67 rfl ?_
      refine rr_iload_n d_To_splitNumber_68 rfl rfl ?_
      refine rr_callV d_To_splitNumber_69 il_To_38 m_To_add (s_To_add hm) rfl rfl rfl rfl (Nat.le_of_ble_eq_true rfl) (Nat.le_of_ble_eq_true rfl) (Nat.le_of_ble_eq_true rfl) (Nat.le_of_ble_eq_true rfl) (Nat.le_of_ble_eq_true rfl) (fun r h1 hq => ?_)
      obtain ⟨rfl, rfl⟩ := hq
      refine rr_goto 84 d_To_splitNumber_72 (by decide) ?_
      refine rr_iload d_To_splitNumber_84 rfl ?_
      exact rr_ireturn d_To_splitNumber_86 rfl rfl (Nat.le_of_ble_eq_true rfl) (Nat.le_of_ble_eq_true rfl) (⟨rfl, rfl⟩)
  intro k
  induction k with
  | zero =>
    intro i a hi he hv
    have : i = e := he
    subst this
    refine rr_iload d_To_splitNumber_5 rfl ?_
    refine rr_aload_n d_To_splitNumber_7 rfl rfl ?_
    refine rr_getf d_To_splitNumber_8 fl_To_25 rfl rfl ?_
    refine rr_icmp_ge 57 d_To_splitNumber_11 (by decide) (fun _ => ?_) (fun c9 => absurd (nI_le (by omega) (by omega)) c9)
    exact fin a hv
  | succ k ih =>
    intro i a hi he hv
    refine rr_iload d_To_splitNumber_5 rfl ?_
    refine rr_aload_n d_To_splitNumber_7 rfl rfl ?_
    refine rr_getf d_To_splitNumber_8 fl_To_25 rfl rfl ?_
    refine rr_icmp_ge 57 d_To_splitNumber_11 (by decide) (fun c9 => absurd c9 (nI_ge (by omega) (by omega))) (fun _ => ?_)
    refine rr_aload_n d_To_splitNumber_14 rfl rfl ?_
    refine rr_getf d_To_splitNumber_15 fl_To_30 rfl rfl ?_
    refine rr_iload d_To_splitNumber_18 rfl ?_
    refine rr_bald d_To_splitNumber_20 rfl (vp_in_nI (n := i) (by omega) (by decide)) ?_
    rw [nI_clamp (by omega)]
    refine rr_callS d_To_splitNumber_21 il_To_49 m_To_isDigit (s_To_isDigit) rfl rfl (Nat.le_of_ble_eq_true rfl) (Nat.le_of_ble_eq_true rfl) (Nat.le_of_ble_eq_true rfl) (Nat.le_of_ble_eq_true rfl) (Nat.le_of_ble_eq_true rfl) (fun r h1 hq => ?_)
    obtain ⟨rfl, rfl⟩ := hq
    unfold sp_run at he
    unfold sp_nv at hv
    by_cases hc : sp_isD (f i) = true
    · rw [if_pos hc] at he hv
      rw [hc]
      refine rr_if_eq 57 d_To_splitNumber_24 (by decide) (fun c9 => absurd c9 (by decide)) (fun _ => ?_)
      refine rr_lload_n d_To_splitNumber_27 rfl rfl ?_
      refine rr_ldc2 d_To_splitNumber_28 kl_To_63 ?_
      refine rr_lmul d_To_splitNumber_31 ?_
      refine rr_aload_n d_To_splitNumber_32 rfl rfl ?_
      refine rr_getf d_To_splitNumber_33 fl_To_30 rfl rfl ?_
      refine rr_iload d_To_splitNumber_36 rfl ?_
      refine rr_bald d_To_splitNumber_38 rfl (vp_in_nI (n := i) (by omega) (by decide)) ?_
      refine rr_bipush 48 d_To_splitNumber_39 rfl ?_
      refine rr_isub d_To_splitNumber_41 ?_
      refine rr_i2l d_To_splitNumber_42 ?_
      refine rr_ladd d_To_splitNumber_43 ?_
      refine rr_ldc2 d_To_splitNumber_44 kl_To_65 ?_
      refine rr_minJ d_To_splitNumber_47 ml_To_67 (Nat.le_of_ble_eq_true rfl) (Nat.le_of_ble_eq_true rfl) (Nat.le_of_ble_eq_true rfl) (Nat.le_of_ble_eq_true rfl) ?_
      rw [nI_clamp (by omega), nu_step hc]
      refine rr_lstore_n d_To_splitNumber_50 rfl (by decide) ?_
      refine rr_iinc 1 d_To_splitNumber_51 rfl rfl (by decide) ?_
      refine rr_goto 5 d_To_splitNumber_54 (by decide) ?_
      rw [nI_1]
      exact rr_lvs _ rfl (ih (i + 1) _ (by omega) he hv)
    · rw [if_neg hc] at he hv
      subst he
      rw [(Bool.not_eq_true _).mp hc]
      refine rr_if_eq 57 d_To_splitNumber_24 (by decide) (fun _ => ?_) (fun c9 => absurd (rfl) c9)
      exact fin a hv

set_option maxRecDepth 100000 in
set_option maxHeartbeats 4000000 in
theorem s_To_splitNumber {x0 x3 : va_E} {g : rr_H} {n m : Nat} {f fk fv fp : Nat → Int32} {p : Nat} (hn : n ≤ 400) (hm : m ≤ 400) (hp : p ≤ n) : rr_Spec 2 y_To_splitNumber c_To_splitNumber 6 (some .int) 0 0 [.ref 4, .ref 1, .int (nI p)] (x0 :: .inr (3, [.ref 2, .int (nI n)]) :: .inl (1, 400, .inl (f)) :: x3 :: .inr (4, [.ref 5, .ref 6, .ref 7, .int (nI m)]) :: .inl (0, 401, .inl (fk)) :: .inl (0, 401, .inl (fv)) :: .inl (0, 401, .inl (fp)) :: g) (fun r h1 => r = some (.int (nI (sp_run sp_isD f p (n - p)))) ∧ h1 = if sp_nv f p (n - p) 0 < 2147483648 then x0 :: .inr (3, [.ref 2, .int (nI n)]) :: .inl (1, 400, .inl (f)) :: x3 :: .inr (4, [.ref 5, .ref 6, .ref 7, .int (nI (m + 1))]) :: .inl (0, 401, .inl (upd fk m 9)) :: .inl (0, 401, .inl (upd fv m (nI (sp_nv f p (n - p) 0)))) :: .inl (0, 401, .inl (upd fp m (nI p))) :: g else x0 :: .inr (3, [.ref 2, .int (nI n)]) :: .inl (1, 400, .inl (f)) :: x3 :: .inr (4, [.ref 5, .ref 6, .ref 7, .int (nI (m + 1))]) :: .inl (0, 401, .inl (upd fk m 1)) :: .inl (0, 401, .inl (upd fv m 0)) :: .inl (0, 401, .inl (upd fp m (nI p))) :: g) := by
  refine rr_met (own := R_To) (kd := (false, none)) (by decide +kernel) rfl (fun h => by cases h) rfl (Nat.le_of_ble_eq_true rfl) ?_
  refine rr_lconst 0 d_To_splitNumber_0 rfl ?_
  refine rr_lstore_n d_To_splitNumber_1 rfl (by decide) ?_
  refine rr_iload_n d_To_splitNumber_2 rfl rfl ?_
  refine rr_istore d_To_splitNumber_3 (by decide) ?_
  exact rr_lvs _ rfl (l_splitNumber hn hm (n - p) p 0 (by omega) rfl rfl)

set_option maxRecDepth 100000 in
set_option maxHeartbeats 4000000 in
theorem s_To_splitOne {x0 x3 : va_E} {g : rr_H} {n m : Nat} {f fk fv fp : Nat → Int32} {p : Nat} (hn : n ≤ 400) (hm : m ≤ 400) (hp : p < n) : rr_Spec 7 y_To_splitOne c_To_splitOne 4 (some .int) 0 0 [.ref 4, .ref 1, .int (nI p)] (x0 :: .inr (3, [.ref 2, .int (nI n)]) :: .inl (1, 400, .inl (f)) :: x3 :: .inr (4, [.ref 5, .ref 6, .ref 7, .int (nI m)]) :: .inl (0, 401, .inl (fk)) :: .inl (0, 401, .inl (fv)) :: .inl (0, 401, .inl (fp)) :: g) (fun r h1 => r = some (.int (nI (sp_tok f n p).2.2)) ∧ h1 = x0 :: .inr (3, [.ref 2, .int (nI n)]) :: .inl (1, 400, .inl (f)) :: x3 :: .inr (4, [.ref 5, .ref 6, .ref 7, .int (nI (m + 1))]) :: .inl (0, 401, .inl (upd fk m (nI (sp_tok f n p).1))) :: .inl (0, 401, .inl (upd fv m (sp_tok f n p).2.1)) :: .inl (0, 401, .inl (upd fp m (nI p))) :: g) := by
  refine rr_met (own := R_To) (kd := (false, none)) (by decide +kernel) rfl (fun h => by cases h) rfl (Nat.le_of_ble_eq_true rfl) ?_
  refine rr_aload_n d_To_splitOne_0 rfl rfl ?_
  refine rr_getf d_To_splitOne_1 fl_To_30 rfl rfl ?_
  refine rr_iload_n d_To_splitOne_4 rfl rfl ?_
  refine rr_bald d_To_splitOne_5 rfl (vp_in_nI (n := p) (by omega) (by decide)) ?_
  refine rr_istore_n d_To_splitOne_6 rfl (by decide) ?_
  refine rr_iload_n d_To_splitOne_7 rfl rfl ?_
  rw [nI_clamp (by omega)]
  refine rr_callS d_To_splitOne_8 il_To_42 m_To_isLetter (s_To_isLetter) rfl rfl (Nat.le_of_ble_eq_true rfl) (Nat.le_of_ble_eq_true rfl) (Nat.le_of_ble_eq_true rfl) (Nat.le_of_ble_eq_true rfl) (Nat.le_of_ble_eq_true rfl) (fun r h1 hq => ?_)
  obtain ⟨rfl, rfl⟩ := hq
  by_cases hL : sp_isL (f p) = true
  · have e : sp_tok f n p = (sp_wk f p (sp_run sp_isL f p (n - p)), 0, sp_run sp_isL f p (n - p)) := by unfold sp_tok; rw [if_pos hL]
    rw [e, hL]
    refine rr_if_eq 21 d_To_splitOne_11 (by decide) (fun c9 => absurd c9 (by decide)) (fun _ => ?_)
    refine rr_aload_n d_To_splitOne_14 rfl rfl ?_
    refine rr_aload_n d_To_splitOne_15 rfl rfl ?_
    refine rr_iload_n d_To_splitOne_16 rfl rfl ?_
    refine rr_callV d_To_splitOne_17 il_To_46 m_To_splitWord (s_To_splitWord hn hm (by omega)) rfl rfl rfl rfl (Nat.le_of_ble_eq_true rfl) (Nat.le_of_ble_eq_true rfl) (Nat.le_of_ble_eq_true rfl) (Nat.le_of_ble_eq_true rfl) (Nat.le_of_ble_eq_true rfl) (fun r h1 hq => ?_)
    obtain ⟨rfl, rfl⟩ := hq
    exact rr_ireturn d_To_splitOne_20 rfl rfl (Nat.le_of_ble_eq_true rfl) (Nat.le_of_ble_eq_true rfl) (⟨rfl, rfl⟩)
  rw [(Bool.not_eq_true _).mp hL]
  refine rr_if_eq 21 d_To_splitOne_11 (by decide) (fun _ => ?_) (fun c9 => absurd (rfl) c9)
  refine rr_iload_n d_To_splitOne_21 rfl rfl ?_
  refine rr_callS d_To_splitOne_22 il_To_49 m_To_isDigit (s_To_isDigit) rfl rfl (Nat.le_of_ble_eq_true rfl) (Nat.le_of_ble_eq_true rfl) (Nat.le_of_ble_eq_true rfl) (Nat.le_of_ble_eq_true rfl) (Nat.le_of_ble_eq_true rfl) (fun r h1 hq => ?_)
  obtain ⟨rfl, rfl⟩ := hq
  by_cases hD : sp_isD (f p) = true
  · have e : sp_tok f n p = if sp_nv f p (n - p) 0 < 2147483648 then (9, nI (sp_nv f p (n - p) 0), sp_run sp_isD f p (n - p)) else (1, 0, sp_run sp_isD f p (n - p)) := by unfold sp_tok; rw [if_neg hL, if_pos hD]
    rw [e, hD]
    refine rr_if_eq 35 d_To_splitOne_25 (by decide) (fun c9 => absurd c9 (by decide)) (fun _ => ?_)
    refine rr_aload_n d_To_splitOne_28 rfl rfl ?_
    refine rr_aload_n d_To_splitOne_29 rfl rfl ?_
    refine rr_iload_n d_To_splitOne_30 rfl rfl ?_
    refine rr_callV d_To_splitOne_31 il_To_52 m_To_splitNumber (s_To_splitNumber hn hm (by omega)) rfl rfl rfl rfl (Nat.le_of_ble_eq_true rfl) (Nat.le_of_ble_eq_true rfl) (Nat.le_of_ble_eq_true rfl) (Nat.le_of_ble_eq_true rfl) (Nat.le_of_ble_eq_true rfl) (fun r h1 hq => ?_)
    obtain ⟨rfl, rfl⟩ := hq
    by_cases hv : sp_nv f p (n - p) 0 < 2147483648
    · simp only [if_pos hv]
      exact rr_ireturn d_To_splitOne_34 rfl rfl (Nat.le_of_ble_eq_true rfl) (Nat.le_of_ble_eq_true rfl) (⟨rfl, rfl⟩)
    · simp only [if_neg hv]
      exact rr_ireturn d_To_splitOne_34 rfl rfl (Nat.le_of_ble_eq_true rfl) (Nat.le_of_ble_eq_true rfl) (⟨rfl, rfl⟩)
  rw [(Bool.not_eq_true _).mp hD]
  refine rr_if_eq 35 d_To_splitOne_25 (by decide) (fun _ => ?_) (fun c9 => absurd (rfl) c9)
  refine rr_iload_n d_To_splitOne_35 rfl rfl ?_
  refine rr_bipush 58 d_To_splitOne_36 rfl ?_
  have eN : ¬ (f p = 58 ∧ p + 1 < n ∧ f (p + 1) = 61) → rr_A R_To c_To_splitOne 4 (some .int) (false, none) { frames := 7, cells := 0, slots := 0, locals := 7 * 64 } (fun r h1 => r = some (.int (nI (sp_tok f n p).2.2)) ∧ h1 = x0 :: .inr (3, [.ref 2, .int (nI n)]) :: .inl (1, 400, .inl (f)) :: x3 :: .inr (4, [.ref 5, .ref 6, .ref 7, .int (nI (m + 1))]) :: .inl (0, 401, .inl (upd fk m (nI (sp_tok f n p).1))) :: .inl (0, 401, .inl (upd fv m (sp_tok f n p).2.1)) :: .inl (0, 401, .inl (upd fp m (nI p))) :: g) 0 0 76 [(3, .int (f p)), (0, .ref 4), (1, .ref 1), (2, .int (nI p))] [] (x0 :: .inr (3, [.ref 2, .int (nI n)]) :: .inl (1, 400, .inl (f)) :: x3 :: .inr (4, [.ref 5, .ref 6, .ref 7, .int (nI m)]) :: .inl (0, 401, .inl (fk)) :: .inl (0, 401, .inl (fv)) :: .inl (0, 401, .inl (fp)) :: g) := by
    intro hq
    have e : sp_tok f n p = (sp_sk (f p), 0, p + 1) := by unfold sp_tok; rw [if_neg hL, if_neg hD, if_neg hq]
    rw [e]
    refine rr_aload_n d_To_splitOne_76 rfl rfl ?_
    refine rr_iload_n d_To_splitOne_77 rfl rfl ?_
    refine rr_callS d_To_splitOne_78 il_To_55 m_To_signKind (s_To_signKind) rfl rfl (Nat.le_of_ble_eq_true rfl) (Nat.le_of_ble_eq_true rfl) (Nat.le_of_ble_eq_true rfl) (Nat.le_of_ble_eq_true rfl) (Nat.le_of_ble_eq_true rfl) (fun r h1 hq => ?_)
    obtain ⟨rfl, rfl⟩ := hq
    refine rr_iconst 0 d_To_splitOne_81 rfl ?_
    refine rr_iload_n d_To_splitOne_82 rfl rfl ?_
    refine rr_callV d_To_splitOne_83 il_To_38 m_To_add (s_To_add hm) rfl rfl rfl rfl (Nat.le_of_ble_eq_true rfl) (Nat.le_of_ble_eq_true rfl) (Nat.le_of_ble_eq_true rfl) (Nat.le_of_ble_eq_true rfl) (Nat.le_of_ble_eq_true rfl) (fun r h1 hq => ?_)
    obtain ⟨rfl, rfl⟩ := hq
    refine rr_iload_n d_To_splitOne_86 rfl rfl ?_
    refine rr_iconst 1 d_To_splitOne_87 rfl ?_
    refine rr_iadd d_To_splitOne_88 ?_
    rw [nI_1]
    exact rr_ireturn d_To_splitOne_89 rfl rfl (Nat.le_of_ble_eq_true rfl) (Nat.le_of_ble_eq_true rfl) (⟨rfl, rfl⟩)
  refine rr_icmp_ne 76 d_To_splitOne_38 (by decide) (fun hc => ?_) (fun hc => ?_)
  · exact rr_lvs _ rfl (eN (fun q => hc q.1))
  refine rr_iload_n d_To_splitOne_41 rfl rfl ?_
  refine rr_iconst 1 d_To_splitOne_42 rfl ?_
  refine rr_iadd d_To_splitOne_43 ?_
  refine rr_aload_n d_To_splitOne_44 rfl rfl ?_
  refine rr_getf d_To_splitOne_45 fl_To_25 rfl rfl ?_
  rw [nI_1]
  refine rr_icmp_ge 76 d_To_splitOne_48 (by decide) (fun hd => ?_) (fun hd => ?_)
  · exact rr_lvs _ rfl (eN (fun q => nI_ge q.2.1 (by omega) hd))
  have hd2 : p + 1 < n := Nat.not_le.mp (fun q => hd (nI_le q (by omega)))
  refine rr_aload_n d_To_splitOne_51 rfl rfl ?_
  refine rr_getf d_To_splitOne_52 fl_To_30 rfl rfl ?_
  refine rr_iload_n d_To_splitOne_55 rfl rfl ?_
  refine rr_iconst 1 d_To_splitOne_56 rfl ?_
  refine rr_iadd d_To_splitOne_57 ?_
  rw [nI_1]
  refine rr_bald d_To_splitOne_58 rfl (vp_in_nI (n := p + 1) (by omega) (by decide)) ?_
  refine rr_bipush 61 d_To_splitOne_59 rfl ?_
  rw [nI_clamp (by omega)]
  refine rr_icmp_ne 76 d_To_splitOne_61 (by decide) (fun he => ?_) (fun he => ?_)
  · exact rr_lvs _ rfl (eN (fun q => he q.2.2))
  have e : sp_tok f n p = (17, 0, p + 2) := by unfold sp_tok; rw [if_neg hL, if_neg hD, if_pos ⟨hc, hd2, he⟩]
  rw [e]
  refine rr_aload_n d_To_splitOne_64 rfl rfl ?_
  refine rr_bipush 17 d_To_splitOne_65 rfl ?_
  refine rr_iconst 0 d_To_splitOne_67 rfl ?_
  refine rr_iload_n d_To_splitOne_68 rfl rfl ?_
  refine rr_callV d_To_splitOne_69 il_To_38 m_To_add (s_To_add hm) rfl rfl rfl rfl (Nat.le_of_ble_eq_true rfl) (Nat.le_of_ble_eq_true rfl) (Nat.le_of_ble_eq_true rfl) (Nat.le_of_ble_eq_true rfl) (Nat.le_of_ble_eq_true rfl) (fun r h1 hq => ?_)
  obtain ⟨rfl, rfl⟩ := hq
  refine rr_iload_n d_To_splitOne_72 rfl rfl ?_
  refine rr_iconst 2 d_To_splitOne_73 rfl ?_
  refine rr_iadd d_To_splitOne_74 ?_
  rw [show (nI p + 2 : Int32) = nI (p + 2) from nI_add p 2]
  exact rr_ireturn d_To_splitOne_75 rfl rfl (Nat.le_of_ble_eq_true rfl) (Nat.le_of_ble_eq_true rfl) (⟨rfl, rfl⟩)
end
section
/-! All tokens. -/
def sp_pos (f : Nat → Int32) (n : Nat) : Nat → Nat
  | 0 => 0
  | k + 1 => (sp_next f n (sp_pos f n k)).2.2.2
def sp_T (f : Nat → Int32) (n k : Nat) : Nat × Int32 × Nat × Nat := sp_next f n (sp_pos f n k)
theorem sp_next_blank {f : Nat → Int32} {n i : Nat} (hi : i < n) (hb : f i = 32) : sp_next f n i = sp_next f n (i + 1) := by
  have e : sp_run (fun x => decide (x = 32)) f i (n - i) = sp_run (fun x => decide (x = 32)) f (i + 1) (n - (i + 1)) := by
    obtain ⟨k, hk⟩ : ∃ k, n - i = k + 1 := ⟨n - i - 1, by omega⟩
    rw [hk, show n - (i + 1) = k by omega, sp_run, if_pos (decide_eq_true hb)]
  unfold sp_next
  rw [e]
theorem sp_next_tok {f : Nat → Int32} {n i : Nat} (hi : i < n) (hb : ¬ f i = 32) : sp_next f n i = ((sp_tok f n i).1, (sp_tok f n i).2.1, i, (sp_tok f n i).2.2) := by
  have e : sp_run (fun x => decide (x = 32)) f i (n - i) = i := by
    obtain ⟨k, hk⟩ : ∃ k, n - i = k + 1 := ⟨n - i - 1, by omega⟩
    rw [hk, sp_run, if_neg (by rw [decide_eq_false hb]; decide)]
  unfold sp_next
  rw [e]
  exact if_pos hi
theorem sp_next_end {f : Nat → Int32} {n : Nat} : sp_next f n n = (0, 0, n, n) := by
  unfold sp_next
  rw [Nat.sub_self]
  exact if_neg (Nat.lt_irrefl n)
theorem sp_wk_ne {f : Nat → Int32} {p e : Nat} : sp_wk f p e ≠ 0 := by
  unfold sp_wk
  repeat' split
  all_goals decide
theorem sp_sk_ne {x : Int32} : sp_sk x ≠ 0 := by
  unfold sp_sk
  repeat' split
  all_goals decide
theorem sp_tok_ne {f : Nat → Int32} {n p : Nat} : (sp_tok f n p).1 ≠ 0 := by
  unfold sp_tok
  split
  · exact sp_wk_ne
  · split
    · split
      · exact (by decide : (9 : Nat) ≠ 0)
      · exact (by decide : (1 : Nat) ≠ 0)
    · split
      · exact (by decide : (17 : Nat) ≠ 0)
      · exact sp_sk_ne
theorem sp_tok_end {f : Nat → Int32} {n p : Nat} (hp : p < n) : p < (sp_tok f n p).2.2 ∧ (sp_tok f n p).2.2 ≤ n := by
  unfold sp_tok
  split
  · rename_i h
    have h1 := sp_run_pos (P := sp_isL) (f := f) (k := n - p) (p := p) (by omega) h
    have h2 := sp_run_ge (P := sp_isL) (f := f) (n - p) p
    exact ⟨h1, by show sp_run sp_isL f p (n - p) ≤ n; omega⟩
  · split
    · rename_i h
      have h1 := sp_run_pos (P := sp_isD) (f := f) (k := n - p) (p := p) (by omega) h
      have h2 := sp_run_ge (P := sp_isD) (f := f) (n - p) p
      split
      · exact ⟨h1, by show sp_run sp_isD f p (n - p) ≤ n; omega⟩
      · exact ⟨h1, by show sp_run sp_isD f p (n - p) ≤ n; omega⟩
    · split
      · rename_i h
        exact ⟨by show p < p + 2; omega, by show p + 2 ≤ n; omega⟩
      · exact ⟨by show p < p + 1; omega, by show p + 1 ≤ n; omega⟩
/-- the arrays hold the first m tokens -/
def tk_ok (f : Nat → Int32) (n m : Nat) (fk fv fp : Nat → Int32) : Prop := ∀ k, k < m → fk k = nI (sp_T f n k).1 ∧ fv k = (sp_T f n k).2.1 ∧ fp k = nI (sp_T f n k).2.2.1
theorem tk_add {f fk fv fp : Nat → Int32} {n m : Nat} (h : tk_ok f n m fk fv fp) {a : Nat} {b : Int32} {p q : Nat} (he : sp_T f n m = (a, b, p, q)) : tk_ok f n (m + 1) (upd fk m (nI a)) (upd fv m b) (upd fp m (nI p)) := by
  intro k hk
  rcases Nat.lt_or_ge k m with hl | hl
  · rw [pk_un (by omega), pk_un (by omega), pk_un (by omega)]
    exact h k hl
  · obtain rfl : k = m := by omega
    rw [pk_us, pk_us, pk_us, he]
    exact ⟨rfl, rfl, rfl⟩

set_option maxRecDepth 100000 in
set_option maxHeartbeats 4000000 in
theorem l_split {x0 x3 : va_E} {g : rr_H} {n : Nat} {f : Nat → Int32} (hn : n ≤ 400) : ∀ (k i a m : Nat) (fk fv fp : Nat → Int32), i + k = n → m ≤ i → a ≤ n → a = sp_pos f n m → (a ≤ i → sp_next f n i = sp_next f n a) → (∀ k, k < m → (sp_T f n k).1 ≠ 0) → tk_ok f n m fk fv fp → rr_A R_To c_To_split 4 none (false, none) { frames := 8, cells := 0, slots := 0, locals := 8 * 64 } (fun r h1 => ∃ (M : Nat) (gk gv gp : Nat → Int32), M ≤ n ∧ (∀ k, k < M → (sp_T f n k).1 ≠ 0) ∧ (sp_T f n M).1 = 0 ∧ tk_ok f n (M + 1) gk gv gp ∧ r = none ∧ h1 = x0 :: .inr (3, [.ref 2, .int (nI n)]) :: .inl (1, 400, .inl (f)) :: x3 :: .inr (4, [.ref 5, .ref 6, .ref 7, .int (nI (M + 1))]) :: .inl (0, 401, .inl (gk)) :: .inl (0, 401, .inl (gv)) :: .inl (0, 401, .inl (gp)) :: g) 0 0 9 [(3, .int (nI i)), (2, .int (nI a)), (0, .ref 4), (1, .ref 1)] [] (x0 :: .inr (3, [.ref 2, .int (nI n)]) :: .inl (1, 400, .inl (f)) :: x3 :: .inr (4, [.ref 5, .ref 6, .ref 7, .int (nI m)]) :: .inl (0, 401, .inl (fk)) :: .inl (0, 401, .inl (fv)) :: .inl (0, 401, .inl (fp)) :: g) := by
  intro k
  induction k with
  | zero =>
    intro i a m fk fv fp hi hm han ha hB hne htk
    obtain rfl : i = n := by omega
    refine rr_iload_n d_To_split_9 rfl rfl ?_
    refine rr_aload_n d_To_split_10 rfl rfl ?_
    refine rr_getf d_To_split_11 fl_To_25 rfl rfl ?_
    refine rr_icmp_ge 46 d_To_split_14 (by decide) (fun _ => ?_) (fun c9 => absurd (nI_le (by omega) (by omega)) c9)
    refine rr_aload_n d_To_split_46 rfl rfl ?_
    refine rr_iconst 0 d_To_split_47 rfl ?_
    refine rr_iconst 0 d_To_split_48 rfl ?_
    refine rr_aload_n d_To_split_49 rfl rfl ?_
    refine rr_getf d_To_split_50 fl_To_25 rfl rfl ?_
    refine rr_callV d_To_split_53 il_To_38 m_To_add (s_To_add (by omega)) rfl rfl rfl rfl (Nat.le_of_ble_eq_true rfl) (Nat.le_of_ble_eq_true rfl) (Nat.le_of_ble_eq_true rfl) (Nat.le_of_ble_eq_true rfl) (Nat.le_of_ble_eq_true rfl) (fun r h1 hq => ?_)
    obtain ⟨rfl, rfl⟩ := hq
    have eT : sp_T f i m = (0, 0, i, i) := by
      unfold sp_T
      rw [← ha, ← hB han, sp_next_end]
    exact rr_return d_To_split_56 rfl (Nat.le_of_ble_eq_true rfl) (Nat.le_of_ble_eq_true rfl) (⟨m, _, _, _, by omega, hne, by rw [eT], tk_add htk eT, rfl, rfl⟩)
  | succ k ih =>
    intro i a m fk fv fp hi hm han ha hB hne htk
    refine rr_iload_n d_To_split_9 rfl rfl ?_
    refine rr_aload_n d_To_split_10 rfl rfl ?_
    refine rr_getf d_To_split_11 fl_To_25 rfl rfl ?_
    refine rr_icmp_ge 46 d_To_split_14 (by decide) (fun c9 => absurd c9 (nI_ge (by omega) (by omega))) (fun _ => ?_)
    refine rr_iload_n d_To_split_17 rfl rfl ?_
    refine rr_iload_n d_To_split_18 rfl rfl ?_
    refine rr_icmp_lt 40 d_To_split_19 (by decide) (fun hc => ?_) (fun hc => ?_)
    · have hc2 := (nI_ltI (by omega) (by omega)).mp hc
      refine rr_iinc 1 d_To_split_40 rfl rfl (by decide) ?_
      refine rr_goto 9 d_To_split_43 (by decide) ?_
      rw [nI_1]
      exact rr_lvs _ rfl (ih (i + 1) a m fk fv fp (by omega) (by omega) han ha (fun q => by rw [show i + 1 = a by omega]) hne htk)
    · have hc2 : a ≤ i := Nat.not_lt.mp (fun q => hc ((nI_ltI (by omega) (by omega)).mpr q))
      refine rr_aload_n d_To_split_22 rfl rfl ?_
      refine rr_getf d_To_split_23 fl_To_30 rfl rfl ?_
      refine rr_iload_n d_To_split_26 rfl rfl ?_
      refine rr_bald d_To_split_27 rfl (vp_in_nI (n := i) (by omega) (by decide)) ?_
      refine rr_bipush 32 d_To_split_28 rfl ?_
      rw [nI_clamp (by omega)]
      refine rr_icmp_eq 40 d_To_split_30 (by decide) (fun hd => ?_) (fun hd => ?_)
      · skip
        refine rr_iinc 1 d_To_split_40 rfl rfl (by decide) ?_
        refine rr_goto 9 d_To_split_43 (by decide) ?_
        rw [nI_1]
        exact rr_lvs _ rfl (ih (i + 1) a m fk fv fp (by omega) (by omega) han ha (fun q => by rw [← sp_next_blank (by omega) hd]; exact hB hc2) hne htk)
      · have eT : sp_T f n m = ((sp_tok f n i).1, (sp_tok f n i).2.1, i, (sp_tok f n i).2.2) := by
          unfold sp_T
          rw [← ha, ← hB hc2, sp_next_tok (by omega) hd]
        have he := sp_tok_end (f := f) (n := n) (p := i) (by omega)
        refine rr_aload_n d_To_split_33 rfl rfl ?_
        refine rr_aload_n d_To_split_34 rfl rfl ?_
        refine rr_iload_n d_To_split_35 rfl rfl ?_
        refine rr_callV d_To_split_36 il_To_34 m_To_splitOne (s_To_splitOne hn (by omega) (by omega)) rfl rfl rfl rfl (Nat.le_of_ble_eq_true rfl) (Nat.le_of_ble_eq_true rfl) (Nat.le_of_ble_eq_true rfl) (Nat.le_of_ble_eq_true rfl) (Nat.le_of_ble_eq_true rfl) (fun r h1 hq => ?_)
        obtain ⟨rfl, rfl⟩ := hq
        refine rr_istore_n d_To_split_39 rfl (by decide) ?_
        refine rr_iinc 1 d_To_split_40 rfl rfl (by decide) ?_
        refine rr_goto 9 d_To_split_43 (by decide) ?_
        rw [nI_1]
        refine rr_lvs _ rfl (ih (i + 1) (sp_tok f n i).2.2 (m + 1) _ _ _ (by omega) (by omega) he.2 ?_ (fun q => by rw [show i + 1 = (sp_tok f n i).2.2 by omega]) ?_ (tk_add htk eT))
        · show _ = (sp_T f n m).2.2.2
          rw [eT]
        · intro k hk
          rcases Nat.lt_or_ge k m with hl | hl
          · exact hne k hl
          · obtain rfl : k = m := by omega
            rw [eT]
            exact sp_tok_ne

set_option maxRecDepth 100000 in
set_option maxHeartbeats 4000000 in
theorem s_To_split {x0 x3 : va_E} {g : rr_H} {n : Nat} {m0 : Int32} {f fk fv fp : Nat → Int32} (hn : n ≤ 400) : rr_Spec 8 y_To_split c_To_split 4 none 0 0 [.ref 4, .ref 1] (x0 :: .inr (3, [.ref 2, .int (nI n)]) :: .inl (1, 400, .inl (f)) :: x3 :: .inr (4, [.ref 5, .ref 6, .ref 7, .int m0]) :: .inl (0, 401, .inl (fk)) :: .inl (0, 401, .inl (fv)) :: .inl (0, 401, .inl (fp)) :: g) (fun r h1 => ∃ (M : Nat) (gk gv gp : Nat → Int32), M ≤ n ∧ (∀ k, k < M → (sp_T f n k).1 ≠ 0) ∧ (sp_T f n M).1 = 0 ∧ tk_ok f n (M + 1) gk gv gp ∧ r = none ∧ h1 = x0 :: .inr (3, [.ref 2, .int (nI n)]) :: .inl (1, 400, .inl (f)) :: x3 :: .inr (4, [.ref 5, .ref 6, .ref 7, .int (nI (M + 1))]) :: .inl (0, 401, .inl (gk)) :: .inl (0, 401, .inl (gv)) :: .inl (0, 401, .inl (gp)) :: g) := by
  refine rr_met (own := R_To) (kd := (false, none)) (by decide +kernel) rfl (fun h => by cases h) rfl (Nat.le_of_ble_eq_true rfl) ?_
  refine rr_aload_n d_To_split_0 rfl rfl ?_
  refine rr_iconst 0 d_To_split_1 rfl ?_
  refine rr_putf d_To_split_2 fl_To_21 rfl rfl rfl rfl ?_
  refine rr_iconst 0 d_To_split_5 rfl ?_
  refine rr_istore_n d_To_split_6 rfl (by decide) ?_
  refine rr_iconst 0 d_To_split_7 rfl ?_
  refine rr_istore_n d_To_split_8 rfl (by decide) ?_
  exact rr_lvs _ rfl (l_split hn n 0 0 0 fk fv fp (by omega) (by omega) (by omega) rfl (fun _ => rfl) (fun k hk => by omega) (fun k hk => by omega))
end
section
/-! Reading: what both programs compute. -/
abbrev sp_R : Type := Bool × Nat × Nat × List (Nat × Int32)
def sp_partOf (K : Nat → Nat) (V : Nat → Int32) (S : Option (Nat → Nat → sp_R)) (a p : Nat) : sp_R :=
  if K a = 19 then (match S with
    | none => (false, a, p, [])
    | some F => if (F (a + 1) p).1 = true then (if K (F (a + 1) p).2.1 = 20 then (true, (F (a + 1) p).2.1 + 1, (F (a + 1) p).2.2) else (false, (F (a + 1) p).2.1, (F (a + 1) p).2.2)) else F (a + 1) p)
  else if 80 ≤ p then (false, a, p, [])
  else if K a = 8 then (if K (a + 1) = 9 ∧ V (a + 1) < 32 then (true, a + 2, p + 1, [(8, V (a + 1))]) else (false, a + 1, p + 1, []))
  else if K a = 9 ∨ K a = 6 ∨ K a = 7 then (true, a + 1, p + 1, [(K a, V a)]) else (false, a, p + 1, [])
/-- more of them, with a sign between; o: what was put so far -/
def sp_tl (K : Nat → Nat) (sg : Nat → Bool) (G : Nat → Nat → sp_R) : Nat → Nat → Nat → List (Nat × Int32) → sp_R
  | 0, a, p, o => (false, a, p, o)
  | n + 1, a, p, o => if sg (K a) = true then (if (G (a + 1) p).1 = true then sp_tl K sg G n (G (a + 1) p).2.1 (G (a + 1) p).2.2.1 (o ++ (G (a + 1) p).2.2.2 ++ [(K a, 0)]) else (false, (G (a + 1) p).2.1, (G (a + 1) p).2.2.1, o)) else (true, a, p, o)
def sp_lp (K : Nat → Nat) (sg : Nat → Bool) (G : Nat → Nat → sp_R) (a p : Nat) : sp_R := if (G a p).1 = true then sp_tl K sg G 80 (G a p).2.1 (G a p).2.2.1 (G a p).2.2.2 else G a p
def sp_s1 (k : Nat) : Bool := k == 16
def sp_s2 (k : Nat) : Bool := k == 14 || k == 15
def sp_in (K : Nat → Nat) (V : Nat → Int32) : Nat → Option (Nat → Nat → sp_R)
  | 0 => none
  | d + 1 => some (sp_lp K sp_s2 (sp_lp K sp_s1 (sp_partOf K V (sp_in K V d))))
def sp_part (K : Nat → Nat) (V : Nat → Int32) (d : Nat) : Nat → Nat → sp_R := sp_partOf K V (sp_in K V d)
def sp_term (K : Nat → Nat) (V : Nat → Int32) (d : Nat) : Nat → Nat → sp_R := sp_lp K sp_s1 (sp_part K V d)
def sp_sum (K : Nat → Nat) (V : Nat → Int32) (d : Nat) : Nat → Nat → sp_R := sp_lp K sp_s2 (sp_term K V d)
/-- a reader is sound: it stays at or before M; it counts its parts; twice as many steps, less one -/
def sp_snd (M : Nat) (G : Nat → Nat → sp_R) : Prop := ∀ a p, a ≤ M → p ≤ 80 → (G a p).2.1 ≤ M ∧ ((G a p).1 = true → p < (G a p).2.2.1 ∧ (G a p).2.2.1 ≤ 80 ∧ (G a p).2.2.2.length + 1 = 2 * ((G a p).2.2.1 - p))
theorem sp_lt {K : Nat → Nat} {M a k : Nat} (h0 : K M = 0) (ha : a ≤ M) (hk : K a = k) (hne : k ≠ 0) : a < M := by
  rcases Nat.lt_or_ge a M with h | h
  · exact h
  · obtain rfl : a = M := by omega
    exact absurd (hk.symm.trans h0) hne
theorem sp_snd_part {K : Nat → Nat} {V : Nat → Int32} {M : Nat} (h0 : K M = 0) {S : Option (Nat → Nat → sp_R)} (hS : ∀ F, S = some F → sp_snd M F) : sp_snd M (sp_partOf K V S) := by
  intro a p ha hp
  unfold sp_partOf
  by_cases k19 : K a = 19
  · rw [if_pos k19]
    have hl := sp_lt h0 ha k19 (by decide)
    cases S with
    | none => exact ⟨ha, fun h => by cases h⟩
    | some F =>
      dsimp only
      obtain ⟨i1, i2⟩ := hS F rfl (a + 1) p hl hp
      by_cases ho : (F (a + 1) p).1 = true
      · rw [if_pos ho]
        by_cases k20 : K (F (a + 1) p).2.1 = 20
        · rw [if_pos k20]
          exact ⟨sp_lt h0 i1 k20 (by decide), fun _ => i2 ho⟩
        · rw [if_neg k20]
          exact ⟨i1, fun h => by cases h⟩
      · rw [if_neg ho]
        exact ⟨i1, fun h => absurd h ho⟩
  · rw [if_neg k19]
    by_cases h80 : 80 ≤ p
    · rw [if_pos h80]
      exact ⟨ha, fun h => by cases h⟩
    · rw [if_neg h80]
      by_cases k8 : K a = 8
      · rw [if_pos k8]
        have hl := sp_lt h0 ha k8 (by decide)
        by_cases k9 : K (a + 1) = 9 ∧ V (a + 1) < 32
        · rw [if_pos k9]
          have hl2 := sp_lt h0 hl k9.1 (by decide)
          exact ⟨hl2, fun _ => ⟨by show p < p + 1; omega, by show p + 1 ≤ 80; omega, by show 1 + 1 = 2 * (p + 1 - p); omega⟩⟩
        · rw [if_neg k9]
          exact ⟨hl, fun h => by cases h⟩
      · rw [if_neg k8]
        by_cases k9 : K a = 9 ∨ K a = 6 ∨ K a = 7
        · rw [if_pos k9]
          have hl : a < M := by
            rcases k9 with h | h | h <;> exact sp_lt h0 ha h (by decide)
          exact ⟨hl, fun _ => ⟨by show p < p + 1; omega, by show p + 1 ≤ 80; omega, by show 1 + 1 = 2 * (p + 1 - p); omega⟩⟩
        · rw [if_neg k9]
          exact ⟨ha, fun h => by cases h⟩
theorem sp_snd_tl {K : Nat → Nat} {M : Nat} (h0 : K M = 0) {sg : Nat → Bool} (hsg : sg 0 = false) {G : Nat → Nat → sp_R} (hG : sp_snd M G) (p0 : Nat) : ∀ (n a p : Nat) (o : List (Nat × Int32)), a ≤ M → p ≤ 80 → p0 < p → o.length + 1 = 2 * (p - p0) → (sp_tl K sg G n a p o).2.1 ≤ M ∧ ((sp_tl K sg G n a p o).1 = true → p ≤ (sp_tl K sg G n a p o).2.2.1 ∧ (sp_tl K sg G n a p o).2.2.1 ≤ 80 ∧ (sp_tl K sg G n a p o).2.2.2.length + 1 = 2 * ((sp_tl K sg G n a p o).2.2.1 - p0)) := by
  intro n
  induction n with
  | zero =>
    intro a p o ha hp hp0 ho
    exact ⟨ha, fun h => by cases h⟩
  | succ n ih =>
    intro a p o ha hp hp0 ho
    unfold sp_tl
    by_cases hs : sg (K a) = true
    · rw [if_pos hs]
      have hl : a < M := by
        rcases Nat.lt_or_ge a M with h | h
        · exact h
        · obtain rfl : a = M := by omega
          rw [h0, hsg] at hs
          cases hs
      obtain ⟨i1, i2⟩ := hG (a + 1) p hl hp
      by_cases hk : (G (a + 1) p).1 = true
      · rw [if_pos hk]
        obtain ⟨j1, j2, j3⟩ := i2 hk
        obtain ⟨g1, g2⟩ := ih (G (a + 1) p).2.1 (G (a + 1) p).2.2.1 (o ++ (G (a + 1) p).2.2.2 ++ [(K a, 0)]) i1 j2 (by omega) (by simp; omega)
        exact ⟨g1, fun h => ⟨by have := (g2 h).1; omega, (g2 h).2⟩⟩
      · rw [if_neg hk]
        exact ⟨i1, fun h => by cases h⟩
    · rw [if_neg hs]
      exact ⟨ha, fun _ => ⟨Nat.le_refl _, hp, ho⟩⟩
theorem sp_snd_lp {K : Nat → Nat} {M : Nat} (h0 : K M = 0) {sg : Nat → Bool} (hsg : sg 0 = false) {G : Nat → Nat → sp_R} (hG : sp_snd M G) : sp_snd M (sp_lp K sg G) := by
  intro a p ha hp
  obtain ⟨i1, i2⟩ := hG a p ha hp
  unfold sp_lp
  by_cases hk : (G a p).1 = true
  · rw [if_pos hk]
    obtain ⟨j1, j2, j3⟩ := i2 hk
    obtain ⟨g1, g2⟩ := sp_snd_tl h0 hsg hG p 80 (G a p).2.1 (G a p).2.2.1 (G a p).2.2.2 i1 j2 j1 j3
    exact ⟨g1, fun h => ⟨by have := (g2 h).1; omega, (g2 h).2.1, (g2 h).2.2⟩⟩
  · rw [if_neg hk]
    exact ⟨i1, fun h => absurd h hk⟩
theorem sp_snd_in {K : Nat → Nat} {V : Nat → Int32} {M : Nat} (h0 : K M = 0) : ∀ d F, sp_in K V d = some F → sp_snd M F
  | 0, F, h => by cases h
  | d + 1, F, h => by
    cases h
    exact sp_snd_lp h0 rfl (sp_snd_lp h0 rfl (sp_snd_part h0 (sp_snd_in h0 d)))
theorem sp_snd_p {K : Nat → Nat} {V : Nat → Int32} {M : Nat} (h0 : K M = 0) (d : Nat) : sp_snd M (sp_part K V d) := sp_snd_part h0 (sp_snd_in h0 d)
theorem sp_snd_t {K : Nat → Nat} {V : Nat → Int32} {M : Nat} (h0 : K M = 0) (d : Nat) : sp_snd M (sp_term K V d) := sp_snd_lp h0 rfl (sp_snd_p h0 d)
theorem sp_snd_s {K : Nat → Nat} {V : Nat → Int32} {M : Nat} (h0 : K M = 0) (d : Nat) : sp_snd M (sp_sum K V d) := sp_snd_lp h0 rfl (sp_snd_t h0 d)
/-- a list written into a row from place s on -/
def sp_wr (f : Nat → Int32) (s : Nat) : List Int32 → (Nat → Int32)
  | [] => f
  | x :: l => sp_wr (upd f s x) (s + 1) l
theorem sp_wr_app : ∀ (a b : List Int32) (f : Nat → Int32) (s : Nat), sp_wr f s (a ++ b) = sp_wr (sp_wr f s a) (s + a.length) b
  | [], b, f, s => rfl
  | x :: a, b, f, s => by
    show sp_wr (upd f s x) (s + 1) (a ++ b) = sp_wr (sp_wr (upd f s x) (s + 1) a) (s + (a.length + 1)) b
    rw [sp_wr_app a b, show s + 1 + a.length = s + (a.length + 1) by omega]
def co_k (f : Nat → Int32) (s : Nat) (l : List (Nat × Int32)) : Nat → Int32 := sp_wr f s (l.map fun q => nI q.1)
def co_v (f : Nat → Int32) (s : Nat) (l : List (Nat × Int32)) : Nat → Int32 := sp_wr f s (l.map fun q => q.2)
theorem co_k_app (f : Nat → Int32) (s : Nat) (a b : List (Nat × Int32)) : co_k f s (a ++ b) = co_k (co_k f s a) (s + a.length) b := by
  unfold co_k
  rw [List.map_append, sp_wr_app, List.length_map]
theorem co_v_app (f : Nat → Int32) (s : Nat) (a b : List (Nat × Int32)) : co_v f s (a ++ b) = co_v (co_v f s a) (s + a.length) b := by
  unfold co_v
  rw [List.map_append, sp_wr_app, List.length_map]
/-- the rows hold the tokens K, V up to the end at M -/
def tq (K : Nat → Nat) (V : Nat → Int32) (M : Nat) (fk fv : Nat → Int32) : Prop := K M = 0 ∧ M ≤ 400 ∧ (∀ k, k ≤ M → fk k = nI (K k) ∧ fv k = V k) ∧ ∀ k, K k ≤ 20
theorem tq_k {K : Nat → Nat} {V : Nat → Int32} {M : Nat} {fk fv : Nat → Int32} (h : tq K V M fk fv) {a : Nat} (ha : a ≤ M) {k : Nat} (hk : k ≤ 20) : fk a = nI k ↔ K a = k := by
  rw [(h.2.2.1 a ha).1]
  exact nI_eq (by have := h.2.2.2 a; omega) (by omega)
end
section
/-! The reader: parts, terms, sums. -/

set_option maxRecDepth 100000 in
set_option maxHeartbeats 4000000 in
theorem s_Co_add {x0 x1 x2 x3 x4 x5 x6 x7 : va_E} {g : rr_H} {rl : Int32} {ck cv : Nat → Int32} {s : Nat} {k v : Int32} (hs : s < 160) : rr_Spec 0 y_Co_add c_Co_add 3 none 0 0 [.ref 8, .int k, .int v] (x0 :: x1 :: x2 :: x3 :: x4 :: x5 :: x6 :: x7 :: .inr (0, [.ref 9, .ref 10, .ref 11, .int (nI s), .int rl]) :: .inl (0, 160, .inl (ck)) :: .inl (0, 160, .inl (cv)) :: g) (fun r h1 => r = none ∧ h1 = x0 :: x1 :: x2 :: x3 :: x4 :: x5 :: x6 :: x7 :: .inr (0, [.ref 9, .ref 10, .ref 11, .int (nI (s + 1)), .int rl]) :: .inl (0, 160, .inl (upd ck s k)) :: .inl (0, 160, .inl (upd cv s v)) :: g) := by
  refine rr_met (own := R_Co) (kd := (false, none)) (by decide +kernel) rfl (fun h => by cases h) rfl (Nat.le_of_ble_eq_true rfl) ?_
  refine rr_aload_n d_Co_add_0 rfl rfl ?_
  refine rr_getf d_Co_add_1 fl_Co_21 rfl rfl ?_
  refine rr_sipush 160 d_Co_add_4 rfl ?_
  refine rr_icmp_ge 40 d_Co_add_7 (by decide) (fun c9 => absurd c9 (nI_ge (a := s) (b := 160) hs (by decide))) (fun _ => ?_)
  refine rr_aload_n d_Co_add_10 rfl rfl ?_
  refine rr_getf d_Co_add_11 fl_Co_9 rfl rfl ?_
  refine rr_aload_n d_Co_add_14 rfl rfl ?_
  refine rr_getf d_Co_add_15 fl_Co_21 rfl rfl ?_
  refine rr_iload_n d_Co_add_18 rfl rfl ?_
  refine rr_iast d_Co_add_19 rfl (vp_in_nI hs (by decide)) ?_
  refine rr_aload_n d_Co_add_20 rfl rfl ?_
  refine rr_getf d_Co_add_21 fl_Co_15 rfl rfl ?_
  refine rr_aload_n d_Co_add_24 rfl rfl ?_
  refine rr_getf d_Co_add_25 fl_Co_21 rfl rfl ?_
  refine rr_iload_n d_Co_add_28 rfl rfl ?_
  refine rr_iast d_Co_add_29 rfl (vp_in_nI hs (by decide)) ?_
  refine rr_aload_n d_Co_add_30 rfl rfl ?_
  refine rr_dup d_Co_add_31 rfl ?_
  refine rr_getf d_Co_add_32 fl_Co_21 rfl rfl ?_
  refine rr_iconst 1 d_Co_add_35 rfl ?_
  refine rr_iadd d_Co_add_36 ?_
  refine rr_putf d_Co_add_37 fl_Co_21 rfl rfl rfl rfl ?_
  rw [nI_1, nI_clamp (by omega)]
  exact rr_return d_Co_add_40 rfl (Nat.le_of_ble_eq_true rfl) (Nat.le_of_ble_eq_true rfl) (⟨rfl, rfl⟩)

set_option maxRecDepth 100000 in
set_option maxHeartbeats 4000000 in
theorem s_Re_pass_t {x0 x1 x2 x7 : va_E} {g : rr_H} {sz rl : Int32} {fk fv ck cv : Nat → Int32} {a p s : Nat} {x : Int32} (ha : a ≤ 400) (hx : fk a = x) : rr_Spec 0 y_Re_pass c_Re_pass 2 (some .boolean) 0 0 [.ref 3, .int x] (x0 :: x1 :: x2 :: .inr (2, [.ref 4, .ref 8, .int (nI a), .int (nI p)]) :: .inr (4, [.ref 5, .ref 6, .ref 7, .int sz]) :: .inl (0, 401, .inl fk) :: .inl (0, 401, .inl fv) :: x7 :: .inr (0, [.ref 9, .ref 10, .ref 11, .int (nI s), .int rl]) :: .inl (0, 160, .inl (ck)) :: .inl (0, 160, .inl (cv)) :: g) (fun r h1 => r = some (.int 1) ∧ h1 = x0 :: x1 :: x2 :: .inr (2, [.ref 4, .ref 8, .int (nI (a + 1)), .int (nI p)]) :: .inr (4, [.ref 5, .ref 6, .ref 7, .int sz]) :: .inl (0, 401, .inl fk) :: .inl (0, 401, .inl fv) :: x7 :: .inr (0, [.ref 9, .ref 10, .ref 11, .int (nI s), .int rl]) :: .inl (0, 160, .inl (ck)) :: .inl (0, 160, .inl (cv)) :: g) := by
  refine rr_met (own := R_Re) (kd := (false, none)) (by decide +kernel) rfl (fun h => by cases h) rfl (Nat.le_of_ble_eq_true rfl) ?_
  refine rr_aload_n d_Re_pass_0 rfl rfl ?_
  refine rr_getf d_Re_pass_1 fl_Re_12 rfl rfl ?_
  refine rr_getf d_Re_pass_4 fl_Re_66 rfl rfl ?_
  refine rr_aload_n d_Re_pass_7 rfl rfl ?_
  refine rr_getf d_Re_pass_8 fl_Re_32 rfl rfl ?_
  refine rr_iald d_Re_pass_11 rfl (vp_in_nI (n := a) (by omega) (by decide)) ?_
  refine rr_iload_n d_Re_pass_12 rfl rfl ?_
  rw [nI_clamp (by omega)]
  refine rr_icmp_eq 18 d_Re_pass_13 (by decide) (fun _ => ?_) (fun c9 => absurd (hx) c9)
  refine rr_aload_n d_Re_pass_18 rfl rfl ?_
  refine rr_dup d_Re_pass_19 rfl ?_
  refine rr_getf d_Re_pass_20 fl_Re_32 rfl rfl ?_
  refine rr_iconst 1 d_Re_pass_23 rfl ?_
  refine rr_iadd d_Re_pass_24 ?_
  refine rr_putf d_Re_pass_25 fl_Re_32 rfl rfl rfl rfl ?_
  refine rr_iconst 1 d_Re_pass_28 rfl ?_
  rw [nI_1]
  exact rr_ireturn d_Re_pass_29 rfl rfl (Nat.le_of_ble_eq_true rfl) (Nat.le_of_ble_eq_true rfl) (⟨rfl, rfl⟩)

set_option maxRecDepth 100000 in
set_option maxHeartbeats 4000000 in
theorem s_Re_pass_f {x0 x1 x2 x7 : va_E} {g : rr_H} {sz rl : Int32} {fk fv ck cv : Nat → Int32} {a p s : Nat} {x : Int32} (ha : a ≤ 400) (hx : ¬ fk a = x) : rr_Spec 0 y_Re_pass c_Re_pass 2 (some .boolean) 0 0 [.ref 3, .int x] (x0 :: x1 :: x2 :: .inr (2, [.ref 4, .ref 8, .int (nI a), .int (nI p)]) :: .inr (4, [.ref 5, .ref 6, .ref 7, .int sz]) :: .inl (0, 401, .inl fk) :: .inl (0, 401, .inl fv) :: x7 :: .inr (0, [.ref 9, .ref 10, .ref 11, .int (nI s), .int rl]) :: .inl (0, 160, .inl (ck)) :: .inl (0, 160, .inl (cv)) :: g) (fun r h1 => r = some (.int 0) ∧ h1 = x0 :: x1 :: x2 :: .inr (2, [.ref 4, .ref 8, .int (nI a), .int (nI p)]) :: .inr (4, [.ref 5, .ref 6, .ref 7, .int sz]) :: .inl (0, 401, .inl fk) :: .inl (0, 401, .inl fv) :: x7 :: .inr (0, [.ref 9, .ref 10, .ref 11, .int (nI s), .int rl]) :: .inl (0, 160, .inl (ck)) :: .inl (0, 160, .inl (cv)) :: g) := by
  refine rr_met (own := R_Re) (kd := (false, none)) (by decide +kernel) rfl (fun h => by cases h) rfl (Nat.le_of_ble_eq_true rfl) ?_
  refine rr_aload_n d_Re_pass_0 rfl rfl ?_
  refine rr_getf d_Re_pass_1 fl_Re_12 rfl rfl ?_
  refine rr_getf d_Re_pass_4 fl_Re_66 rfl rfl ?_
  refine rr_aload_n d_Re_pass_7 rfl rfl ?_
  refine rr_getf d_Re_pass_8 fl_Re_32 rfl rfl ?_
  refine rr_iald d_Re_pass_11 rfl (vp_in_nI (n := a) (by omega) (by decide)) ?_
  refine rr_iload_n d_Re_pass_12 rfl rfl ?_
  rw [nI_clamp (by omega)]
  refine rr_icmp_eq 18 d_Re_pass_13 (by decide) (fun c9 => absurd c9 (hx)) (fun _ => ?_)
  refine rr_iconst 0 d_Re_pass_16 rfl ?_
  exact rr_ireturn d_Re_pass_17 rfl rfl (Nat.le_of_ble_eq_true rfl) (Nat.le_of_ble_eq_true rfl) (⟨rfl, rfl⟩)

set_option maxRecDepth 100000 in
set_option maxHeartbeats 4000000 in
theorem s_Re_looksAt_t {x0 x1 x2 x7 : va_E} {g : rr_H} {sz rl : Int32} {fk fv ck cv : Nat → Int32} {a p s : Nat} {x : Int32} (ha : a ≤ 400) (hx : fk a = x) : rr_Spec 0 y_Re_looksAt c_Re_looksAt 2 (some .boolean) 0 0 [.ref 3, .int x] (x0 :: x1 :: x2 :: .inr (2, [.ref 4, .ref 8, .int (nI a), .int (nI p)]) :: .inr (4, [.ref 5, .ref 6, .ref 7, .int sz]) :: .inl (0, 401, .inl fk) :: .inl (0, 401, .inl fv) :: x7 :: .inr (0, [.ref 9, .ref 10, .ref 11, .int (nI s), .int rl]) :: .inl (0, 160, .inl (ck)) :: .inl (0, 160, .inl (cv)) :: g) (fun r h1 => r = some (.int 1) ∧ h1 = x0 :: x1 :: x2 :: .inr (2, [.ref 4, .ref 8, .int (nI a), .int (nI p)]) :: .inr (4, [.ref 5, .ref 6, .ref 7, .int sz]) :: .inl (0, 401, .inl fk) :: .inl (0, 401, .inl fv) :: x7 :: .inr (0, [.ref 9, .ref 10, .ref 11, .int (nI s), .int rl]) :: .inl (0, 160, .inl (ck)) :: .inl (0, 160, .inl (cv)) :: g) := by
  refine rr_met (own := R_Re) (kd := (false, none)) (by decide +kernel) rfl (fun h => by cases h) rfl (Nat.le_of_ble_eq_true rfl) ?_
  refine rr_aload_n d_Re_looksAt_0 rfl rfl ?_
  refine rr_getf d_Re_looksAt_1 fl_Re_12 rfl rfl ?_
  refine rr_getf d_Re_looksAt_4 fl_Re_66 rfl rfl ?_
  refine rr_aload_n d_Re_looksAt_7 rfl rfl ?_
  refine rr_getf d_Re_looksAt_8 fl_Re_32 rfl rfl ?_
  refine rr_iald d_Re_looksAt_11 rfl (vp_in_nI (n := a) (by omega) (by decide)) ?_
  refine rr_iload_n d_Re_looksAt_12 rfl rfl ?_
  rw [nI_clamp (by omega)]
  refine rr_icmp_ne 20 d_Re_looksAt_13 (by decide) (fun c9 => absurd (hx) c9) (fun _ => ?_)
  refine rr_iconst 1 d_Re_looksAt_16 rfl ?_
  refine rr_goto 21 d_Re_looksAt_17 (by decide) ?_
  exact rr_ireturn d_Re_looksAt_21 rfl rfl (Nat.le_of_ble_eq_true rfl) (Nat.le_of_ble_eq_true rfl) (⟨rfl, rfl⟩)

set_option maxRecDepth 100000 in
set_option maxHeartbeats 4000000 in
theorem s_Re_looksAt_f {x0 x1 x2 x7 : va_E} {g : rr_H} {sz rl : Int32} {fk fv ck cv : Nat → Int32} {a p s : Nat} {x : Int32} (ha : a ≤ 400) (hx : ¬ fk a = x) : rr_Spec 0 y_Re_looksAt c_Re_looksAt 2 (some .boolean) 0 0 [.ref 3, .int x] (x0 :: x1 :: x2 :: .inr (2, [.ref 4, .ref 8, .int (nI a), .int (nI p)]) :: .inr (4, [.ref 5, .ref 6, .ref 7, .int sz]) :: .inl (0, 401, .inl fk) :: .inl (0, 401, .inl fv) :: x7 :: .inr (0, [.ref 9, .ref 10, .ref 11, .int (nI s), .int rl]) :: .inl (0, 160, .inl (ck)) :: .inl (0, 160, .inl (cv)) :: g) (fun r h1 => r = some (.int 0) ∧ h1 = x0 :: x1 :: x2 :: .inr (2, [.ref 4, .ref 8, .int (nI a), .int (nI p)]) :: .inr (4, [.ref 5, .ref 6, .ref 7, .int sz]) :: .inl (0, 401, .inl fk) :: .inl (0, 401, .inl fv) :: x7 :: .inr (0, [.ref 9, .ref 10, .ref 11, .int (nI s), .int rl]) :: .inl (0, 160, .inl (ck)) :: .inl (0, 160, .inl (cv)) :: g) := by
  refine rr_met (own := R_Re) (kd := (false, none)) (by decide +kernel) rfl (fun h => by cases h) rfl (Nat.le_of_ble_eq_true rfl) ?_
  refine rr_aload_n d_Re_looksAt_0 rfl rfl ?_
  refine rr_getf d_Re_looksAt_1 fl_Re_12 rfl rfl ?_
  refine rr_getf d_Re_looksAt_4 fl_Re_66 rfl rfl ?_
  refine rr_aload_n d_Re_looksAt_7 rfl rfl ?_
  refine rr_getf d_Re_looksAt_8 fl_Re_32 rfl rfl ?_
  refine rr_iald d_Re_looksAt_11 rfl (vp_in_nI (n := a) (by omega) (by decide)) ?_
  refine rr_iload_n d_Re_looksAt_12 rfl rfl ?_
  rw [nI_clamp (by omega)]
  refine rr_icmp_ne 20 d_Re_looksAt_13 (by decide) (fun _ => ?_) (fun c9 => absurd c9 (hx))
  refine rr_iconst 0 d_Re_looksAt_20 rfl ?_
  exact rr_ireturn d_Re_looksAt_21 rfl rfl (Nat.le_of_ble_eq_true rfl) (Nat.le_of_ble_eq_true rfl) (⟨rfl, rfl⟩)

set_option maxRecDepth 100000 in
set_option maxHeartbeats 4000000 in
theorem s_Re_looksAtCellNumber_t {x0 x1 x2 x7 : va_E} {g : rr_H} {sz rl : Int32} {fk fv ck cv : Nat → Int32} {a p s : Nat} (ha : a ≤ 400) (hx : fk a = 9 ∧ fv a < 32) : rr_Spec 0 y_Re_looksAtCellNumber c_Re_looksAtCellNumber 1 (some .boolean) 0 0 [.ref 3] (x0 :: x1 :: x2 :: .inr (2, [.ref 4, .ref 8, .int (nI a), .int (nI p)]) :: .inr (4, [.ref 5, .ref 6, .ref 7, .int sz]) :: .inl (0, 401, .inl fk) :: .inl (0, 401, .inl fv) :: x7 :: .inr (0, [.ref 9, .ref 10, .ref 11, .int (nI s), .int rl]) :: .inl (0, 160, .inl (ck)) :: .inl (0, 160, .inl (cv)) :: g) (fun r h1 => r = some (.int 1) ∧ h1 = x0 :: x1 :: x2 :: .inr (2, [.ref 4, .ref 8, .int (nI a), .int (nI p)]) :: .inr (4, [.ref 5, .ref 6, .ref 7, .int sz]) :: .inl (0, 401, .inl fk) :: .inl (0, 401, .inl fv) :: x7 :: .inr (0, [.ref 9, .ref 10, .ref 11, .int (nI s), .int rl]) :: .inl (0, 160, .inl (ck)) :: .inl (0, 160, .inl (cv)) :: g) := by
  refine rr_met (own := R_Re) (kd := (false, none)) (by decide +kernel) rfl (fun h => by cases h) rfl (Nat.le_of_ble_eq_true rfl) ?_
  refine rr_aload_n d_Re_looksAtCellNumber_0 rfl rfl ?_
  refine rr_getf d_Re_looksAtCellNumber_1 fl_Re_12 rfl rfl ?_
  refine rr_getf d_Re_looksAtCellNumber_4 fl_Re_66 rfl rfl ?_
  refine rr_aload_n d_Re_looksAtCellNumber_7 rfl rfl ?_
  refine rr_getf d_Re_looksAtCellNumber_8 fl_Re_32 rfl rfl ?_
  refine rr_iald d_Re_looksAtCellNumber_11 rfl (vp_in_nI (n := a) (by omega) (by decide)) ?_
  refine rr_bipush 9 d_Re_looksAtCellNumber_12 rfl ?_
  rw [nI_clamp (by omega)]
  refine rr_icmp_ne 38 d_Re_looksAtCellNumber_14 (by decide) (fun c9 => absurd (hx.1) c9) (fun _ => ?_)
  refine rr_aload_n d_Re_looksAtCellNumber_17 rfl rfl ?_
  refine rr_getf d_Re_looksAtCellNumber_18 fl_Re_12 rfl rfl ?_
  refine rr_getf d_Re_looksAtCellNumber_21 fl_Re_76 rfl rfl ?_
  refine rr_aload_n d_Re_looksAtCellNumber_24 rfl rfl ?_
  refine rr_getf d_Re_looksAtCellNumber_25 fl_Re_32 rfl rfl ?_
  refine rr_iald d_Re_looksAtCellNumber_28 rfl (vp_in_nI (n := a) (by omega) (by decide)) ?_
  refine rr_bipush 32 d_Re_looksAtCellNumber_29 rfl ?_
  rw [nI_clamp (by omega)]
  refine rr_icmp_ge 38 d_Re_looksAtCellNumber_31 (by decide) (fun c9 => absurd c9 (Int32.not_le.mpr hx.2)) (fun _ => ?_)
  refine rr_iconst 1 d_Re_looksAtCellNumber_34 rfl ?_
  refine rr_goto 39 d_Re_looksAtCellNumber_35 (by decide) ?_
  exact rr_ireturn d_Re_looksAtCellNumber_39 rfl rfl (Nat.le_of_ble_eq_true rfl) (Nat.le_of_ble_eq_true rfl) (⟨rfl, rfl⟩)

set_option maxRecDepth 100000 in
set_option maxHeartbeats 4000000 in
theorem s_Re_looksAtCellNumber_f {x0 x1 x2 x7 : va_E} {g : rr_H} {sz rl : Int32} {fk fv ck cv : Nat → Int32} {a p s : Nat} (ha : a ≤ 400) (hx : ¬ (fk a = 9 ∧ fv a < 32)) : rr_Spec 0 y_Re_looksAtCellNumber c_Re_looksAtCellNumber 1 (some .boolean) 0 0 [.ref 3] (x0 :: x1 :: x2 :: .inr (2, [.ref 4, .ref 8, .int (nI a), .int (nI p)]) :: .inr (4, [.ref 5, .ref 6, .ref 7, .int sz]) :: .inl (0, 401, .inl fk) :: .inl (0, 401, .inl fv) :: x7 :: .inr (0, [.ref 9, .ref 10, .ref 11, .int (nI s), .int rl]) :: .inl (0, 160, .inl (ck)) :: .inl (0, 160, .inl (cv)) :: g) (fun r h1 => r = some (.int 0) ∧ h1 = x0 :: x1 :: x2 :: .inr (2, [.ref 4, .ref 8, .int (nI a), .int (nI p)]) :: .inr (4, [.ref 5, .ref 6, .ref 7, .int sz]) :: .inl (0, 401, .inl fk) :: .inl (0, 401, .inl fv) :: x7 :: .inr (0, [.ref 9, .ref 10, .ref 11, .int (nI s), .int rl]) :: .inl (0, 160, .inl (ck)) :: .inl (0, 160, .inl (cv)) :: g) := by
  refine rr_met (own := R_Re) (kd := (false, none)) (by decide +kernel) rfl (fun h => by cases h) rfl (Nat.le_of_ble_eq_true rfl) ?_
  refine rr_aload_n d_Re_looksAtCellNumber_0 rfl rfl ?_
  refine rr_getf d_Re_looksAtCellNumber_1 fl_Re_12 rfl rfl ?_
  refine rr_getf d_Re_looksAtCellNumber_4 fl_Re_66 rfl rfl ?_
  refine rr_aload_n d_Re_looksAtCellNumber_7 rfl rfl ?_
  refine rr_getf d_Re_looksAtCellNumber_8 fl_Re_32 rfl rfl ?_
  refine rr_iald d_Re_looksAtCellNumber_11 rfl (vp_in_nI (n := a) (by omega) (by decide)) ?_
  refine rr_bipush 9 d_Re_looksAtCellNumber_12 rfl ?_
  rw [nI_clamp (by omega)]
  refine rr_icmp_ne 38 d_Re_looksAtCellNumber_14 (by decide) (fun h9 => ?_) (fun h9 => ?_)
  · skip
    refine rr_iconst 0 d_Re_looksAtCellNumber_38 rfl ?_
    exact rr_ireturn d_Re_looksAtCellNumber_39 rfl rfl (Nat.le_of_ble_eq_true rfl) (Nat.le_of_ble_eq_true rfl) (⟨rfl, rfl⟩)
  refine rr_aload_n d_Re_looksAtCellNumber_17 rfl rfl ?_
  refine rr_getf d_Re_looksAtCellNumber_18 fl_Re_12 rfl rfl ?_
  refine rr_getf d_Re_looksAtCellNumber_21 fl_Re_76 rfl rfl ?_
  refine rr_aload_n d_Re_looksAtCellNumber_24 rfl rfl ?_
  refine rr_getf d_Re_looksAtCellNumber_25 fl_Re_32 rfl rfl ?_
  refine rr_iald d_Re_looksAtCellNumber_28 rfl (vp_in_nI (n := a) (by omega) (by decide)) ?_
  refine rr_bipush 32 d_Re_looksAtCellNumber_29 rfl ?_
  rw [nI_clamp (by omega)]
  refine rr_icmp_ge 38 d_Re_looksAtCellNumber_31 (by decide) (fun _ => ?_) (fun c9 => absurd (Int32.not_lt.mp (fun q => hx ⟨h9, q⟩)) c9)
  refine rr_iconst 0 d_Re_looksAtCellNumber_38 rfl ?_
  exact rr_ireturn d_Re_looksAtCellNumber_39 rfl rfl (Nat.le_of_ble_eq_true rfl) (Nat.le_of_ble_eq_true rfl) (⟨rfl, rfl⟩)

/-- what a reading method answers and does: R is what is read; mk the heap by at, parts, steps and the code's rows -/
def re_Q (M : Nat) (R : sp_R) (s : Nat) (ck cv : Nat → Int32) (mk : Nat → Nat → Nat → (Nat → Int32) → (Nat → Int32) → rr_H) : Option Value → rr_H → Prop := fun r h1 => ∃ (s2 : Nat) (ck2 cv2 : Nat → Int32), r = some (.int (sp_b R.1)) ∧ h1 = mk R.2.1 R.2.2.1 s2 ck2 cv2 ∧ s2 ≤ 160 ∧ (R.1 = true → s2 = s + R.2.2.2.length ∧ ck2 = co_k ck s R.2.2.2 ∧ cv2 = co_v cv s R.2.2.2)

set_option maxRecDepth 100000 in
set_option maxHeartbeats 4000000 in
theorem s_Re_readPart_0 {x0 x1 x2 x7 : va_E} {g : rr_H} {K : Nat → Nat} {V : Nat → Int32} {M : Nat} {sz rl : Int32} {fk fv : Nat → Int32} (ht : tq K V M fk fv) : ∀ (a p s : Nat) (ck cv : Nat → Int32), a ≤ M → p ≤ 80 → s ≤ 2 * p → rr_Spec (3 * 0 + 3) y_Re_readPart c_Re_readPart 3 (some .boolean) 0 0 [.ref 3, .int (nI 6)] (x0 :: x1 :: x2 :: .inr (2, [.ref 4, .ref 8, .int (nI a), .int (nI p)]) :: .inr (4, [.ref 5, .ref 6, .ref 7, .int sz]) :: .inl (0, 401, .inl fk) :: .inl (0, 401, .inl fv) :: x7 :: .inr (0, [.ref 9, .ref 10, .ref 11, .int (nI s), .int rl]) :: .inl (0, 160, .inl (ck)) :: .inl (0, 160, .inl (cv)) :: g) (re_Q M (sp_part K V 0 a p) s ck cv (fun a p s ck cv => x0 :: x1 :: x2 :: .inr (2, [.ref 4, .ref 8, .int (nI a), .int (nI p)]) :: .inr (4, [.ref 5, .ref 6, .ref 7, .int sz]) :: .inl (0, 401, .inl fk) :: .inl (0, 401, .inl fv) :: x7 :: .inr (0, [.ref 9, .ref 10, .ref 11, .int (nI s), .int rl]) :: .inl (0, 160, .inl (ck)) :: .inl (0, 160, .inl (cv)) :: g)) := by
  intro a p s ck cv ha hp hs
  have hM := ht.2.1
  refine rr_met (own := R_Re) (kd := (false, none)) (by decide +kernel) rfl (fun h => by cases h) rfl (Nat.le_of_ble_eq_true rfl) ?_
  have i20 : ∀ {j k : Nat}, j ≤ M → k ≤ 20 → (fk j = nI k ↔ K j = k) := fun hj hk => tq_k ht hj hk
  refine rr_aload_n d_Re_readPart_0 rfl rfl ?_
  refine rr_bipush 19 d_Re_readPart_1 rfl ?_
  by_cases k19 : K a = 19
  · have e19 : fk a = 19 := (i20 (k := 19) ha (by decide)).mpr k19
    refine rr_callV d_Re_readPart_3 il_Re_46 m_Re_looksAt (s_Re_looksAt_t (by omega) e19) rfl rfl rfl rfl (Nat.le_of_ble_eq_true rfl) (by dsimp only; omega) (by dsimp only; omega) (Nat.le_of_ble_eq_true rfl) (Nat.le_of_ble_eq_true rfl) (fun r h1 hq => ?_)
    obtain ⟨rfl, rfl⟩ := hq
    refine rr_if_eq 49 d_Re_readPart_6 (by decide) (fun c9 => absurd c9 (by decide)) (fun _ => ?_)
    refine rr_iload_n d_Re_readPart_9 rfl rfl ?_
    refine rr_bipush 6 d_Re_readPart_10 rfl ?_
    have eR : sp_part K V 0 a p = (false, a, p, []) := by unfold sp_part sp_partOf; rw [if_pos k19]; rfl
    rw [eR]
    refine rr_icmp_ge 47 d_Re_readPart_12 (by decide) (fun _ => ?_) (fun c9 => absurd (by decide) c9)
    refine rr_iconst 0 d_Re_readPart_47 rfl ?_
    exact rr_ireturn d_Re_readPart_48 rfl rfl (Nat.le_of_ble_eq_true rfl) (Nat.le_of_ble_eq_true rfl) (⟨s, ck, cv, rfl, rfl, by omega, fun h => by cases h⟩)
  · have e19 : ¬ fk a = 19 := fun q => k19 ((i20 (k := 19) ha (by decide)).mp q)
    have eR : sp_part K V 0 a p = if 80 ≤ p then (false, a, p, []) else if K a = 8 then (if K (a + 1) = 9 ∧ V (a + 1) < 32 then (true, a + 2, p + 1, [(8, V (a + 1))]) else (false, a + 1, p + 1, [])) else if K a = 9 ∨ K a = 6 ∨ K a = 7 then (true, a + 1, p + 1, [(K a, V a)]) else (false, a, p + 1, []) := by unfold sp_part sp_partOf; rw [if_neg k19]
    rw [eR]
    refine rr_callV d_Re_readPart_3 il_Re_46 m_Re_looksAt (s_Re_looksAt_f (by omega) e19) rfl rfl rfl rfl (Nat.le_of_ble_eq_true rfl) (by dsimp only; omega) (by dsimp only; omega) (Nat.le_of_ble_eq_true rfl) (Nat.le_of_ble_eq_true rfl) (fun r h1 hq => ?_)
    obtain ⟨rfl, rfl⟩ := hq
    refine rr_if_eq 49 d_Re_readPart_6 (by decide) (fun _ => ?_) (fun c9 => absurd (rfl) c9)
    refine rr_aload_n d_Re_readPart_49 rfl rfl ?_
    refine rr_getf d_Re_readPart_50 fl_Re_36 rfl rfl ?_
    refine rr_bipush 80 d_Re_readPart_53 rfl ?_
    by_cases h80 : 80 ≤ p
    · rw [if_pos h80]
      refine rr_icmp_lt 60 d_Re_readPart_55 (by decide) (fun c9 => absurd c9 (nI_nlt h80 (by omega))) (fun _ => ?_)
      refine rr_iconst 0 d_Re_readPart_58 rfl ?_
      exact rr_ireturn d_Re_readPart_59 rfl rfl (Nat.le_of_ble_eq_true rfl) (Nat.le_of_ble_eq_true rfl) (⟨s, ck, cv, rfl, rfl, by omega, fun h => by cases h⟩)
    · rw [if_neg h80]
      refine rr_icmp_lt 60 d_Re_readPart_55 (by decide) (fun _ => ?_) (fun c9 => absurd (nI_lt (a := p) (b := 80) (by omega) (by decide)) c9)
      refine rr_aload_n d_Re_readPart_60 rfl rfl ?_
      refine rr_dup d_Re_readPart_61 rfl ?_
      refine rr_getf d_Re_readPart_62 fl_Re_36 rfl rfl ?_
      refine rr_iconst 1 d_Re_readPart_65 rfl ?_
      refine rr_iadd d_Re_readPart_66 ?_
      refine rr_putf d_Re_readPart_67 fl_Re_36 rfl rfl rfl rfl ?_
      refine rr_aload_n d_Re_readPart_70 rfl rfl ?_
      refine rr_getf d_Re_readPart_71 fl_Re_12 rfl rfl ?_
      refine rr_getf d_Re_readPart_74 fl_Re_66 rfl rfl ?_
      refine rr_aload_n d_Re_readPart_77 rfl rfl ?_
      refine rr_getf d_Re_readPart_78 fl_Re_32 rfl rfl ?_
      refine rr_iald d_Re_readPart_81 rfl (vp_in_nI (n := a) (by omega) (by decide)) ?_
      refine rr_istore_n d_Re_readPart_82 rfl (by decide) ?_
      refine rr_aload_n d_Re_readPart_83 rfl rfl ?_
      refine rr_bipush 8 d_Re_readPart_84 rfl ?_
      rw [nI_1, nI_clamp (by omega)]
      have fin : ∀ (a1 kk : Nat), a1 ≤ M → K a1 ≠ 0 → rr_A R_Re c_Re_readPart 3 (some .boolean) (false, none) { frames := (3 * 0 + 3), cells := 0, slots := 0, locals := ((3 * 0 + 3)) * 64 } (re_Q M (true, a1 + 1, p + 1, [(kk, V a1)]) s ck cv (fun a p s ck cv => x0 :: x1 :: x2 :: .inr (2, [.ref 4, .ref 8, .int (nI a), .int (nI p)]) :: .inr (4, [.ref 5, .ref 6, .ref 7, .int sz]) :: .inl (0, 401, .inl fk) :: .inl (0, 401, .inl fv) :: x7 :: .inr (0, [.ref 9, .ref 10, .ref 11, .int (nI s), .int rl]) :: .inl (0, 160, .inl (ck)) :: .inl (0, 160, .inl (cv)) :: g)) 0 0 121 [(2, .int (nI kk)), (0, .ref 3), (1, .int (nI 6))] [] (x0 :: x1 :: x2 :: .inr (2, [.ref 4, .ref 8, .int (nI a1), .int (nI (p + 1))]) :: .inr (4, [.ref 5, .ref 6, .ref 7, .int sz]) :: .inl (0, 401, .inl fk) :: .inl (0, 401, .inl fv) :: x7 :: .inr (0, [.ref 9, .ref 10, .ref 11, .int (nI s), .int rl]) :: .inl (0, 160, .inl (ck)) :: .inl (0, 160, .inl (cv)) :: g) := by
        intro a1 kk h1 h2
        have hl1 := sp_lt ht.1 h1 rfl h2
        refine rr_aload_n d_Re_readPart_121 rfl rfl ?_
        refine rr_getf d_Re_readPart_122 fl_Re_21 rfl rfl ?_
        refine rr_iload_n d_Re_readPart_125 rfl rfl ?_
        refine rr_aload_n d_Re_readPart_126 rfl rfl ?_
        refine rr_getf d_Re_readPart_127 fl_Re_12 rfl rfl ?_
        refine rr_getf d_Re_readPart_130 fl_Re_76 rfl rfl ?_
        refine rr_aload_n d_Re_readPart_133 rfl rfl ?_
        refine rr_getf d_Re_readPart_134 fl_Re_32 rfl rfl ?_
        refine rr_iald d_Re_readPart_137 rfl (vp_in_nI (n := a1) (by omega) (by decide)) ?_
        rw [nI_clamp (by omega), (ht.2.2.1 a1 h1).2]
        refine rr_callV d_Re_readPart_138 il_Re_69 m_Co_add (s_Co_add (by omega)) rfl rfl rfl rfl (Nat.le_of_ble_eq_true rfl) (by dsimp only; omega) (by dsimp only; omega) (Nat.le_of_ble_eq_true rfl) (Nat.le_of_ble_eq_true rfl) (fun r h1 hq => ?_)
        obtain ⟨rfl, rfl⟩ := hq
        refine rr_aload_n d_Re_readPart_141 rfl rfl ?_
        refine rr_dup d_Re_readPart_142 rfl ?_
        refine rr_getf d_Re_readPart_143 fl_Re_32 rfl rfl ?_
        refine rr_iconst 1 d_Re_readPart_146 rfl ?_
        refine rr_iadd d_Re_readPart_147 ?_
        refine rr_putf d_Re_readPart_148 fl_Re_32 rfl rfl rfl rfl ?_
        refine rr_iconst 1 d_Re_readPart_151 rfl ?_
        rw [nI_1]
        exact rr_ireturn d_Re_readPart_152 rfl rfl (Nat.le_of_ble_eq_true rfl) (Nat.le_of_ble_eq_true rfl) (⟨s + 1, _, _, rfl, rfl, by omega, fun _ => ⟨rfl, rfl, rfl⟩⟩)
      by_cases k8 : K a = 8
      · rw [if_pos k8]
        have hl := sp_lt ht.1 ha k8 (by decide)
        have e8 : fk a = 8 := (i20 (k := 8) ha (by decide)).mpr k8
        refine rr_callV d_Re_readPart_86 il_Re_50 m_Re_pass (s_Re_pass_t (by omega) e8) rfl rfl rfl rfl (Nat.le_of_ble_eq_true rfl) (by dsimp only; omega) (by dsimp only; omega) (Nat.le_of_ble_eq_true rfl) (Nat.le_of_ble_eq_true rfl) (fun r h1 hq => ?_)
        obtain ⟨rfl, rfl⟩ := hq
        refine rr_if_eq 101 d_Re_readPart_89 (by decide) (fun c9 => absurd c9 (by decide)) (fun _ => ?_)
        refine rr_aload_n d_Re_readPart_92 rfl rfl ?_
        by_cases k9 : K (a + 1) = 9 ∧ V (a + 1) < 32
        · rw [if_pos k9]
          have e9 : fk (a + 1) = 9 ∧ fv (a + 1) < 32 := ⟨(i20 (k := 9) hl (by decide)).mpr k9.1, by rw [(ht.2.2.1 (a + 1) hl).2]; exact k9.2⟩
          refine rr_callV d_Re_readPart_93 il_Re_73 m_Re_looksAtCellNumber (s_Re_looksAtCellNumber_t (by omega) e9) rfl rfl rfl rfl (Nat.le_of_ble_eq_true rfl) (by dsimp only; omega) (by dsimp only; omega) (Nat.le_of_ble_eq_true rfl) (Nat.le_of_ble_eq_true rfl) (fun r h1 hq => ?_)
          obtain ⟨rfl, rfl⟩ := hq
          refine rr_if_ne 121 d_Re_readPart_96 (by decide) (fun _ => ?_) (fun c9 => absurd c9 (by decide))
          rw [e8]
          exact rr_lvs _ rfl (fin (a + 1) 8 hl (by rw [k9.1]; decide))
        · rw [if_neg k9]
          have e9 : ¬ (fk (a + 1) = 9 ∧ fv (a + 1) < 32) := fun q => k9 ⟨(i20 (k := 9) hl (by decide)).mp q.1, by rw [← (ht.2.2.1 (a + 1) hl).2]; exact q.2⟩
          refine rr_callV d_Re_readPart_93 il_Re_73 m_Re_looksAtCellNumber (s_Re_looksAtCellNumber_f (by omega) e9) rfl rfl rfl rfl (Nat.le_of_ble_eq_true rfl) (by dsimp only; omega) (by dsimp only; omega) (Nat.le_of_ble_eq_true rfl) (Nat.le_of_ble_eq_true rfl) (fun r h1 hq => ?_)
          obtain ⟨rfl, rfl⟩ := hq
          refine rr_if_ne 121 d_Re_readPart_96 (by decide) (fun c9 => absurd (rfl) c9) (fun _ => ?_)
          refine rr_iconst 0 d_Re_readPart_99 rfl ?_
          exact rr_ireturn d_Re_readPart_100 rfl rfl (Nat.le_of_ble_eq_true rfl) (Nat.le_of_ble_eq_true rfl) (⟨s, ck, cv, rfl, rfl, by omega, fun h => by cases h⟩)
      · rw [if_neg k8]
        have e8 : ¬ fk a = 8 := fun q => k8 ((i20 (k := 8) ha (by decide)).mp q)
        refine rr_callV d_Re_readPart_86 il_Re_50 m_Re_pass (s_Re_pass_f (by omega) e8) rfl rfl rfl rfl (Nat.le_of_ble_eq_true rfl) (by dsimp only; omega) (by dsimp only; omega) (Nat.le_of_ble_eq_true rfl) (Nat.le_of_ble_eq_true rfl) (fun r h1 hq => ?_)
        obtain ⟨rfl, rfl⟩ := hq
        refine rr_if_eq 101 d_Re_readPart_89 (by decide) (fun _ => ?_) (fun c9 => absurd (rfl) c9)
        refine rr_iload_n d_Re_readPart_101 rfl rfl ?_
        refine rr_bipush 9 d_Re_readPart_102 rfl ?_
        have ek : fk a = nI (K a) := (ht.2.2.1 a ha).1
        by_cases kx : K a = 9 ∨ K a = 6 ∨ K a = 7
        · rw [if_pos kx]
          have hne : K a ≠ 0 := by omega
          refine rr_icmp_eq 121 d_Re_readPart_104 (by decide) (fun h9 => ?_) (fun h9 => ?_)
          · rw [ek]
            exact rr_lvs _ rfl (fin a (K a) ha hne)
          refine rr_iload_n d_Re_readPart_107 rfl rfl ?_
          refine rr_bipush 6 d_Re_readPart_108 rfl ?_
          refine rr_icmp_eq 121 d_Re_readPart_110 (by decide) (fun h6 => ?_) (fun h6 => ?_)
          · rw [ek]
            exact rr_lvs _ rfl (fin a (K a) ha hne)
          refine rr_iload_n d_Re_readPart_113 rfl rfl ?_
          refine rr_bipush 7 d_Re_readPart_114 rfl ?_
          refine rr_icmp_eq 121 d_Re_readPart_116 (by decide) (fun h7 => ?_) (fun h7 => ?_)
          · rw [ek]
            exact rr_lvs _ rfl (fin a (K a) ha hne)
          rcases kx with q | q | q
          · exact absurd ((i20 (k := 9) ha (by decide)).mpr q) h9
          · exact absurd ((i20 (k := 6) ha (by decide)).mpr q) h6
          · exact absurd ((i20 (k := 7) ha (by decide)).mpr q) h7
        · rw [if_neg kx]
          refine rr_icmp_eq 121 d_Re_readPart_104 (by decide) (fun c9 => absurd c9 (fun q => kx (Or.inl ((i20 (k := 9) ha (by decide)).mp q)))) (fun _ => ?_)
          refine rr_iload_n d_Re_readPart_107 rfl rfl ?_
          refine rr_bipush 6 d_Re_readPart_108 rfl ?_
          refine rr_icmp_eq 121 d_Re_readPart_110 (by decide) (fun c9 => absurd c9 (fun q => kx (Or.inr (Or.inl ((i20 (k := 6) ha (by decide)).mp q))))) (fun _ => ?_)
          refine rr_iload_n d_Re_readPart_113 rfl rfl ?_
          refine rr_bipush 7 d_Re_readPart_114 rfl ?_
          refine rr_icmp_eq 121 d_Re_readPart_116 (by decide) (fun c9 => absurd c9 (fun q => kx (Or.inr (Or.inr ((i20 (k := 7) ha (by decide)).mp q))))) (fun _ => ?_)
          refine rr_iconst 0 d_Re_readPart_119 rfl ?_
          exact rr_ireturn d_Re_readPart_120 rfl rfl (Nat.le_of_ble_eq_true rfl) (Nat.le_of_ble_eq_true rfl) (⟨s, ck, cv, rfl, rfl, by omega, fun h => by cases h⟩)

set_option maxRecDepth 100000 in
set_option maxHeartbeats 4000000 in
theorem s_Re_readPart_1 {x0 x1 x2 x7 : va_E} {g : rr_H} {K : Nat → Nat} {V : Nat → Int32} {M : Nat} {sz rl : Int32} {fk fv : Nat → Int32} {d e : Nat} (ht : tq K V M fk fv) (he : e < 6) (hin : (∀ (a p s : Nat) (ck cv : Nat → Int32), a ≤ M → p ≤ 80 → s ≤ 2 * p → rr_Spec (3 * d + 5) y_Re_readSum c_Re_readSum 4 (some .boolean) 0 0 [.ref 3, .int (nI (e + 1))] (x0 :: x1 :: x2 :: .inr (2, [.ref 4, .ref 8, .int (nI a), .int (nI p)]) :: .inr (4, [.ref 5, .ref 6, .ref 7, .int sz]) :: .inl (0, 401, .inl fk) :: .inl (0, 401, .inl fv) :: x7 :: .inr (0, [.ref 9, .ref 10, .ref 11, .int (nI s), .int rl]) :: .inl (0, 160, .inl (ck)) :: .inl (0, 160, .inl (cv)) :: g) (re_Q M (sp_sum K V d a p) s ck cv (fun a p s ck cv => x0 :: x1 :: x2 :: .inr (2, [.ref 4, .ref 8, .int (nI a), .int (nI p)]) :: .inr (4, [.ref 5, .ref 6, .ref 7, .int sz]) :: .inl (0, 401, .inl fk) :: .inl (0, 401, .inl fv) :: x7 :: .inr (0, [.ref 9, .ref 10, .ref 11, .int (nI s), .int rl]) :: .inl (0, 160, .inl (ck)) :: .inl (0, 160, .inl (cv)) :: g)))) : ∀ (a p s : Nat) (ck cv : Nat → Int32), a ≤ M → p ≤ 80 → s ≤ 2 * p → rr_Spec (3 * (d + 1) + 3) y_Re_readPart c_Re_readPart 3 (some .boolean) 0 0 [.ref 3, .int (nI e)] (x0 :: x1 :: x2 :: .inr (2, [.ref 4, .ref 8, .int (nI a), .int (nI p)]) :: .inr (4, [.ref 5, .ref 6, .ref 7, .int sz]) :: .inl (0, 401, .inl fk) :: .inl (0, 401, .inl fv) :: x7 :: .inr (0, [.ref 9, .ref 10, .ref 11, .int (nI s), .int rl]) :: .inl (0, 160, .inl (ck)) :: .inl (0, 160, .inl (cv)) :: g) (re_Q M (sp_part K V (d + 1) a p) s ck cv (fun a p s ck cv => x0 :: x1 :: x2 :: .inr (2, [.ref 4, .ref 8, .int (nI a), .int (nI p)]) :: .inr (4, [.ref 5, .ref 6, .ref 7, .int sz]) :: .inl (0, 401, .inl fk) :: .inl (0, 401, .inl fv) :: x7 :: .inr (0, [.ref 9, .ref 10, .ref 11, .int (nI s), .int rl]) :: .inl (0, 160, .inl (ck)) :: .inl (0, 160, .inl (cv)) :: g)) := by
  intro a p s ck cv ha hp hs
  have hM := ht.2.1
  refine rr_met (own := R_Re) (kd := (false, none)) (by decide +kernel) rfl (fun h => by cases h) rfl (Nat.le_of_ble_eq_true rfl) ?_
  have i20 : ∀ {j k : Nat}, j ≤ M → k ≤ 20 → (fk j = nI k ↔ K j = k) := fun hj hk => tq_k ht hj hk
  refine rr_aload_n d_Re_readPart_0 rfl rfl ?_
  refine rr_bipush 19 d_Re_readPart_1 rfl ?_
  by_cases k19 : K a = 19
  · have e19 : fk a = 19 := (i20 (k := 19) ha (by decide)).mpr k19
    refine rr_callV d_Re_readPart_3 il_Re_46 m_Re_looksAt (s_Re_looksAt_t (by omega) e19) rfl rfl rfl rfl (Nat.le_of_ble_eq_true rfl) (by dsimp only; omega) (by dsimp only; omega) (Nat.le_of_ble_eq_true rfl) (Nat.le_of_ble_eq_true rfl) (fun r h1 hq => ?_)
    obtain ⟨rfl, rfl⟩ := hq
    refine rr_if_eq 49 d_Re_readPart_6 (by decide) (fun c9 => absurd c9 (by decide)) (fun _ => ?_)
    refine rr_iload_n d_Re_readPart_9 rfl rfl ?_
    refine rr_bipush 6 d_Re_readPart_10 rfl ?_
    have hl := sp_lt ht.1 ha k19 (by decide)
    have eR : sp_part K V (d + 1) a p = if (sp_sum K V d (a + 1) p).1 = true then (if K (sp_sum K V d (a + 1) p).2.1 = 20 then (true, (sp_sum K V d (a + 1) p).2.1 + 1, (sp_sum K V d (a + 1) p).2.2) else (false, (sp_sum K V d (a + 1) p).2.1, (sp_sum K V d (a + 1) p).2.2)) else sp_sum K V d (a + 1) p := by
      show sp_partOf K V (some (sp_sum K V d)) a p = _
      unfold sp_partOf
      rw [if_pos k19]
    rw [eR]
    have hsd := sp_snd_s (V := V) ht.1 d (a + 1) p hl hp
    refine rr_icmp_ge 47 d_Re_readPart_12 (by decide) (fun c9 => absurd c9 (nI_ge (a := e) (b := 6) (by omega) (by decide))) (fun _ => ?_)
    refine rr_aload_n d_Re_readPart_15 rfl rfl ?_
    refine rr_bipush 19 d_Re_readPart_16 rfl ?_
    refine rr_callV d_Re_readPart_18 il_Re_50 m_Re_pass (s_Re_pass_t (by omega) e19) rfl rfl rfl rfl (Nat.le_of_ble_eq_true rfl) (by dsimp only; omega) (by dsimp only; omega) (Nat.le_of_ble_eq_true rfl) (Nat.le_of_ble_eq_true rfl) (fun r h1 hq => ?_)
    obtain ⟨rfl, rfl⟩ := hq
    refine rr_if_eq 47 d_Re_readPart_21 (by decide) (fun c9 => absurd c9 (by decide)) (fun _ => ?_)
    refine rr_aload_n d_Re_readPart_24 rfl rfl ?_
    refine rr_iload_n d_Re_readPart_25 rfl rfl ?_
    refine rr_iconst 1 d_Re_readPart_26 rfl ?_
    refine rr_iadd d_Re_readPart_27 ?_
    rw [nI_1]
    refine rr_callV d_Re_readPart_28 il_Re_63 m_Re_readSum (hin (a + 1) p s ck cv hl hp hs) rfl rfl rfl rfl (Nat.le_of_ble_eq_true rfl) (by dsimp only; omega) (by dsimp only; omega) (Nat.le_of_ble_eq_true rfl) (Nat.le_of_ble_eq_true rfl) (fun r h1 hq => ?_)
    obtain ⟨s2, ck2, cv2, rfl, rfl, hs2, hok⟩ := hq
    by_cases ho : (sp_sum K V d (a + 1) p).1 = true
    · rw [if_pos ho, ho]
      refine rr_if_eq 47 d_Re_readPart_31 (by decide) (fun c9 => absurd c9 (by decide)) (fun _ => ?_)
      refine rr_aload_n d_Re_readPart_34 rfl rfl ?_
      refine rr_bipush 20 d_Re_readPart_35 rfl ?_
      by_cases k20 : K (sp_sum K V d (a + 1) p).2.1 = 20
      · rw [if_pos k20]
        have e20 := (i20 (k := 20) hsd.1 (by decide)).mpr k20
        refine rr_callV d_Re_readPart_37 il_Re_50 m_Re_pass (s_Re_pass_t (by omega) e20) rfl rfl rfl rfl (Nat.le_of_ble_eq_true rfl) (by dsimp only; omega) (by dsimp only; omega) (Nat.le_of_ble_eq_true rfl) (Nat.le_of_ble_eq_true rfl) (fun r h1 hq => ?_)
        obtain ⟨rfl, rfl⟩ := hq
        refine rr_if_eq 47 d_Re_readPart_40 (by decide) (fun c9 => absurd c9 (by decide)) (fun _ => ?_)
        refine rr_iconst 1 d_Re_readPart_43 rfl ?_
        refine rr_goto 48 d_Re_readPart_44 (by decide) ?_
        exact rr_ireturn d_Re_readPart_48 rfl rfl (Nat.le_of_ble_eq_true rfl) (Nat.le_of_ble_eq_true rfl) (⟨s2, ck2, cv2, rfl, rfl, hs2, fun _ => hok ho⟩)
      · rw [if_neg k20]
        have e20 : ¬ fk (sp_sum K V d (a + 1) p).2.1 = 20 := fun q => k20 ((i20 (k := 20) hsd.1 (by decide)).mp q)
        refine rr_callV d_Re_readPart_37 il_Re_50 m_Re_pass (s_Re_pass_f (by omega) e20) rfl rfl rfl rfl (Nat.le_of_ble_eq_true rfl) (by dsimp only; omega) (by dsimp only; omega) (Nat.le_of_ble_eq_true rfl) (Nat.le_of_ble_eq_true rfl) (fun r h1 hq => ?_)
        obtain ⟨rfl, rfl⟩ := hq
        refine rr_if_eq 47 d_Re_readPart_40 (by decide) (fun _ => ?_) (fun c9 => absurd (rfl) c9)
        refine rr_iconst 0 d_Re_readPart_47 rfl ?_
        exact rr_ireturn d_Re_readPart_48 rfl rfl (Nat.le_of_ble_eq_true rfl) (Nat.le_of_ble_eq_true rfl) (⟨s2, ck2, cv2, rfl, rfl, hs2, fun h => by cases h⟩)
    · rw [if_neg ho]
      rw [(Bool.not_eq_true _).mp ho]
      refine rr_if_eq 47 d_Re_readPart_31 (by decide) (fun _ => ?_) (fun c9 => absurd (rfl) c9)
      refine rr_iconst 0 d_Re_readPart_47 rfl ?_
      exact rr_ireturn d_Re_readPart_48 rfl rfl (Nat.le_of_ble_eq_true rfl) (Nat.le_of_ble_eq_true rfl) (⟨s2, ck2, cv2, by rw [(Bool.not_eq_true _).mp ho]; rfl, rfl, hs2, fun h => absurd h ho⟩)
  · have e19 : ¬ fk a = 19 := fun q => k19 ((i20 (k := 19) ha (by decide)).mp q)
    have eR : sp_part K V (d + 1) a p = if 80 ≤ p then (false, a, p, []) else if K a = 8 then (if K (a + 1) = 9 ∧ V (a + 1) < 32 then (true, a + 2, p + 1, [(8, V (a + 1))]) else (false, a + 1, p + 1, [])) else if K a = 9 ∨ K a = 6 ∨ K a = 7 then (true, a + 1, p + 1, [(K a, V a)]) else (false, a, p + 1, []) := by unfold sp_part sp_partOf; rw [if_neg k19]
    rw [eR]
    refine rr_callV d_Re_readPart_3 il_Re_46 m_Re_looksAt (s_Re_looksAt_f (by omega) e19) rfl rfl rfl rfl (Nat.le_of_ble_eq_true rfl) (by dsimp only; omega) (by dsimp only; omega) (Nat.le_of_ble_eq_true rfl) (Nat.le_of_ble_eq_true rfl) (fun r h1 hq => ?_)
    obtain ⟨rfl, rfl⟩ := hq
    refine rr_if_eq 49 d_Re_readPart_6 (by decide) (fun _ => ?_) (fun c9 => absurd (rfl) c9)
    refine rr_aload_n d_Re_readPart_49 rfl rfl ?_
    refine rr_getf d_Re_readPart_50 fl_Re_36 rfl rfl ?_
    refine rr_bipush 80 d_Re_readPart_53 rfl ?_
    by_cases h80 : 80 ≤ p
    · rw [if_pos h80]
      refine rr_icmp_lt 60 d_Re_readPart_55 (by decide) (fun c9 => absurd c9 (nI_nlt h80 (by omega))) (fun _ => ?_)
      refine rr_iconst 0 d_Re_readPart_58 rfl ?_
      exact rr_ireturn d_Re_readPart_59 rfl rfl (Nat.le_of_ble_eq_true rfl) (Nat.le_of_ble_eq_true rfl) (⟨s, ck, cv, rfl, rfl, by omega, fun h => by cases h⟩)
    · rw [if_neg h80]
      refine rr_icmp_lt 60 d_Re_readPart_55 (by decide) (fun _ => ?_) (fun c9 => absurd (nI_lt (a := p) (b := 80) (by omega) (by decide)) c9)
      refine rr_aload_n d_Re_readPart_60 rfl rfl ?_
      refine rr_dup d_Re_readPart_61 rfl ?_
      refine rr_getf d_Re_readPart_62 fl_Re_36 rfl rfl ?_
      refine rr_iconst 1 d_Re_readPart_65 rfl ?_
      refine rr_iadd d_Re_readPart_66 ?_
      refine rr_putf d_Re_readPart_67 fl_Re_36 rfl rfl rfl rfl ?_
      refine rr_aload_n d_Re_readPart_70 rfl rfl ?_
      refine rr_getf d_Re_readPart_71 fl_Re_12 rfl rfl ?_
      refine rr_getf d_Re_readPart_74 fl_Re_66 rfl rfl ?_
      refine rr_aload_n d_Re_readPart_77 rfl rfl ?_
      refine rr_getf d_Re_readPart_78 fl_Re_32 rfl rfl ?_
      refine rr_iald d_Re_readPart_81 rfl (vp_in_nI (n := a) (by omega) (by decide)) ?_
      refine rr_istore_n d_Re_readPart_82 rfl (by decide) ?_
      refine rr_aload_n d_Re_readPart_83 rfl rfl ?_
      refine rr_bipush 8 d_Re_readPart_84 rfl ?_
      rw [nI_1, nI_clamp (by omega)]
      have fin : ∀ (a1 kk : Nat), a1 ≤ M → K a1 ≠ 0 → rr_A R_Re c_Re_readPart 3 (some .boolean) (false, none) { frames := (3 * (d + 1) + 3), cells := 0, slots := 0, locals := ((3 * (d + 1) + 3)) * 64 } (re_Q M (true, a1 + 1, p + 1, [(kk, V a1)]) s ck cv (fun a p s ck cv => x0 :: x1 :: x2 :: .inr (2, [.ref 4, .ref 8, .int (nI a), .int (nI p)]) :: .inr (4, [.ref 5, .ref 6, .ref 7, .int sz]) :: .inl (0, 401, .inl fk) :: .inl (0, 401, .inl fv) :: x7 :: .inr (0, [.ref 9, .ref 10, .ref 11, .int (nI s), .int rl]) :: .inl (0, 160, .inl (ck)) :: .inl (0, 160, .inl (cv)) :: g)) 0 0 121 [(2, .int (nI kk)), (0, .ref 3), (1, .int (nI e))] [] (x0 :: x1 :: x2 :: .inr (2, [.ref 4, .ref 8, .int (nI a1), .int (nI (p + 1))]) :: .inr (4, [.ref 5, .ref 6, .ref 7, .int sz]) :: .inl (0, 401, .inl fk) :: .inl (0, 401, .inl fv) :: x7 :: .inr (0, [.ref 9, .ref 10, .ref 11, .int (nI s), .int rl]) :: .inl (0, 160, .inl (ck)) :: .inl (0, 160, .inl (cv)) :: g) := by
        intro a1 kk h1 h2
        have hl1 := sp_lt ht.1 h1 rfl h2
        refine rr_aload_n d_Re_readPart_121 rfl rfl ?_
        refine rr_getf d_Re_readPart_122 fl_Re_21 rfl rfl ?_
        refine rr_iload_n d_Re_readPart_125 rfl rfl ?_
        refine rr_aload_n d_Re_readPart_126 rfl rfl ?_
        refine rr_getf d_Re_readPart_127 fl_Re_12 rfl rfl ?_
        refine rr_getf d_Re_readPart_130 fl_Re_76 rfl rfl ?_
        refine rr_aload_n d_Re_readPart_133 rfl rfl ?_
        refine rr_getf d_Re_readPart_134 fl_Re_32 rfl rfl ?_
        refine rr_iald d_Re_readPart_137 rfl (vp_in_nI (n := a1) (by omega) (by decide)) ?_
        rw [nI_clamp (by omega), (ht.2.2.1 a1 h1).2]
        refine rr_callV d_Re_readPart_138 il_Re_69 m_Co_add (s_Co_add (by omega)) rfl rfl rfl rfl (Nat.le_of_ble_eq_true rfl) (by dsimp only; omega) (by dsimp only; omega) (Nat.le_of_ble_eq_true rfl) (Nat.le_of_ble_eq_true rfl) (fun r h1 hq => ?_)
        obtain ⟨rfl, rfl⟩ := hq
        refine rr_aload_n d_Re_readPart_141 rfl rfl ?_
        refine rr_dup d_Re_readPart_142 rfl ?_
        refine rr_getf d_Re_readPart_143 fl_Re_32 rfl rfl ?_
        refine rr_iconst 1 d_Re_readPart_146 rfl ?_
        refine rr_iadd d_Re_readPart_147 ?_
        refine rr_putf d_Re_readPart_148 fl_Re_32 rfl rfl rfl rfl ?_
        refine rr_iconst 1 d_Re_readPart_151 rfl ?_
        rw [nI_1]
        exact rr_ireturn d_Re_readPart_152 rfl rfl (Nat.le_of_ble_eq_true rfl) (Nat.le_of_ble_eq_true rfl) (⟨s + 1, _, _, rfl, rfl, by omega, fun _ => ⟨rfl, rfl, rfl⟩⟩)
      by_cases k8 : K a = 8
      · rw [if_pos k8]
        have hl := sp_lt ht.1 ha k8 (by decide)
        have e8 : fk a = 8 := (i20 (k := 8) ha (by decide)).mpr k8
        refine rr_callV d_Re_readPart_86 il_Re_50 m_Re_pass (s_Re_pass_t (by omega) e8) rfl rfl rfl rfl (Nat.le_of_ble_eq_true rfl) (by dsimp only; omega) (by dsimp only; omega) (Nat.le_of_ble_eq_true rfl) (Nat.le_of_ble_eq_true rfl) (fun r h1 hq => ?_)
        obtain ⟨rfl, rfl⟩ := hq
        refine rr_if_eq 101 d_Re_readPart_89 (by decide) (fun c9 => absurd c9 (by decide)) (fun _ => ?_)
        refine rr_aload_n d_Re_readPart_92 rfl rfl ?_
        by_cases k9 : K (a + 1) = 9 ∧ V (a + 1) < 32
        · rw [if_pos k9]
          have e9 : fk (a + 1) = 9 ∧ fv (a + 1) < 32 := ⟨(i20 (k := 9) hl (by decide)).mpr k9.1, by rw [(ht.2.2.1 (a + 1) hl).2]; exact k9.2⟩
          refine rr_callV d_Re_readPart_93 il_Re_73 m_Re_looksAtCellNumber (s_Re_looksAtCellNumber_t (by omega) e9) rfl rfl rfl rfl (Nat.le_of_ble_eq_true rfl) (by dsimp only; omega) (by dsimp only; omega) (Nat.le_of_ble_eq_true rfl) (Nat.le_of_ble_eq_true rfl) (fun r h1 hq => ?_)
          obtain ⟨rfl, rfl⟩ := hq
          refine rr_if_ne 121 d_Re_readPart_96 (by decide) (fun _ => ?_) (fun c9 => absurd c9 (by decide))
          rw [e8]
          exact rr_lvs _ rfl (fin (a + 1) 8 hl (by rw [k9.1]; decide))
        · rw [if_neg k9]
          have e9 : ¬ (fk (a + 1) = 9 ∧ fv (a + 1) < 32) := fun q => k9 ⟨(i20 (k := 9) hl (by decide)).mp q.1, by rw [← (ht.2.2.1 (a + 1) hl).2]; exact q.2⟩
          refine rr_callV d_Re_readPart_93 il_Re_73 m_Re_looksAtCellNumber (s_Re_looksAtCellNumber_f (by omega) e9) rfl rfl rfl rfl (Nat.le_of_ble_eq_true rfl) (by dsimp only; omega) (by dsimp only; omega) (Nat.le_of_ble_eq_true rfl) (Nat.le_of_ble_eq_true rfl) (fun r h1 hq => ?_)
          obtain ⟨rfl, rfl⟩ := hq
          refine rr_if_ne 121 d_Re_readPart_96 (by decide) (fun c9 => absurd (rfl) c9) (fun _ => ?_)
          refine rr_iconst 0 d_Re_readPart_99 rfl ?_
          exact rr_ireturn d_Re_readPart_100 rfl rfl (Nat.le_of_ble_eq_true rfl) (Nat.le_of_ble_eq_true rfl) (⟨s, ck, cv, rfl, rfl, by omega, fun h => by cases h⟩)
      · rw [if_neg k8]
        have e8 : ¬ fk a = 8 := fun q => k8 ((i20 (k := 8) ha (by decide)).mp q)
        refine rr_callV d_Re_readPart_86 il_Re_50 m_Re_pass (s_Re_pass_f (by omega) e8) rfl rfl rfl rfl (Nat.le_of_ble_eq_true rfl) (by dsimp only; omega) (by dsimp only; omega) (Nat.le_of_ble_eq_true rfl) (Nat.le_of_ble_eq_true rfl) (fun r h1 hq => ?_)
        obtain ⟨rfl, rfl⟩ := hq
        refine rr_if_eq 101 d_Re_readPart_89 (by decide) (fun _ => ?_) (fun c9 => absurd (rfl) c9)
        refine rr_iload_n d_Re_readPart_101 rfl rfl ?_
        refine rr_bipush 9 d_Re_readPart_102 rfl ?_
        have ek : fk a = nI (K a) := (ht.2.2.1 a ha).1
        by_cases kx : K a = 9 ∨ K a = 6 ∨ K a = 7
        · rw [if_pos kx]
          have hne : K a ≠ 0 := by omega
          refine rr_icmp_eq 121 d_Re_readPart_104 (by decide) (fun h9 => ?_) (fun h9 => ?_)
          · rw [ek]
            exact rr_lvs _ rfl (fin a (K a) ha hne)
          refine rr_iload_n d_Re_readPart_107 rfl rfl ?_
          refine rr_bipush 6 d_Re_readPart_108 rfl ?_
          refine rr_icmp_eq 121 d_Re_readPart_110 (by decide) (fun h6 => ?_) (fun h6 => ?_)
          · rw [ek]
            exact rr_lvs _ rfl (fin a (K a) ha hne)
          refine rr_iload_n d_Re_readPart_113 rfl rfl ?_
          refine rr_bipush 7 d_Re_readPart_114 rfl ?_
          refine rr_icmp_eq 121 d_Re_readPart_116 (by decide) (fun h7 => ?_) (fun h7 => ?_)
          · rw [ek]
            exact rr_lvs _ rfl (fin a (K a) ha hne)
          rcases kx with q | q | q
          · exact absurd ((i20 (k := 9) ha (by decide)).mpr q) h9
          · exact absurd ((i20 (k := 6) ha (by decide)).mpr q) h6
          · exact absurd ((i20 (k := 7) ha (by decide)).mpr q) h7
        · rw [if_neg kx]
          refine rr_icmp_eq 121 d_Re_readPart_104 (by decide) (fun c9 => absurd c9 (fun q => kx (Or.inl ((i20 (k := 9) ha (by decide)).mp q)))) (fun _ => ?_)
          refine rr_iload_n d_Re_readPart_107 rfl rfl ?_
          refine rr_bipush 6 d_Re_readPart_108 rfl ?_
          refine rr_icmp_eq 121 d_Re_readPart_110 (by decide) (fun c9 => absurd c9 (fun q => kx (Or.inr (Or.inl ((i20 (k := 6) ha (by decide)).mp q))))) (fun _ => ?_)
          refine rr_iload_n d_Re_readPart_113 rfl rfl ?_
          refine rr_bipush 7 d_Re_readPart_114 rfl ?_
          refine rr_icmp_eq 121 d_Re_readPart_116 (by decide) (fun c9 => absurd c9 (fun q => kx (Or.inr (Or.inr ((i20 (k := 7) ha (by decide)).mp q))))) (fun _ => ?_)
          refine rr_iconst 0 d_Re_readPart_119 rfl ?_
          exact rr_ireturn d_Re_readPart_120 rfl rfl (Nat.le_of_ble_eq_true rfl) (Nat.le_of_ble_eq_true rfl) (⟨s, ck, cv, rfl, rfl, by omega, fun h => by cases h⟩)

theorem co_k_1 (f : Nat → Int32) (s k : Nat) (v : Int32) : co_k f s [(k, v)] = upd f s (nI k) := rfl
theorem co_v_1 (f : Nat → Int32) (s k : Nat) (v : Int32) : co_v f s [(k, v)] = upd f s v := rfl
theorem co_k_3 (f : Nat → Int32) (s : Nat) (o i : List (Nat × Int32)) (k : Nat) (v : Int32) : upd (co_k (co_k f s o) (s + o.length) i) (s + o.length + i.length) (nI k) = co_k f s (o ++ i ++ [(k, v)]) := by
  rw [co_k_app, co_k_app, co_k_1, List.length_append, Nat.add_assoc]
theorem co_v_3 (f : Nat → Int32) (s : Nat) (o i : List (Nat × Int32)) (k : Nat) (v : Int32) : upd (co_v (co_v f s o) (s + o.length) i) (s + o.length + i.length) v = co_v f s (o ++ i ++ [(k, v)]) := by
  rw [co_v_app, co_v_app, co_v_1, List.length_append, Nat.add_assoc]
theorem co_l_3 (s : Nat) (o i : List (Nat × Int32)) (q : Nat × Int32) : s + o.length + i.length + 1 = s + (o ++ i ++ [q]).length := by
  rw [List.length_append, List.length_append]
  show _ = s + (o.length + i.length + 1)
  omega

set_option maxRecDepth 100000 in
set_option maxHeartbeats 4000000 in
theorem l_Re_readTerm {x0 x1 x2 x7 : va_E} {g : rr_H} {K : Nat → Nat} {V : Nat → Int32} {M : Nat} {sz rl : Int32} {fk fv : Nat → Int32} {d e p0 s : Nat} {ck cv : Nat → Int32} (ht : tq K V M fk fv) (hp : (∀ (a p s : Nat) (ck cv : Nat → Int32), a ≤ M → p ≤ 80 → s ≤ 2 * p → rr_Spec (3 * d + 3) y_Re_readPart c_Re_readPart 3 (some .boolean) 0 0 [.ref 3, .int (nI e)] (x0 :: x1 :: x2 :: .inr (2, [.ref 4, .ref 8, .int (nI a), .int (nI p)]) :: .inr (4, [.ref 5, .ref 6, .ref 7, .int sz]) :: .inl (0, 401, .inl fk) :: .inl (0, 401, .inl fv) :: x7 :: .inr (0, [.ref 9, .ref 10, .ref 11, .int (nI s), .int rl]) :: .inl (0, 160, .inl (ck)) :: .inl (0, 160, .inl (cv)) :: g) (re_Q M (sp_part K V d a p) s ck cv (fun a p s ck cv => x0 :: x1 :: x2 :: .inr (2, [.ref 4, .ref 8, .int (nI a), .int (nI p)]) :: .inr (4, [.ref 5, .ref 6, .ref 7, .int sz]) :: .inl (0, 401, .inl fk) :: .inl (0, 401, .inl fv) :: x7 :: .inr (0, [.ref 9, .ref 10, .ref 11, .int (nI s), .int rl]) :: .inl (0, 160, .inl (ck)) :: .inl (0, 160, .inl (cv)) :: g)))) (hs : s ≤ 2 * p0) : ∀ (n a p : Nat) (o : List (Nat × Int32)), n ≤ 80 → a ≤ M → p ≤ 80 → p0 < p → o.length + 1 = 2 * (p - p0) → rr_A R_Re c_Re_readTerm 3 (some .boolean) (false, none) { frames := (3 * d + 4), cells := 0, slots := 0, locals := ((3 * d + 4)) * 64 } (re_Q M (sp_tl K sp_s1 (sp_part K V d) n a p o) s ck cv (fun a p s ck cv => x0 :: x1 :: x2 :: .inr (2, [.ref 4, .ref 8, .int (nI a), .int (nI p)]) :: .inr (4, [.ref 5, .ref 6, .ref 7, .int sz]) :: .inl (0, 401, .inl fk) :: .inl (0, 401, .inl fv) :: x7 :: .inr (0, [.ref 9, .ref 10, .ref 11, .int (nI s), .int rl]) :: .inl (0, 160, .inl (ck)) :: .inl (0, 160, .inl (cv)) :: g)) 0 0 12 [(2, .int (nI (81 - n))), (0, .ref 3), (1, .int (nI e))] [] (x0 :: x1 :: x2 :: .inr (2, [.ref 4, .ref 8, .int (nI a), .int (nI p)]) :: .inr (4, [.ref 5, .ref 6, .ref 7, .int sz]) :: .inl (0, 401, .inl fk) :: .inl (0, 401, .inl fv) :: x7 :: .inr (0, [.ref 9, .ref 10, .ref 11, .int (nI (s + o.length)), .int rl]) :: .inl (0, 160, .inl (co_k ck s o)) :: .inl (0, 160, .inl (co_v cv s o)) :: g) := by
  have hM := ht.2.1
  have i20 : ∀ {j k : Nat}, j ≤ M → k ≤ 20 → (fk j = nI k ↔ K j = k) := fun hj hk => tq_k ht hj hk
  intro n
  induction n with
  | zero =>
    intro a p o hn ha hp80 hp0 ho
    refine rr_iload_n d_Re_readTerm_12 rfl rfl ?_
    refine rr_bipush 80 d_Re_readTerm_13 rfl ?_
    refine rr_icmp_gt 55 d_Re_readTerm_15 (by decide) (fun _ => ?_) (fun c9 => absurd (by decide) c9)
    refine rr_iconst 0 d_Re_readTerm_55 rfl ?_
    exact rr_ireturn d_Re_readTerm_56 rfl rfl (Nat.le_of_ble_eq_true rfl) (Nat.le_of_ble_eq_true rfl) (⟨s + o.length, _, _, rfl, rfl, by omega, fun h => by cases h⟩)
  | succ n ih =>
    intro a p o hn ha hp80 hp0 ho
    refine rr_iload_n d_Re_readTerm_12 rfl rfl ?_
    refine rr_bipush 80 d_Re_readTerm_13 rfl ?_
    refine rr_icmp_gt 55 d_Re_readTerm_15 (by decide) (fun c9 => absurd c9 (nI_nlt (a := 80) (b := 81 - (n + 1)) (by omega) (by omega))) (fun _ => ?_)
    refine rr_aload_n d_Re_readTerm_18 rfl rfl ?_
    refine rr_bipush 16 d_Re_readTerm_19 rfl ?_
    unfold sp_tl
    have go : sp_s1 (K a) = true → rr_A R_Re c_Re_readTerm 3 (some .boolean) (false, none) { frames := (3 * d + 4), cells := 0, slots := 0, locals := ((3 * d + 4)) * 64 } (re_Q M (if (sp_part K V d (a + 1) p).1 = true then sp_tl K sp_s1 (sp_part K V d) n (sp_part K V d (a + 1) p).2.1 (sp_part K V d (a + 1) p).2.2.1 (o ++ (sp_part K V d (a + 1) p).2.2.2 ++ [(K a, 0)]) else (false, (sp_part K V d (a + 1) p).2.1, (sp_part K V d (a + 1) p).2.2.1, o)) s ck cv (fun a p s ck cv => x0 :: x1 :: x2 :: .inr (2, [.ref 4, .ref 8, .int (nI a), .int (nI p)]) :: .inr (4, [.ref 5, .ref 6, .ref 7, .int sz]) :: .inl (0, 401, .inl fk) :: .inl (0, 401, .inl fv) :: x7 :: .inr (0, [.ref 9, .ref 10, .ref 11, .int (nI s), .int rl]) :: .inl (0, 160, .inl (ck)) :: .inl (0, 160, .inl (cv)) :: g)) 0 0 29 [(2, .int (nI (81 - (n + 1)))), (0, .ref 3), (1, .int (nI e))] [] (x0 :: x1 :: x2 :: .inr (2, [.ref 4, .ref 8, .int (nI (a + 1)), .int (nI p)]) :: .inr (4, [.ref 5, .ref 6, .ref 7, .int sz]) :: .inl (0, 401, .inl fk) :: .inl (0, 401, .inl fv) :: x7 :: .inr (0, [.ref 9, .ref 10, .ref 11, .int (nI (s + o.length)), .int rl]) :: .inl (0, 160, .inl (co_k ck s o)) :: .inl (0, 160, .inl (co_v cv s o)) :: g) := by
      intro hsg
      have hl : a < M := by
        rcases Nat.lt_or_ge a M with h | h
        · exact h
        · obtain rfl : a = M := by omega
          rw [ht.1] at hsg
          cases hsg
      have hsd := sp_snd_p (V := V) ht.1 d (a + 1) p hl hp80
      refine rr_aload_n d_Re_readTerm_29 rfl rfl ?_
      refine rr_iload_n d_Re_readTerm_30 rfl rfl ?_
      refine rr_callV d_Re_readTerm_31 il_Re_82 m_Re_readPart (hp (a + 1) p (s + o.length) (co_k ck s o) (co_v cv s o) hl hp80 (by omega)) rfl rfl rfl rfl (Nat.le_of_ble_eq_true rfl) (by dsimp only; omega) (by dsimp only; omega) (Nat.le_of_ble_eq_true rfl) (Nat.le_of_ble_eq_true rfl) (fun r h1 hq => ?_)
      obtain ⟨s2, ck2, cv2, rfl, rfl, hs2, hok⟩ := hq
      by_cases ho1 : (sp_part K V d (a + 1) p).1 = true
      · rw [if_pos ho1, ho1]
        obtain ⟨rfl, rfl, rfl⟩ := hok ho1
        obtain ⟨j1, j2, j3⟩ := hsd.2 ho1
        refine rr_if_ne 39 d_Re_readTerm_34 (by decide) (fun _ => ?_) (fun c9 => absurd c9 (by decide))
        refine rr_aload_n d_Re_readTerm_39 rfl rfl ?_
        refine rr_getf d_Re_readTerm_40 fl_Re_21 rfl rfl ?_
        refine rr_bipush 16 d_Re_readTerm_43 rfl ?_
        refine rr_iconst 0 d_Re_readTerm_45 rfl ?_
        refine rr_callV d_Re_readTerm_46 il_Re_69 m_Co_add (s_Co_add (by omega)) rfl rfl rfl rfl (Nat.le_of_ble_eq_true rfl) (by dsimp only; omega) (by dsimp only; omega) (Nat.le_of_ble_eq_true rfl) (Nat.le_of_ble_eq_true rfl) (fun r h1 hq => ?_)
        obtain ⟨rfl, rfl⟩ := hq
        refine rr_iinc 1 d_Re_readTerm_49 rfl rfl (by decide) ?_
        refine rr_goto 12 d_Re_readTerm_52 (by decide) ?_
        have ka : K a = 16 := by simpa [sp_s1] using hsg
        rw [show (16 : Int32) = nI (K a) by rw [ka]; rfl]
        rw [nI_1, co_k_3 ck s o _ (K a) 0, co_v_3 cv s o _ (K a) 0, co_l_3 s o _ (K a, 0), show 81 - (n + 1) + 1 = 81 - n by omega]
        exact rr_lvs _ rfl (ih _ _ _ (by omega) hsd.1 j2 (by omega) (by simp; omega))
      · rw [if_neg ho1, (Bool.not_eq_true _).mp ho1]
        refine rr_if_ne 39 d_Re_readTerm_34 (by decide) (fun c9 => absurd (rfl) c9) (fun _ => ?_)
        refine rr_iconst 0 d_Re_readTerm_37 rfl ?_
        exact rr_ireturn d_Re_readTerm_38 rfl rfl (Nat.le_of_ble_eq_true rfl) (Nat.le_of_ble_eq_true rfl) (⟨s2, ck2, cv2, rfl, rfl, hs2, fun h => by cases h⟩)
    by_cases k16 : K a = 16
    · have hsg : sp_s1 (K a) = true := by rw [k16]; rfl
      rw [if_pos hsg]
      have e16 : fk a = 16 := (i20 (k := 16) ha (by decide)).mpr k16
      refine rr_callV d_Re_readTerm_21 il_Re_50 m_Re_pass (s_Re_pass_t (by omega) e16) rfl rfl rfl rfl (Nat.le_of_ble_eq_true rfl) (by dsimp only; omega) (by dsimp only; omega) (Nat.le_of_ble_eq_true rfl) (Nat.le_of_ble_eq_true rfl) (fun r h1 hq => ?_)
      obtain ⟨rfl, rfl⟩ := hq
      refine rr_if_ne 29 d_Re_readTerm_24 (by decide) (fun _ => ?_) (fun c9 => absurd c9 (by decide))
      exact go hsg
    · have hsg : ¬ sp_s1 (K a) = true := by simpa [sp_s1] using k16
      rw [if_neg hsg]
      have e16 : ¬ fk a = 16 := fun q => k16 ((i20 (k := 16) ha (by decide)).mp q)
      refine rr_callV d_Re_readTerm_21 il_Re_50 m_Re_pass (s_Re_pass_f (by omega) e16) rfl rfl rfl rfl (Nat.le_of_ble_eq_true rfl) (by dsimp only; omega) (by dsimp only; omega) (Nat.le_of_ble_eq_true rfl) (Nat.le_of_ble_eq_true rfl) (fun r h1 hq => ?_)
      obtain ⟨rfl, rfl⟩ := hq
      refine rr_if_ne 29 d_Re_readTerm_24 (by decide) (fun c9 => absurd (rfl) c9) (fun _ => ?_)
      refine rr_iconst 1 d_Re_readTerm_27 rfl ?_
      exact rr_ireturn d_Re_readTerm_28 rfl rfl (Nat.le_of_ble_eq_true rfl) (Nat.le_of_ble_eq_true rfl) (⟨s + o.length, _, _, rfl, rfl, by omega, fun _ => ⟨rfl, rfl, rfl⟩⟩)

set_option maxRecDepth 100000 in
set_option maxHeartbeats 4000000 in
theorem s_Re_readTerm {x0 x1 x2 x7 : va_E} {g : rr_H} {K : Nat → Nat} {V : Nat → Int32} {M : Nat} {sz rl : Int32} {fk fv : Nat → Int32} {d e : Nat} (ht : tq K V M fk fv) (hp : (∀ (a p s : Nat) (ck cv : Nat → Int32), a ≤ M → p ≤ 80 → s ≤ 2 * p → rr_Spec (3 * d + 3) y_Re_readPart c_Re_readPart 3 (some .boolean) 0 0 [.ref 3, .int (nI e)] (x0 :: x1 :: x2 :: .inr (2, [.ref 4, .ref 8, .int (nI a), .int (nI p)]) :: .inr (4, [.ref 5, .ref 6, .ref 7, .int sz]) :: .inl (0, 401, .inl fk) :: .inl (0, 401, .inl fv) :: x7 :: .inr (0, [.ref 9, .ref 10, .ref 11, .int (nI s), .int rl]) :: .inl (0, 160, .inl (ck)) :: .inl (0, 160, .inl (cv)) :: g) (re_Q M (sp_part K V d a p) s ck cv (fun a p s ck cv => x0 :: x1 :: x2 :: .inr (2, [.ref 4, .ref 8, .int (nI a), .int (nI p)]) :: .inr (4, [.ref 5, .ref 6, .ref 7, .int sz]) :: .inl (0, 401, .inl fk) :: .inl (0, 401, .inl fv) :: x7 :: .inr (0, [.ref 9, .ref 10, .ref 11, .int (nI s), .int rl]) :: .inl (0, 160, .inl (ck)) :: .inl (0, 160, .inl (cv)) :: g)))) : ∀ (a p s : Nat) (ck cv : Nat → Int32), a ≤ M → p ≤ 80 → s ≤ 2 * p → rr_Spec (3 * d + 4) y_Re_readTerm c_Re_readTerm 3 (some .boolean) 0 0 [.ref 3, .int (nI e)] (x0 :: x1 :: x2 :: .inr (2, [.ref 4, .ref 8, .int (nI a), .int (nI p)]) :: .inr (4, [.ref 5, .ref 6, .ref 7, .int sz]) :: .inl (0, 401, .inl fk) :: .inl (0, 401, .inl fv) :: x7 :: .inr (0, [.ref 9, .ref 10, .ref 11, .int (nI s), .int rl]) :: .inl (0, 160, .inl (ck)) :: .inl (0, 160, .inl (cv)) :: g) (re_Q M (sp_term K V d a p) s ck cv (fun a p s ck cv => x0 :: x1 :: x2 :: .inr (2, [.ref 4, .ref 8, .int (nI a), .int (nI p)]) :: .inr (4, [.ref 5, .ref 6, .ref 7, .int sz]) :: .inl (0, 401, .inl fk) :: .inl (0, 401, .inl fv) :: x7 :: .inr (0, [.ref 9, .ref 10, .ref 11, .int (nI s), .int rl]) :: .inl (0, 160, .inl (ck)) :: .inl (0, 160, .inl (cv)) :: g)) := by
  intro a p s ck cv ha hp80 hs
  have hM := ht.2.1
  have hsd := sp_snd_p (V := V) ht.1 d a p ha hp80
  refine rr_met (own := R_Re) (kd := (false, none)) (by decide +kernel) rfl (fun h => by cases h) rfl (Nat.le_of_ble_eq_true rfl) ?_
  refine rr_aload_n d_Re_readTerm_0 rfl rfl ?_
  refine rr_iload_n d_Re_readTerm_1 rfl rfl ?_
  refine rr_callV d_Re_readTerm_2 il_Re_82 m_Re_readPart (hp a p s ck cv ha hp80 hs) rfl rfl rfl rfl (Nat.le_of_ble_eq_true rfl) (by dsimp only; omega) (by dsimp only; omega) (Nat.le_of_ble_eq_true rfl) (Nat.le_of_ble_eq_true rfl) (fun r h1 hq => ?_)
  obtain ⟨s2, ck2, cv2, rfl, rfl, hs2, hok⟩ := hq
  unfold sp_term sp_lp
  by_cases ho1 : (sp_part K V d a p).1 = true
  · rw [if_pos ho1, ho1]
    obtain ⟨rfl, rfl, rfl⟩ := hok ho1
    obtain ⟨j1, j2, j3⟩ := hsd.2 ho1
    refine rr_if_ne 10 d_Re_readTerm_5 (by decide) (fun _ => ?_) (fun c9 => absurd c9 (by decide))
    refine rr_iconst 1 d_Re_readTerm_10 rfl ?_
    refine rr_istore_n d_Re_readTerm_11 rfl (by decide) ?_
    exact rr_lvs _ rfl (l_Re_readTerm ht hp hs 80 _ _ _ (Nat.le_refl _) hsd.1 j2 j1 j3)
  · rw [if_neg ho1, (Bool.not_eq_true _).mp ho1]
    refine rr_if_ne 10 d_Re_readTerm_5 (by decide) (fun c9 => absurd (rfl) c9) (fun _ => ?_)
    refine rr_iconst 0 d_Re_readTerm_8 rfl ?_
    exact rr_ireturn d_Re_readTerm_9 rfl rfl (Nat.le_of_ble_eq_true rfl) (Nat.le_of_ble_eq_true rfl) (⟨s2, ck2, cv2, by rw [(Bool.not_eq_true _).mp ho1]; rfl, rfl, hs2, fun h => absurd h ho1⟩)

set_option maxRecDepth 100000 in
set_option maxHeartbeats 4000000 in
theorem l_Re_readSum {x0 x1 x2 x7 : va_E} {g : rr_H} {K : Nat → Nat} {V : Nat → Int32} {M : Nat} {sz rl : Int32} {fk fv : Nat → Int32} {d e p0 s : Nat} {ck cv : Nat → Int32} (ht : tq K V M fk fv) (hp : (∀ (a p s : Nat) (ck cv : Nat → Int32), a ≤ M → p ≤ 80 → s ≤ 2 * p → rr_Spec (3 * d + 4) y_Re_readTerm c_Re_readTerm 3 (some .boolean) 0 0 [.ref 3, .int (nI e)] (x0 :: x1 :: x2 :: .inr (2, [.ref 4, .ref 8, .int (nI a), .int (nI p)]) :: .inr (4, [.ref 5, .ref 6, .ref 7, .int sz]) :: .inl (0, 401, .inl fk) :: .inl (0, 401, .inl fv) :: x7 :: .inr (0, [.ref 9, .ref 10, .ref 11, .int (nI s), .int rl]) :: .inl (0, 160, .inl (ck)) :: .inl (0, 160, .inl (cv)) :: g) (re_Q M (sp_term K V d a p) s ck cv (fun a p s ck cv => x0 :: x1 :: x2 :: .inr (2, [.ref 4, .ref 8, .int (nI a), .int (nI p)]) :: .inr (4, [.ref 5, .ref 6, .ref 7, .int sz]) :: .inl (0, 401, .inl fk) :: .inl (0, 401, .inl fv) :: x7 :: .inr (0, [.ref 9, .ref 10, .ref 11, .int (nI s), .int rl]) :: .inl (0, 160, .inl (ck)) :: .inl (0, 160, .inl (cv)) :: g)))) (hs : s ≤ 2 * p0) : ∀ (n a p : Nat) (o : List (Nat × Int32)), n ≤ 80 → a ≤ M → p ≤ 80 → p0 < p → o.length + 1 = 2 * (p - p0) → rr_A R_Re c_Re_readSum 4 (some .boolean) (false, none) { frames := (3 * d + 5), cells := 0, slots := 0, locals := ((3 * d + 5)) * 64 } (re_Q M (sp_tl K sp_s2 (sp_term K V d) n a p o) s ck cv (fun a p s ck cv => x0 :: x1 :: x2 :: .inr (2, [.ref 4, .ref 8, .int (nI a), .int (nI p)]) :: .inr (4, [.ref 5, .ref 6, .ref 7, .int sz]) :: .inl (0, 401, .inl fk) :: .inl (0, 401, .inl fv) :: x7 :: .inr (0, [.ref 9, .ref 10, .ref 11, .int (nI s), .int rl]) :: .inl (0, 160, .inl (ck)) :: .inl (0, 160, .inl (cv)) :: g)) 0 0 12 [(2, .int (nI (81 - n))), (0, .ref 3), (1, .int (nI e))] [] (x0 :: x1 :: x2 :: .inr (2, [.ref 4, .ref 8, .int (nI a), .int (nI p)]) :: .inr (4, [.ref 5, .ref 6, .ref 7, .int sz]) :: .inl (0, 401, .inl fk) :: .inl (0, 401, .inl fv) :: x7 :: .inr (0, [.ref 9, .ref 10, .ref 11, .int (nI (s + o.length)), .int rl]) :: .inl (0, 160, .inl (co_k ck s o)) :: .inl (0, 160, .inl (co_v cv s o)) :: g) := by
  have hM := ht.2.1
  have i20 : ∀ {j k : Nat}, j ≤ M → k ≤ 20 → (fk j = nI k ↔ K j = k) := fun hj hk => tq_k ht hj hk
  intro n
  induction n with
  | zero =>
    intro a p o hn ha hp80 hp0 ho
    refine rr_iload_n d_Re_readSum_12 rfl rfl ?_
    refine rr_bipush 80 d_Re_readSum_13 rfl ?_
    refine rr_icmp_gt 76 d_Re_readSum_15 (by decide) (fun _ => ?_) (fun c9 => absurd (by decide) c9)
    refine rr_iconst 0 d_Re_readSum_76 rfl ?_
    exact rr_ireturn d_Re_readSum_77 rfl rfl (Nat.le_of_ble_eq_true rfl) (Nat.le_of_ble_eq_true rfl) (⟨s + o.length, _, _, rfl, rfl, by omega, fun h => by cases h⟩)
  | succ n ih =>
    intro a p o hn ha hp80 hp0 ho
    refine rr_iload_n d_Re_readSum_12 rfl rfl ?_
    refine rr_bipush 80 d_Re_readSum_13 rfl ?_
    refine rr_icmp_gt 76 d_Re_readSum_15 (by decide) (fun c9 => absurd c9 (nI_nlt (a := 80) (b := 81 - (n + 1)) (by omega) (by omega))) (fun _ => ?_)
    refine rr_aload_n d_Re_readSum_18 rfl rfl ?_
    refine rr_getf d_Re_readSum_19 fl_Re_12 rfl rfl ?_
    refine rr_getf d_Re_readSum_22 fl_Re_66 rfl rfl ?_
    refine rr_aload_n d_Re_readSum_25 rfl rfl ?_
    refine rr_getf d_Re_readSum_26 fl_Re_32 rfl rfl ?_
    refine rr_iald d_Re_readSum_29 rfl (vp_in_nI (n := a) (by omega) (by decide)) ?_
    refine rr_istore_n d_Re_readSum_30 rfl (by decide) ?_
    refine rr_aload_n d_Re_readSum_31 rfl rfl ?_
    refine rr_bipush 14 d_Re_readSum_32 rfl ?_
    unfold sp_tl
    have go : sp_s2 (K a) = true → rr_A R_Re c_Re_readSum 4 (some .boolean) (false, none) { frames := (3 * d + 5), cells := 0, slots := 0, locals := ((3 * d + 5)) * 64 } (re_Q M (if (sp_term K V d (a + 1) p).1 = true then sp_tl K sp_s2 (sp_term K V d) n (sp_term K V d (a + 1) p).2.1 (sp_term K V d (a + 1) p).2.2.1 (o ++ (sp_term K V d (a + 1) p).2.2.2 ++ [(K a, 0)]) else (false, (sp_term K V d (a + 1) p).2.1, (sp_term K V d (a + 1) p).2.2.1, o)) s ck cv (fun a p s ck cv => x0 :: x1 :: x2 :: .inr (2, [.ref 4, .ref 8, .int (nI a), .int (nI p)]) :: .inr (4, [.ref 5, .ref 6, .ref 7, .int sz]) :: .inl (0, 401, .inl fk) :: .inl (0, 401, .inl fv) :: x7 :: .inr (0, [.ref 9, .ref 10, .ref 11, .int (nI s), .int rl]) :: .inl (0, 160, .inl (ck)) :: .inl (0, 160, .inl (cv)) :: g)) 0 0 51 ((3, .int (nI (K a))) :: [(2, .int (nI (81 - (n + 1)))), (0, .ref 3), (1, .int (nI e))]) [] (x0 :: x1 :: x2 :: .inr (2, [.ref 4, .ref 8, .int (nI (a + 1)), .int (nI p)]) :: .inr (4, [.ref 5, .ref 6, .ref 7, .int sz]) :: .inl (0, 401, .inl fk) :: .inl (0, 401, .inl fv) :: x7 :: .inr (0, [.ref 9, .ref 10, .ref 11, .int (nI (s + o.length)), .int rl]) :: .inl (0, 160, .inl (co_k ck s o)) :: .inl (0, 160, .inl (co_v cv s o)) :: g) := by
      intro hsg
      have hl : a < M := by
        rcases Nat.lt_or_ge a M with h | h
        · exact h
        · obtain rfl : a = M := by omega
          rw [ht.1] at hsg
          cases hsg
      have hsd := sp_snd_t (V := V) ht.1 d (a + 1) p hl hp80
      refine rr_aload_n d_Re_readSum_51 rfl rfl ?_
      refine rr_iload_n d_Re_readSum_52 rfl rfl ?_
      refine rr_callV d_Re_readSum_53 il_Re_79 m_Re_readTerm (hp (a + 1) p (s + o.length) (co_k ck s o) (co_v cv s o) hl hp80 (by omega)) rfl rfl rfl rfl (Nat.le_of_ble_eq_true rfl) (by dsimp only; omega) (by dsimp only; omega) (Nat.le_of_ble_eq_true rfl) (Nat.le_of_ble_eq_true rfl) (fun r h1 hq => ?_)
      obtain ⟨s2, ck2, cv2, rfl, rfl, hs2, hok⟩ := hq
      by_cases ho1 : (sp_term K V d (a + 1) p).1 = true
      · rw [if_pos ho1, ho1]
        obtain ⟨rfl, rfl, rfl⟩ := hok ho1
        obtain ⟨j1, j2, j3⟩ := hsd.2 ho1
        refine rr_if_ne 61 d_Re_readSum_56 (by decide) (fun _ => ?_) (fun c9 => absurd c9 (by decide))
        refine rr_aload_n d_Re_readSum_61 rfl rfl ?_
        refine rr_getf d_Re_readSum_62 fl_Re_21 rfl rfl ?_
        refine rr_iload_n d_Re_readSum_65 rfl rfl ?_
        refine rr_iconst 0 d_Re_readSum_66 rfl ?_
        refine rr_callV d_Re_readSum_67 il_Re_69 m_Co_add (s_Co_add (by omega)) rfl rfl rfl rfl (Nat.le_of_ble_eq_true rfl) (by dsimp only; omega) (by dsimp only; omega) (Nat.le_of_ble_eq_true rfl) (Nat.le_of_ble_eq_true rfl) (fun r h1 hq => ?_)
        obtain ⟨rfl, rfl⟩ := hq
        refine rr_iinc 1 d_Re_readSum_70 rfl rfl (by decide) ?_
        refine rr_goto 12 d_Re_readSum_73 (by decide) ?_
        rw [nI_1, co_k_3 ck s o _ (K a) 0, co_v_3 cv s o _ (K a) 0, co_l_3 s o _ (K a, 0), show 81 - (n + 1) + 1 = 81 - n by omega]
        exact rr_lvs _ rfl (ih _ _ _ (by omega) hsd.1 j2 (by omega) (by simp; omega))
      · rw [if_neg ho1, (Bool.not_eq_true _).mp ho1]
        refine rr_if_ne 61 d_Re_readSum_56 (by decide) (fun c9 => absurd (rfl) c9) (fun _ => ?_)
        refine rr_iconst 0 d_Re_readSum_59 rfl ?_
        exact rr_ireturn d_Re_readSum_60 rfl rfl (Nat.le_of_ble_eq_true rfl) (Nat.le_of_ble_eq_true rfl) (⟨s2, ck2, cv2, rfl, rfl, hs2, fun h => by cases h⟩)
    rw [nI_clamp (by omega), (ht.2.2.1 a ha).1]
    by_cases k14 : K a = 14
    · have hsg : sp_s2 (K a) = true := by rw [k14]; rfl
      rw [if_pos hsg]
      have e14 : fk a = 14 := (i20 (k := 14) ha (by decide)).mpr k14
      refine rr_callV d_Re_readSum_34 il_Re_50 m_Re_pass (s_Re_pass_t (by omega) e14) rfl rfl rfl rfl (Nat.le_of_ble_eq_true rfl) (by dsimp only; omega) (by dsimp only; omega) (Nat.le_of_ble_eq_true rfl) (Nat.le_of_ble_eq_true rfl) (fun r h1 hq => ?_)
      obtain ⟨rfl, rfl⟩ := hq
      refine rr_if_ne 51 d_Re_readSum_37 (by decide) (fun _ => ?_) (fun c9 => absurd c9 (by decide))
      exact rr_lvs _ rfl (go hsg)
    · have e14 : ¬ fk a = 14 := fun q => k14 ((i20 (k := 14) ha (by decide)).mp q)
      refine rr_callV d_Re_readSum_34 il_Re_50 m_Re_pass (s_Re_pass_f (by omega) e14) rfl rfl rfl rfl (Nat.le_of_ble_eq_true rfl) (by dsimp only; omega) (by dsimp only; omega) (Nat.le_of_ble_eq_true rfl) (Nat.le_of_ble_eq_true rfl) (fun r h1 hq => ?_)
      obtain ⟨rfl, rfl⟩ := hq
      refine rr_if_ne 51 d_Re_readSum_37 (by decide) (fun c9 => absurd (rfl) c9) (fun _ => ?_)
      refine rr_aload_n d_Re_readSum_40 rfl rfl ?_
      refine rr_bipush 15 d_Re_readSum_41 rfl ?_
      by_cases k15 : K a = 15
      · have hsg : sp_s2 (K a) = true := by rw [k15]; rfl
        rw [if_pos hsg]
        have e15 : fk a = 15 := (i20 (k := 15) ha (by decide)).mpr k15
        refine rr_callV d_Re_readSum_43 il_Re_50 m_Re_pass (s_Re_pass_t (by omega) e15) rfl rfl rfl rfl (Nat.le_of_ble_eq_true rfl) (by dsimp only; omega) (by dsimp only; omega) (Nat.le_of_ble_eq_true rfl) (Nat.le_of_ble_eq_true rfl) (fun r h1 hq => ?_)
        obtain ⟨rfl, rfl⟩ := hq
        refine rr_if_ne 51 d_Re_readSum_46 (by decide) (fun _ => ?_) (fun c9 => absurd c9 (by decide))
        exact rr_lvs _ rfl (go hsg)
      · have hsg : ¬ sp_s2 (K a) = true := by simp [sp_s2, k14, k15]
        rw [if_neg hsg]
        have e15 : ¬ fk a = 15 := fun q => k15 ((i20 (k := 15) ha (by decide)).mp q)
        refine rr_callV d_Re_readSum_43 il_Re_50 m_Re_pass (s_Re_pass_f (by omega) e15) rfl rfl rfl rfl (Nat.le_of_ble_eq_true rfl) (by dsimp only; omega) (by dsimp only; omega) (Nat.le_of_ble_eq_true rfl) (Nat.le_of_ble_eq_true rfl) (fun r h1 hq => ?_)
        obtain ⟨rfl, rfl⟩ := hq
        refine rr_if_ne 51 d_Re_readSum_46 (by decide) (fun c9 => absurd (rfl) c9) (fun _ => ?_)
        refine rr_iconst 1 d_Re_readSum_49 rfl ?_
        exact rr_ireturn d_Re_readSum_50 rfl rfl (Nat.le_of_ble_eq_true rfl) (Nat.le_of_ble_eq_true rfl) (⟨s + o.length, _, _, rfl, rfl, by omega, fun _ => ⟨rfl, rfl, rfl⟩⟩)

set_option maxRecDepth 100000 in
set_option maxHeartbeats 4000000 in
theorem s_Re_readSum {x0 x1 x2 x7 : va_E} {g : rr_H} {K : Nat → Nat} {V : Nat → Int32} {M : Nat} {sz rl : Int32} {fk fv : Nat → Int32} {d e : Nat} (ht : tq K V M fk fv) (hp : (∀ (a p s : Nat) (ck cv : Nat → Int32), a ≤ M → p ≤ 80 → s ≤ 2 * p → rr_Spec (3 * d + 4) y_Re_readTerm c_Re_readTerm 3 (some .boolean) 0 0 [.ref 3, .int (nI e)] (x0 :: x1 :: x2 :: .inr (2, [.ref 4, .ref 8, .int (nI a), .int (nI p)]) :: .inr (4, [.ref 5, .ref 6, .ref 7, .int sz]) :: .inl (0, 401, .inl fk) :: .inl (0, 401, .inl fv) :: x7 :: .inr (0, [.ref 9, .ref 10, .ref 11, .int (nI s), .int rl]) :: .inl (0, 160, .inl (ck)) :: .inl (0, 160, .inl (cv)) :: g) (re_Q M (sp_term K V d a p) s ck cv (fun a p s ck cv => x0 :: x1 :: x2 :: .inr (2, [.ref 4, .ref 8, .int (nI a), .int (nI p)]) :: .inr (4, [.ref 5, .ref 6, .ref 7, .int sz]) :: .inl (0, 401, .inl fk) :: .inl (0, 401, .inl fv) :: x7 :: .inr (0, [.ref 9, .ref 10, .ref 11, .int (nI s), .int rl]) :: .inl (0, 160, .inl (ck)) :: .inl (0, 160, .inl (cv)) :: g)))) : ∀ (a p s : Nat) (ck cv : Nat → Int32), a ≤ M → p ≤ 80 → s ≤ 2 * p → rr_Spec (3 * d + 5) y_Re_readSum c_Re_readSum 4 (some .boolean) 0 0 [.ref 3, .int (nI e)] (x0 :: x1 :: x2 :: .inr (2, [.ref 4, .ref 8, .int (nI a), .int (nI p)]) :: .inr (4, [.ref 5, .ref 6, .ref 7, .int sz]) :: .inl (0, 401, .inl fk) :: .inl (0, 401, .inl fv) :: x7 :: .inr (0, [.ref 9, .ref 10, .ref 11, .int (nI s), .int rl]) :: .inl (0, 160, .inl (ck)) :: .inl (0, 160, .inl (cv)) :: g) (re_Q M (sp_sum K V d a p) s ck cv (fun a p s ck cv => x0 :: x1 :: x2 :: .inr (2, [.ref 4, .ref 8, .int (nI a), .int (nI p)]) :: .inr (4, [.ref 5, .ref 6, .ref 7, .int sz]) :: .inl (0, 401, .inl fk) :: .inl (0, 401, .inl fv) :: x7 :: .inr (0, [.ref 9, .ref 10, .ref 11, .int (nI s), .int rl]) :: .inl (0, 160, .inl (ck)) :: .inl (0, 160, .inl (cv)) :: g)) := by
  intro a p s ck cv ha hp80 hs
  have hM := ht.2.1
  have hsd := sp_snd_t (V := V) ht.1 d a p ha hp80
  refine rr_met (own := R_Re) (kd := (false, none)) (by decide +kernel) rfl (fun h => by cases h) rfl (Nat.le_of_ble_eq_true rfl) ?_
  refine rr_aload_n d_Re_readSum_0 rfl rfl ?_
  refine rr_iload_n d_Re_readSum_1 rfl rfl ?_
  refine rr_callV d_Re_readSum_2 il_Re_79 m_Re_readTerm (hp a p s ck cv ha hp80 hs) rfl rfl rfl rfl (Nat.le_of_ble_eq_true rfl) (by dsimp only; omega) (by dsimp only; omega) (Nat.le_of_ble_eq_true rfl) (Nat.le_of_ble_eq_true rfl) (fun r h1 hq => ?_)
  obtain ⟨s2, ck2, cv2, rfl, rfl, hs2, hok⟩ := hq
  unfold sp_sum sp_lp
  by_cases ho1 : (sp_term K V d a p).1 = true
  · rw [if_pos ho1, ho1]
    obtain ⟨rfl, rfl, rfl⟩ := hok ho1
    obtain ⟨j1, j2, j3⟩ := hsd.2 ho1
    refine rr_if_ne 10 d_Re_readSum_5 (by decide) (fun _ => ?_) (fun c9 => absurd c9 (by decide))
    refine rr_iconst 1 d_Re_readSum_10 rfl ?_
    refine rr_istore_n d_Re_readSum_11 rfl (by decide) ?_
    exact rr_lvs _ rfl (l_Re_readSum ht hp hs 80 _ _ _ (Nat.le_refl _) hsd.1 j2 j1 j3)
  · rw [if_neg ho1, (Bool.not_eq_true _).mp ho1]
    refine rr_if_ne 10 d_Re_readSum_5 (by decide) (fun c9 => absurd (rfl) c9) (fun _ => ?_)
    refine rr_iconst 0 d_Re_readSum_8 rfl ?_
    exact rr_ireturn d_Re_readSum_9 rfl rfl (Nat.le_of_ble_eq_true rfl) (Nat.le_of_ble_eq_true rfl) (⟨s2, ck2, cv2, by rw [(Bool.not_eq_true _).mp ho1]; rfl, rfl, hs2, fun h => absurd h ho1⟩)

theorem s_sum_all {x0 x1 x2 x7 : va_E} {g : rr_H} {K : Nat → Nat} {V : Nat → Int32} {M : Nat} {sz rl : Int32} {fk fv : Nat → Int32} (ht : tq K V M fk fv) : ∀ (d e : Nat), e + d = 6 → (∀ (a p s : Nat) (ck cv : Nat → Int32), a ≤ M → p ≤ 80 → s ≤ 2 * p → rr_Spec (3 * d + 5) y_Re_readSum c_Re_readSum 4 (some .boolean) 0 0 [.ref 3, .int (nI e)] (x0 :: x1 :: x2 :: .inr (2, [.ref 4, .ref 8, .int (nI a), .int (nI p)]) :: .inr (4, [.ref 5, .ref 6, .ref 7, .int sz]) :: .inl (0, 401, .inl fk) :: .inl (0, 401, .inl fv) :: x7 :: .inr (0, [.ref 9, .ref 10, .ref 11, .int (nI s), .int rl]) :: .inl (0, 160, .inl (ck)) :: .inl (0, 160, .inl (cv)) :: g) (re_Q M (sp_sum K V d a p) s ck cv (fun a p s ck cv => x0 :: x1 :: x2 :: .inr (2, [.ref 4, .ref 8, .int (nI a), .int (nI p)]) :: .inr (4, [.ref 5, .ref 6, .ref 7, .int sz]) :: .inl (0, 401, .inl fk) :: .inl (0, 401, .inl fv) :: x7 :: .inr (0, [.ref 9, .ref 10, .ref 11, .int (nI s), .int rl]) :: .inl (0, 160, .inl (ck)) :: .inl (0, 160, .inl (cv)) :: g)))
  | 0, e, he => by
    obtain rfl : e = 6 := by omega
    exact s_Re_readSum ht (s_Re_readTerm ht (s_Re_readPart_0 ht))
  | d + 1, e, he => s_Re_readSum (d := d + 1) ht (s_Re_readTerm ht (s_Re_readPart_1 ht (by omega) (s_sum_all ht d (e + 1) (by omega))))
end
section
/-! Rules. -/
abbrev sp_I : Type := List (Nat × Int32)
abbrev sp_C : Type := sp_I × sp_I × Nat
abbrev sp_F : Type := Int32 × sp_I
abbrev sp_U : Type := List sp_C × List sp_F
def fl_c (c : sp_C) : sp_I := c.1 ++ c.2.1 ++ [(c.2.2, 0)]
def fl_f (e : sp_F) : sp_I := e.2 ++ [(17, e.1)]
def fl_u (u : sp_U) : sp_I := u.1.flatMap fl_c ++ u.2.flatMap fl_f
def sp_cs (k : Nat) : Bool := k == 10 || k == 11 || k == 12 || k == 13
def sp_cmp (K : Nat → Nat) (V : Nat → Int32) (a p : Nat) : Bool × Nat × Nat × sp_C :=
  if (sp_sum K V 6 a p).1 = true then
    (if sp_cs (K (sp_sum K V 6 a p).2.1) = true then
      ((sp_sum K V 6 ((sp_sum K V 6 a p).2.1 + 1) (sp_sum K V 6 a p).2.2.1).1, (sp_sum K V 6 ((sp_sum K V 6 a p).2.1 + 1) (sp_sum K V 6 a p).2.2.1).2.1, (sp_sum K V 6 ((sp_sum K V 6 a p).2.1 + 1) (sp_sum K V 6 a p).2.2.1).2.2.1, ((sp_sum K V 6 a p).2.2.2, (sp_sum K V 6 ((sp_sum K V 6 a p).2.1 + 1) (sp_sum K V 6 a p).2.2.1).2.2.2, K (sp_sum K V 6 a p).2.1))
    else (false, (sp_sum K V 6 a p).2.1, (sp_sum K V 6 a p).2.2.1, ([], [], 0)))
  else (false, (sp_sum K V 6 a p).2.1, (sp_sum K V 6 a p).2.2.1, ([], [], 0))
def sp_test (K : Nat → Nat) (V : Nat → Int32) : Nat → Nat → Nat → List sp_C → Bool × Nat × Nat × List sp_C
  | 0, a, p, ts => (false, a, p, ts)
  | n + 1, a, p, ts => if (sp_cmp K V a p).1 = true then
      (if K (sp_cmp K V a p).2.1 = 5 then sp_test K V n ((sp_cmp K V a p).2.1 + 1) (sp_cmp K V a p).2.2.1 (ts ++ [(sp_cmp K V a p).2.2.2])
      else if K (sp_cmp K V a p).2.1 = 3 then (true, (sp_cmp K V a p).2.1 + 1, (sp_cmp K V a p).2.2.1, ts ++ [(sp_cmp K V a p).2.2.2])
      else (false, (sp_cmp K V a p).2.1, (sp_cmp K V a p).2.2.1, ts))
    else (false, (sp_cmp K V a p).2.1, (sp_cmp K V a p).2.2.1, ts)
def sp_eff (K : Nat → Nat) (V : Nat → Int32) (a p : Nat) : Bool × Nat × Nat × sp_F :=
  if K a = 8 then (if K (a + 1) = 9 ∧ V (a + 1) < 32 then (if K (a + 2) = 17 then ((sp_sum K V 6 (a + 3) p).1, (sp_sum K V 6 (a + 3) p).2.1, (sp_sum K V 6 (a + 3) p).2.2.1, (V (a + 1), (sp_sum K V 6 (a + 3) p).2.2.2))
    else (false, a + 2, p, (0, []))) else (false, a + 1, p, (0, []))) else (false, a, p, (0, []))
def sp_effs (K : Nat → Nat) (V : Nat → Int32) : Nat → Nat → Nat → List sp_F → Bool × Nat × Nat × List sp_F
  | 0, a, p, es => (false, a, p, es)
  | n + 1, a, p, es => if (sp_eff K V a p).1 = true then
      (if K (sp_eff K V a p).2.1 = 18 then sp_effs K V n ((sp_eff K V a p).2.1 + 1) (sp_eff K V a p).2.2.1 (es ++ [(sp_eff K V a p).2.2.2])
      else (true, (sp_eff K V a p).2.1, (sp_eff K V a p).2.2.1, es ++ [(sp_eff K V a p).2.2.2]))
    else (false, (sp_eff K V a p).2.1, (sp_eff K V a p).2.2.1, es)
def sp_rule (K : Nat → Nat) (V : Nat → Int32) (a p : Nat) : Bool × Nat × Nat × sp_U :=
  if K a = 2 then
    (if (sp_test K V 80 (a + 1) p []).1 = true then ((sp_effs K V 8 (sp_test K V 80 (a + 1) p []).2.1 (sp_test K V 80 (a + 1) p []).2.2.1 []).1, (sp_effs K V 8 (sp_test K V 80 (a + 1) p []).2.1 (sp_test K V 80 (a + 1) p []).2.2.1 []).2.1, (sp_effs K V 8 (sp_test K V 80 (a + 1) p []).2.1 (sp_test K V 80 (a + 1) p []).2.2.1 []).2.2.1, ((sp_test K V 80 (a + 1) p []).2.2.2, (sp_effs K V 8 (sp_test K V 80 (a + 1) p []).2.1 (sp_test K V 80 (a + 1) p []).2.2.1 []).2.2.2))
    else (false, (sp_test K V 80 (a + 1) p []).2.1, (sp_test K V 80 (a + 1) p []).2.2.1, ([], [])))
  else ((sp_effs K V 8 a p []).1, (sp_effs K V 8 a p []).2.1, (sp_effs K V 8 a p []).2.2.1, ([], (sp_effs K V 8 a p []).2.2.2))
def sp_prog (K : Nat → Nat) (V : Nat → Int32) : Nat → Nat → Nat → List sp_U → Bool × Nat × List sp_U
  | 0, a, _, us => (false, a, us)
  | n + 1, a, p, us => if (sp_rule K V a p).1 = true then
      (if K (sp_rule K V a p).2.1 = 0 then (true, (sp_rule K V a p).2.1, us ++ [(sp_rule K V a p).2.2.2])
      else if K (sp_rule K V a p).2.1 = 4 then sp_prog K V n ((sp_rule K V a p).2.1 + 1) (sp_rule K V a p).2.2.1 (us ++ [(sp_rule K V a p).2.2.2])
      else (false, (sp_rule K V a p).2.1, us))
    else (false, (sp_rule K V a p).2.1, us)
/-- sound, with its steps flattened by fl, at most e beyond twice the parts -/
theorem sp_snd_cmp {K : Nat → Nat} {V : Nat → Int32} {M : Nat} (h0 : K M = 0) {a p : Nat} (ha : a ≤ M) (hp : p ≤ 80) : (sp_cmp K V a p).2.1 ≤ M ∧ ((sp_cmp K V a p).1 = true → p < (sp_cmp K V a p).2.2.1 ∧ (sp_cmp K V a p).2.2.1 ≤ 80 ∧ (fl_c (sp_cmp K V a p).2.2.2).length + 1 = 2 * ((sp_cmp K V a p).2.2.1 - p)) := by
  obtain ⟨i1, i2⟩ := sp_snd_s (V := V) h0 6 a p ha hp
  unfold sp_cmp
  by_cases h : (sp_sum K V 6 a p).1 = true
  · rw [if_pos h]
    obtain ⟨j1, j2, j3⟩ := i2 h
    by_cases hs : sp_cs (K (sp_sum K V 6 a p).2.1) = true
    · rw [if_pos hs]
      have hl : (sp_sum K V 6 a p).2.1 < M := by
        rcases Nat.lt_or_ge (sp_sum K V 6 a p).2.1 M with q | q
        · exact q
        · rw [show (sp_sum K V 6 a p).2.1 = M by omega, h0] at hs
          cases hs
      obtain ⟨k1, k2⟩ := sp_snd_s (V := V) h0 6 ((sp_sum K V 6 a p).2.1 + 1) (sp_sum K V 6 a p).2.2.1 hl j2
      refine ⟨k1, fun q => ?_⟩
      obtain ⟨l1, l2, l3⟩ := k2 q
      refine ⟨by show p < (sp_sum K V 6 ((sp_sum K V 6 a p).2.1 + 1) (sp_sum K V 6 a p).2.2.1).2.2.1; omega, l2, ?_⟩
      unfold fl_c
      simp only [List.length_append, List.length_cons, List.length_nil]
      omega
    · rw [if_neg hs]
      exact ⟨i1, fun q => by cases q⟩
  · rw [if_neg h]
    exact ⟨i1, fun q => by cases q⟩
theorem sp_snd_eff {K : Nat → Nat} {V : Nat → Int32} {M : Nat} (h0 : K M = 0) {a p : Nat} (ha : a ≤ M) (hp : p ≤ 80) : (sp_eff K V a p).2.1 ≤ M ∧ ((sp_eff K V a p).1 = true → p < (sp_eff K V a p).2.2.1 ∧ (sp_eff K V a p).2.2.1 ≤ 80 ∧ (fl_f (sp_eff K V a p).2.2.2).length = 2 * ((sp_eff K V a p).2.2.1 - p)) := by
  unfold sp_eff
  by_cases k8 : K a = 8
  · rw [if_pos k8]
    have l8 := sp_lt h0 ha k8 (by decide)
    by_cases k9 : K (a + 1) = 9 ∧ V (a + 1) < 32
    · rw [if_pos k9]
      have l9 := sp_lt h0 l8 k9.1 (by decide)
      by_cases k17 : K (a + 2) = 17
      · rw [if_pos k17]
        have l17 := sp_lt h0 l9 k17 (by decide)
        obtain ⟨i1, i2⟩ := sp_snd_s (V := V) h0 6 (a + 3) p l17 hp
        refine ⟨i1, fun q => ?_⟩
        obtain ⟨l1, l2, l3⟩ := i2 q
        refine ⟨l1, l2, ?_⟩
        unfold fl_f
        simp only [List.length_append, List.length_cons, List.length_nil]
        omega
      · rw [if_neg k17]
        exact ⟨l9, fun q => by cases q⟩
    · rw [if_neg k9]
      exact ⟨l8, fun q => by cases q⟩
  · rw [if_neg k8]
    exact ⟨ha, fun q => by cases q⟩
theorem sp_snd_test {K : Nat → Nat} {V : Nat → Int32} {M : Nat} (h0 : K M = 0) (p0 : Nat) : ∀ (n a p : Nat) (ts : List sp_C), a ≤ M → p ≤ 80 → p0 ≤ p → (ts.flatMap fl_c).length ≤ 2 * (p - p0) → (sp_test K V n a p ts).2.1 ≤ M ∧ ((sp_test K V n a p ts).1 = true → p ≤ (sp_test K V n a p ts).2.2.1 ∧ (sp_test K V n a p ts).2.2.1 ≤ 80 ∧ ((sp_test K V n a p ts).2.2.2.flatMap fl_c).length ≤ 2 * ((sp_test K V n a p ts).2.2.1 - p0)) := by
  intro n
  induction n with
  | zero =>
    intro a p ts ha hp hp0 hL
    exact ⟨ha, fun q => by cases q⟩
  | succ n ih =>
    intro a p ts ha hp hp0 hL
    obtain ⟨i1, i2⟩ := sp_snd_cmp (V := V) h0 ha hp
    unfold sp_test
    by_cases h : (sp_cmp K V a p).1 = true
    · rw [if_pos h]
      obtain ⟨j1, j2, j3⟩ := i2 h
      have hLn : ((ts ++ [(sp_cmp K V a p).2.2.2]).flatMap fl_c).length ≤ 2 * ((sp_cmp K V a p).2.2.1 - p0) := by
        rw [List.flatMap_append, List.length_append]
        simp only [List.flatMap_cons, List.flatMap_nil, List.append_nil]
        omega
      by_cases k5 : K (sp_cmp K V a p).2.1 = 5
      · rw [if_pos k5]
        have l5 := sp_lt h0 i1 k5 (by decide)
        obtain ⟨g1, g2⟩ := ih ((sp_cmp K V a p).2.1 + 1) (sp_cmp K V a p).2.2.1 (ts ++ [(sp_cmp K V a p).2.2.2]) l5 j2 (by omega) hLn
        exact ⟨g1, fun q => ⟨by have := (g2 q).1; omega, (g2 q).2⟩⟩
      · rw [if_neg k5]
        by_cases k3 : K (sp_cmp K V a p).2.1 = 3
        · rw [if_pos k3]
          exact ⟨sp_lt h0 i1 k3 (by decide), fun _ => ⟨by show p ≤ (sp_cmp K V a p).2.2.1; omega, j2, hLn⟩⟩
        · rw [if_neg k3]
          exact ⟨i1, fun q => by cases q⟩
    · rw [if_neg h]
      exact ⟨i1, fun q => by cases q⟩
theorem sp_snd_effs {K : Nat → Nat} {V : Nat → Int32} {M : Nat} (h0 : K M = 0) (p0 b : Nat) : ∀ (n a p : Nat) (es : List sp_F), a ≤ M → p ≤ 80 → p0 ≤ p → b + (es.flatMap fl_f).length ≤ 2 * (p - p0) → (sp_effs K V n a p es).2.1 ≤ M ∧ ((sp_effs K V n a p es).1 = true → p ≤ (sp_effs K V n a p es).2.2.1 ∧ (sp_effs K V n a p es).2.2.1 ≤ 80 ∧ b + ((sp_effs K V n a p es).2.2.2.flatMap fl_f).length ≤ 2 * ((sp_effs K V n a p es).2.2.1 - p0)) := by
  intro n
  induction n with
  | zero =>
    intro a p es ha hp hp0 hL
    exact ⟨ha, fun q => by cases q⟩
  | succ n ih =>
    intro a p es ha hp hp0 hL
    obtain ⟨i1, i2⟩ := sp_snd_eff (V := V) h0 ha hp
    unfold sp_effs
    by_cases h : (sp_eff K V a p).1 = true
    · rw [if_pos h]
      obtain ⟨j1, j2, j3⟩ := i2 h
      have hLn : b + ((es ++ [(sp_eff K V a p).2.2.2]).flatMap fl_f).length ≤ 2 * ((sp_eff K V a p).2.2.1 - p0) := by
        rw [List.flatMap_append, List.length_append]
        simp only [List.flatMap_cons, List.flatMap_nil, List.append_nil]
        omega
      by_cases k5 : K (sp_eff K V a p).2.1 = 18
      · rw [if_pos k5]
        have l5 := sp_lt h0 i1 k5 (by decide)
        obtain ⟨g1, g2⟩ := ih ((sp_eff K V a p).2.1 + 1) (sp_eff K V a p).2.2.1 (es ++ [(sp_eff K V a p).2.2.2]) l5 j2 (by omega) hLn
        exact ⟨g1, fun q => ⟨by have := (g2 q).1; omega, (g2 q).2⟩⟩
      · rw [if_neg k5]
        exact ⟨i1, fun _ => ⟨by show p ≤ (sp_eff K V a p).2.2.1; omega, j2, hLn⟩⟩
    · rw [if_neg h]
      exact ⟨i1, fun q => by cases q⟩
theorem sp_snd_rule {K : Nat → Nat} {V : Nat → Int32} {M : Nat} (h0 : K M = 0) {a p : Nat} (ha : a ≤ M) (hp : p ≤ 80) : (sp_rule K V a p).2.1 ≤ M ∧ ((sp_rule K V a p).1 = true → p ≤ (sp_rule K V a p).2.2.1 ∧ (sp_rule K V a p).2.2.1 ≤ 80 ∧ (fl_u (sp_rule K V a p).2.2.2).length ≤ 2 * ((sp_rule K V a p).2.2.1 - p)) := by
  unfold sp_rule
  by_cases k2 : K a = 2
  · rw [if_pos k2]
    have l2 := sp_lt h0 ha k2 (by decide)
    obtain ⟨i1, i2⟩ := sp_snd_test (V := V) h0 p 80 (a + 1) p [] l2 hp (Nat.le_refl _) (Nat.zero_le _)
    by_cases h : (sp_test K V 80 (a + 1) p []).1 = true
    · rw [if_pos h]
      obtain ⟨j1, j2, j3⟩ := i2 h
      obtain ⟨k1, k2⟩ := sp_snd_effs (V := V) h0 p ((sp_test K V 80 (a + 1) p []).2.2.2.flatMap fl_c).length 8 _ _ [] i1 j2 j1 j3
      refine ⟨k1, fun q => ?_⟩
      obtain ⟨l1, l2, l3⟩ := k2 q
      refine ⟨by dsimp only; omega, l2, ?_⟩
      unfold fl_u
      rw [List.length_append]
      exact l3
    · rw [if_neg h]
      exact ⟨i1, fun q => by cases q⟩
  · rw [if_neg k2]
    obtain ⟨k1, k2⟩ := sp_snd_effs (V := V) h0 p 0 8 a p [] ha hp (Nat.le_refl _) (by simp)
    refine ⟨k1, fun q => ?_⟩
    obtain ⟨l1, l2, l3⟩ := k2 q
    refine ⟨l1, l2, ?_⟩
    unfold fl_u
    rw [List.length_append]
    exact l3
end
section
/-! The reader: tests, effects, rules. -/
theorem co_k_c (f : Nat → Int32) (s : Nat) (L x y : sp_I) (g : Nat) (v : Int32) : upd (co_k (co_k (co_k f s L) (s + L.length) x) (s + L.length + x.length) y) (s + L.length + x.length + y.length) (nI g) = co_k f s (L ++ (x ++ y ++ [(g, v)])) := by
  rw [co_k_app, co_k_app, co_k_app, co_k_1, List.length_append]
  simp only [Nat.add_assoc]
theorem co_v_c (f : Nat → Int32) (s : Nat) (L x y : sp_I) (g : Nat) (v : Int32) : upd (co_v (co_v (co_v f s L) (s + L.length) x) (s + L.length + x.length) y) (s + L.length + x.length + y.length) v = co_v f s (L ++ (x ++ y ++ [(g, v)])) := by
  rw [co_v_app, co_v_app, co_v_app, co_v_1, List.length_append]
  simp only [Nat.add_assoc]
theorem co_l_c (s : Nat) (L x y : sp_I) (q : Nat × Int32) : s + L.length + x.length + y.length + 1 = s + (L ++ (x ++ y ++ [q])).length := by
  simp only [List.length_append, List.length_cons, List.length_nil]
  omega
theorem fl_c_app (ts : List sp_C) (x y : sp_I) (g : Nat) : ts.flatMap fl_c ++ (x ++ y ++ [(g, 0)]) = (ts ++ [(x, y, g)]).flatMap fl_c := by
  rw [List.flatMap_append]
  simp [fl_c]
theorem co_k_f (f : Nat → Int32) (s : Nat) (L x : sp_I) (g : Nat) (v : Int32) : upd (co_k (co_k f s L) (s + L.length) x) (s + L.length + x.length) (nI g) = co_k f s (L ++ (x ++ [(g, v)])) := by
  rw [co_k_app, co_k_app, co_k_1]
theorem fl_f_app (es : List sp_F) (e : sp_F) : es.flatMap fl_f ++ fl_f e = (es ++ [e]).flatMap fl_f := by
  rw [List.flatMap_append]
  simp

set_option maxRecDepth 100000 in
set_option maxHeartbeats 4000000 in
theorem l_Re_readTest {x0 x1 x2 x7 : va_E} {g : rr_H} {K : Nat → Nat} {V : Nat → Int32} {M : Nat} {sz rl : Int32} {fk fv : Nat → Int32} {p0 s : Nat} {ck cv : Nat → Int32} (ht : tq K V M fk fv) (hs : s ≤ 2 * p0) : ∀ (n a p : Nat) (ts : List sp_C), n ≤ 80 → a ≤ M → p ≤ 80 → p0 ≤ p → (ts.flatMap fl_c).length ≤ 2 * (p - p0) → rr_A R_Re c_Re_readTest 3 (some .boolean) (false, none) { frames := 24, cells := 0, slots := 0, locals := 24 * 64 } (re_Q M ((sp_test K V n a p ts).1, (sp_test K V n a p ts).2.1, (sp_test K V n a p ts).2.2.1, (sp_test K V n a p ts).2.2.2.flatMap fl_c) s ck cv (fun a p s ck cv => x0 :: x1 :: x2 :: .inr (2, [.ref 4, .ref 8, .int (nI a), .int (nI p)]) :: .inr (4, [.ref 5, .ref 6, .ref 7, .int sz]) :: .inl (0, 401, .inl fk) :: .inl (0, 401, .inl fv) :: x7 :: .inr (0, [.ref 9, .ref 10, .ref 11, .int (nI s), .int rl]) :: .inl (0, 160, .inl (ck)) :: .inl (0, 160, .inl (cv)) :: g)) 0 0 2 [(1, .int (nI (80 - n))), (0, .ref 3)] [] (x0 :: x1 :: x2 :: .inr (2, [.ref 4, .ref 8, .int (nI a), .int (nI p)]) :: .inr (4, [.ref 5, .ref 6, .ref 7, .int sz]) :: .inl (0, 401, .inl fk) :: .inl (0, 401, .inl fv) :: x7 :: .inr (0, [.ref 9, .ref 10, .ref 11, .int (nI (s + (ts.flatMap fl_c).length)), .int rl]) :: .inl (0, 160, .inl (co_k ck s (ts.flatMap fl_c))) :: .inl (0, 160, .inl (co_v cv s (ts.flatMap fl_c))) :: g) := by
  have hM := ht.2.1
  have i20 : ∀ {j k : Nat}, j ≤ M → k ≤ 20 → (fk j = nI k ↔ K j = k) := fun hj hk => tq_k ht hj hk
  intro n
  induction n with
  | zero =>
    intro a p ts hn ha hp hp0 hL
    refine rr_iload_n d_Re_readTest_2 rfl rfl ?_
    refine rr_bipush 80 d_Re_readTest_3 rfl ?_
    refine rr_icmp_ge 108 d_Re_readTest_5 (by decide) (fun _ => ?_) (fun c9 => absurd (by decide) c9)
    refine rr_iconst 0 d_Re_readTest_108 rfl ?_
    exact rr_ireturn d_Re_readTest_109 rfl rfl (Nat.le_of_ble_eq_true rfl) (Nat.le_of_ble_eq_true rfl) (⟨s + (ts.flatMap fl_c).length, _, _, rfl, rfl, by omega, fun h => by cases h⟩)
  | succ n ih =>
    intro a p ts hn ha hp hp0 hL
    obtain ⟨i1, i2⟩ := sp_snd_s (V := V) ht.1 6 a p ha hp
    refine rr_iload_n d_Re_readTest_2 rfl rfl ?_
    refine rr_bipush 80 d_Re_readTest_3 rfl ?_
    refine rr_icmp_ge 108 d_Re_readTest_5 (by decide) (fun c9 => absurd c9 (nI_ge (a := 80 - (n + 1)) (b := 80) (by omega) (by decide))) (fun _ => ?_)
    refine rr_aload_n d_Re_readTest_8 rfl rfl ?_
    refine rr_iconst 0 d_Re_readTest_9 rfl ?_
    refine rr_callV d_Re_readTest_10 il_Re_63 m_Re_readSum (s_sum_all ht 6 0 rfl a p (s + (ts.flatMap fl_c).length) (co_k ck s (ts.flatMap fl_c)) (co_v cv s (ts.flatMap fl_c)) ha hp (by omega)) rfl rfl rfl rfl (Nat.le_of_ble_eq_true rfl) (Nat.le_of_ble_eq_true rfl) (Nat.le_of_ble_eq_true rfl) (Nat.le_of_ble_eq_true rfl) (Nat.le_of_ble_eq_true rfl) (fun r h1 hq => ?_)
    obtain ⟨s2, ck2, cv2, rfl, rfl, hs2, hok⟩ := hq
    unfold sp_test sp_cmp
    by_cases hx : (sp_sum K V 6 a p).1 = true
    · simp only [if_pos hx]
      rw [hx]
      obtain ⟨rfl, rfl, rfl⟩ := hok hx
      obtain ⟨j1, j2, j3⟩ := i2 hx
      refine rr_if_ne 18 d_Re_readTest_13 (by decide) (fun _ => ?_) (fun c9 => absurd c9 (by decide))
      refine rr_aload_n d_Re_readTest_18 rfl rfl ?_
      refine rr_getf d_Re_readTest_19 fl_Re_12 rfl rfl ?_
      refine rr_getf d_Re_readTest_22 fl_Re_66 rfl rfl ?_
      refine rr_aload_n d_Re_readTest_25 rfl rfl ?_
      refine rr_getf d_Re_readTest_26 fl_Re_32 rfl rfl ?_
      refine rr_iald d_Re_readTest_29 rfl (vp_in_nI (n := (sp_sum K V 6 a p).2.1) (by omega) (by decide)) ?_
      refine rr_istore_n d_Re_readTest_30 rfl (by decide) ?_
      refine rr_aload_n d_Re_readTest_31 rfl rfl ?_
      refine rr_bipush 10 d_Re_readTest_32 rfl ?_
      rw [nI_clamp (by omega), (ht.2.2.1 _ i1).1]
      have go : sp_cs (K (sp_sum K V 6 a p).2.1) = true → rr_A R_Re c_Re_readTest 3 (some .boolean) (false, none) { frames := 24, cells := 0, slots := 0, locals := 24 * 64 } (re_Q M ((if (sp_sum K V 6 ((sp_sum K V 6 a p).2.1 + 1) (sp_sum K V 6 a p).2.2.1).1 = true then (if K (sp_sum K V 6 ((sp_sum K V 6 a p).2.1 + 1) (sp_sum K V 6 a p).2.2.1).2.1 = 5 then sp_test K V n ((sp_sum K V 6 ((sp_sum K V 6 a p).2.1 + 1) (sp_sum K V 6 a p).2.2.1).2.1 + 1) (sp_sum K V 6 ((sp_sum K V 6 a p).2.1 + 1) (sp_sum K V 6 a p).2.2.1).2.2.1 (ts ++ [((sp_sum K V 6 a p).2.2.2, (sp_sum K V 6 ((sp_sum K V 6 a p).2.1 + 1) (sp_sum K V 6 a p).2.2.1).2.2.2, K (sp_sum K V 6 a p).2.1)]) else if K (sp_sum K V 6 ((sp_sum K V 6 a p).2.1 + 1) (sp_sum K V 6 a p).2.2.1).2.1 = 3 then (true, (sp_sum K V 6 ((sp_sum K V 6 a p).2.1 + 1) (sp_sum K V 6 a p).2.2.1).2.1 + 1, (sp_sum K V 6 ((sp_sum K V 6 a p).2.1 + 1) (sp_sum K V 6 a p).2.2.1).2.2.1, ts ++ [((sp_sum K V 6 a p).2.2.2, (sp_sum K V 6 ((sp_sum K V 6 a p).2.1 + 1) (sp_sum K V 6 a p).2.2.1).2.2.2, K (sp_sum K V 6 a p).2.1)]) else (false, (sp_sum K V 6 ((sp_sum K V 6 a p).2.1 + 1) (sp_sum K V 6 a p).2.2.1).2.1, (sp_sum K V 6 ((sp_sum K V 6 a p).2.1 + 1) (sp_sum K V 6 a p).2.2.1).2.2.1, ts)) else (false, (sp_sum K V 6 ((sp_sum K V 6 a p).2.1 + 1) (sp_sum K V 6 a p).2.2.1).2.1, (sp_sum K V 6 ((sp_sum K V 6 a p).2.1 + 1) (sp_sum K V 6 a p).2.2.1).2.2.1, ts)).1, (if (sp_sum K V 6 ((sp_sum K V 6 a p).2.1 + 1) (sp_sum K V 6 a p).2.2.1).1 = true then (if K (sp_sum K V 6 ((sp_sum K V 6 a p).2.1 + 1) (sp_sum K V 6 a p).2.2.1).2.1 = 5 then sp_test K V n ((sp_sum K V 6 ((sp_sum K V 6 a p).2.1 + 1) (sp_sum K V 6 a p).2.2.1).2.1 + 1) (sp_sum K V 6 ((sp_sum K V 6 a p).2.1 + 1) (sp_sum K V 6 a p).2.2.1).2.2.1 (ts ++ [((sp_sum K V 6 a p).2.2.2, (sp_sum K V 6 ((sp_sum K V 6 a p).2.1 + 1) (sp_sum K V 6 a p).2.2.1).2.2.2, K (sp_sum K V 6 a p).2.1)]) else if K (sp_sum K V 6 ((sp_sum K V 6 a p).2.1 + 1) (sp_sum K V 6 a p).2.2.1).2.1 = 3 then (true, (sp_sum K V 6 ((sp_sum K V 6 a p).2.1 + 1) (sp_sum K V 6 a p).2.2.1).2.1 + 1, (sp_sum K V 6 ((sp_sum K V 6 a p).2.1 + 1) (sp_sum K V 6 a p).2.2.1).2.2.1, ts ++ [((sp_sum K V 6 a p).2.2.2, (sp_sum K V 6 ((sp_sum K V 6 a p).2.1 + 1) (sp_sum K V 6 a p).2.2.1).2.2.2, K (sp_sum K V 6 a p).2.1)]) else (false, (sp_sum K V 6 ((sp_sum K V 6 a p).2.1 + 1) (sp_sum K V 6 a p).2.2.1).2.1, (sp_sum K V 6 ((sp_sum K V 6 a p).2.1 + 1) (sp_sum K V 6 a p).2.2.1).2.2.1, ts)) else (false, (sp_sum K V 6 ((sp_sum K V 6 a p).2.1 + 1) (sp_sum K V 6 a p).2.2.1).2.1, (sp_sum K V 6 ((sp_sum K V 6 a p).2.1 + 1) (sp_sum K V 6 a p).2.2.1).2.2.1, ts)).2.1, (if (sp_sum K V 6 ((sp_sum K V 6 a p).2.1 + 1) (sp_sum K V 6 a p).2.2.1).1 = true then (if K (sp_sum K V 6 ((sp_sum K V 6 a p).2.1 + 1) (sp_sum K V 6 a p).2.2.1).2.1 = 5 then sp_test K V n ((sp_sum K V 6 ((sp_sum K V 6 a p).2.1 + 1) (sp_sum K V 6 a p).2.2.1).2.1 + 1) (sp_sum K V 6 ((sp_sum K V 6 a p).2.1 + 1) (sp_sum K V 6 a p).2.2.1).2.2.1 (ts ++ [((sp_sum K V 6 a p).2.2.2, (sp_sum K V 6 ((sp_sum K V 6 a p).2.1 + 1) (sp_sum K V 6 a p).2.2.1).2.2.2, K (sp_sum K V 6 a p).2.1)]) else if K (sp_sum K V 6 ((sp_sum K V 6 a p).2.1 + 1) (sp_sum K V 6 a p).2.2.1).2.1 = 3 then (true, (sp_sum K V 6 ((sp_sum K V 6 a p).2.1 + 1) (sp_sum K V 6 a p).2.2.1).2.1 + 1, (sp_sum K V 6 ((sp_sum K V 6 a p).2.1 + 1) (sp_sum K V 6 a p).2.2.1).2.2.1, ts ++ [((sp_sum K V 6 a p).2.2.2, (sp_sum K V 6 ((sp_sum K V 6 a p).2.1 + 1) (sp_sum K V 6 a p).2.2.1).2.2.2, K (sp_sum K V 6 a p).2.1)]) else (false, (sp_sum K V 6 ((sp_sum K V 6 a p).2.1 + 1) (sp_sum K V 6 a p).2.2.1).2.1, (sp_sum K V 6 ((sp_sum K V 6 a p).2.1 + 1) (sp_sum K V 6 a p).2.2.1).2.2.1, ts)) else (false, (sp_sum K V 6 ((sp_sum K V 6 a p).2.1 + 1) (sp_sum K V 6 a p).2.2.1).2.1, (sp_sum K V 6 ((sp_sum K V 6 a p).2.1 + 1) (sp_sum K V 6 a p).2.2.1).2.2.1, ts)).2.2.1, (if (sp_sum K V 6 ((sp_sum K V 6 a p).2.1 + 1) (sp_sum K V 6 a p).2.2.1).1 = true then (if K (sp_sum K V 6 ((sp_sum K V 6 a p).2.1 + 1) (sp_sum K V 6 a p).2.2.1).2.1 = 5 then sp_test K V n ((sp_sum K V 6 ((sp_sum K V 6 a p).2.1 + 1) (sp_sum K V 6 a p).2.2.1).2.1 + 1) (sp_sum K V 6 ((sp_sum K V 6 a p).2.1 + 1) (sp_sum K V 6 a p).2.2.1).2.2.1 (ts ++ [((sp_sum K V 6 a p).2.2.2, (sp_sum K V 6 ((sp_sum K V 6 a p).2.1 + 1) (sp_sum K V 6 a p).2.2.1).2.2.2, K (sp_sum K V 6 a p).2.1)]) else if K (sp_sum K V 6 ((sp_sum K V 6 a p).2.1 + 1) (sp_sum K V 6 a p).2.2.1).2.1 = 3 then (true, (sp_sum K V 6 ((sp_sum K V 6 a p).2.1 + 1) (sp_sum K V 6 a p).2.2.1).2.1 + 1, (sp_sum K V 6 ((sp_sum K V 6 a p).2.1 + 1) (sp_sum K V 6 a p).2.2.1).2.2.1, ts ++ [((sp_sum K V 6 a p).2.2.2, (sp_sum K V 6 ((sp_sum K V 6 a p).2.1 + 1) (sp_sum K V 6 a p).2.2.1).2.2.2, K (sp_sum K V 6 a p).2.1)]) else (false, (sp_sum K V 6 ((sp_sum K V 6 a p).2.1 + 1) (sp_sum K V 6 a p).2.2.1).2.1, (sp_sum K V 6 ((sp_sum K V 6 a p).2.1 + 1) (sp_sum K V 6 a p).2.2.1).2.2.1, ts)) else (false, (sp_sum K V 6 ((sp_sum K V 6 a p).2.1 + 1) (sp_sum K V 6 a p).2.2.1).2.1, (sp_sum K V 6 ((sp_sum K V 6 a p).2.1 + 1) (sp_sum K V 6 a p).2.2.1).2.2.1, ts)).2.2.2.flatMap fl_c) s ck cv (fun a p s ck cv => x0 :: x1 :: x2 :: .inr (2, [.ref 4, .ref 8, .int (nI a), .int (nI p)]) :: .inr (4, [.ref 5, .ref 6, .ref 7, .int sz]) :: .inl (0, 401, .inl fk) :: .inl (0, 401, .inl fv) :: x7 :: .inr (0, [.ref 9, .ref 10, .ref 11, .int (nI s), .int rl]) :: .inl (0, 160, .inl (ck)) :: .inl (0, 160, .inl (cv)) :: g)) 0 0 69 [(2, .int (nI (K (sp_sum K V 6 a p).2.1))), (1, .int (nI (80 - (n + 1)))), (0, .ref 3)] [] (x0 :: x1 :: x2 :: .inr (2, [.ref 4, .ref 8, .int (nI ((sp_sum K V 6 a p).2.1 + 1)), .int (nI (sp_sum K V 6 a p).2.2.1)]) :: .inr (4, [.ref 5, .ref 6, .ref 7, .int sz]) :: .inl (0, 401, .inl fk) :: .inl (0, 401, .inl fv) :: x7 :: .inr (0, [.ref 9, .ref 10, .ref 11, .int (nI (s + (ts.flatMap fl_c).length + (sp_sum K V 6 a p).2.2.2.length)), .int rl]) :: .inl (0, 160, .inl (co_k (co_k ck s (ts.flatMap fl_c)) (s + (ts.flatMap fl_c).length) (sp_sum K V 6 a p).2.2.2)) :: .inl (0, 160, .inl (co_v (co_v cv s (ts.flatMap fl_c)) (s + (ts.flatMap fl_c).length) (sp_sum K V 6 a p).2.2.2)) :: g) := by
        intro hcs
        have hl : (sp_sum K V 6 a p).2.1 < M := by
          rcases Nat.lt_or_ge (sp_sum K V 6 a p).2.1 M with q | q
          · exact q
          · rw [show (sp_sum K V 6 a p).2.1 = M by omega, ht.1] at hcs
            cases hcs
        obtain ⟨y1, y2⟩ := sp_snd_s (V := V) ht.1 6 ((sp_sum K V 6 a p).2.1 + 1) (sp_sum K V 6 a p).2.2.1 hl j2
        refine rr_aload_n d_Re_readTest_69 rfl rfl ?_
        refine rr_iconst 0 d_Re_readTest_70 rfl ?_
        refine rr_callV d_Re_readTest_71 il_Re_63 m_Re_readSum (s_sum_all ht 6 0 rfl ((sp_sum K V 6 a p).2.1 + 1) (sp_sum K V 6 a p).2.2.1 _ _ _ hl j2 (by omega)) rfl rfl rfl rfl (Nat.le_of_ble_eq_true rfl) (Nat.le_of_ble_eq_true rfl) (Nat.le_of_ble_eq_true rfl) (Nat.le_of_ble_eq_true rfl) (Nat.le_of_ble_eq_true rfl) (fun r h1 hq => ?_)
        obtain ⟨s3, ck3, cv3, rfl, rfl, hs3, hok3⟩ := hq
        by_cases hy : (sp_sum K V 6 ((sp_sum K V 6 a p).2.1 + 1) (sp_sum K V 6 a p).2.2.1).1 = true
        · simp only [if_pos hy]
          rw [hy]
          obtain ⟨rfl, rfl, rfl⟩ := hok3 hy
          obtain ⟨z1, z2, z3⟩ := y2 hy
          refine rr_if_ne 79 d_Re_readTest_74 (by decide) (fun _ => ?_) (fun c9 => absurd c9 (by decide))
          refine rr_aload_n d_Re_readTest_79 rfl rfl ?_
          refine rr_getf d_Re_readTest_80 fl_Re_21 rfl rfl ?_
          refine rr_iload_n d_Re_readTest_83 rfl rfl ?_
          refine rr_iconst 0 d_Re_readTest_84 rfl ?_
          refine rr_callV d_Re_readTest_85 il_Re_69 m_Co_add (s_Co_add (by omega)) rfl rfl rfl rfl (Nat.le_of_ble_eq_true rfl) (Nat.le_of_ble_eq_true rfl) (Nat.le_of_ble_eq_true rfl) (Nat.le_of_ble_eq_true rfl) (Nat.le_of_ble_eq_true rfl) (fun r h1 hq => ?_)
          obtain ⟨rfl, rfl⟩ := hq
          rw [co_k_c ck s (ts.flatMap fl_c) (sp_sum K V 6 a p).2.2.2 (sp_sum K V 6 ((sp_sum K V 6 a p).2.1 + 1) (sp_sum K V 6 a p).2.2.1).2.2.2 (K (sp_sum K V 6 a p).2.1) 0, co_v_c cv s (ts.flatMap fl_c) (sp_sum K V 6 a p).2.2.2 (sp_sum K V 6 ((sp_sum K V 6 a p).2.1 + 1) (sp_sum K V 6 a p).2.2.1).2.2.2 (K (sp_sum K V 6 a p).2.1) 0, co_l_c s (ts.flatMap fl_c) (sp_sum K V 6 a p).2.2.2 (sp_sum K V 6 ((sp_sum K V 6 a p).2.1 + 1) (sp_sum K V 6 a p).2.2.1).2.2.2 (K (sp_sum K V 6 a p).2.1, 0), fl_c_app]
          have hLn : ((ts ++ [((sp_sum K V 6 a p).2.2.2, (sp_sum K V 6 ((sp_sum K V 6 a p).2.1 + 1) (sp_sum K V 6 a p).2.2.1).2.2.2, K (sp_sum K V 6 a p).2.1)]).flatMap fl_c).length ≤ 2 * ((sp_sum K V 6 ((sp_sum K V 6 a p).2.1 + 1) (sp_sum K V 6 a p).2.2.1).2.2.1 - p0) := by
            rw [← fl_c_app, List.length_append]
            simp only [List.length_append, List.length_cons, List.length_nil]
            omega
          refine rr_aload_n d_Re_readTest_88 rfl rfl ?_
          refine rr_iconst 5 d_Re_readTest_89 rfl ?_
          by_cases k5 : K (sp_sum K V 6 ((sp_sum K V 6 a p).2.1 + 1) (sp_sum K V 6 a p).2.2.1).2.1 = 5
          · simp only [if_pos k5]
            have e5 : fk (sp_sum K V 6 ((sp_sum K V 6 a p).2.1 + 1) (sp_sum K V 6 a p).2.2.1).2.1 = 5 := (i20 (k := 5) y1 (by decide)).mpr k5
            have l5 := sp_lt ht.1 y1 k5 (by decide)
            refine rr_callV d_Re_readTest_90 il_Re_50 m_Re_pass (s_Re_pass_t (by omega) e5) rfl rfl rfl rfl (Nat.le_of_ble_eq_true rfl) (Nat.le_of_ble_eq_true rfl) (Nat.le_of_ble_eq_true rfl) (Nat.le_of_ble_eq_true rfl) (Nat.le_of_ble_eq_true rfl) (fun r h1 hq => ?_)
            obtain ⟨rfl, rfl⟩ := hq
            refine rr_if_ne 102 d_Re_readTest_93 (by decide) (fun _ => ?_) (fun c9 => absurd c9 (by decide))
            refine rr_iinc 1 d_Re_readTest_102 rfl rfl (by decide) ?_
            refine rr_goto 2 d_Re_readTest_105 (by decide) ?_
            rw [nI_1, show 80 - (n + 1) + 1 = 80 - n by omega]
            exact rr_lvs _ rfl (ih ((sp_sum K V 6 ((sp_sum K V 6 a p).2.1 + 1) (sp_sum K V 6 a p).2.2.1).2.1 + 1) (sp_sum K V 6 ((sp_sum K V 6 a p).2.1 + 1) (sp_sum K V 6 a p).2.2.1).2.2.1 _ (by omega) l5 z2 (by omega) hLn)
          · simp only [if_neg k5]
            have e5 : ¬ fk (sp_sum K V 6 ((sp_sum K V 6 a p).2.1 + 1) (sp_sum K V 6 a p).2.2.1).2.1 = 5 := fun q => k5 ((i20 (k := 5) y1 (by decide)).mp q)
            refine rr_callV d_Re_readTest_90 il_Re_50 m_Re_pass (s_Re_pass_f (by omega) e5) rfl rfl rfl rfl (Nat.le_of_ble_eq_true rfl) (Nat.le_of_ble_eq_true rfl) (Nat.le_of_ble_eq_true rfl) (Nat.le_of_ble_eq_true rfl) (Nat.le_of_ble_eq_true rfl) (fun r h1 hq => ?_)
            obtain ⟨rfl, rfl⟩ := hq
            refine rr_if_ne 102 d_Re_readTest_93 (by decide) (fun c9 => absurd (rfl) c9) (fun _ => ?_)
            refine rr_aload_n d_Re_readTest_96 rfl rfl ?_
            refine rr_iconst 3 d_Re_readTest_97 rfl ?_
            by_cases k3 : K (sp_sum K V 6 ((sp_sum K V 6 a p).2.1 + 1) (sp_sum K V 6 a p).2.2.1).2.1 = 3
            · simp only [if_pos k3]
              have e3 : fk (sp_sum K V 6 ((sp_sum K V 6 a p).2.1 + 1) (sp_sum K V 6 a p).2.2.1).2.1 = 3 := (i20 (k := 3) y1 (by decide)).mpr k3
              refine rr_callV d_Re_readTest_98 il_Re_50 m_Re_pass (s_Re_pass_t (by omega) e3) rfl rfl rfl rfl (Nat.le_of_ble_eq_true rfl) (Nat.le_of_ble_eq_true rfl) (Nat.le_of_ble_eq_true rfl) (Nat.le_of_ble_eq_true rfl) (Nat.le_of_ble_eq_true rfl) (fun r h1 hq => ?_)
              obtain ⟨rfl, rfl⟩ := hq
              exact rr_ireturn d_Re_readTest_101 rfl rfl (Nat.le_of_ble_eq_true rfl) (Nat.le_of_ble_eq_true rfl) (⟨_, _, _, rfl, rfl, by omega, fun _ => ⟨rfl, rfl, rfl⟩⟩)
            · simp only [if_neg k3]
              have e3 : ¬ fk (sp_sum K V 6 ((sp_sum K V 6 a p).2.1 + 1) (sp_sum K V 6 a p).2.2.1).2.1 = 3 := fun q => k3 ((i20 (k := 3) y1 (by decide)).mp q)
              refine rr_callV d_Re_readTest_98 il_Re_50 m_Re_pass (s_Re_pass_f (by omega) e3) rfl rfl rfl rfl (Nat.le_of_ble_eq_true rfl) (Nat.le_of_ble_eq_true rfl) (Nat.le_of_ble_eq_true rfl) (Nat.le_of_ble_eq_true rfl) (Nat.le_of_ble_eq_true rfl) (fun r h1 hq => ?_)
              obtain ⟨rfl, rfl⟩ := hq
              exact rr_ireturn d_Re_readTest_101 rfl rfl (Nat.le_of_ble_eq_true rfl) (Nat.le_of_ble_eq_true rfl) (⟨_, _, _, rfl, rfl, by omega, fun h => by cases h⟩)
        · simp only [if_neg hy]
          rw [(Bool.not_eq_true _).mp hy]
          refine rr_if_ne 79 d_Re_readTest_74 (by decide) (fun c9 => absurd (rfl) c9) (fun _ => ?_)
          refine rr_iconst 0 d_Re_readTest_77 rfl ?_
          exact rr_ireturn d_Re_readTest_78 rfl rfl (Nat.le_of_ble_eq_true rfl) (Nat.le_of_ble_eq_true rfl) (⟨s3, ck3, cv3, rfl, rfl, hs3, fun h => by cases h⟩)
      by_cases k10 : K (sp_sum K V 6 a p).2.1 = 10
      · have hcs : sp_cs (K (sp_sum K V 6 a p).2.1) = true := by rw [k10]; rfl
        simp only [if_pos hcs]
        have ej : fk (sp_sum K V 6 a p).2.1 = 10 := (i20 (k := 10) i1 (by decide)).mpr k10
        refine rr_callV d_Re_readTest_34 il_Re_50 m_Re_pass (s_Re_pass_t (by omega) ej) rfl rfl rfl rfl (Nat.le_of_ble_eq_true rfl) (Nat.le_of_ble_eq_true rfl) (Nat.le_of_ble_eq_true rfl) (Nat.le_of_ble_eq_true rfl) (Nat.le_of_ble_eq_true rfl) (fun r h1 hq => ?_)
        obtain ⟨rfl, rfl⟩ := hq
        refine rr_if_ne 69 d_Re_readTest_37 (by decide) (fun _ => ?_) (fun c9 => absurd c9 (by decide))
        exact rr_lvs _ rfl (go hcs)
      have e10 : ¬ fk (sp_sum K V 6 a p).2.1 = 10 := fun q => k10 ((i20 (k := 10) i1 (by decide)).mp q)
      refine rr_callV d_Re_readTest_34 il_Re_50 m_Re_pass (s_Re_pass_f (by omega) e10) rfl rfl rfl rfl (Nat.le_of_ble_eq_true rfl) (Nat.le_of_ble_eq_true rfl) (Nat.le_of_ble_eq_true rfl) (Nat.le_of_ble_eq_true rfl) (Nat.le_of_ble_eq_true rfl) (fun r h1 hq => ?_)
      obtain ⟨rfl, rfl⟩ := hq
      refine rr_if_ne 69 d_Re_readTest_37 (by decide) (fun c9 => absurd (rfl) c9) (fun _ => ?_)
      refine rr_aload_n d_Re_readTest_40 rfl rfl ?_
      refine rr_bipush 11 d_Re_readTest_41 rfl ?_
      by_cases k11 : K (sp_sum K V 6 a p).2.1 = 11
      · have hcs : sp_cs (K (sp_sum K V 6 a p).2.1) = true := by rw [k11]; rfl
        simp only [if_pos hcs]
        have ej : fk (sp_sum K V 6 a p).2.1 = 11 := (i20 (k := 11) i1 (by decide)).mpr k11
        refine rr_callV d_Re_readTest_43 il_Re_50 m_Re_pass (s_Re_pass_t (by omega) ej) rfl rfl rfl rfl (Nat.le_of_ble_eq_true rfl) (Nat.le_of_ble_eq_true rfl) (Nat.le_of_ble_eq_true rfl) (Nat.le_of_ble_eq_true rfl) (Nat.le_of_ble_eq_true rfl) (fun r h1 hq => ?_)
        obtain ⟨rfl, rfl⟩ := hq
        refine rr_if_ne 69 d_Re_readTest_46 (by decide) (fun _ => ?_) (fun c9 => absurd c9 (by decide))
        exact rr_lvs _ rfl (go hcs)
      have e11 : ¬ fk (sp_sum K V 6 a p).2.1 = 11 := fun q => k11 ((i20 (k := 11) i1 (by decide)).mp q)
      refine rr_callV d_Re_readTest_43 il_Re_50 m_Re_pass (s_Re_pass_f (by omega) e11) rfl rfl rfl rfl (Nat.le_of_ble_eq_true rfl) (Nat.le_of_ble_eq_true rfl) (Nat.le_of_ble_eq_true rfl) (Nat.le_of_ble_eq_true rfl) (Nat.le_of_ble_eq_true rfl) (fun r h1 hq => ?_)
      obtain ⟨rfl, rfl⟩ := hq
      refine rr_if_ne 69 d_Re_readTest_46 (by decide) (fun c9 => absurd (rfl) c9) (fun _ => ?_)
      refine rr_aload_n d_Re_readTest_49 rfl rfl ?_
      refine rr_bipush 12 d_Re_readTest_50 rfl ?_
      by_cases k12 : K (sp_sum K V 6 a p).2.1 = 12
      · have hcs : sp_cs (K (sp_sum K V 6 a p).2.1) = true := by rw [k12]; rfl
        simp only [if_pos hcs]
        have ej : fk (sp_sum K V 6 a p).2.1 = 12 := (i20 (k := 12) i1 (by decide)).mpr k12
        refine rr_callV d_Re_readTest_52 il_Re_50 m_Re_pass (s_Re_pass_t (by omega) ej) rfl rfl rfl rfl (Nat.le_of_ble_eq_true rfl) (Nat.le_of_ble_eq_true rfl) (Nat.le_of_ble_eq_true rfl) (Nat.le_of_ble_eq_true rfl) (Nat.le_of_ble_eq_true rfl) (fun r h1 hq => ?_)
        obtain ⟨rfl, rfl⟩ := hq
        refine rr_if_ne 69 d_Re_readTest_55 (by decide) (fun _ => ?_) (fun c9 => absurd c9 (by decide))
        exact rr_lvs _ rfl (go hcs)
      have e12 : ¬ fk (sp_sum K V 6 a p).2.1 = 12 := fun q => k12 ((i20 (k := 12) i1 (by decide)).mp q)
      refine rr_callV d_Re_readTest_52 il_Re_50 m_Re_pass (s_Re_pass_f (by omega) e12) rfl rfl rfl rfl (Nat.le_of_ble_eq_true rfl) (Nat.le_of_ble_eq_true rfl) (Nat.le_of_ble_eq_true rfl) (Nat.le_of_ble_eq_true rfl) (Nat.le_of_ble_eq_true rfl) (fun r h1 hq => ?_)
      obtain ⟨rfl, rfl⟩ := hq
      refine rr_if_ne 69 d_Re_readTest_55 (by decide) (fun c9 => absurd (rfl) c9) (fun _ => ?_)
      refine rr_aload_n d_Re_readTest_58 rfl rfl ?_
      refine rr_bipush 13 d_Re_readTest_59 rfl ?_
      by_cases k13 : K (sp_sum K V 6 a p).2.1 = 13
      · have hcs : sp_cs (K (sp_sum K V 6 a p).2.1) = true := by rw [k13]; rfl
        simp only [if_pos hcs]
        have ej : fk (sp_sum K V 6 a p).2.1 = 13 := (i20 (k := 13) i1 (by decide)).mpr k13
        refine rr_callV d_Re_readTest_61 il_Re_50 m_Re_pass (s_Re_pass_t (by omega) ej) rfl rfl rfl rfl (Nat.le_of_ble_eq_true rfl) (Nat.le_of_ble_eq_true rfl) (Nat.le_of_ble_eq_true rfl) (Nat.le_of_ble_eq_true rfl) (Nat.le_of_ble_eq_true rfl) (fun r h1 hq => ?_)
        obtain ⟨rfl, rfl⟩ := hq
        refine rr_if_ne 69 d_Re_readTest_64 (by decide) (fun _ => ?_) (fun c9 => absurd c9 (by decide))
        exact rr_lvs _ rfl (go hcs)
      have e13 : ¬ fk (sp_sum K V 6 a p).2.1 = 13 := fun q => k13 ((i20 (k := 13) i1 (by decide)).mp q)
      refine rr_callV d_Re_readTest_61 il_Re_50 m_Re_pass (s_Re_pass_f (by omega) e13) rfl rfl rfl rfl (Nat.le_of_ble_eq_true rfl) (Nat.le_of_ble_eq_true rfl) (Nat.le_of_ble_eq_true rfl) (Nat.le_of_ble_eq_true rfl) (Nat.le_of_ble_eq_true rfl) (fun r h1 hq => ?_)
      obtain ⟨rfl, rfl⟩ := hq
      refine rr_if_ne 69 d_Re_readTest_64 (by decide) (fun c9 => absurd (rfl) c9) (fun _ => ?_)
      refine rr_iconst 0 d_Re_readTest_67 rfl ?_
      have hcs : ¬ sp_cs (K (sp_sum K V 6 a p).2.1) = true := by simp [sp_cs, k10, k11, k12, k13]
      simp only [if_neg hcs]
      exact rr_ireturn d_Re_readTest_68 rfl rfl (Nat.le_of_ble_eq_true rfl) (Nat.le_of_ble_eq_true rfl) (⟨_, _, _, rfl, rfl, hs2, fun h => by cases h⟩)
    · simp only [if_neg hx]
      rw [(Bool.not_eq_true _).mp hx]
      refine rr_if_ne 18 d_Re_readTest_13 (by decide) (fun c9 => absurd (rfl) c9) (fun _ => ?_)
      refine rr_iconst 0 d_Re_readTest_16 rfl ?_
      exact rr_ireturn d_Re_readTest_17 rfl rfl (Nat.le_of_ble_eq_true rfl) (Nat.le_of_ble_eq_true rfl) (⟨s2, ck2, cv2, rfl, rfl, hs2, fun h => by cases h⟩)

set_option maxRecDepth 100000 in
set_option maxHeartbeats 4000000 in
theorem s_Re_readTest {x0 x1 x2 x7 : va_E} {g : rr_H} {K : Nat → Nat} {V : Nat → Int32} {M : Nat} {sz rl : Int32} {fk fv : Nat → Int32} {a p s : Nat} {ck cv : Nat → Int32} (ht : tq K V M fk fv) (ha : a ≤ M) (hp : p ≤ 80) (hs : s ≤ 2 * p) : rr_Spec 24 y_Re_readTest c_Re_readTest 3 (some .boolean) 0 0 [.ref 3] (x0 :: x1 :: x2 :: .inr (2, [.ref 4, .ref 8, .int (nI a), .int (nI p)]) :: .inr (4, [.ref 5, .ref 6, .ref 7, .int sz]) :: .inl (0, 401, .inl fk) :: .inl (0, 401, .inl fv) :: x7 :: .inr (0, [.ref 9, .ref 10, .ref 11, .int (nI s), .int rl]) :: .inl (0, 160, .inl (ck)) :: .inl (0, 160, .inl (cv)) :: g) (re_Q M ((sp_test K V 80 a p []).1, (sp_test K V 80 a p []).2.1, (sp_test K V 80 a p []).2.2.1, (sp_test K V 80 a p []).2.2.2.flatMap fl_c) s ck cv (fun a p s ck cv => x0 :: x1 :: x2 :: .inr (2, [.ref 4, .ref 8, .int (nI a), .int (nI p)]) :: .inr (4, [.ref 5, .ref 6, .ref 7, .int sz]) :: .inl (0, 401, .inl fk) :: .inl (0, 401, .inl fv) :: x7 :: .inr (0, [.ref 9, .ref 10, .ref 11, .int (nI s), .int rl]) :: .inl (0, 160, .inl (ck)) :: .inl (0, 160, .inl (cv)) :: g)) := by
  refine rr_met (own := R_Re) (kd := (false, none)) (by decide +kernel) rfl (fun h => by cases h) rfl (Nat.le_of_ble_eq_true rfl) ?_
  refine rr_iconst 0 d_Re_readTest_0 rfl ?_
  refine rr_istore_n d_Re_readTest_1 rfl (by decide) ?_
  exact rr_lvs _ rfl (l_Re_readTest ht hs 80 a p [] (Nat.le_refl _) ha hp (Nat.le_refl _) (Nat.zero_le _))

set_option maxRecDepth 100000 in
set_option maxHeartbeats 4000000 in
theorem s_Re_readEffect {x0 x1 x2 x7 : va_E} {g : rr_H} {K : Nat → Nat} {V : Nat → Int32} {M : Nat} {sz rl : Int32} {fk fv : Nat → Int32} {a p s : Nat} {ck cv : Nat → Int32} (ht : tq K V M fk fv) (ha : a ≤ M) (hp : p ≤ 80) (hs : s ≤ 2 * p) : rr_Spec 24 y_Re_readEffect c_Re_readEffect 2 (some .boolean) 0 0 [.ref 3] (x0 :: x1 :: x2 :: .inr (2, [.ref 4, .ref 8, .int (nI a), .int (nI p)]) :: .inr (4, [.ref 5, .ref 6, .ref 7, .int sz]) :: .inl (0, 401, .inl fk) :: .inl (0, 401, .inl fv) :: x7 :: .inr (0, [.ref 9, .ref 10, .ref 11, .int (nI s), .int rl]) :: .inl (0, 160, .inl (ck)) :: .inl (0, 160, .inl (cv)) :: g) (re_Q M ((sp_eff K V a p).1, (sp_eff K V a p).2.1, (sp_eff K V a p).2.2.1, fl_f (sp_eff K V a p).2.2.2) s ck cv (fun a p s ck cv => x0 :: x1 :: x2 :: .inr (2, [.ref 4, .ref 8, .int (nI a), .int (nI p)]) :: .inr (4, [.ref 5, .ref 6, .ref 7, .int sz]) :: .inl (0, 401, .inl fk) :: .inl (0, 401, .inl fv) :: x7 :: .inr (0, [.ref 9, .ref 10, .ref 11, .int (nI s), .int rl]) :: .inl (0, 160, .inl (ck)) :: .inl (0, 160, .inl (cv)) :: g)) := by
  have hM := ht.2.1
  have i20 : ∀ {j k : Nat}, j ≤ M → k ≤ 20 → (fk j = nI k ↔ K j = k) := fun hj hk => tq_k ht hj hk
  unfold sp_eff
  refine rr_met (own := R_Re) (kd := (false, none)) (by decide +kernel) rfl (fun h => by cases h) rfl (Nat.le_of_ble_eq_true rfl) ?_
  refine rr_aload_n d_Re_readEffect_0 rfl rfl ?_
  refine rr_bipush 8 d_Re_readEffect_1 rfl ?_
  by_cases k8 : K a = 8
  · simp only [if_pos k8]
    have l8 := sp_lt ht.1 ha k8 (by decide)
    have e8 : fk a = 8 := (i20 (k := 8) ha (by decide)).mpr k8
    refine rr_callV d_Re_readEffect_3 il_Re_50 m_Re_pass (s_Re_pass_t (by omega) e8) rfl rfl rfl rfl (Nat.le_of_ble_eq_true rfl) (Nat.le_of_ble_eq_true rfl) (Nat.le_of_ble_eq_true rfl) (Nat.le_of_ble_eq_true rfl) (Nat.le_of_ble_eq_true rfl) (fun r h1 hq => ?_)
    obtain ⟨rfl, rfl⟩ := hq
    refine rr_if_eq 16 d_Re_readEffect_6 (by decide) (fun c9 => absurd c9 (by decide)) (fun _ => ?_)
    refine rr_aload_n d_Re_readEffect_9 rfl rfl ?_
    by_cases k9 : K (a + 1) = 9 ∧ V (a + 1) < 32
    · simp only [if_pos k9]
      have l9 := sp_lt ht.1 l8 k9.1 (by decide)
      have e9 : fk (a + 1) = 9 ∧ fv (a + 1) < 32 := ⟨(i20 (k := 9) l8 (by decide)).mpr k9.1, by rw [(ht.2.2.1 (a + 1) l8).2]; exact k9.2⟩
      refine rr_callV d_Re_readEffect_10 il_Re_73 m_Re_looksAtCellNumber (s_Re_looksAtCellNumber_t (by omega) e9) rfl rfl rfl rfl (Nat.le_of_ble_eq_true rfl) (Nat.le_of_ble_eq_true rfl) (Nat.le_of_ble_eq_true rfl) (Nat.le_of_ble_eq_true rfl) (Nat.le_of_ble_eq_true rfl) (fun r h1 hq => ?_)
      obtain ⟨rfl, rfl⟩ := hq
      refine rr_if_ne 18 d_Re_readEffect_13 (by decide) (fun _ => ?_) (fun c9 => absurd c9 (by decide))
      refine rr_aload_n d_Re_readEffect_18 rfl rfl ?_
      refine rr_getf d_Re_readEffect_19 fl_Re_12 rfl rfl ?_
      refine rr_getf d_Re_readEffect_22 fl_Re_76 rfl rfl ?_
      refine rr_aload_n d_Re_readEffect_25 rfl rfl ?_
      refine rr_getf d_Re_readEffect_26 fl_Re_32 rfl rfl ?_
      refine rr_iald d_Re_readEffect_29 rfl (vp_in_nI (n := a + 1) (by omega) (by decide)) ?_
      refine rr_istore_n d_Re_readEffect_30 rfl (by decide) ?_
      refine rr_aload_n d_Re_readEffect_31 rfl rfl ?_
      refine rr_dup d_Re_readEffect_32 rfl ?_
      refine rr_getf d_Re_readEffect_33 fl_Re_32 rfl rfl ?_
      refine rr_iconst 1 d_Re_readEffect_36 rfl ?_
      refine rr_iadd d_Re_readEffect_37 ?_
      refine rr_putf d_Re_readEffect_38 fl_Re_32 rfl rfl rfl rfl ?_
      refine rr_aload_n d_Re_readEffect_41 rfl rfl ?_
      refine rr_bipush 17 d_Re_readEffect_42 rfl ?_
      rw [nI_clamp (by omega), (ht.2.2.1 (a + 1) l8).2, nI_1]
      by_cases k17 : K (a + 2) = 17
      · simp only [if_pos k17]
        have l17 := sp_lt ht.1 l9 k17 (by decide)
        have e17 : fk (a + 1 + 1) = 17 := (i20 (k := 17) l9 (by decide)).mpr k17
        obtain ⟨i1, i2⟩ := sp_snd_s (V := V) ht.1 6 (a + 3) p l17 hp
        refine rr_callV d_Re_readEffect_44 il_Re_50 m_Re_pass (s_Re_pass_t (by omega) e17) rfl rfl rfl rfl (Nat.le_of_ble_eq_true rfl) (Nat.le_of_ble_eq_true rfl) (Nat.le_of_ble_eq_true rfl) (Nat.le_of_ble_eq_true rfl) (Nat.le_of_ble_eq_true rfl) (fun r h1 hq => ?_)
        obtain ⟨rfl, rfl⟩ := hq
        refine rr_if_eq 58 d_Re_readEffect_47 (by decide) (fun c9 => absurd c9 (by decide)) (fun _ => ?_)
        refine rr_aload_n d_Re_readEffect_50 rfl rfl ?_
        refine rr_iconst 0 d_Re_readEffect_51 rfl ?_
        refine rr_callV d_Re_readEffect_52 il_Re_63 m_Re_readSum (s_sum_all ht 6 0 rfl (a + 3) p s ck cv l17 hp hs) rfl rfl rfl rfl (Nat.le_of_ble_eq_true rfl) (Nat.le_of_ble_eq_true rfl) (Nat.le_of_ble_eq_true rfl) (Nat.le_of_ble_eq_true rfl) (Nat.le_of_ble_eq_true rfl) (fun r h1 hq => ?_)
        obtain ⟨s2, ck2, cv2, rfl, rfl, hs2, hok⟩ := hq
        by_cases hy : (sp_sum K V 6 (a + 3) p).1 = true
        · rw [hy]
          obtain ⟨rfl, rfl, rfl⟩ := hok hy
          obtain ⟨z1, z2, z3⟩ := i2 hy
          refine rr_if_ne 60 d_Re_readEffect_55 (by decide) (fun _ => ?_) (fun c9 => absurd c9 (by decide))
          refine rr_aload_n d_Re_readEffect_60 rfl rfl ?_
          refine rr_getf d_Re_readEffect_61 fl_Re_21 rfl rfl ?_
          refine rr_bipush 17 d_Re_readEffect_64 rfl ?_
          refine rr_iload_n d_Re_readEffect_66 rfl rfl ?_
          refine rr_callV d_Re_readEffect_67 il_Re_69 m_Co_add (s_Co_add (by omega)) rfl rfl rfl rfl (Nat.le_of_ble_eq_true rfl) (Nat.le_of_ble_eq_true rfl) (Nat.le_of_ble_eq_true rfl) (Nat.le_of_ble_eq_true rfl) (Nat.le_of_ble_eq_true rfl) (fun r h1 hq => ?_)
          obtain ⟨rfl, rfl⟩ := hq
          refine rr_iconst 1 d_Re_readEffect_70 rfl ?_
          exact rr_ireturn d_Re_readEffect_71 rfl rfl (Nat.le_of_ble_eq_true rfl) (Nat.le_of_ble_eq_true rfl) (⟨_, _, _, rfl, rfl, by omega, fun _ => ⟨by show _ = s + (_ ++ [_]).length; rw [List.length_append]; rfl, by show _ = co_k ck s (_ ++ [_]); rw [co_k_app]; rfl, by show _ = co_v cv s (_ ++ [_]); rw [co_v_app]; rfl⟩⟩)
        · rw [(Bool.not_eq_true _).mp hy]
          refine rr_if_ne 60 d_Re_readEffect_55 (by decide) (fun c9 => absurd (rfl) c9) (fun _ => ?_)
          refine rr_iconst 0 d_Re_readEffect_58 rfl ?_
          exact rr_ireturn d_Re_readEffect_59 rfl rfl (Nat.le_of_ble_eq_true rfl) (Nat.le_of_ble_eq_true rfl) (⟨s2, ck2, cv2, rfl, rfl, hs2, fun h => by cases h⟩)
      · simp only [if_neg k17]
        have e17 : ¬ fk (a + 1 + 1) = 17 := fun q => k17 ((i20 (k := 17) l9 (by decide)).mp q)
        refine rr_callV d_Re_readEffect_44 il_Re_50 m_Re_pass (s_Re_pass_f (by omega) e17) rfl rfl rfl rfl (Nat.le_of_ble_eq_true rfl) (Nat.le_of_ble_eq_true rfl) (Nat.le_of_ble_eq_true rfl) (Nat.le_of_ble_eq_true rfl) (Nat.le_of_ble_eq_true rfl) (fun r h1 hq => ?_)
        obtain ⟨rfl, rfl⟩ := hq
        refine rr_if_eq 58 d_Re_readEffect_47 (by decide) (fun _ => ?_) (fun c9 => absurd (rfl) c9)
        refine rr_iconst 0 d_Re_readEffect_58 rfl ?_
        exact rr_ireturn d_Re_readEffect_59 rfl rfl (Nat.le_of_ble_eq_true rfl) (Nat.le_of_ble_eq_true rfl) (⟨s, ck, cv, rfl, rfl, by omega, fun h => by cases h⟩)
    · simp only [if_neg k9]
      have e9 : ¬ (fk (a + 1) = 9 ∧ fv (a + 1) < 32) := fun q => k9 ⟨(i20 (k := 9) l8 (by decide)).mp q.1, by rw [← (ht.2.2.1 (a + 1) l8).2]; exact q.2⟩
      refine rr_callV d_Re_readEffect_10 il_Re_73 m_Re_looksAtCellNumber (s_Re_looksAtCellNumber_f (by omega) e9) rfl rfl rfl rfl (Nat.le_of_ble_eq_true rfl) (Nat.le_of_ble_eq_true rfl) (Nat.le_of_ble_eq_true rfl) (Nat.le_of_ble_eq_true rfl) (Nat.le_of_ble_eq_true rfl) (fun r h1 hq => ?_)
      obtain ⟨rfl, rfl⟩ := hq
      refine rr_if_ne 18 d_Re_readEffect_13 (by decide) (fun c9 => absurd (rfl) c9) (fun _ => ?_)
      refine rr_iconst 0 d_Re_readEffect_16 rfl ?_
      exact rr_ireturn d_Re_readEffect_17 rfl rfl (Nat.le_of_ble_eq_true rfl) (Nat.le_of_ble_eq_true rfl) (⟨s, ck, cv, rfl, rfl, by omega, fun h => by cases h⟩)
  · simp only [if_neg k8]
    have e8 : ¬ fk a = 8 := fun q => k8 ((i20 (k := 8) ha (by decide)).mp q)
    refine rr_callV d_Re_readEffect_3 il_Re_50 m_Re_pass (s_Re_pass_f (by omega) e8) rfl rfl rfl rfl (Nat.le_of_ble_eq_true rfl) (Nat.le_of_ble_eq_true rfl) (Nat.le_of_ble_eq_true rfl) (Nat.le_of_ble_eq_true rfl) (Nat.le_of_ble_eq_true rfl) (fun r h1 hq => ?_)
    obtain ⟨rfl, rfl⟩ := hq
    refine rr_if_eq 16 d_Re_readEffect_6 (by decide) (fun _ => ?_) (fun c9 => absurd (rfl) c9)
    refine rr_iconst 0 d_Re_readEffect_16 rfl ?_
    exact rr_ireturn d_Re_readEffect_17 rfl rfl (Nat.le_of_ble_eq_true rfl) (Nat.le_of_ble_eq_true rfl) (⟨s, ck, cv, rfl, rfl, by omega, fun h => by cases h⟩)

set_option maxRecDepth 100000 in
set_option maxHeartbeats 4000000 in
theorem l_Re_readRule {x0 x1 x2 x7 : va_E} {g : rr_H} {K : Nat → Nat} {V : Nat → Int32} {M : Nat} {sz rl : Int32} {fk fv : Nat → Int32} {p0 s : Nat} {ck cv : Nat → Int32} (ht : tq K V M fk fv) (hs : s ≤ 2 * p0) (L0 : sp_I) : ∀ (n a p : Nat) (es : List sp_F) (Lx : sp_I), Lx = L0 ++ es.flatMap fl_f → n ≤ 8 → a ≤ M → p ≤ 80 → p0 ≤ p → L0.length + (es.flatMap fl_f).length ≤ 2 * (p - p0) → rr_A R_Re c_Re_readRule 2 (some .boolean) (false, none) { frames := 25, cells := 0, slots := 0, locals := 25 * 64 } (re_Q M ((sp_effs K V n a p es).1, (sp_effs K V n a p es).2.1, (sp_effs K V n a p es).2.2.1, L0 ++ (sp_effs K V n a p es).2.2.2.flatMap fl_f) s ck cv (fun a p s ck cv => x0 :: x1 :: x2 :: .inr (2, [.ref 4, .ref 8, .int (nI a), .int (nI p)]) :: .inr (4, [.ref 5, .ref 6, .ref 7, .int sz]) :: .inl (0, 401, .inl fk) :: .inl (0, 401, .inl fv) :: x7 :: .inr (0, [.ref 9, .ref 10, .ref 11, .int (nI s), .int rl]) :: .inl (0, 160, .inl (ck)) :: .inl (0, 160, .inl (cv)) :: g)) 0 0 19 [(1, .int (nI (8 - n))), (0, .ref 3)] [] (x0 :: x1 :: x2 :: .inr (2, [.ref 4, .ref 8, .int (nI a), .int (nI p)]) :: .inr (4, [.ref 5, .ref 6, .ref 7, .int sz]) :: .inl (0, 401, .inl fk) :: .inl (0, 401, .inl fv) :: x7 :: .inr (0, [.ref 9, .ref 10, .ref 11, .int (nI (s + Lx.length)), .int rl]) :: .inl (0, 160, .inl (co_k ck s Lx)) :: .inl (0, 160, .inl (co_v cv s Lx)) :: g) := by
  have hM := ht.2.1
  have i20 : ∀ {j k : Nat}, j ≤ M → k ≤ 20 → (fk j = nI k ↔ K j = k) := fun hj hk => tq_k ht hj hk
  intro n
  induction n with
  | zero =>
    intro a p es Lx hLx hn ha hp hp0 hL
    subst hLx
    have hLL : (L0 ++ es.flatMap fl_f).length ≤ 2 * (p - p0) := by rw [List.length_append]; exact hL
    refine rr_iload_n d_Re_readRule_19 rfl rfl ?_
    refine rr_bipush 8 d_Re_readRule_20 rfl ?_
    refine rr_icmp_ge 51 d_Re_readRule_22 (by decide) (fun _ => ?_) (fun c9 => absurd (by decide) c9)
    refine rr_iconst 0 d_Re_readRule_51 rfl ?_
    exact rr_ireturn d_Re_readRule_52 rfl rfl (Nat.le_of_ble_eq_true rfl) (Nat.le_of_ble_eq_true rfl) (⟨_, _, _, rfl, rfl, by omega, fun h => by cases h⟩)
  | succ n ih =>
    intro a p es Lx hLx hn ha hp hp0 hL
    subst hLx
    have hLL : (L0 ++ es.flatMap fl_f).length ≤ 2 * (p - p0) := by rw [List.length_append]; exact hL
    obtain ⟨i1, i2⟩ := sp_snd_eff (V := V) ht.1 ha hp
    refine rr_iload_n d_Re_readRule_19 rfl rfl ?_
    refine rr_bipush 8 d_Re_readRule_20 rfl ?_
    refine rr_icmp_ge 51 d_Re_readRule_22 (by decide) (fun c9 => absurd c9 (nI_ge (a := 8 - (n + 1)) (b := 8) (by omega) (by decide))) (fun _ => ?_)
    refine rr_aload_n d_Re_readRule_25 rfl rfl ?_
    refine rr_callV d_Re_readRule_26 il_Re_60 m_Re_readEffect (s_Re_readEffect (a := a) (p := p) (s := s + (L0 ++ es.flatMap fl_f).length) (ck := co_k ck s (L0 ++ es.flatMap fl_f)) (cv := co_v cv s (L0 ++ es.flatMap fl_f)) ht ha hp (by omega)) rfl rfl rfl rfl (Nat.le_of_ble_eq_true rfl) (Nat.le_of_ble_eq_true rfl) (Nat.le_of_ble_eq_true rfl) (Nat.le_of_ble_eq_true rfl) (Nat.le_of_ble_eq_true rfl) (fun r h1 hq => ?_)
    obtain ⟨s2, ck2, cv2, rfl, rfl, hs2, hok⟩ := hq
    unfold sp_effs
    by_cases hx : (sp_eff K V a p).1 = true
    · simp only [if_pos hx]
      rw [hx]
      obtain ⟨rfl, rfl, rfl⟩ := hok hx
      obtain ⟨j1, j2, j3⟩ := i2 hx
      dsimp only
      rw [show s + (L0 ++ es.flatMap fl_f).length + (fl_f (sp_eff K V a p).2.2.2).length = s + (L0 ++ (es ++ [(sp_eff K V a p).2.2.2]).flatMap fl_f).length by simp only [← fl_f_app, List.length_append]; omega]
      rw [← co_k_app, ← co_v_app, List.append_assoc, fl_f_app]
      have hLn : L0.length + ((es ++ [(sp_eff K V a p).2.2.2]).flatMap fl_f).length ≤ 2 * ((sp_eff K V a p).2.2.1 - p0) := by
        rw [← fl_f_app, List.length_append]
        omega
      have hLm : (L0 ++ (es ++ [(sp_eff K V a p).2.2.2]).flatMap fl_f).length ≤ 2 * ((sp_eff K V a p).2.2.1 - p0) := by rw [List.length_append]; exact hLn
      refine rr_if_ne 34 d_Re_readRule_29 (by decide) (fun _ => ?_) (fun c9 => absurd c9 (by decide))
      refine rr_aload_n d_Re_readRule_34 rfl rfl ?_
      refine rr_bipush 18 d_Re_readRule_35 rfl ?_
      by_cases k18 : K (sp_eff K V a p).2.1 = 18
      · simp only [if_pos k18]
        have l18 := sp_lt ht.1 i1 k18 (by decide)
        have e18 : fk (sp_eff K V a p).2.1 = 18 := (i20 (k := 18) i1 (by decide)).mpr k18
        refine rr_callV d_Re_readRule_37 il_Re_50 m_Re_pass (s_Re_pass_t (by omega) e18) rfl rfl rfl rfl (Nat.le_of_ble_eq_true rfl) (Nat.le_of_ble_eq_true rfl) (Nat.le_of_ble_eq_true rfl) (Nat.le_of_ble_eq_true rfl) (Nat.le_of_ble_eq_true rfl) (fun r h1 hq => ?_)
        obtain ⟨rfl, rfl⟩ := hq
        refine rr_if_ne 45 d_Re_readRule_40 (by decide) (fun _ => ?_) (fun c9 => absurd c9 (by decide))
        refine rr_iinc 1 d_Re_readRule_45 rfl rfl (by decide) ?_
        refine rr_goto 19 d_Re_readRule_48 (by decide) ?_
        rw [nI_1, show 8 - (n + 1) + 1 = 8 - n by omega]
        exact rr_lvs _ rfl (ih ((sp_eff K V a p).2.1 + 1) (sp_eff K V a p).2.2.1 (es ++ [(sp_eff K V a p).2.2.2]) _ rfl (by omega) l18 j2 (by omega) hLn)
      · simp only [if_neg k18]
        have e18 : ¬ fk (sp_eff K V a p).2.1 = 18 := fun q => k18 ((i20 (k := 18) i1 (by decide)).mp q)
        refine rr_callV d_Re_readRule_37 il_Re_50 m_Re_pass (s_Re_pass_f (by omega) e18) rfl rfl rfl rfl (Nat.le_of_ble_eq_true rfl) (Nat.le_of_ble_eq_true rfl) (Nat.le_of_ble_eq_true rfl) (Nat.le_of_ble_eq_true rfl) (Nat.le_of_ble_eq_true rfl) (fun r h1 hq => ?_)
        obtain ⟨rfl, rfl⟩ := hq
        refine rr_if_ne 45 d_Re_readRule_40 (by decide) (fun c9 => absurd (rfl) c9) (fun _ => ?_)
        refine rr_iconst 1 d_Re_readRule_43 rfl ?_
        exact rr_ireturn d_Re_readRule_44 rfl rfl (Nat.le_of_ble_eq_true rfl) (Nat.le_of_ble_eq_true rfl) (⟨_, _, _, rfl, rfl, by omega, fun _ => ⟨rfl, rfl, rfl⟩⟩)
    · simp only [if_neg hx]
      rw [(Bool.not_eq_true _).mp hx]
      refine rr_if_ne 34 d_Re_readRule_29 (by decide) (fun c9 => absurd (rfl) c9) (fun _ => ?_)
      refine rr_iconst 0 d_Re_readRule_32 rfl ?_
      exact rr_ireturn d_Re_readRule_33 rfl rfl (Nat.le_of_ble_eq_true rfl) (Nat.le_of_ble_eq_true rfl) (⟨s2, ck2, cv2, rfl, rfl, hs2, fun h => by cases h⟩)

set_option maxRecDepth 100000 in
set_option maxHeartbeats 4000000 in
theorem s_Re_readRule {x0 x1 x2 x7 : va_E} {g : rr_H} {K : Nat → Nat} {V : Nat → Int32} {M : Nat} {sz rl : Int32} {fk fv : Nat → Int32} {a p s : Nat} {ck cv : Nat → Int32} (ht : tq K V M fk fv) (ha : a ≤ M) (hp : p ≤ 80) (hs : s ≤ 2 * p) : rr_Spec 25 y_Re_readRule c_Re_readRule 2 (some .boolean) 0 0 [.ref 3] (x0 :: x1 :: x2 :: .inr (2, [.ref 4, .ref 8, .int (nI a), .int (nI p)]) :: .inr (4, [.ref 5, .ref 6, .ref 7, .int sz]) :: .inl (0, 401, .inl fk) :: .inl (0, 401, .inl fv) :: x7 :: .inr (0, [.ref 9, .ref 10, .ref 11, .int (nI s), .int rl]) :: .inl (0, 160, .inl (ck)) :: .inl (0, 160, .inl (cv)) :: g) (re_Q M ((sp_rule K V a p).1, (sp_rule K V a p).2.1, (sp_rule K V a p).2.2.1, fl_u (sp_rule K V a p).2.2.2) s ck cv (fun a p s ck cv => x0 :: x1 :: x2 :: .inr (2, [.ref 4, .ref 8, .int (nI a), .int (nI p)]) :: .inr (4, [.ref 5, .ref 6, .ref 7, .int sz]) :: .inl (0, 401, .inl fk) :: .inl (0, 401, .inl fv) :: x7 :: .inr (0, [.ref 9, .ref 10, .ref 11, .int (nI s), .int rl]) :: .inl (0, 160, .inl (ck)) :: .inl (0, 160, .inl (cv)) :: g)) := by
  have hM := ht.2.1
  have i20 : ∀ {j k : Nat}, j ≤ M → k ≤ 20 → (fk j = nI k ↔ K j = k) := fun hj hk => tq_k ht hj hk
  unfold sp_rule
  refine rr_met (own := R_Re) (kd := (false, none)) (by decide +kernel) rfl (fun h => by cases h) rfl (Nat.le_of_ble_eq_true rfl) ?_
  refine rr_aload_n d_Re_readRule_0 rfl rfl ?_
  refine rr_iconst 2 d_Re_readRule_1 rfl ?_
  by_cases k2 : K a = 2
  · simp only [if_pos k2]
    have l2 := sp_lt ht.1 ha k2 (by decide)
    have e2 : fk a = 2 := (i20 (k := 2) ha (by decide)).mpr k2
    obtain ⟨i1, i2⟩ := sp_snd_test (V := V) ht.1 p 80 (a + 1) p [] l2 hp (Nat.le_refl _) (Nat.zero_le _)
    refine rr_callV d_Re_readRule_2 il_Re_50 m_Re_pass (s_Re_pass_t (by omega) e2) rfl rfl rfl rfl (Nat.le_of_ble_eq_true rfl) (Nat.le_of_ble_eq_true rfl) (Nat.le_of_ble_eq_true rfl) (Nat.le_of_ble_eq_true rfl) (Nat.le_of_ble_eq_true rfl) (fun r h1 hq => ?_)
    obtain ⟨rfl, rfl⟩ := hq
    refine rr_if_eq 17 d_Re_readRule_5 (by decide) (fun c9 => absurd c9 (by decide)) (fun _ => ?_)
    refine rr_aload_n d_Re_readRule_8 rfl rfl ?_
    refine rr_callV d_Re_readRule_9 il_Re_57 m_Re_readTest (s_Re_readTest ht l2 hp hs) rfl rfl rfl rfl (Nat.le_of_ble_eq_true rfl) (Nat.le_of_ble_eq_true rfl) (Nat.le_of_ble_eq_true rfl) (Nat.le_of_ble_eq_true rfl) (Nat.le_of_ble_eq_true rfl) (fun r h1 hq => ?_)
    obtain ⟨s2, ck2, cv2, rfl, rfl, hs2, hok⟩ := hq
    by_cases hx : (sp_test K V 80 (a + 1) p []).1 = true
    · simp only [if_pos hx]
      rw [hx]
      obtain ⟨rfl, rfl, rfl⟩ := hok hx
      obtain ⟨j1, j2, j3⟩ := i2 hx
      refine rr_if_ne 17 d_Re_readRule_12 (by decide) (fun _ => ?_) (fun c9 => absurd c9 (by decide))
      refine rr_iconst 0 d_Re_readRule_17 rfl ?_
      refine rr_istore_n d_Re_readRule_18 rfl (by decide) ?_
      exact rr_lvs _ rfl (l_Re_readRule ht hs ((sp_test K V 80 (a + 1) p []).2.2.2.flatMap fl_c) 8 (sp_test K V 80 (a + 1) p []).2.1 (sp_test K V 80 (a + 1) p []).2.2.1 [] _ (by simp) (Nat.le_refl _) i1 j2 j1 (by simp only [List.flatMap_nil, List.length_nil]; omega))
    · simp only [if_neg hx]
      rw [(Bool.not_eq_true _).mp hx]
      refine rr_if_ne 17 d_Re_readRule_12 (by decide) (fun c9 => absurd (rfl) c9) (fun _ => ?_)
      refine rr_iconst 0 d_Re_readRule_15 rfl ?_
      exact rr_ireturn d_Re_readRule_16 rfl rfl (Nat.le_of_ble_eq_true rfl) (Nat.le_of_ble_eq_true rfl) (⟨s2, ck2, cv2, rfl, rfl, hs2, fun h => by cases h⟩)
  · simp only [if_neg k2]
    have e2 : ¬ fk a = 2 := fun q => k2 ((i20 (k := 2) ha (by decide)).mp q)
    refine rr_callV d_Re_readRule_2 il_Re_50 m_Re_pass (s_Re_pass_f (by omega) e2) rfl rfl rfl rfl (Nat.le_of_ble_eq_true rfl) (Nat.le_of_ble_eq_true rfl) (Nat.le_of_ble_eq_true rfl) (Nat.le_of_ble_eq_true rfl) (Nat.le_of_ble_eq_true rfl) (fun r h1 hq => ?_)
    obtain ⟨rfl, rfl⟩ := hq
    refine rr_if_eq 17 d_Re_readRule_5 (by decide) (fun _ => ?_) (fun c9 => absurd (rfl) c9)
    refine rr_iconst 0 d_Re_readRule_17 rfl ?_
    refine rr_istore_n d_Re_readRule_18 rfl (by decide) ?_
    exact rr_lvs _ rfl (l_Re_readRule ht hs [] 8 a p [] [] rfl (Nat.le_refl _) ha hp (Nat.le_refl _) (by simp))
end
section
/-! The reader: a whole program. -/
theorem sp_wr_ne : ∀ (l : List Int32) (f : Nat → Int32) (s j : Nat), j < s → sp_wr f s l j = f j
  | [], f, s, j, _ => rfl
  | x :: l, f, s, j, h => by
    show sp_wr (upd f s x) (s + 1) l j = f j
    rw [sp_wr_ne l _ _ _ (by omega), pk_un (by omega)]
theorem sp_wr_get : ∀ (l : List Int32) (f : Nat → Int32) (s i : Nat) (x : Int32), l[i]? = some x → sp_wr f s l (s + i) = x
  | [], f, s, i, x, h => by simp at h
  | y :: l, f, s, 0, x, h => by
    simp only [List.getElem?_cons_zero, Option.some.injEq] at h
    subst h
    show sp_wr (upd f s y) (s + 1) l s = y
    rw [sp_wr_ne l _ _ _ (by omega), pk_us]
  | y :: l, f, s, i + 1, x, h => by
    rw [List.getElem?_cons_succ] at h
    show sp_wr (upd f s y) (s + 1) l (s + (i + 1)) = x
    rw [show s + (i + 1) = s + 1 + i by omega]
    exact sp_wr_get l _ _ _ _ h
/-- a code's rows hold a program -/
def co_is (us : List sp_U) (ck cv re : Nat → Int32) : Prop := us.length ≤ 6 ∧ (us.flatMap fl_u).length ≤ 160 ∧ (∀ (i : Nat) (q : Nat × Int32), (us.flatMap fl_u)[i]? = some q → ck i = nI q.1 ∧ cv i = q.2) ∧ ∀ i, i < us.length → re i = nI ((us.take (i + 1)).flatMap fl_u).length
theorem co_is_of {us : List sp_U} {ck cv re : Nat → Int32} (h6 : us.length ≤ 6) (h160 : (us.flatMap fl_u).length ≤ 160) (h : ∀ i, i < us.length → re i = nI ((us.take (i + 1)).flatMap fl_u).length) : co_is us (co_k ck 0 (us.flatMap fl_u)) (co_v cv 0 (us.flatMap fl_u)) re := by
  refine ⟨h6, h160, fun i q hq => ?_, h⟩
  have h1 := sp_wr_get ((us.flatMap fl_u).map fun q => nI q.1) ck 0 i (nI q.1) (by rw [List.getElem?_map, hq]; rfl)
  have h2 := sp_wr_get ((us.flatMap fl_u).map fun q => q.2) cv 0 i q.2 (by rw [List.getElem?_map, hq]; rfl)
  rw [Nat.zero_add] at h1 h2
  exact ⟨h1, h2⟩
def sp_K (f : Nat → Int32) (n k : Nat) : Nat := (sp_T f n k).1
def sp_V (f : Nat → Int32) (n k : Nat) : Int32 := (sp_T f n k).2.1
def sp_pr (f : Nat → Int32) (n : Nat) : Bool × Nat × List sp_U := sp_prog (sp_K f n) (sp_V f n) 6 0 0 []
theorem sp_wk_le {f : Nat → Int32} {p e : Nat} : sp_wk f p e ≤ 20 := by
  unfold sp_wk
  repeat' split
  all_goals decide
theorem sp_sk_le {x : Int32} : sp_sk x ≤ 20 := by
  unfold sp_sk
  repeat' split
  all_goals decide
theorem sp_K_le {f : Nat → Int32} {n k : Nat} : sp_K f n k ≤ 20 := by
  unfold sp_K sp_T sp_next
  dsimp only
  split
  · show (sp_tok f n _).1 ≤ 20
    unfold sp_tok
    split
    · exact sp_wk_le
    · split
      · split
        · exact (by decide : (9 : Nat) ≤ 20)
        · exact (by decide : (1 : Nat) ≤ 20)
      · split
        · exact (by decide : (17 : Nat) ≤ 20)
        · exact sp_sk_le
  · exact Nat.zero_le _
theorem tq_of {f gk gv gp : Nat → Int32} {n M : Nat} (hM : M ≤ n) (hn : n ≤ 400) (h0 : (sp_T f n M).1 = 0) (h : tk_ok f n (M + 1) gk gv gp) : tq (sp_K f n) (sp_V f n) M gk gv := ⟨h0, by omega, fun k hk => ⟨(h k (by omega)).1, (h k (by omega)).2.1⟩, fun k => sp_K_le⟩

set_option maxRecDepth 100000 in
set_option maxHeartbeats 4000000 in
theorem s_Co_clear {x0 x1 x2 x3 x4 x5 x6 x7 : va_E} {g : rr_H} {s0 ru : Int32} : rr_Spec 0 y_Co_clear c_Co_clear 1 none 0 0 [.ref 8] (x0 :: x1 :: x2 :: x3 :: x4 :: x5 :: x6 :: x7 :: .inr (0, [.ref 9, .ref 10, .ref 11, .int s0, .int ru]) :: g) (fun r h1 => r = none ∧ h1 = x0 :: x1 :: x2 :: x3 :: x4 :: x5 :: x6 :: x7 :: .inr (0, [.ref 9, .ref 10, .ref 11, .int 0, .int 0]) :: g) := by
  refine rr_met (own := R_Co) (kd := (false, none)) (by decide +kernel) rfl (fun h => by cases h) rfl (Nat.le_of_ble_eq_true rfl) ?_
  refine rr_aload_n d_Co_clear_0 rfl rfl ?_
  refine rr_iconst 0 d_Co_clear_1 rfl ?_
  refine rr_putf d_Co_clear_2 fl_Co_21 rfl rfl rfl rfl ?_
  refine rr_aload_n d_Co_clear_5 rfl rfl ?_
  refine rr_iconst 0 d_Co_clear_6 rfl ?_
  refine rr_putf d_Co_clear_7 fl_Co_25 rfl rfl rfl rfl ?_
  exact rr_return d_Co_clear_10 rfl (Nat.le_of_ble_eq_true rfl) (Nat.le_of_ble_eq_true rfl) (⟨rfl, rfl⟩)

set_option maxRecDepth 100000 in
set_option maxHeartbeats 4000000 in
theorem s_Co_closeRule {x0 x1 x2 x3 x4 x5 x6 x7 x9 x10 : va_E} {g : rr_H} {s0 : Int32} {k : Nat} {re : Nat → Int32} (hk : k < 6) : rr_Spec 0 y_Co_closeRule c_Co_closeRule 1 none 0 0 [.ref 8] (x0 :: x1 :: x2 :: x3 :: x4 :: x5 :: x6 :: x7 :: .inr (0, [.ref 9, .ref 10, .ref 11, .int s0, .int (nI k)]) :: x9 :: x10 :: .inl (0, 6, .inl (re)) :: g) (fun r h1 => r = none ∧ h1 = x0 :: x1 :: x2 :: x3 :: x4 :: x5 :: x6 :: x7 :: .inr (0, [.ref 9, .ref 10, .ref 11, .int s0, .int (nI (k + 1))]) :: x9 :: x10 :: .inl (0, 6, .inl (upd re k s0)) :: g) := by
  refine rr_met (own := R_Co) (kd := (false, none)) (by decide +kernel) rfl (fun h => by cases h) rfl (Nat.le_of_ble_eq_true rfl) ?_
  refine rr_aload_n d_Co_closeRule_0 rfl rfl ?_
  refine rr_getf d_Co_closeRule_1 fl_Co_25 rfl rfl ?_
  refine rr_bipush 6 d_Co_closeRule_4 rfl ?_
  refine rr_icmp_ge 32 d_Co_closeRule_6 (by decide) (fun c9 => absurd c9 (nI_ge (a := k) (b := 6) hk (by decide))) (fun _ => ?_)
  refine rr_aload_n d_Co_closeRule_9 rfl rfl ?_
  refine rr_getf d_Co_closeRule_10 fl_Co_18 rfl rfl ?_
  refine rr_aload_n d_Co_closeRule_13 rfl rfl ?_
  refine rr_getf d_Co_closeRule_14 fl_Co_25 rfl rfl ?_
  refine rr_aload_n d_Co_closeRule_17 rfl rfl ?_
  refine rr_getf d_Co_closeRule_18 fl_Co_21 rfl rfl ?_
  refine rr_iast d_Co_closeRule_21 rfl (vp_in_nI hk (by decide)) ?_
  refine rr_aload_n d_Co_closeRule_22 rfl rfl ?_
  refine rr_dup d_Co_closeRule_23 rfl ?_
  refine rr_getf d_Co_closeRule_24 fl_Co_25 rfl rfl ?_
  refine rr_iconst 1 d_Co_closeRule_27 rfl ?_
  refine rr_iadd d_Co_closeRule_28 ?_
  refine rr_putf d_Co_closeRule_29 fl_Co_25 rfl rfl rfl rfl ?_
  rw [nI_1, nI_clamp (by omega)]
  exact rr_return d_Co_closeRule_32 rfl (Nat.le_of_ble_eq_true rfl) (Nat.le_of_ble_eq_true rfl) (⟨rfl, rfl⟩)

set_option maxRecDepth 100000 in
set_option maxHeartbeats 4000000 in
theorem s_Re_exchange {x0 x1 x2 : va_E} {g : rr_H} {a0 p0 : Int32} : rr_Spec 0 y_Re_exchange c_Re_exchange 3 (some (.object "RuleRunner$Code")) 0 0 [.ref 3, .ref 20] (x0 :: x1 :: x2 :: .inr (2, [.ref 4, .ref 8, .int a0, .int p0]) :: g) (fun r h1 => r = some (.ref 8) ∧ h1 = x0 :: x1 :: x2 :: .inr (2, [.ref 4, .ref 20, .int a0, .int p0]) :: g) := by
  refine rr_met (own := R_Re) (kd := (false, none)) (by decide +kernel) rfl (fun h => by cases h) rfl (Nat.le_of_ble_eq_true rfl) ?_
  refine rr_aload_n d_Re_exchange_0 rfl rfl ?_
  refine rr_getf d_Re_exchange_1 fl_Re_21 rfl rfl ?_
  refine rr_astore_n d_Re_exchange_4 rfl (by decide) ?_
  refine rr_aload_n d_Re_exchange_5 rfl rfl ?_
  refine rr_aload_n d_Re_exchange_6 rfl rfl ?_
  refine rr_putf d_Re_exchange_7 fl_Re_21 rfl rfl rfl rfl ?_
  refine rr_aload_n d_Re_exchange_10 rfl rfl ?_
  exact rr_areturn d_Re_exchange_11 rfl (Or.inl ⟨_, rfl⟩) (Nat.le_of_ble_eq_true rfl) (Nat.le_of_ble_eq_true rfl) (⟨rfl, rfl⟩)

set_option maxRecDepth 100000 in
set_option maxHeartbeats 4000000 in
theorem l_Re_read {x0 : va_E} {g : rr_H} {n M : Nat} {z2 : Int32} {f gk gv gp ck cv : Nat → Int32} (hn : n ≤ 400) (hM : M ≤ n) (h0 : (sp_T f n M).1 = 0) (htk : tk_ok f n (M + 1) gk gv gp) : ∀ (m a p : Nat) (us : List sp_U) (re : Nat → Int32), us.length + m = 6 → a ≤ M → p ≤ 80 → (us.flatMap fl_u).length ≤ 2 * p → (∀ i, i < us.length → re i = nI ((us.take (i + 1)).flatMap fl_u).length) → rr_A R_Re c_Re_read 3 (some .int) (false, none) { frames := 26, cells := 0, slots := 0, locals := 26 * 64 } (fun r h1 => ∃ (a2 p2 z2 s2 u2 : Int32) (gk gv gp ck2 cv2 re2 : Nat → Int32), h1 = x0 :: .inr (3, [.ref 2, .int (nI n)]) :: .inl (1, 400, .inl f) :: .inr (2, [.ref 4, .ref 8, .int a2, .int p2]) :: .inr (4, [.ref 5, .ref 6, .ref 7, .int z2]) :: .inl (0, 401, .inl (gk)) :: .inl (0, 401, .inl (gv)) :: .inl (0, 401, .inl (gp)) :: .inr (0, [.ref 9, .ref 10, .ref 11, .int s2, .int u2]) :: .inl (0, 160, .inl (ck2)) :: .inl (0, 160, .inl (cv2)) :: .inl (0, 6, .inl (re2)) :: g ∧ (if (sp_prog (sp_K f n) (sp_V f n) m a p us).1 = true then r = some (.int (-2)) ∧ u2 = nI (sp_prog (sp_K f n) (sp_V f n) m a p us).2.2.length ∧ co_is (sp_prog (sp_K f n) (sp_V f n) m a p us).2.2 ck2 cv2 re2 else r = some (.int (nI (sp_T f n (sp_prog (sp_K f n) (sp_V f n) m a p us).2.1).2.2.1)))) 0 0 27 [(2, .int (nI (6 - m))), (0, .ref 3), (1, .ref 1)] [] (x0 :: .inr (3, [.ref 2, .int (nI n)]) :: .inl (1, 400, .inl f) :: .inr (2, [.ref 4, .ref 8, .int (nI a), .int (nI p)]) :: .inr (4, [.ref 5, .ref 6, .ref 7, .int z2]) :: .inl (0, 401, .inl (gk)) :: .inl (0, 401, .inl (gv)) :: .inl (0, 401, .inl (gp)) :: .inr (0, [.ref 9, .ref 10, .ref 11, .int (nI (us.flatMap fl_u).length), .int (nI us.length)]) :: .inl (0, 160, .inl (co_k ck 0 (us.flatMap fl_u))) :: .inl (0, 160, .inl (co_v cv 0 (us.flatMap fl_u))) :: .inl (0, 6, .inl (re)) :: g) := by
  have ht := tq_of hM hn h0 htk
  have i20 : ∀ {j k : Nat}, j ≤ M → k ≤ 20 → (gk j = nI k ↔ sp_K f n j = k) := fun hj hk => tq_k ht hj hk
  have fin : ∀ (P : Bool × Nat × List sp_U) (a2 : Nat) (p2 s2 u2 : Int32) (c2 : Int32) (ck2 cv2 re2 : Nat → Int32), a2 ≤ M → P.1 = false → P.2.1 = a2 → rr_A R_Re c_Re_read 3 (some .int) (false, none) { frames := 26, cells := 0, slots := 0, locals := 26 * 64 } (fun r h1 => ∃ (a2 p2 z2 s2 u2 : Int32) (gk gv gp ck2 cv2 re2 : Nat → Int32), h1 = x0 :: .inr (3, [.ref 2, .int (nI n)]) :: .inl (1, 400, .inl f) :: .inr (2, [.ref 4, .ref 8, .int a2, .int p2]) :: .inr (4, [.ref 5, .ref 6, .ref 7, .int z2]) :: .inl (0, 401, .inl (gk)) :: .inl (0, 401, .inl (gv)) :: .inl (0, 401, .inl (gp)) :: .inr (0, [.ref 9, .ref 10, .ref 11, .int s2, .int u2]) :: .inl (0, 160, .inl (ck2)) :: .inl (0, 160, .inl (cv2)) :: .inl (0, 6, .inl (re2)) :: g ∧ (if (P).1 = true then r = some (.int (-2)) ∧ u2 = nI (P).2.2.length ∧ co_is (P).2.2 ck2 cv2 re2 else r = some (.int (nI (sp_T f n (P).2.1).2.2.1)))) 0 0 78 [(2, .int c2), (0, .ref 3), (1, .ref 1)] [] (x0 :: .inr (3, [.ref 2, .int (nI n)]) :: .inl (1, 400, .inl f) :: .inr (2, [.ref 4, .ref 8, .int (nI a2), .int p2]) :: .inr (4, [.ref 5, .ref 6, .ref 7, .int z2]) :: .inl (0, 401, .inl (gk)) :: .inl (0, 401, .inl (gv)) :: .inl (0, 401, .inl (gp)) :: .inr (0, [.ref 9, .ref 10, .ref 11, .int s2, .int u2]) :: .inl (0, 160, .inl (ck2)) :: .inl (0, 160, .inl (cv2)) :: .inl (0, 6, .inl (re2)) :: g) := by
    intro P a2 p2 s2 u2 c2 ck2 cv2 re2 ha2 hP1 hP2
    refine rr_aload_n d_Re_read_78 rfl rfl ?_
    refine rr_getf d_Re_read_79 fl_Re_12 rfl rfl ?_
    refine rr_getf d_Re_read_82 fl_Re_53 rfl rfl ?_
    refine rr_aload_n d_Re_read_85 rfl rfl ?_
    refine rr_getf d_Re_read_86 fl_Re_32 rfl rfl ?_
    refine rr_iald d_Re_read_89 rfl (vp_in_nI (n := a2) (by omega) (by decide)) ?_
    rw [nI_clamp (by omega), (htk a2 (by omega)).2.2]
    exact rr_ireturn d_Re_read_90 rfl rfl (Nat.le_of_ble_eq_true rfl) (Nat.le_of_ble_eq_true rfl) (⟨_, _, _, _, _, _, _, _, _, _, _, rfl, by rw [if_neg (by rw [hP1]; decide), hP2]⟩)
  intro m
  induction m with
  | zero =>
    intro a p us re hm ha hp hL hre
    refine rr_iload_n d_Re_read_27 rfl rfl ?_
    refine rr_bipush 6 d_Re_read_28 rfl ?_
    refine rr_icmp_ge 78 d_Re_read_30 (by decide) (fun _ => ?_) (fun c9 => absurd (by decide) c9)
    exact fin (false, a, us) a _ _ _ _ _ _ _ ha rfl rfl
  | succ m ih =>
    intro a p us re hm ha hp hL hre
    obtain ⟨i1, i2⟩ := sp_snd_rule (V := sp_V f n) ht.1 ha hp
    refine rr_iload_n d_Re_read_27 rfl rfl ?_
    refine rr_bipush 6 d_Re_read_28 rfl ?_
    refine rr_icmp_ge 78 d_Re_read_30 (by decide) (fun c9 => absurd c9 (nI_ge (a := 6 - (m + 1)) (b := 6) (by omega) (by decide))) (fun _ => ?_)
    refine rr_aload_n d_Re_read_33 rfl rfl ?_
    refine rr_callV d_Re_read_34 il_Re_39 m_Re_readRule (s_Re_readRule (s := (us.flatMap fl_u).length) ht ha hp hL) rfl rfl rfl rfl (Nat.le_of_ble_eq_true rfl) (Nat.le_of_ble_eq_true rfl) (Nat.le_of_ble_eq_true rfl) (Nat.le_of_ble_eq_true rfl) (Nat.le_of_ble_eq_true rfl) (fun r h1 hq => ?_)
    obtain ⟨s2, ck2, cv2, rfl, rfl, hs2, hok⟩ := hq
    unfold sp_prog
    by_cases hx : (sp_rule (sp_K f n) (sp_V f n) a p).1 = true
    · simp only [if_pos hx]
      rw [hx]
      obtain ⟨rfl, rfl, rfl⟩ := hok hx
      obtain ⟨j1, j2, j3⟩ := i2 hx
      dsimp only
      have eL : us.flatMap fl_u ++ fl_u (sp_rule (sp_K f n) (sp_V f n) a p).2.2.2 = (us ++ [(sp_rule (sp_K f n) (sp_V f n) a p).2.2.2]).flatMap fl_u := by rw [List.flatMap_append]; simp
      have eN : (us.flatMap fl_u).length + (fl_u (sp_rule (sp_K f n) (sp_V f n) a p).2.2.2).length = ((us ++ [(sp_rule (sp_K f n) (sp_V f n) a p).2.2.2]).flatMap fl_u).length := by rw [← eL, List.length_append]
      have eK : co_k (co_k ck 0 (us.flatMap fl_u)) (us.flatMap fl_u).length (fl_u (sp_rule (sp_K f n) (sp_V f n) a p).2.2.2) = co_k ck 0 ((us ++ [(sp_rule (sp_K f n) (sp_V f n) a p).2.2.2]).flatMap fl_u) := by rw [← eL, co_k_app, Nat.zero_add]
      have eV : co_v (co_v cv 0 (us.flatMap fl_u)) (us.flatMap fl_u).length (fl_u (sp_rule (sp_K f n) (sp_V f n) a p).2.2.2) = co_v cv 0 ((us ++ [(sp_rule (sp_K f n) (sp_V f n) a p).2.2.2]).flatMap fl_u) := by rw [← eL, co_v_app, Nat.zero_add]
      rw [eN, eK, eV]
      have hLn : ((us ++ [(sp_rule (sp_K f n) (sp_V f n) a p).2.2.2]).flatMap fl_u).length ≤ 2 * (sp_rule (sp_K f n) (sp_V f n) a p).2.2.1 := by rw [← eN]; omega
      have hren : ∀ i, i < (us ++ [(sp_rule (sp_K f n) (sp_V f n) a p).2.2.2]).length → upd re us.length (nI ((us ++ [(sp_rule (sp_K f n) (sp_V f n) a p).2.2.2]).flatMap fl_u).length) i = nI (((us ++ [(sp_rule (sp_K f n) (sp_V f n) a p).2.2.2]).take (i + 1)).flatMap fl_u).length := by
        intro i hi
        rw [List.length_append] at hi
        rcases Nat.lt_or_ge i us.length with q | q
        · rw [pk_un (by omega), hre i q, List.take_append_of_le_length (by omega)]
        · obtain rfl : i = us.length := by simp at hi; omega
          rw [pk_us, List.take_of_length_le (by simp)]
      refine rr_if_ne 43 d_Re_read_37 (by decide) (fun _ => ?_) (fun c9 => absurd c9 (by decide))
      refine rr_aload_n d_Re_read_43 rfl rfl ?_
      refine rr_getf d_Re_read_44 fl_Re_21 rfl rfl ?_
      refine rr_callV d_Re_read_47 il_Re_43 m_Co_closeRule (s_Co_closeRule (k := us.length) (by omega)) rfl rfl rfl rfl (Nat.le_of_ble_eq_true rfl) (Nat.le_of_ble_eq_true rfl) (Nat.le_of_ble_eq_true rfl) (Nat.le_of_ble_eq_true rfl) (Nat.le_of_ble_eq_true rfl) (fun r h1 hq => ?_)
      obtain ⟨rfl, rfl⟩ := hq
      refine rr_aload_n d_Re_read_50 rfl rfl ?_
      refine rr_iconst 0 d_Re_read_51 rfl ?_
      rw [show us.length + 1 = (us ++ [(sp_rule (sp_K f n) (sp_V f n) a p).2.2.2]).length by simp]
      by_cases k0 : sp_K f n (sp_rule (sp_K f n) (sp_V f n) a p).2.1 = 0
      · simp only [if_pos k0]
        have e0 : gk (sp_rule (sp_K f n) (sp_V f n) a p).2.1 = 0 := (i20 (k := 0) i1 (by decide)).mpr k0
        refine rr_callV d_Re_read_52 il_Re_46 m_Re_looksAt (s_Re_looksAt_t (by omega) e0) rfl rfl rfl rfl (Nat.le_of_ble_eq_true rfl) (Nat.le_of_ble_eq_true rfl) (Nat.le_of_ble_eq_true rfl) (Nat.le_of_ble_eq_true rfl) (Nat.le_of_ble_eq_true rfl) (fun r h1 hq => ?_)
        obtain ⟨rfl, rfl⟩ := hq
        refine rr_if_eq 61 d_Re_read_55 (by decide) (fun c9 => absurd c9 (by decide)) (fun _ => ?_)
        refine rr_bipush (-2) d_Re_read_58 rfl ?_
        exact rr_ireturn d_Re_read_60 rfl rfl (Nat.le_of_ble_eq_true rfl) (Nat.le_of_ble_eq_true rfl) (⟨_, _, _, _, _, _, _, _, _, _, _, rfl, rfl, rfl, co_is_of (by simp; omega) (by omega) hren⟩)
      · simp only [if_neg k0]
        have e0 : ¬ gk (sp_rule (sp_K f n) (sp_V f n) a p).2.1 = 0 := fun q => k0 ((i20 (k := 0) i1 (by decide)).mp q)
        refine rr_callV d_Re_read_52 il_Re_46 m_Re_looksAt (s_Re_looksAt_f (by omega) e0) rfl rfl rfl rfl (Nat.le_of_ble_eq_true rfl) (Nat.le_of_ble_eq_true rfl) (Nat.le_of_ble_eq_true rfl) (Nat.le_of_ble_eq_true rfl) (Nat.le_of_ble_eq_true rfl) (fun r h1 hq => ?_)
        obtain ⟨rfl, rfl⟩ := hq
        refine rr_if_eq 61 d_Re_read_55 (by decide) (fun _ => ?_) (fun c9 => absurd (rfl) c9)
        refine rr_aload_n d_Re_read_61 rfl rfl ?_
        refine rr_iconst 4 d_Re_read_62 rfl ?_
        by_cases k4 : sp_K f n (sp_rule (sp_K f n) (sp_V f n) a p).2.1 = 4
        · simp only [if_pos k4]
          have l4 := sp_lt ht.1 i1 k4 (by decide)
          have e4 : gk (sp_rule (sp_K f n) (sp_V f n) a p).2.1 = 4 := (i20 (k := 4) i1 (by decide)).mpr k4
          refine rr_callV d_Re_read_63 il_Re_50 m_Re_pass (s_Re_pass_t (by omega) e4) rfl rfl rfl rfl (Nat.le_of_ble_eq_true rfl) (Nat.le_of_ble_eq_true rfl) (Nat.le_of_ble_eq_true rfl) (Nat.le_of_ble_eq_true rfl) (Nat.le_of_ble_eq_true rfl) (fun r h1 hq => ?_)
          obtain ⟨rfl, rfl⟩ := hq
          refine rr_if_ne 72 d_Re_read_66 (by decide) (fun _ => ?_) (fun c9 => absurd c9 (by decide))
          refine rr_iinc 1 d_Re_read_72 rfl rfl (by decide) ?_
          refine rr_goto 27 d_Re_read_75 (by decide) ?_
          rw [nI_1, show 6 - (m + 1) + 1 = 6 - m by omega]
          exact rr_lvs _ rfl (ih ((sp_rule (sp_K f n) (sp_V f n) a p).2.1 + 1) (sp_rule (sp_K f n) (sp_V f n) a p).2.2.1 (us ++ [(sp_rule (sp_K f n) (sp_V f n) a p).2.2.2]) _ (by simp; omega) l4 j2 hLn hren)
        · simp only [if_neg k4]
          have e4 : ¬ gk (sp_rule (sp_K f n) (sp_V f n) a p).2.1 = 4 := fun q => k4 ((i20 (k := 4) i1 (by decide)).mp q)
          refine rr_callV d_Re_read_63 il_Re_50 m_Re_pass (s_Re_pass_f (by omega) e4) rfl rfl rfl rfl (Nat.le_of_ble_eq_true rfl) (Nat.le_of_ble_eq_true rfl) (Nat.le_of_ble_eq_true rfl) (Nat.le_of_ble_eq_true rfl) (Nat.le_of_ble_eq_true rfl) (fun r h1 hq => ?_)
          obtain ⟨rfl, rfl⟩ := hq
          refine rr_if_ne 72 d_Re_read_66 (by decide) (fun c9 => absurd (rfl) c9) (fun _ => ?_)
          refine rr_goto 78 d_Re_read_69 (by decide) ?_
          exact rr_lvs _ rfl (fin (false, (sp_rule (sp_K f n) (sp_V f n) a p).2.1, us) (sp_rule (sp_K f n) (sp_V f n) a p).2.1 _ _ _ _ _ _ _ i1 rfl rfl)
    · simp only [if_neg hx]
      rw [(Bool.not_eq_true _).mp hx]
      refine rr_if_ne 43 d_Re_read_37 (by decide) (fun c9 => absurd (rfl) c9) (fun _ => ?_)
      refine rr_goto 78 d_Re_read_40 (by decide) ?_
      exact rr_lvs _ rfl (fin (false, (sp_rule (sp_K f n) (sp_V f n) a p).2.1, us) (sp_rule (sp_K f n) (sp_V f n) a p).2.1 _ _ _ _ _ _ _ i1 rfl rfl)

set_option maxRecDepth 100000 in
set_option maxHeartbeats 4000000 in
theorem s_Re_read {x0 : va_E} {g : rr_H} {n : Nat} {a0 p0 sz s0 ru : Int32} {f fk fv fp ck cv re : Nat → Int32} (hn : n ≤ 400) : rr_Spec 26 y_Re_read c_Re_read 3 (some .int) 0 0 [.ref 3, .ref 1] (x0 :: .inr (3, [.ref 2, .int (nI n)]) :: .inl (1, 400, .inl f) :: .inr (2, [.ref 4, .ref 8, .int a0, .int p0]) :: .inr (4, [.ref 5, .ref 6, .ref 7, .int sz]) :: .inl (0, 401, .inl (fk)) :: .inl (0, 401, .inl (fv)) :: .inl (0, 401, .inl (fp)) :: .inr (0, [.ref 9, .ref 10, .ref 11, .int s0, .int ru]) :: .inl (0, 160, .inl (ck)) :: .inl (0, 160, .inl (cv)) :: .inl (0, 6, .inl (re)) :: g) (fun r h1 => ∃ (a2 p2 z2 s2 u2 : Int32) (gk gv gp ck2 cv2 re2 : Nat → Int32), h1 = x0 :: .inr (3, [.ref 2, .int (nI n)]) :: .inl (1, 400, .inl f) :: .inr (2, [.ref 4, .ref 8, .int a2, .int p2]) :: .inr (4, [.ref 5, .ref 6, .ref 7, .int z2]) :: .inl (0, 401, .inl (gk)) :: .inl (0, 401, .inl (gv)) :: .inl (0, 401, .inl (gp)) :: .inr (0, [.ref 9, .ref 10, .ref 11, .int s2, .int u2]) :: .inl (0, 160, .inl (ck2)) :: .inl (0, 160, .inl (cv2)) :: .inl (0, 6, .inl (re2)) :: g ∧ (if (sp_pr f n).1 = true then r = some (.int (-2)) ∧ u2 = nI (sp_pr f n).2.2.length ∧ co_is (sp_pr f n).2.2 ck2 cv2 re2 else r = some (.int (nI (sp_T f n (sp_pr f n).2.1).2.2.1)))) := by
  refine rr_met (own := R_Re) (kd := (false, none)) (by decide +kernel) rfl (fun h => by cases h) rfl (Nat.le_of_ble_eq_true rfl) ?_
  refine rr_aload_n d_Re_read_0 rfl rfl ?_
  refine rr_getf d_Re_read_1 fl_Re_12 rfl rfl ?_
  refine rr_aload_n d_Re_read_4 rfl rfl ?_
  refine rr_callV d_Re_read_5 il_Re_25 m_To_split (s_To_split hn) rfl rfl rfl rfl (Nat.le_of_ble_eq_true rfl) (Nat.le_of_ble_eq_true rfl) (Nat.le_of_ble_eq_true rfl) (Nat.le_of_ble_eq_true rfl) (Nat.le_of_ble_eq_true rfl) (fun r h1 hq => ?_)
  obtain ⟨M, gk, gv, gp, hM, hne, h0, htk, rfl, rfl⟩ := hq
  refine rr_aload_n d_Re_read_8 rfl rfl ?_
  refine rr_getf d_Re_read_9 fl_Re_21 rfl rfl ?_
  refine rr_callV d_Re_read_12 il_Re_29 m_Co_clear (s_Co_clear) rfl rfl rfl rfl (Nat.le_of_ble_eq_true rfl) (Nat.le_of_ble_eq_true rfl) (Nat.le_of_ble_eq_true rfl) (Nat.le_of_ble_eq_true rfl) (Nat.le_of_ble_eq_true rfl) (fun r h1 hq => ?_)
  obtain ⟨rfl, rfl⟩ := hq
  refine rr_aload_n d_Re_read_15 rfl rfl ?_
  refine rr_iconst 0 d_Re_read_16 rfl ?_
  refine rr_putf d_Re_read_17 fl_Re_32 rfl rfl rfl rfl ?_
  refine rr_aload_n d_Re_read_20 rfl rfl ?_
  refine rr_iconst 0 d_Re_read_21 rfl ?_
  refine rr_putf d_Re_read_22 fl_Re_36 rfl rfl rfl rfl ?_
  refine rr_iconst 0 d_Re_read_25 rfl ?_
  refine rr_istore_n d_Re_read_26 rfl (by decide) ?_
  exact rr_lvs _ rfl (l_Re_read hn hM h0 htk 6 0 0 [] re rfl (Nat.zero_le _) (by decide) (by simp) (fun i hi => by simp at hi))

theorem sp_T_pl {f : Nat → Int32} {n k : Nat} : (sp_T f n k).2.2.1 ≤ n := by
  unfold sp_T sp_next
  dsimp only
  split
  · rename_i h
    exact Nat.le_of_lt h
  · exact Nat.le_refl _
set_option maxRecDepth 100000 in
set_option maxHeartbeats 4000000 in
theorem s_Ru_program {g : rr_H} {n : Nat} {a0 p0 sz s0 ru : Int32} {f fk fv fp ck cv re : Nat → Int32} (hn : n ≤ 400) : rr_Spec 27 y_Ru_program c_Ru_program 2 (some .int) 0 0 [.ref 0] (.inr (5, [.ref 1, .ref 3, .ref 12, .ref 20]) :: .inr (3, [.ref 2, .int (nI n)]) :: .inl (1, 400, .inl f) :: .inr (2, [.ref 4, .ref 8, .int a0, .int p0]) :: .inr (4, [.ref 5, .ref 6, .ref 7, .int sz]) :: .inl (0, 401, .inl (fk)) :: .inl (0, 401, .inl (fv)) :: .inl (0, 401, .inl (fp)) :: .inr (0, [.ref 9, .ref 10, .ref 11, .int s0, .int ru]) :: .inl (0, 160, .inl (ck)) :: .inl (0, 160, .inl (cv)) :: .inl (0, 6, .inl (re)) :: g) (fun r h1 => ∃ (a2 p2 z2 s2 u2 : Int32) (gk gv gp ck2 cv2 re2 : Nat → Int32), if (sp_pr f n).1 = true then (h1 = .inr (5, [.ref 1, .ref 3, .ref 12, .ref 8]) :: .inr (3, [.ref 2, .int 0]) :: .inl (1, 400, .inl f) :: .inr (2, [.ref 4, .ref 20, .int a2, .int p2]) :: .inr (4, [.ref 5, .ref 6, .ref 7, .int z2]) :: .inl (0, 401, .inl (gk)) :: .inl (0, 401, .inl (gv)) :: .inl (0, 401, .inl (gp)) :: .inr (0, [.ref 9, .ref 10, .ref 11, .int s2, .int u2]) :: .inl (0, 160, .inl (ck2)) :: .inl (0, 160, .inl (cv2)) :: .inl (0, 6, .inl (re2)) :: g ∧ r = some (.int (-2)) ∧ u2 = nI (sp_pr f n).2.2.length ∧ co_is (sp_pr f n).2.2 ck2 cv2 re2) else (h1 = .inr (5, [.ref 1, .ref 3, .ref 12, .ref 20]) :: .inr (3, [.ref 2, .int 0]) :: .inl (1, 400, .inl f) :: .inr (2, [.ref 4, .ref 8, .int a2, .int p2]) :: .inr (4, [.ref 5, .ref 6, .ref 7, .int z2]) :: .inl (0, 401, .inl (gk)) :: .inl (0, 401, .inl (gv)) :: .inl (0, 401, .inl (gp)) :: .inr (0, [.ref 9, .ref 10, .ref 11, .int s2, .int u2]) :: .inl (0, 160, .inl (ck2)) :: .inl (0, 160, .inl (cv2)) :: .inl (0, 6, .inl (re2)) :: g ∧ r = some (.int (nI (sp_T f n (sp_pr f n).2.1).2.2.1)))) := by
  refine rr_met (own := R_Ru) (kd := (false, none)) (by decide +kernel) rfl (fun h => by cases h) rfl (Nat.le_of_ble_eq_true rfl) ?_
  refine rr_aload_n d_Ru_program_0 rfl rfl ?_
  refine rr_getf d_Ru_program_1 fl_Ru_19 rfl rfl ?_
  refine rr_aload_n d_Ru_program_4 rfl rfl ?_
  refine rr_getf d_Ru_program_5 fl_Ru_12 rfl rfl ?_
  refine rr_callV d_Ru_program_8 il_Ru_45 m_Re_read (s_Re_read hn) rfl rfl rfl rfl (Nat.le_of_ble_eq_true rfl) (Nat.le_of_ble_eq_true rfl) (Nat.le_of_ble_eq_true rfl) (Nat.le_of_ble_eq_true rfl) (Nat.le_of_ble_eq_true rfl) (fun r h1 hq => ?_)
  obtain ⟨a2, p2, z2, s2, u2, gk, gv, gp, ck2, cv2, re2, rfl, hr⟩ := hq
  by_cases hx : (sp_pr f n).1 = true
  · rw [if_pos hx] at hr
    obtain ⟨rfl, hu, hco⟩ := hr
    simp only [if_pos hx]
    refine rr_istore_n d_Ru_program_11 rfl (by decide) ?_
    refine rr_aload_n d_Ru_program_12 rfl rfl ?_
    refine rr_getf d_Ru_program_13 fl_Ru_12 rfl rfl ?_
    refine rr_iconst 0 d_Ru_program_16 rfl ?_
    refine rr_putf d_Ru_program_17 fl_Ru_37 rfl rfl rfl rfl ?_
    refine rr_iload_n d_Ru_program_20 rfl rfl ?_
    refine rr_bipush (-2) d_Ru_program_21 rfl ?_
    refine rr_icmp_ne 41 d_Ru_program_23 (by decide) (fun c9 => absurd (by decide) c9) (fun _ => ?_)
    refine rr_aload_n d_Ru_program_26 rfl rfl ?_
    refine rr_aload_n d_Ru_program_27 rfl rfl ?_
    refine rr_getf d_Ru_program_28 fl_Ru_19 rfl rfl ?_
    refine rr_aload_n d_Ru_program_31 rfl rfl ?_
    refine rr_getf d_Ru_program_32 fl_Ru_33 rfl rfl ?_
    refine rr_callV d_Ru_program_35 il_Ru_49 m_Re_exchange (s_Re_exchange) rfl rfl rfl rfl (Nat.le_of_ble_eq_true rfl) (Nat.le_of_ble_eq_true rfl) (Nat.le_of_ble_eq_true rfl) (Nat.le_of_ble_eq_true rfl) (Nat.le_of_ble_eq_true rfl) (fun r h1 hq => ?_)
    obtain ⟨rfl, rfl⟩ := hq
    refine rr_putf d_Ru_program_38 fl_Ru_33 rfl rfl rfl rfl ?_
    refine rr_iload_n d_Ru_program_41 rfl rfl ?_
    exact rr_ireturn d_Ru_program_42 rfl rfl (Nat.le_of_ble_eq_true rfl) (Nat.le_of_ble_eq_true rfl) (⟨_, _, _, _, _, _, _, _, _, _, _, rfl, rfl, hu, hco⟩)
  · rw [if_neg hx] at hr
    obtain rfl := hr
    simp only [if_neg hx]
    have hpl := sp_T_pl (f := f) (n := n) (k := (sp_pr f n).2.1)
    have hne : ¬ nI (sp_T f n (sp_pr f n).2.1).2.2.1 = -2 := by
      intro q
      have q1 := congrArg Int32.toInt q
      rw [nI_toInt (by omega)] at q1
      have q2 : (-2 : Int32).toInt = -2 := by decide
      omega
    refine rr_istore_n d_Ru_program_11 rfl (by decide) ?_
    refine rr_aload_n d_Ru_program_12 rfl rfl ?_
    refine rr_getf d_Ru_program_13 fl_Ru_12 rfl rfl ?_
    refine rr_iconst 0 d_Ru_program_16 rfl ?_
    refine rr_putf d_Ru_program_17 fl_Ru_37 rfl rfl rfl rfl ?_
    refine rr_iload_n d_Ru_program_20 rfl rfl ?_
    refine rr_bipush (-2) d_Ru_program_21 rfl ?_
    refine rr_icmp_ne 41 d_Ru_program_23 (by decide) (fun _ => ?_) (fun c9 => absurd c9 (hne))
    refine rr_iload_n d_Ru_program_41 rfl rfl ?_
    exact rr_ireturn d_Ru_program_42 rfl rfl (Nat.le_of_ble_eq_true rfl) (Nat.le_of_ble_eq_true rfl) (⟨_, _, _, _, _, _, _, _, _, _, _, rfl, rfl⟩)
end
section
/-! Doing: what both programs compute. -/
def st_of (f : Nat → Int32) : Nat → List Int32
  | 0 => []
  | n + 1 => f n :: st_of f n
theorem st_of_upd {f : Nat → Int32} {k : Nat} {v : Int32} : ∀ {n : Nat}, n ≤ k → st_of (upd f k v) n = st_of f n
  | 0, _ => rfl
  | n + 1, h => by
    show upd f k v n :: st_of (upd f k v) n = f n :: st_of f n
    rw [pk_un (by omega), st_of_upd (by omega)]
theorem st_of_push {f : Nat → Int32} {n : Nat} {v : Int32} : st_of (upd f n v) (n + 1) = v :: st_of f n := by
  show upd f n v n :: st_of (upd f n v) n = _
  rw [pk_us, st_of_upd (Nat.le_refl _)]
theorem st_of_len {f : Nat → Int32} : ∀ (n : Nat), (st_of f n).length = n
  | 0 => rfl
  | n + 1 => by show (st_of f n).length + 1 = n + 1; rw [st_of_len n]
def sp_op (k : Nat) (x y : Int32) : Int32 := if k = 14 then x + y else if k = 15 then x - y else x * y
def sp_it (fc : Nat → Int32) (sv sp : Int32) (q : Nat × Int32) (S : List Int32) : List Int32 :=
  if q.1 = 9 then q.2 :: S else if q.1 = 8 then fc q.2.toNatClampNeg :: S else if q.1 = 6 then sv :: S else if q.1 = 7 then sp :: S else match S with
    | y :: x :: t => sp_op q.1 x y :: t
    | _ => S
def sp_ev (fc : Nat → Int32) (sv sp : Int32) : sp_I → List Int32 → List Int32
  | [], S => S
  | q :: l, S => sp_ev fc sv sp l (sp_it fc sv sp q S)
def sp_psh (k : Nat) : Bool := k == 9 || k == 8 || k == 6 || k == 7
def sp_isop (k : Nat) : Bool := k == 14 || k == 15 || k == 16
/-- the stack's height behind the items, if they never find it too low -/
def sp_ht : sp_I → Nat → Option Nat
  | [], n => some n
  | q :: l, n => if sp_psh q.1 = true then sp_ht l (n + 1) else if sp_isop q.1 = true ∧ 2 ≤ n then sp_ht l (n - 1) else none
def sp_np : sp_I → Nat
  | [] => 0
  | q :: l => (if sp_psh q.1 = true then 1 else 0) + sp_np l
def sp_ce (x : sp_I) : Prop := ∀ q ∈ x, q.1 = 8 → ∃ c : Nat, c < 32 ∧ q.2 = nI c
def sp_cv (g : Nat) (x y : Int32) : Bool := if g = 10 then decide (x = y) else if g = 11 then decide (¬ x = y) else if g = 12 then decide (x < y) else decide (y < x)
def sp_val (fc : Nat → Int32) (sv sp : Int32) (x : sp_I) : Int32 := (sp_ev fc sv sp x []).headD 0
theorem sp_ht_app : ∀ (a b : sp_I) (n : Nat), sp_ht (a ++ b) n = (sp_ht a n).bind (sp_ht b)
  | [], b, n => rfl
  | q :: a, b, n => by
    show (if sp_psh q.1 = true then sp_ht (a ++ b) (n + 1) else if sp_isop q.1 = true ∧ 2 ≤ n then sp_ht (a ++ b) (n - 1) else none) = (if sp_psh q.1 = true then sp_ht a (n + 1) else if sp_isop q.1 = true ∧ 2 ≤ n then sp_ht a (n - 1) else none).bind (sp_ht b)
    by_cases h : sp_psh q.1 = true
    · rw [if_pos h, if_pos h]
      exact sp_ht_app a b _
    · rw [if_neg h, if_neg h]
      by_cases h2 : sp_isop q.1 = true ∧ 2 ≤ n
      · rw [if_pos h2, if_pos h2]
        exact sp_ht_app a b _
      · rw [if_neg h2, if_neg h2]
        rfl
theorem sp_ht_up : ∀ (a : sp_I) (n m k : Nat), sp_ht a n = some m → sp_ht a (n + k) = some (m + k)
  | [], n, m, k, h => by
    cases h
    rfl
  | q :: a, n, m, k, h => by
    unfold sp_ht at h ⊢
    by_cases hp : sp_psh q.1 = true
    · rw [if_pos hp] at h ⊢
      rw [show n + k + 1 = n + 1 + k by omega]
      exact sp_ht_up a _ _ _ h
    · rw [if_neg hp] at h ⊢
      by_cases h2 : sp_isop q.1 = true ∧ 2 ≤ n
      · rw [if_pos h2] at h
        rw [if_pos ⟨h2.1, by omega⟩, show n + k - 1 = n - 1 + k by omega]
        exact sp_ht_up a _ _ _ h
      · rw [if_neg h2] at h
        cases h
theorem sp_np_app : ∀ (a b : sp_I), sp_np (a ++ b) = sp_np a + sp_np b
  | [], b => by simp [sp_np]
  | q :: a, b => by
    show (if sp_psh q.1 = true then 1 else 0) + sp_np (a ++ b) = (if sp_psh q.1 = true then 1 else 0) + sp_np a + sp_np b
    rw [sp_np_app a b]
    omega
theorem sp_it_push {fc : Nat → Int32} {sv sp : Int32} {q : Nat × Int32} {S R : List Int32} (h : sp_psh q.1 = true) : sp_it fc sv sp q (S ++ R) = sp_it fc sv sp q S ++ R ∧ (sp_it fc sv sp q S).length = S.length + 1 := by
  unfold sp_it
  by_cases h9 : q.1 = 9
  · simp only [if_pos h9]; exact ⟨rfl, rfl⟩
  simp only [if_neg h9]
  by_cases h8 : q.1 = 8
  · simp only [if_pos h8]; exact ⟨rfl, rfl⟩
  simp only [if_neg h8]
  by_cases h6 : q.1 = 6
  · simp only [if_pos h6]; exact ⟨rfl, rfl⟩
  simp only [if_neg h6]
  by_cases h7 : q.1 = 7
  · simp only [if_pos h7]; exact ⟨rfl, rfl⟩
  simp [sp_psh, h9, h8, h6, h7] at h
theorem sp_it_op {fc : Nat → Int32} {sv sp : Int32} {q : Nat × Int32} {y x : Int32} {t : List Int32} (h : ¬ sp_psh q.1 = true) : sp_it fc sv sp q (y :: x :: t) = sp_op q.1 x y :: t := by
  simp [sp_psh] at h
  unfold sp_it
  rw [if_neg (by simp [h]), if_neg (by simp [h]), if_neg (by simp [h]), if_neg (by simp [h])]
/-- what lies deeper isn't touched -/
theorem sp_ev_deep {fc : Nat → Int32} {sv sp : Int32} : ∀ (x : sp_I) (n m : Nat) (S R : List Int32), S.length = n → sp_ht x n = some m → sp_ev fc sv sp x (S ++ R) = sp_ev fc sv sp x S ++ R ∧ (sp_ev fc sv sp x S).length = m
  | [], n, m, S, R, hS, h => by
    cases h
    exact ⟨rfl, hS⟩
  | q :: l, n, m, S, R, hS, h => by
    show sp_ev fc sv sp l (sp_it fc sv sp q (S ++ R)) = sp_ev fc sv sp l (sp_it fc sv sp q S) ++ R ∧ (sp_ev fc sv sp l (sp_it fc sv sp q S)).length = m
    unfold sp_ht at h
    by_cases hp : sp_psh q.1 = true
    · rw [if_pos hp] at h
      obtain ⟨e1, e2⟩ := sp_it_push (fc := fc) (sv := sv) (sp := sp) (S := S) (R := R) hp
      rw [e1]
      exact sp_ev_deep l (n + 1) m _ R (by rw [e2, hS]) h
    · rw [if_neg hp] at h
      by_cases h2 : sp_isop q.1 = true ∧ 2 ≤ n
      · rw [if_pos h2] at h
        match S, hS with
        | [], hS => simp at hS; omega
        | [a], hS => simp at hS; omega
        | y :: x :: t, hS =>
          rw [List.cons_append, List.cons_append, sp_it_op hp, sp_it_op hp]
          have := sp_ev_deep (fc := fc) (sv := sv) (sp := sp) l (n - 1) m (sp_op q.1 x y :: t) R (by simp at hS ⊢; omega) h
          rwa [List.cons_append] at this
      · rw [if_neg h2] at h
        cases h
theorem sp_ev_val {fc : Nat → Int32} {sv sp : Int32} {x : sp_I} (h : sp_ht x 0 = some 1) (S : List Int32) : sp_ev fc sv sp x S = sp_val fc sv sp x :: S := by
  obtain ⟨e1, e2⟩ := sp_ev_deep (fc := fc) (sv := sv) (sp := sp) x 0 1 [] S rfl h
  rw [List.nil_append] at e1
  rw [e1]
  unfold sp_val
  match hv : sp_ev fc sv sp x [], e2 with
  | [v], _ => rfl
  | [], e2 => simp at e2
  | a :: b :: t, e2 => simp at e2

set_option maxRecDepth 100000 in
set_option maxHeartbeats 4000000 in
theorem s_Ma_push {x0 x1 x2 x3 x4 x5 x6 x7 x8 x9 x10 x11 x13 : va_E} {g : rr_H} {ef cg ru : Int32} {fs : Nat → Int32} {n : Nat} {v : Int32} (hn : n < 80) : rr_Spec 0 y_Ma_push c_Ma_push 2 none 0 0 [.ref 12, .int v] (x0 :: x1 :: x2 :: x3 :: x4 :: x5 :: x6 :: x7 :: x8 :: x9 :: x10 :: x11 :: .inr (1, [.ref 13, .ref 14, .int (nI n), .ref 15, .ref 16, .int ef, .ref 17, .ref 18, .int cg, .ref 19, .int ru]) :: x13 :: .inl (0, 80, .inl (fs)) :: g) (fun r h1 => r = none ∧ h1 = x0 :: x1 :: x2 :: x3 :: x4 :: x5 :: x6 :: x7 :: x8 :: x9 :: x10 :: x11 :: .inr (1, [.ref 13, .ref 14, .int (nI (n + 1)), .ref 15, .ref 16, .int ef, .ref 17, .ref 18, .int cg, .ref 19, .int ru]) :: x13 :: .inl (0, 80, .inl (upd fs n v)) :: g) := by
  refine rr_met (own := R_Ma) (kd := (false, none)) (by decide +kernel) rfl (fun h => by cases h) rfl (Nat.le_of_ble_eq_true rfl) ?_
  refine rr_aload_n d_Ma_push_0 rfl rfl ?_
  refine rr_getf d_Ma_push_1 fl_Ma_55 rfl rfl ?_
  refine rr_bipush 80 d_Ma_push_4 rfl ?_
  refine rr_icmp_ge 29 d_Ma_push_6 (by decide) (fun c9 => absurd c9 (nI_ge (a := n) (b := 80) hn (by decide))) (fun _ => ?_)
  refine rr_aload_n d_Ma_push_9 rfl rfl ?_
  refine rr_getf d_Ma_push_10 fl_Ma_15 rfl rfl ?_
  refine rr_aload_n d_Ma_push_13 rfl rfl ?_
  refine rr_getf d_Ma_push_14 fl_Ma_55 rfl rfl ?_
  refine rr_iload_n d_Ma_push_17 rfl rfl ?_
  refine rr_iast d_Ma_push_18 rfl (vp_in_nI hn (by decide)) ?_
  refine rr_aload_n d_Ma_push_19 rfl rfl ?_
  refine rr_dup d_Ma_push_20 rfl ?_
  refine rr_getf d_Ma_push_21 fl_Ma_55 rfl rfl ?_
  refine rr_iconst 1 d_Ma_push_24 rfl ?_
  refine rr_iadd d_Ma_push_25 ?_
  refine rr_putf d_Ma_push_26 fl_Ma_55 rfl rfl rfl rfl ?_
  rw [nI_1, nI_clamp (by omega)]
  exact rr_return d_Ma_push_29 rfl (Nat.le_of_ble_eq_true rfl) (Nat.le_of_ble_eq_true rfl) (⟨rfl, rfl⟩)

set_option maxRecDepth 100000 in
set_option maxHeartbeats 4000000 in
theorem s_Ma_pop {x0 x1 x2 x3 x4 x5 x6 x7 x8 x9 x10 x11 x13 : va_E} {g : rr_H} {ef cg ru : Int32} {fs : Nat → Int32} {n : Nat} (hn : n < 80) : rr_Spec 0 y_Ma_pop c_Ma_pop 1 (some .int) 0 0 [.ref 12] (x0 :: x1 :: x2 :: x3 :: x4 :: x5 :: x6 :: x7 :: x8 :: x9 :: x10 :: x11 :: .inr (1, [.ref 13, .ref 14, .int (nI (n + 1)), .ref 15, .ref 16, .int ef, .ref 17, .ref 18, .int cg, .ref 19, .int ru]) :: x13 :: .inl (0, 80, .inl (fs)) :: g) (fun r h1 => r = some (.int (fs n)) ∧ h1 = x0 :: x1 :: x2 :: x3 :: x4 :: x5 :: x6 :: x7 :: x8 :: x9 :: x10 :: x11 :: .inr (1, [.ref 13, .ref 14, .int (nI n), .ref 15, .ref 16, .int ef, .ref 17, .ref 18, .int cg, .ref 19, .int ru]) :: x13 :: .inl (0, 80, .inl (fs)) :: g) := by
  refine rr_met (own := R_Ma) (kd := (false, none)) (by decide +kernel) rfl (fun h => by cases h) rfl (Nat.le_of_ble_eq_true rfl) ?_
  refine rr_aload_n d_Ma_pop_0 rfl rfl ?_
  refine rr_getf d_Ma_pop_1 fl_Ma_55 rfl rfl ?_
  refine rr_if_ne 9 d_Ma_pop_4 (by decide) (fun _ => ?_) (fun c9 => absurd c9 (nI_ne0 (by omega) (by omega)))
  refine rr_aload_n d_Ma_pop_9 rfl rfl ?_
  refine rr_dup d_Ma_pop_10 rfl ?_
  refine rr_getf d_Ma_pop_11 fl_Ma_55 rfl rfl ?_
  refine rr_iconst 1 d_Ma_pop_14 rfl ?_
  refine rr_isub d_Ma_pop_15 ?_
  refine rr_putf d_Ma_pop_16 fl_Ma_55 rfl rfl rfl rfl ?_
  rw [nI_pred]
  refine rr_aload_n d_Ma_pop_19 rfl rfl ?_
  refine rr_getf d_Ma_pop_20 fl_Ma_15 rfl rfl ?_
  refine rr_aload_n d_Ma_pop_23 rfl rfl ?_
  refine rr_getf d_Ma_pop_24 fl_Ma_55 rfl rfl ?_
  refine rr_iald d_Ma_pop_27 rfl (vp_in_nI hn (by decide)) ?_
  rw [nI_clamp (by omega)]
  exact rr_ireturn d_Ma_pop_28 rfl rfl (Nat.le_of_ble_eq_true rfl) (Nat.le_of_ble_eq_true rfl) (⟨rfl, rfl⟩)

set_option maxRecDepth 100000 in
set_option maxHeartbeats 4000000 in
theorem s_Ma_calculate {x0 x1 x2 x3 x4 x5 x6 x7 x8 x9 x10 x11 x13 : va_E} {g : rr_H} {ef cg ru : Int32} {fs : Nat → Int32} {n : Nat} {k : Nat} (hn : n + 2 ≤ 80) (hk : k = 14 ∨ k = 15 ∨ k = 16) : rr_Spec 1 y_Ma_calculate c_Ma_calculate 4 none 0 0 [.ref 12, .int (nI k)] (x0 :: x1 :: x2 :: x3 :: x4 :: x5 :: x6 :: x7 :: x8 :: x9 :: x10 :: x11 :: .inr (1, [.ref 13, .ref 14, .int (nI (n + 2)), .ref 15, .ref 16, .int ef, .ref 17, .ref 18, .int cg, .ref 19, .int ru]) :: x13 :: .inl (0, 80, .inl (fs)) :: g) (fun r h1 => r = none ∧ h1 = x0 :: x1 :: x2 :: x3 :: x4 :: x5 :: x6 :: x7 :: x8 :: x9 :: x10 :: x11 :: .inr (1, [.ref 13, .ref 14, .int (nI (n + 1)), .ref 15, .ref 16, .int ef, .ref 17, .ref 18, .int cg, .ref 19, .int ru]) :: x13 :: .inl (0, 80, .inl (upd fs n (sp_op k (fs n) (fs (n + 1))))) :: g) := by
  refine rr_met (own := R_Ma) (kd := (false, none)) (by decide +kernel) rfl (fun h => by cases h) rfl (Nat.le_of_ble_eq_true rfl) ?_
  refine rr_aload_n d_Ma_calculate_0 rfl rfl ?_
  refine rr_callV d_Ma_calculate_1 il_Ma_71 m_Ma_pop (s_Ma_pop (n := n + 1) (by omega)) rfl rfl rfl rfl (Nat.le_of_ble_eq_true rfl) (Nat.le_of_ble_eq_true rfl) (Nat.le_of_ble_eq_true rfl) (Nat.le_of_ble_eq_true rfl) (Nat.le_of_ble_eq_true rfl) (fun r h1 hq => ?_)
  obtain ⟨rfl, rfl⟩ := hq
  refine rr_istore_n d_Ma_calculate_4 rfl (by decide) ?_
  refine rr_aload_n d_Ma_calculate_5 rfl rfl ?_
  refine rr_callV d_Ma_calculate_6 il_Ma_71 m_Ma_pop (s_Ma_pop (n := n) (by omega)) rfl rfl rfl rfl (Nat.le_of_ble_eq_true rfl) (Nat.le_of_ble_eq_true rfl) (Nat.le_of_ble_eq_true rfl) (Nat.le_of_ble_eq_true rfl) (Nat.le_of_ble_eq_true rfl) (fun r h1 hq => ?_)
  obtain ⟨rfl, rfl⟩ := hq
  refine rr_istore_n d_Ma_calculate_9 rfl (by decide) ?_
  refine rr_iload_n d_Ma_calculate_10 rfl rfl ?_
  rcases hk with rfl | rfl | rfl
  · refine rr_lsw 36 25 d_Ma_calculate_11 (by decide) (by decide) (by decide) ?_
    refine rr_aload_n d_Ma_calculate_36 rfl rfl ?_
    refine rr_iload_n d_Ma_calculate_37 rfl rfl ?_
    refine rr_iload_n d_Ma_calculate_38 rfl rfl ?_
    refine rr_iadd d_Ma_calculate_39 ?_
    refine rr_callV d_Ma_calculate_40 il_Ma_67 m_Ma_push (s_Ma_push (n := n) (by omega)) rfl rfl rfl rfl (Nat.le_of_ble_eq_true rfl) (Nat.le_of_ble_eq_true rfl) (Nat.le_of_ble_eq_true rfl) (Nat.le_of_ble_eq_true rfl) (Nat.le_of_ble_eq_true rfl) (fun r h1 hq => ?_)
    obtain ⟨rfl, rfl⟩ := hq
    refine rr_goto 63 d_Ma_calculate_43 (by decide) ?_
    exact rr_return d_Ma_calculate_63 rfl (Nat.le_of_ble_eq_true rfl) (Nat.le_of_ble_eq_true rfl) (⟨rfl, rfl⟩)
  · refine rr_lsw 46 35 d_Ma_calculate_11 (by decide) (by decide) (by decide) ?_
    refine rr_aload_n d_Ma_calculate_46 rfl rfl ?_
    refine rr_iload_n d_Ma_calculate_47 rfl rfl ?_
    refine rr_iload_n d_Ma_calculate_48 rfl rfl ?_
    refine rr_isub d_Ma_calculate_49 ?_
    refine rr_callV d_Ma_calculate_50 il_Ma_67 m_Ma_push (s_Ma_push (n := n) (by omega)) rfl rfl rfl rfl (Nat.le_of_ble_eq_true rfl) (Nat.le_of_ble_eq_true rfl) (Nat.le_of_ble_eq_true rfl) (Nat.le_of_ble_eq_true rfl) (Nat.le_of_ble_eq_true rfl) (fun r h1 hq => ?_)
    obtain ⟨rfl, rfl⟩ := hq
    refine rr_goto 63 d_Ma_calculate_53 (by decide) ?_
    exact rr_return d_Ma_calculate_63 rfl (Nat.le_of_ble_eq_true rfl) (Nat.le_of_ble_eq_true rfl) (⟨rfl, rfl⟩)
  · refine rr_lsw 56 45 d_Ma_calculate_11 (by decide) (by decide) (by decide) ?_
    refine rr_aload_n d_Ma_calculate_56 rfl rfl ?_
    refine rr_iload_n d_Ma_calculate_57 rfl rfl ?_
    refine rr_iload_n d_Ma_calculate_58 rfl rfl ?_
    refine rr_imul d_Ma_calculate_59 ?_
    refine rr_callV d_Ma_calculate_60 il_Ma_67 m_Ma_push (s_Ma_push (n := n) (by omega)) rfl rfl rfl rfl (Nat.le_of_ble_eq_true rfl) (Nat.le_of_ble_eq_true rfl) (Nat.le_of_ble_eq_true rfl) (Nat.le_of_ble_eq_true rfl) (Nat.le_of_ble_eq_true rfl) (fun r h1 hq => ?_)
    obtain ⟨rfl, rfl⟩ := hq
    exact rr_return d_Ma_calculate_63 rfl (Nat.le_of_ble_eq_true rfl) (Nat.le_of_ble_eq_true rfl) (⟨rfl, rfl⟩)

set_option maxRecDepth 100000 in
set_option maxHeartbeats 4000000 in
theorem s_Ma_holds {x0 x1 x2 x3 x4 x5 x6 x7 x8 x9 x10 x11 x13 : va_E} {g : rr_H} {ef cg ru : Int32} {fs : Nat → Int32} {n : Nat} {k : Nat} (hn : n + 2 ≤ 80) (hk : k = 10 ∨ k = 11 ∨ k = 12 ∨ k = 13) : rr_Spec 1 y_Ma_holds c_Ma_holds 4 (some .boolean) 0 0 [.ref 12, .int (nI k)] (x0 :: x1 :: x2 :: x3 :: x4 :: x5 :: x6 :: x7 :: x8 :: x9 :: x10 :: x11 :: .inr (1, [.ref 13, .ref 14, .int (nI (n + 2)), .ref 15, .ref 16, .int ef, .ref 17, .ref 18, .int cg, .ref 19, .int ru]) :: x13 :: .inl (0, 80, .inl (fs)) :: g) (fun r h1 => r = some (.int (sp_b (sp_cv k (fs n) (fs (n + 1))))) ∧ h1 = x0 :: x1 :: x2 :: x3 :: x4 :: x5 :: x6 :: x7 :: x8 :: x9 :: x10 :: x11 :: .inr (1, [.ref 13, .ref 14, .int (nI n), .ref 15, .ref 16, .int ef, .ref 17, .ref 18, .int cg, .ref 19, .int ru]) :: x13 :: .inl (0, 80, .inl (fs)) :: g) := by
  refine rr_met (own := R_Ma) (kd := (false, none)) (by decide +kernel) rfl (fun h => by cases h) rfl (Nat.le_of_ble_eq_true rfl) ?_
  refine rr_aload_n d_Ma_holds_0 rfl rfl ?_
  refine rr_callV d_Ma_holds_1 il_Ma_71 m_Ma_pop (s_Ma_pop (n := n + 1) (by omega)) rfl rfl rfl rfl (Nat.le_of_ble_eq_true rfl) (Nat.le_of_ble_eq_true rfl) (Nat.le_of_ble_eq_true rfl) (Nat.le_of_ble_eq_true rfl) (Nat.le_of_ble_eq_true rfl) (fun r h1 hq => ?_)
  obtain ⟨rfl, rfl⟩ := hq
  refine rr_istore_n d_Ma_holds_4 rfl (by decide) ?_
  refine rr_aload_n d_Ma_holds_5 rfl rfl ?_
  refine rr_callV d_Ma_holds_6 il_Ma_71 m_Ma_pop (s_Ma_pop (n := n) (by omega)) rfl rfl rfl rfl (Nat.le_of_ble_eq_true rfl) (Nat.le_of_ble_eq_true rfl) (Nat.le_of_ble_eq_true rfl) (Nat.le_of_ble_eq_true rfl) (Nat.le_of_ble_eq_true rfl) (fun r h1 hq => ?_)
  obtain ⟨rfl, rfl⟩ := hq
  refine rr_istore_n d_Ma_holds_9 rfl (by decide) ?_
  refine rr_iload_n d_Ma_holds_10 rfl rfl ?_
  rcases hk with rfl | rfl | rfl | rfl
  · rw [show sp_cv 10 (fs n) (fs (n + 1)) = decide (fs n = fs (n + 1)) from rfl]
    refine rr_tin 36 25 d_Ma_holds_11 (by decide) (by decide) rfl (by decide) ?_
    refine rr_iload_n d_Ma_holds_36 rfl rfl ?_
    refine rr_iload_n d_Ma_holds_37 rfl rfl ?_
    refine rr_icmp_ne 45 d_Ma_holds_38 (by decide) (fun hc => ?_) (fun hc => ?_)
    · rw [decide_eq_false hc]
      refine rr_iconst 0 d_Ma_holds_45 rfl ?_
      exact rr_ireturn d_Ma_holds_46 rfl rfl (Nat.le_of_ble_eq_true rfl) (Nat.le_of_ble_eq_true rfl) (⟨rfl, rfl⟩)
    · rw [decide_eq_true hc]
      refine rr_iconst 1 d_Ma_holds_41 rfl ?_
      refine rr_goto 46 d_Ma_holds_42 (by decide) ?_
      exact rr_ireturn d_Ma_holds_46 rfl rfl (Nat.le_of_ble_eq_true rfl) (Nat.le_of_ble_eq_true rfl) (⟨rfl, rfl⟩)
  · rw [show sp_cv 11 (fs n) (fs (n + 1)) = decide (¬ fs n = fs (n + 1)) from rfl]
    refine rr_tin 47 36 d_Ma_holds_11 (by decide) (by decide) rfl (by decide) ?_
    refine rr_iload_n d_Ma_holds_47 rfl rfl ?_
    refine rr_iload_n d_Ma_holds_48 rfl rfl ?_
    refine rr_icmp_eq 56 d_Ma_holds_49 (by decide) (fun hc => ?_) (fun hc => ?_)
    · rw [decide_eq_false (fun q => q hc)]
      refine rr_iconst 0 d_Ma_holds_56 rfl ?_
      exact rr_ireturn d_Ma_holds_57 rfl rfl (Nat.le_of_ble_eq_true rfl) (Nat.le_of_ble_eq_true rfl) (⟨rfl, rfl⟩)
    · rw [decide_eq_true hc]
      refine rr_iconst 1 d_Ma_holds_52 rfl ?_
      refine rr_goto 57 d_Ma_holds_53 (by decide) ?_
      exact rr_ireturn d_Ma_holds_57 rfl rfl (Nat.le_of_ble_eq_true rfl) (Nat.le_of_ble_eq_true rfl) (⟨rfl, rfl⟩)
  · rw [show sp_cv 12 (fs n) (fs (n + 1)) = decide (fs n < fs (n + 1)) from rfl]
    refine rr_tin 58 47 d_Ma_holds_11 (by decide) (by decide) rfl (by decide) ?_
    refine rr_iload_n d_Ma_holds_58 rfl rfl ?_
    refine rr_iload_n d_Ma_holds_59 rfl rfl ?_
    refine rr_icmp_ge 67 d_Ma_holds_60 (by decide) (fun hc => ?_) (fun hc => ?_)
    · rw [decide_eq_false (Int32.not_lt.mpr hc)]
      refine rr_iconst 0 d_Ma_holds_67 rfl ?_
      exact rr_ireturn d_Ma_holds_68 rfl rfl (Nat.le_of_ble_eq_true rfl) (Nat.le_of_ble_eq_true rfl) (⟨rfl, rfl⟩)
    · rw [decide_eq_true (Int32.not_le.mp hc)]
      refine rr_iconst 1 d_Ma_holds_63 rfl ?_
      refine rr_goto 68 d_Ma_holds_64 (by decide) ?_
      exact rr_ireturn d_Ma_holds_68 rfl rfl (Nat.le_of_ble_eq_true rfl) (Nat.le_of_ble_eq_true rfl) (⟨rfl, rfl⟩)
  · rw [show sp_cv 13 (fs n) (fs (n + 1)) = decide (fs (n + 1) < fs n) from rfl]
    refine rr_tout 69 d_Ma_holds_11 (by decide) (by decide) ?_
    refine rr_iload_n d_Ma_holds_69 rfl rfl ?_
    refine rr_iload_n d_Ma_holds_70 rfl rfl ?_
    refine rr_icmp_le 78 d_Ma_holds_71 (by decide) (fun hc => ?_) (fun hc => ?_)
    · rw [decide_eq_false (Int32.not_lt.mpr hc)]
      refine rr_iconst 0 d_Ma_holds_78 rfl ?_
      exact rr_ireturn d_Ma_holds_79 rfl rfl (Nat.le_of_ble_eq_true rfl) (Nat.le_of_ble_eq_true rfl) (⟨rfl, rfl⟩)
    · rw [decide_eq_true (Int32.not_le.mp hc)]
      refine rr_iconst 1 d_Ma_holds_74 rfl ?_
      refine rr_goto 79 d_Ma_holds_75 (by decide) ?_
      exact rr_ireturn d_Ma_holds_79 rfl rfl (Nat.le_of_ble_eq_true rfl) (Nat.le_of_ble_eq_true rfl) (⟨rfl, rfl⟩)

set_option maxRecDepth 100000 in
set_option maxHeartbeats 4000000 in
theorem s_Ma_addEffect {x0 x1 x2 x3 x4 x5 x6 x7 x8 x9 x10 x11 x13 x14 : va_E} {g : rr_H} {hg cg ru : Int32} {ec ev : Nat → Int32} {m : Nat} {c v : Int32} (hm : m < 8) : rr_Spec 0 y_Ma_addEffect c_Ma_addEffect 3 none 0 0 [.ref 12, .int c, .int v] (x0 :: x1 :: x2 :: x3 :: x4 :: x5 :: x6 :: x7 :: x8 :: x9 :: x10 :: x11 :: .inr (1, [.ref 13, .ref 14, .int hg, .ref 15, .ref 16, .int (nI m), .ref 17, .ref 18, .int cg, .ref 19, .int ru]) :: x13 :: x14 :: .inl (0, 8, .inl (ec)) :: .inl (0, 8, .inl (ev)) :: g) (fun r h1 => r = none ∧ h1 = x0 :: x1 :: x2 :: x3 :: x4 :: x5 :: x6 :: x7 :: x8 :: x9 :: x10 :: x11 :: .inr (1, [.ref 13, .ref 14, .int hg, .ref 15, .ref 16, .int (nI (m + 1)), .ref 17, .ref 18, .int cg, .ref 19, .int ru]) :: x13 :: x14 :: .inl (0, 8, .inl (upd ec m c)) :: .inl (0, 8, .inl (upd ev m v)) :: g) := by
  refine rr_met (own := R_Ma) (kd := (false, none)) (by decide +kernel) rfl (fun h => by cases h) rfl (Nat.le_of_ble_eq_true rfl) ?_
  refine rr_aload_n d_Ma_addEffect_0 rfl rfl ?_
  refine rr_getf d_Ma_addEffect_1 fl_Ma_58 rfl rfl ?_
  refine rr_bipush 8 d_Ma_addEffect_4 rfl ?_
  refine rr_icmp_ge 39 d_Ma_addEffect_6 (by decide) (fun c9 => absurd c9 (nI_ge (a := m) (b := 8) hm (by decide))) (fun _ => ?_)
  refine rr_aload_n d_Ma_addEffect_9 rfl rfl ?_
  refine rr_getf d_Ma_addEffect_10 fl_Ma_18 rfl rfl ?_
  refine rr_aload_n d_Ma_addEffect_13 rfl rfl ?_
  refine rr_getf d_Ma_addEffect_14 fl_Ma_58 rfl rfl ?_
  refine rr_iload_n d_Ma_addEffect_17 rfl rfl ?_
  refine rr_iast d_Ma_addEffect_18 rfl (vp_in_nI hm (by decide)) ?_
  refine rr_aload_n d_Ma_addEffect_19 rfl rfl ?_
  refine rr_getf d_Ma_addEffect_20 fl_Ma_21 rfl rfl ?_
  refine rr_aload_n d_Ma_addEffect_23 rfl rfl ?_
  refine rr_getf d_Ma_addEffect_24 fl_Ma_58 rfl rfl ?_
  refine rr_iload_n d_Ma_addEffect_27 rfl rfl ?_
  refine rr_iast d_Ma_addEffect_28 rfl (vp_in_nI hm (by decide)) ?_
  refine rr_aload_n d_Ma_addEffect_29 rfl rfl ?_
  refine rr_dup d_Ma_addEffect_30 rfl ?_
  refine rr_getf d_Ma_addEffect_31 fl_Ma_58 rfl rfl ?_
  refine rr_iconst 1 d_Ma_addEffect_34 rfl ?_
  refine rr_iadd d_Ma_addEffect_35 ?_
  refine rr_putf d_Ma_addEffect_36 fl_Ma_58 rfl rfl rfl rfl ?_
  rw [nI_1, nI_clamp (by omega)]
  exact rr_return d_Ma_addEffect_39 rfl (Nat.le_of_ble_eq_true rfl) (Nat.le_of_ble_eq_true rfl) (⟨rfl, rfl⟩)
end
section
/-! Is a rule taken; its effects. -/
/-- an expression that can be done: with k parts -/
def gi (x : sp_I) : Prop := sp_ht x 0 = some 1 ∧ sp_ce x
def gc (c : sp_C) : Prop := gi c.1 ∧ gi c.2.1 ∧ 1 + sp_np c.2.1 ≤ 80 ∧ sp_np c.1 ≤ 80 ∧ (c.2.2 = 10 ∨ c.2.2 = 11 ∨ c.2.2 = 12 ∨ c.2.2 = 13)
def gf (e : sp_F) : Prop := gi e.2 ∧ sp_np e.2 ≤ 80 ∧ ∃ c : Nat, c < 32 ∧ e.1 = nI c
def gu (u : sp_U) : Prop := (∀ c ∈ u.1, gc c) ∧ (∀ e ∈ u.2, gf e) ∧ u.2.length ≤ 8
def sp_ts (fc : Nat → Int32) (sv sp : Int32) (ts : List sp_C) : Bool := ts.all (fun c => sp_cv c.2.2 (sp_val fc sv sp c.1) (sp_val fc sv sp c.2.1))
def sp_es (fc : Nat → Int32) (sv sp : Int32) (es : List sp_F) : List (Int32 × Int32) := es.map (fun e => (e.1, sp_val fc sv sp e.2))
/-- the items x stand in the rows from place i on -/
def at_c (ck cv : Nat → Int32) (i : Nat) (x : sp_I) : Prop := ∀ (k : Nat) (q : Nat × Int32), x[k]? = some q → ck (i + k) = nI q.1 ∧ cv (i + k) = q.2
theorem at_c_app {ck cv : Nat → Int32} {i : Nat} {x y : sp_I} (h : at_c ck cv i (x ++ y)) : at_c ck cv i x ∧ at_c ck cv (i + x.length) y := by
  refine ⟨fun k q hq => h k q ?_, fun k q hq => ?_⟩
  · rw [List.getElem?_append_left (List.getElem?_eq_some_iff.mp hq).1]
    exact hq
  · rw [Nat.add_assoc]
    refine h (x.length + k) q ?_
    rw [List.getElem?_append_right (by omega), Nat.add_sub_cancel_left]
    exact hq
theorem at_c_hd {ck cv : Nat → Int32} {i : Nat} {q : Nat × Int32} {x : sp_I} (h : at_c ck cv i (q :: x)) : ck i = nI q.1 ∧ cv i = q.2 ∧ at_c ck cv (i + 1) x := by
  refine ⟨(h 0 q rfl).1, (h 0 q rfl).2, fun k r hr => ?_⟩
  have := h (k + 1) r (by rw [List.getElem?_cons_succ]; exact hr)
  rwa [show i + (k + 1) = i + 1 + k by omega] at this

set_option maxRecDepth 100000 in
set_option maxHeartbeats 4000000 in
theorem l_items {x0 x1 x2 x3 x4 x5 x6 x7 x8 x9 x10 x11 x17 x18 x19 : va_E} {g : rr_H} {cg ru s0 r0 b0 sv sp : Int32} {fc ck cv : Nat → Int32} {e : Nat} {Q : Option Value → rr_H → Prop} {m n2 : Nat} {ec ev : Nat → Int32} (he : e ≤ 160) : ∀ (x : sp_I) (i n : Nat) (fs : Nat → Int32), at_c ck cv i x → i + x.length ≤ e → sp_ht x n = some n2 → n + sp_np x ≤ 80 → sp_ce x → (∀ fs2 : Nat → Int32, st_of fs2 n2 = sp_ev fc sv sp x (st_of fs n) → rr_A R_Ma c_Ma_isTaken 7 (some .boolean) (false, none) { frames := 2, cells := 0, slots := 0, locals := 2 * 64 } (Q) 0 0 13 [(6, .int (nI (i + x.length))), (0, .ref 12), (1, .ref 20), (2, .int b0), (3, .int (nI e)), (4, .int sv), (5, .int sp)] [] (x0 :: x1 :: x2 :: x3 :: x4 :: x5 :: x6 :: x7 :: x8 :: x9 :: x10 :: x11 :: .inr (1, [.ref 13, .ref 14, .int (nI n2), .ref 15, .ref 16, .int (nI m), .ref 17, .ref 18, .int cg, .ref 19, .int ru]) :: .inl (0, 32, .inl (fc)) :: .inl (0, 80, .inl (fs2)) :: .inl (0, 8, .inl (ec)) :: .inl (0, 8, .inl (ev)) :: x17 :: x18 :: x19 :: .inr (0, [.ref 21, .ref 22, .ref 23, .int s0, .int r0]) :: .inl (0, 160, .inl ck) :: .inl (0, 160, .inl cv) :: g)) → rr_A R_Ma c_Ma_isTaken 7 (some .boolean) (false, none) { frames := 2, cells := 0, slots := 0, locals := 2 * 64 } (Q) 0 0 13 [(6, .int (nI i)), (0, .ref 12), (1, .ref 20), (2, .int b0), (3, .int (nI e)), (4, .int sv), (5, .int sp)] [] (x0 :: x1 :: x2 :: x3 :: x4 :: x5 :: x6 :: x7 :: x8 :: x9 :: x10 :: x11 :: .inr (1, [.ref 13, .ref 14, .int (nI n), .ref 15, .ref 16, .int (nI m), .ref 17, .ref 18, .int cg, .ref 19, .int ru]) :: .inl (0, 32, .inl (fc)) :: .inl (0, 80, .inl (fs)) :: .inl (0, 8, .inl (ec)) :: .inl (0, 8, .inl (ev)) :: x17 :: x18 :: x19 :: .inr (0, [.ref 21, .ref 22, .ref 23, .int s0, .int r0]) :: .inl (0, 160, .inl ck) :: .inl (0, 160, .inl cv) :: g) := by
  intro x
  induction x with
  | nil =>
    intro i n fs ha hi hh hb hce k
    cases hh
    exact k fs rfl
  | cons q x ih =>
    intro i n fs ha hi hh hb hce k
    obtain ⟨a1, a2, a3⟩ := at_c_hd ha
    have hlen : (q :: x).length = x.length + 1 := rfl
    rw [hlen] at hi
    have hce2 : sp_ce x := fun r hr => hce r (List.mem_cons_of_mem _ hr)
    have hnp : sp_np (q :: x) = (if sp_psh q.1 = true then 1 else 0) + sp_np x := rfl
    unfold sp_ht at hh
    refine rr_iload d_Ma_isTaken_13 rfl ?_
    refine rr_iload_n d_Ma_isTaken_15 rfl rfl ?_
    refine rr_icmp_ge 193 d_Ma_isTaken_16 (by decide) (fun c9 => absurd c9 (nI_ge (a := i) (b := e) (by omega) (by omega))) (fun _ => ?_)
    refine rr_aload_n d_Ma_isTaken_19 rfl rfl ?_
    refine rr_getf d_Ma_isTaken_20 fl_Ma_61 rfl rfl ?_
    refine rr_iload d_Ma_isTaken_23 rfl ?_
    refine rr_iald d_Ma_isTaken_25 rfl (vp_in_nI (n := i) (by omega) (by decide)) ?_
    rw [nI_clamp (by omega), a1]
    have hiv : vp_in (nI i) 160 := vp_in_nI (n := i) (by omega) (by decide)
    by_cases hp : sp_psh q.1 = true
    · rw [if_pos hp] at hh
      rw [hnp, if_pos hp] at hb
      have nx : ∀ v : Int32, sp_it fc sv sp q (st_of fs n) = v :: st_of fs n → rr_A R_Ma c_Ma_isTaken 7 (some .boolean) (false, none) { frames := 2, cells := 0, slots := 0, locals := 2 * 64 } (Q) 0 0 187 [(6, .int (nI i)), (0, .ref 12), (1, .ref 20), (2, .int b0), (3, .int (nI e)), (4, .int sv), (5, .int sp)] [] (x0 :: x1 :: x2 :: x3 :: x4 :: x5 :: x6 :: x7 :: x8 :: x9 :: x10 :: x11 :: .inr (1, [.ref 13, .ref 14, .int (nI (n + 1)), .ref 15, .ref 16, .int (nI m), .ref 17, .ref 18, .int cg, .ref 19, .int ru]) :: .inl (0, 32, .inl (fc)) :: .inl (0, 80, .inl (upd fs n v)) :: .inl (0, 8, .inl (ec)) :: .inl (0, 8, .inl (ev)) :: x17 :: x18 :: x19 :: .inr (0, [.ref 21, .ref 22, .ref 23, .int s0, .int r0]) :: .inl (0, 160, .inl ck) :: .inl (0, 160, .inl cv) :: g) := by
        intro v hv
        refine rr_iinc 1 d_Ma_isTaken_187 rfl rfl (by decide) ?_
        refine rr_goto 13 d_Ma_isTaken_190 (by decide) ?_
        rw [nI_1]
        refine rr_lvs _ rfl (ih (i + 1) (n + 1) (upd fs n v) a3 (by omega) hh (by omega) hce2 (fun fs2 h2 => ?_))
        have := k fs2 (by rw [h2, st_of_push, ← hv]; rfl)
        rwa [hlen, show i + (x.length + 1) = i + 1 + x.length by omega] at this
      have hq : q.1 = 9 ∨ q.1 = 8 ∨ q.1 = 6 ∨ q.1 = 7 := by simpa [sp_psh, or_assoc] using hp
      rcases hq with hq | hq | hq | hq
      · rw [hq]
        refine rr_tin 88 62 d_Ma_isTaken_26 (by decide) (by decide) rfl (by decide) ?_
        refine rr_aload_n d_Ma_isTaken_88 rfl rfl ?_
        refine rr_aload_n d_Ma_isTaken_89 rfl rfl ?_
        refine rr_getf d_Ma_isTaken_90 fl_Ma_64 rfl rfl ?_
        refine rr_iload d_Ma_isTaken_93 rfl ?_
        refine rr_iald d_Ma_isTaken_95 rfl (hiv) ?_
        rw [nI_clamp (by omega), a2]
        refine rr_callV d_Ma_isTaken_96 il_Ma_67 m_Ma_push (s_Ma_push (n := n) (by omega)) rfl rfl rfl rfl (Nat.le_of_ble_eq_true rfl) (Nat.le_of_ble_eq_true rfl) (Nat.le_of_ble_eq_true rfl) (Nat.le_of_ble_eq_true rfl) (Nat.le_of_ble_eq_true rfl) (fun r h1 hq => ?_)
        obtain ⟨rfl, rfl⟩ := hq
        refine rr_goto 187 d_Ma_isTaken_99 (by decide) ?_
        exact nx q.2 (by unfold sp_it; simp [hq])
      · rw [hq]
        refine rr_tin 102 76 d_Ma_isTaken_26 (by decide) (by decide) rfl (by decide) ?_
        obtain ⟨c, hc, ec2⟩ := hce q List.mem_cons_self hq
        refine rr_aload_n d_Ma_isTaken_102 rfl rfl ?_
        refine rr_aload_n d_Ma_isTaken_103 rfl rfl ?_
        refine rr_getf d_Ma_isTaken_104 fl_Ma_9 rfl rfl ?_
        refine rr_aload_n d_Ma_isTaken_107 rfl rfl ?_
        refine rr_getf d_Ma_isTaken_108 fl_Ma_64 rfl rfl ?_
        refine rr_iload d_Ma_isTaken_111 rfl ?_
        refine rr_iald d_Ma_isTaken_113 rfl (hiv) ?_
        refine rr_iald d_Ma_isTaken_114 rfl (show vp_in (cv (nI i).toNatClampNeg) 32 by rw [nI_clamp (by omega), a2, ec2]; exact vp_in_nI hc (by decide)) ?_
        rw [nI_clamp (n := i) (by omega), a2]
        refine rr_callV d_Ma_isTaken_115 il_Ma_67 m_Ma_push (s_Ma_push (n := n) (by omega)) rfl rfl rfl rfl (Nat.le_of_ble_eq_true rfl) (Nat.le_of_ble_eq_true rfl) (Nat.le_of_ble_eq_true rfl) (Nat.le_of_ble_eq_true rfl) (Nat.le_of_ble_eq_true rfl) (fun r h1 hq => ?_)
        obtain ⟨rfl, rfl⟩ := hq
        refine rr_goto 187 d_Ma_isTaken_118 (by decide) ?_
        exact nx (fc q.2.toNatClampNeg) (by unfold sp_it; simp [hq])
      · rw [hq]
        refine rr_tin 121 95 d_Ma_isTaken_26 (by decide) (by decide) rfl (by decide) ?_
        refine rr_aload_n d_Ma_isTaken_121 rfl rfl ?_
        refine rr_iload d_Ma_isTaken_122 rfl ?_
        refine rr_callV d_Ma_isTaken_124 il_Ma_67 m_Ma_push (s_Ma_push (n := n) (by omega)) rfl rfl rfl rfl (Nat.le_of_ble_eq_true rfl) (Nat.le_of_ble_eq_true rfl) (Nat.le_of_ble_eq_true rfl) (Nat.le_of_ble_eq_true rfl) (Nat.le_of_ble_eq_true rfl) (fun r h1 hq => ?_)
        obtain ⟨rfl, rfl⟩ := hq
        refine rr_goto 187 d_Ma_isTaken_127 (by decide) ?_
        exact nx sv (by unfold sp_it; simp [hq])
      · rw [hq]
        refine rr_tin 130 104 d_Ma_isTaken_26 (by decide) (by decide) rfl (by decide) ?_
        refine rr_aload_n d_Ma_isTaken_130 rfl rfl ?_
        refine rr_iload d_Ma_isTaken_131 rfl ?_
        refine rr_callV d_Ma_isTaken_133 il_Ma_67 m_Ma_push (s_Ma_push (n := n) (by omega)) rfl rfl rfl rfl (Nat.le_of_ble_eq_true rfl) (Nat.le_of_ble_eq_true rfl) (Nat.le_of_ble_eq_true rfl) (Nat.le_of_ble_eq_true rfl) (Nat.le_of_ble_eq_true rfl) (fun r h1 hq => ?_)
        obtain ⟨rfl, rfl⟩ := hq
        refine rr_goto 187 d_Ma_isTaken_136 (by decide) ?_
        exact nx sp (by unfold sp_it; simp [hq])
    · rw [if_neg hp] at hh
      rw [hnp, if_neg hp] at hb
      by_cases h2 : sp_isop q.1 = true ∧ 2 ≤ n
      · rw [if_pos h2] at hh
        obtain ⟨j, rfl⟩ : ∃ j, n = j + 2 := ⟨n - 2, by omega⟩
        have nx : rr_A R_Ma c_Ma_isTaken 7 (some .boolean) (false, none) { frames := 2, cells := 0, slots := 0, locals := 2 * 64 } (Q) 0 0 187 [(6, .int (nI i)), (0, .ref 12), (1, .ref 20), (2, .int b0), (3, .int (nI e)), (4, .int sv), (5, .int sp)] [] (x0 :: x1 :: x2 :: x3 :: x4 :: x5 :: x6 :: x7 :: x8 :: x9 :: x10 :: x11 :: .inr (1, [.ref 13, .ref 14, .int (nI (j + 1)), .ref 15, .ref 16, .int (nI m), .ref 17, .ref 18, .int cg, .ref 19, .int ru]) :: .inl (0, 32, .inl (fc)) :: .inl (0, 80, .inl (upd fs j (sp_op q.1 (fs j) (fs (j + 1))))) :: .inl (0, 8, .inl (ec)) :: .inl (0, 8, .inl (ev)) :: x17 :: x18 :: x19 :: .inr (0, [.ref 21, .ref 22, .ref 23, .int s0, .int r0]) :: .inl (0, 160, .inl ck) :: .inl (0, 160, .inl cv) :: g) := by
          refine rr_iinc 1 d_Ma_isTaken_187 rfl rfl (by decide) ?_
          refine rr_goto 13 d_Ma_isTaken_190 (by decide) ?_
          rw [nI_1]
          refine rr_lvs _ rfl (ih (i + 1) (j + 1) _ a3 (by omega) hh (by omega) hce2 (fun fs2 h3 => ?_))
          have := k fs2 (by
            rw [h3, st_of_push]
            show _ = sp_ev fc sv sp x (sp_it fc sv sp q (fs (j + 1) :: fs j :: st_of fs j))
            rw [sp_it_op hp])
          rwa [hlen, show i + (x.length + 1) = i + 1 + x.length by omega] at this
        have hq : q.1 = 14 ∨ q.1 = 15 ∨ q.1 = 16 := by simpa [sp_isop, or_assoc] using h2.1
        have hq2 := hq
        rcases hq with hq | hq | hq
        · rw [hq] at nx a1 hq2 ⊢
          refine rr_tin 157 131 d_Ma_isTaken_26 (by decide) (by decide) rfl (by decide) ?_
          refine rr_aload_n d_Ma_isTaken_157 rfl rfl ?_
          refine rr_aload_n d_Ma_isTaken_158 rfl rfl ?_
          refine rr_getf d_Ma_isTaken_159 fl_Ma_61 rfl rfl ?_
          refine rr_iload d_Ma_isTaken_162 rfl ?_
          refine rr_iald d_Ma_isTaken_164 rfl (hiv) ?_
          rw [nI_clamp (by omega), a1]
          refine rr_callV d_Ma_isTaken_165 il_Ma_79 m_Ma_calculate (s_Ma_calculate (n := j) (k := 14) (by omega) hq2) rfl rfl rfl rfl (Nat.le_of_ble_eq_true rfl) (Nat.le_of_ble_eq_true rfl) (Nat.le_of_ble_eq_true rfl) (Nat.le_of_ble_eq_true rfl) (Nat.le_of_ble_eq_true rfl) (fun r h1 hq => ?_)
          obtain ⟨rfl, rfl⟩ := hq
          refine rr_goto 187 d_Ma_isTaken_168 (by decide) ?_
          exact nx
        · rw [hq] at nx a1 hq2 ⊢
          refine rr_tin 157 131 d_Ma_isTaken_26 (by decide) (by decide) rfl (by decide) ?_
          refine rr_aload_n d_Ma_isTaken_157 rfl rfl ?_
          refine rr_aload_n d_Ma_isTaken_158 rfl rfl ?_
          refine rr_getf d_Ma_isTaken_159 fl_Ma_61 rfl rfl ?_
          refine rr_iload d_Ma_isTaken_162 rfl ?_
          refine rr_iald d_Ma_isTaken_164 rfl (hiv) ?_
          rw [nI_clamp (by omega), a1]
          refine rr_callV d_Ma_isTaken_165 il_Ma_79 m_Ma_calculate (s_Ma_calculate (n := j) (k := 15) (by omega) hq2) rfl rfl rfl rfl (Nat.le_of_ble_eq_true rfl) (Nat.le_of_ble_eq_true rfl) (Nat.le_of_ble_eq_true rfl) (Nat.le_of_ble_eq_true rfl) (Nat.le_of_ble_eq_true rfl) (fun r h1 hq => ?_)
          obtain ⟨rfl, rfl⟩ := hq
          refine rr_goto 187 d_Ma_isTaken_168 (by decide) ?_
          exact nx
        · rw [hq] at nx a1 hq2 ⊢
          refine rr_tin 157 131 d_Ma_isTaken_26 (by decide) (by decide) rfl (by decide) ?_
          refine rr_aload_n d_Ma_isTaken_157 rfl rfl ?_
          refine rr_aload_n d_Ma_isTaken_158 rfl rfl ?_
          refine rr_getf d_Ma_isTaken_159 fl_Ma_61 rfl rfl ?_
          refine rr_iload d_Ma_isTaken_162 rfl ?_
          refine rr_iald d_Ma_isTaken_164 rfl (hiv) ?_
          rw [nI_clamp (by omega), a1]
          refine rr_callV d_Ma_isTaken_165 il_Ma_79 m_Ma_calculate (s_Ma_calculate (n := j) (k := 16) (by omega) hq2) rfl rfl rfl rfl (Nat.le_of_ble_eq_true rfl) (Nat.le_of_ble_eq_true rfl) (Nat.le_of_ble_eq_true rfl) (Nat.le_of_ble_eq_true rfl) (Nat.le_of_ble_eq_true rfl) (fun r h1 hq => ?_)
          obtain ⟨rfl, rfl⟩ := hq
          refine rr_goto 187 d_Ma_isTaken_168 (by decide) ?_
          exact nx
      · rw [if_neg h2] at hh
        cases hh

set_option maxRecDepth 100000 in
set_option maxHeartbeats 4000000 in
theorem l_effs {x0 x1 x2 x3 x4 x5 x6 x7 x8 x9 x10 x11 x17 x18 x19 : va_E} {g : rr_H} {cg ru s0 r0 b0 sv sp : Int32} {fc ck cv : Nat → Int32} {e : Nat} (he : e ≤ 160) {Q : Option Value → rr_H → Prop} : ∀ (es : List sp_F) (i m : Nat) (fs ec ev : Nat → Int32), at_c ck cv i (es.flatMap fl_f) → i + (es.flatMap fl_f).length = e → (∀ q ∈ es, gf q) → m + es.length ≤ 8 → (∀ r h1, (fun r h1 => ∃ (n2 : Int32) (fs2 : Nat → Int32), r = some (.int 1) ∧ h1 = x0 :: x1 :: x2 :: x3 :: x4 :: x5 :: x6 :: x7 :: x8 :: x9 :: x10 :: x11 :: .inr (1, [.ref 13, .ref 14, .int n2, .ref 15, .ref 16, .int (nI (m + es.length)), .ref 17, .ref 18, .int cg, .ref 19, .int ru]) :: .inl (0, 32, .inl (fc)) :: .inl (0, 80, .inl (fs2)) :: .inl (0, 8, .inl (sp_wr ec m (es.map fun q => q.1))) :: .inl (0, 8, .inl (sp_wr ev m (es.map fun q => sp_val fc sv sp q.2))) :: x17 :: x18 :: x19 :: .inr (0, [.ref 21, .ref 22, .ref 23, .int s0, .int r0]) :: .inl (0, 160, .inl ck) :: .inl (0, 160, .inl cv) :: g) r h1 → Q r h1) → rr_A R_Ma c_Ma_isTaken 7 (some .boolean) (false, none) { frames := 2, cells := 0, slots := 0, locals := 2 * 64 } (Q) 0 0 13 [(6, .int (nI i)), (0, .ref 12), (1, .ref 20), (2, .int b0), (3, .int (nI e)), (4, .int sv), (5, .int sp)] [] (x0 :: x1 :: x2 :: x3 :: x4 :: x5 :: x6 :: x7 :: x8 :: x9 :: x10 :: x11 :: .inr (1, [.ref 13, .ref 14, .int (nI 0), .ref 15, .ref 16, .int (nI m), .ref 17, .ref 18, .int cg, .ref 19, .int ru]) :: .inl (0, 32, .inl (fc)) :: .inl (0, 80, .inl (fs)) :: .inl (0, 8, .inl (ec)) :: .inl (0, 8, .inl (ev)) :: x17 :: x18 :: x19 :: .inr (0, [.ref 21, .ref 22, .ref 23, .int s0, .int r0]) :: .inl (0, 160, .inl ck) :: .inl (0, 160, .inl cv) :: g) := by
  intro es
  induction es with
  | nil =>
    intro i m fs ec ev ha hi hg hm hQ
    simp only [List.flatMap_nil, List.length_nil] at hi
    refine rr_iload d_Ma_isTaken_13 rfl ?_
    refine rr_iload_n d_Ma_isTaken_15 rfl rfl ?_
    refine rr_icmp_ge 193 d_Ma_isTaken_16 (by decide) (fun _ => ?_) (fun c9 => absurd (nI_le (by omega) (by omega)) c9)
    refine rr_iconst 1 d_Ma_isTaken_193 rfl ?_
    exact rr_ireturn d_Ma_isTaken_194 rfl rfl (Nat.le_of_ble_eq_true rfl) (Nat.le_of_ble_eq_true rfl) (hQ _ _ ⟨_, _, rfl, rfl⟩)
  | cons q es ih =>
    intro i m fs ec ev ha hi hg hm hQ
    have hm2 : m + (es.length + 1) ≤ 8 := hm
    obtain ⟨g1, g2, c, hc, g3⟩ := hg q List.mem_cons_self
    have hfl : (q :: es).flatMap fl_f = q.2 ++ ([(17, q.1)] ++ es.flatMap fl_f) := by
      rw [List.flatMap_cons]
      simp [fl_f]
    rw [hfl] at ha hi
    obtain ⟨b1, b2⟩ := at_c_app ha
    obtain ⟨d1, d2, d3⟩ := at_c_hd b2
    simp only [List.length_append, List.length_cons, List.length_nil] at hi
    refine l_items he q.2 i 0 fs b1 (by omega) g1.1 (by omega) g1.2 (fun fs2 h2 => ?_)
    rw [sp_ev_val g1.1] at h2
    have hv : fs2 0 = sp_val fc sv sp q.2 := (List.cons.inj h2).1
    have hiv : vp_in (nI (i + q.2.length)) 160 := vp_in_nI (by omega) (by decide)
    refine rr_iload d_Ma_isTaken_13 rfl ?_
    refine rr_iload_n d_Ma_isTaken_15 rfl rfl ?_
    refine rr_icmp_ge 193 d_Ma_isTaken_16 (by decide) (fun c9 => absurd c9 (nI_ge (by omega) (by omega))) (fun _ => ?_)
    refine rr_aload_n d_Ma_isTaken_19 rfl rfl ?_
    refine rr_getf d_Ma_isTaken_20 fl_Ma_61 rfl rfl ?_
    refine rr_iload d_Ma_isTaken_23 rfl ?_
    refine rr_iald d_Ma_isTaken_25 rfl (hiv) ?_
    rw [nI_clamp (by omega), d1]
    dsimp only
    refine rr_tin 139 113 d_Ma_isTaken_26 (by decide) (by decide) rfl (by decide) ?_
    refine rr_aload_n d_Ma_isTaken_139 rfl rfl ?_
    refine rr_aload_n d_Ma_isTaken_140 rfl rfl ?_
    refine rr_getf d_Ma_isTaken_141 fl_Ma_64 rfl rfl ?_
    refine rr_iload d_Ma_isTaken_144 rfl ?_
    refine rr_iald d_Ma_isTaken_146 rfl (hiv) ?_
    refine rr_aload_n d_Ma_isTaken_147 rfl rfl ?_
    rw [nI_clamp (by omega), d2]
    refine rr_callV d_Ma_isTaken_148 il_Ma_71 m_Ma_pop (s_Ma_pop (n := 0) (by omega)) rfl rfl rfl rfl (Nat.le_of_ble_eq_true rfl) (Nat.le_of_ble_eq_true rfl) (Nat.le_of_ble_eq_true rfl) (Nat.le_of_ble_eq_true rfl) (Nat.le_of_ble_eq_true rfl) (fun r h1 hq => ?_)
    obtain ⟨rfl, rfl⟩ := hq
    refine rr_callV d_Ma_isTaken_151 il_Ma_75 m_Ma_addEffect (s_Ma_addEffect (m := m) (by omega)) rfl rfl rfl rfl (Nat.le_of_ble_eq_true rfl) (Nat.le_of_ble_eq_true rfl) (Nat.le_of_ble_eq_true rfl) (Nat.le_of_ble_eq_true rfl) (Nat.le_of_ble_eq_true rfl) (fun r h1 hq => ?_)
    obtain ⟨rfl, rfl⟩ := hq
    refine rr_goto 187 d_Ma_isTaken_154 (by decide) ?_
    refine rr_iinc 1 d_Ma_isTaken_187 rfl rfl (by decide) ?_
    refine rr_goto 13 d_Ma_isTaken_190 (by decide) ?_
    rw [nI_1, hv]
    refine rr_lvs _ rfl (ih (i + q.2.length + 1) (m + 1) fs2 _ _ d3 (by omega) (fun r hr => hg r (List.mem_cons_of_mem _ hr)) (by omega) ?_)
    rintro r h1 ⟨n2, fs3, hr, hh⟩
    refine hQ r h1 ⟨n2, fs3, hr, ?_⟩
    rw [hh, show m + 1 + es.length = m + (q :: es).length by simp; omega]
    rfl

set_option maxRecDepth 100000 in
set_option maxHeartbeats 4000000 in
theorem l_tests {x0 x1 x2 x3 x4 x5 x6 x7 x8 x9 x10 x11 x17 x18 x19 : va_E} {g : rr_H} {cg ru s0 r0 b0 sv sp : Int32} {fc ck cv : Nat → Int32} {e : Nat} {ec ev : Nat → Int32} (he : e ≤ 160) (es : List sp_F) (hes : ∀ q ∈ es, gf q) (hel : es.length ≤ 8) : ∀ (ts : List sp_C) (i : Nat) (fs : Nat → Int32), at_c ck cv i (ts.flatMap fl_c ++ es.flatMap fl_f) → i + (ts.flatMap fl_c ++ es.flatMap fl_f).length = e → (∀ c ∈ ts, gc c) → rr_A R_Ma c_Ma_isTaken 7 (some .boolean) (false, none) { frames := 2, cells := 0, slots := 0, locals := 2 * 64 } (fun r h1 => ∃ (n2 m2 : Int32) (fs2 ec2 ev2 : Nat → Int32), if sp_ts fc sv sp ts = true then (r = some (.int 1) ∧ h1 = x0 :: x1 :: x2 :: x3 :: x4 :: x5 :: x6 :: x7 :: x8 :: x9 :: x10 :: x11 :: .inr (1, [.ref 13, .ref 14, .int n2, .ref 15, .ref 16, .int (nI es.length), .ref 17, .ref 18, .int cg, .ref 19, .int ru]) :: .inl (0, 32, .inl (fc)) :: .inl (0, 80, .inl (fs2)) :: .inl (0, 8, .inl (sp_wr ec 0 (es.map fun q => q.1))) :: .inl (0, 8, .inl (sp_wr ev 0 (es.map fun q => sp_val fc sv sp q.2))) :: x17 :: x18 :: x19 :: .inr (0, [.ref 21, .ref 22, .ref 23, .int s0, .int r0]) :: .inl (0, 160, .inl ck) :: .inl (0, 160, .inl cv) :: g) else (r = some (.int 0) ∧ h1 = x0 :: x1 :: x2 :: x3 :: x4 :: x5 :: x6 :: x7 :: x8 :: x9 :: x10 :: x11 :: .inr (1, [.ref 13, .ref 14, .int n2, .ref 15, .ref 16, .int m2, .ref 17, .ref 18, .int cg, .ref 19, .int ru]) :: .inl (0, 32, .inl (fc)) :: .inl (0, 80, .inl (fs2)) :: .inl (0, 8, .inl (ec2)) :: .inl (0, 8, .inl (ev2)) :: x17 :: x18 :: x19 :: .inr (0, [.ref 21, .ref 22, .ref 23, .int s0, .int r0]) :: .inl (0, 160, .inl ck) :: .inl (0, 160, .inl cv) :: g)) 0 0 13 [(6, .int (nI i)), (0, .ref 12), (1, .ref 20), (2, .int b0), (3, .int (nI e)), (4, .int sv), (5, .int sp)] [] (x0 :: x1 :: x2 :: x3 :: x4 :: x5 :: x6 :: x7 :: x8 :: x9 :: x10 :: x11 :: .inr (1, [.ref 13, .ref 14, .int (nI 0), .ref 15, .ref 16, .int (nI 0), .ref 17, .ref 18, .int cg, .ref 19, .int ru]) :: .inl (0, 32, .inl (fc)) :: .inl (0, 80, .inl (fs)) :: .inl (0, 8, .inl (ec)) :: .inl (0, 8, .inl (ev)) :: x17 :: x18 :: x19 :: .inr (0, [.ref 21, .ref 22, .ref 23, .int s0, .int r0]) :: .inl (0, 160, .inl ck) :: .inl (0, 160, .inl cv) :: g) := by
  intro ts
  induction ts with
  | nil =>
    intro i fs ha hi hg
    simp only [List.flatMap_nil, List.nil_append] at ha hi
    refine l_effs he es i 0 fs ec ev ha hi hes (by omega) ?_
    rintro r h1 ⟨n2, fs2, hr, hh⟩
    refine ⟨n2, 0, fs2, ec, ev, ?_⟩
    rw [if_pos (show sp_ts fc sv sp [] = true from rfl)]
    rw [Nat.zero_add] at hh
    exact ⟨hr, hh⟩
  | cons c ts ih =>
    intro i fs ha hi hg
    obtain ⟨g1, g2, g3, g4, g5⟩ := hg c List.mem_cons_self
    have hfl : (c :: ts).flatMap fl_c ++ es.flatMap fl_f = c.1 ++ (c.2.1 ++ ([(c.2.2, 0)] ++ (ts.flatMap fl_c ++ es.flatMap fl_f))) := by
      rw [List.flatMap_cons]
      simp [fl_c]
    rw [hfl] at ha hi
    obtain ⟨b1, b2⟩ := at_c_app ha
    obtain ⟨b3, b4⟩ := at_c_app b2
    obtain ⟨d1, d2, d3⟩ := at_c_hd b4
    simp only [List.length_append, List.length_cons, List.length_nil] at hi
    refine l_items he c.1 i 0 fs b1 (by omega) g1.1 (by omega) g1.2 (fun fs2 h2 => ?_)
    rw [sp_ev_val g1.1] at h2
    have hv : fs2 0 = sp_val fc sv sp c.1 := (List.cons.inj h2).1
    refine l_items he c.2.1 (i + c.1.length) 1 fs2 b3 (by omega) (sp_ht_up _ 0 1 1 g2.1) (by omega) g2.2 (fun fs3 h3 => ?_)
    rw [sp_ev_val g2.1] at h3
    have hv1 : fs3 1 = sp_val fc sv sp c.2.1 := (List.cons.inj h3).1
    have hv0 : fs3 0 = sp_val fc sv sp c.1 := by rw [← hv]; exact (List.cons.inj (List.cons.inj h3).2).1
    have hiv : vp_in (nI (i + c.1.length + c.2.1.length)) 160 := vp_in_nI (by omega) (by decide)
    have hts : sp_ts fc sv sp (c :: ts) = (sp_cv c.2.2 (sp_val fc sv sp c.1) (sp_val fc sv sp c.2.1) && sp_ts fc sv sp ts) := rfl
    refine rr_iload d_Ma_isTaken_13 rfl ?_
    refine rr_iload_n d_Ma_isTaken_15 rfl rfl ?_
    refine rr_icmp_ge 193 d_Ma_isTaken_16 (by decide) (fun c9 => absurd c9 (nI_ge (by omega) (by omega))) (fun _ => ?_)
    refine rr_aload_n d_Ma_isTaken_19 rfl rfl ?_
    refine rr_getf d_Ma_isTaken_20 fl_Ma_61 rfl rfl ?_
    refine rr_iload d_Ma_isTaken_23 rfl ?_
    refine rr_iald d_Ma_isTaken_25 rfl (hiv) ?_
    rw [nI_clamp (by omega), d1]
    have go : rr_A R_Ma c_Ma_isTaken 7 (some .boolean) (false, none) { frames := 2, cells := 0, slots := 0, locals := 2 * 64 } (fun r h1 => ∃ (n2 m2 : Int32) (fs2 ec2 ev2 : Nat → Int32), if sp_ts fc sv sp (c :: ts) = true then (r = some (.int 1) ∧ h1 = x0 :: x1 :: x2 :: x3 :: x4 :: x5 :: x6 :: x7 :: x8 :: x9 :: x10 :: x11 :: .inr (1, [.ref 13, .ref 14, .int n2, .ref 15, .ref 16, .int (nI es.length), .ref 17, .ref 18, .int cg, .ref 19, .int ru]) :: .inl (0, 32, .inl (fc)) :: .inl (0, 80, .inl (fs2)) :: .inl (0, 8, .inl (sp_wr ec 0 (es.map fun q => q.1))) :: .inl (0, 8, .inl (sp_wr ev 0 (es.map fun q => sp_val fc sv sp q.2))) :: x17 :: x18 :: x19 :: .inr (0, [.ref 21, .ref 22, .ref 23, .int s0, .int r0]) :: .inl (0, 160, .inl ck) :: .inl (0, 160, .inl cv) :: g) else (r = some (.int 0) ∧ h1 = x0 :: x1 :: x2 :: x3 :: x4 :: x5 :: x6 :: x7 :: x8 :: x9 :: x10 :: x11 :: .inr (1, [.ref 13, .ref 14, .int n2, .ref 15, .ref 16, .int m2, .ref 17, .ref 18, .int cg, .ref 19, .int ru]) :: .inl (0, 32, .inl (fc)) :: .inl (0, 80, .inl (fs2)) :: .inl (0, 8, .inl (ec2)) :: .inl (0, 8, .inl (ev2)) :: x17 :: x18 :: x19 :: .inr (0, [.ref 21, .ref 22, .ref 23, .int s0, .int r0]) :: .inl (0, 160, .inl ck) :: .inl (0, 160, .inl cv) :: g)) 0 0 171 [(6, .int (nI (i + c.1.length + c.2.1.length))), (0, .ref 12), (1, .ref 20), (2, .int b0), (3, .int (nI e)), (4, .int sv), (5, .int sp)] [] (x0 :: x1 :: x2 :: x3 :: x4 :: x5 :: x6 :: x7 :: x8 :: x9 :: x10 :: x11 :: .inr (1, [.ref 13, .ref 14, .int (nI (1 + 1)), .ref 15, .ref 16, .int (nI 0), .ref 17, .ref 18, .int cg, .ref 19, .int ru]) :: .inl (0, 32, .inl (fc)) :: .inl (0, 80, .inl (fs3)) :: .inl (0, 8, .inl (ec)) :: .inl (0, 8, .inl (ev)) :: x17 :: x18 :: x19 :: .inr (0, [.ref 21, .ref 22, .ref 23, .int s0, .int r0]) :: .inl (0, 160, .inl ck) :: .inl (0, 160, .inl cv) :: g) := by
      refine rr_aload_n d_Ma_isTaken_171 rfl rfl ?_
      refine rr_aload_n d_Ma_isTaken_172 rfl rfl ?_
      refine rr_getf d_Ma_isTaken_173 fl_Ma_61 rfl rfl ?_
      refine rr_iload d_Ma_isTaken_176 rfl ?_
      refine rr_iald d_Ma_isTaken_178 rfl (hiv) ?_
      rw [nI_clamp (by omega), d1]
      refine rr_callV d_Ma_isTaken_179 il_Ma_82 m_Ma_holds (s_Ma_holds (n := 0) (k := c.2.2) (by omega) g5) rfl rfl rfl rfl (Nat.le_of_ble_eq_true rfl) (Nat.le_of_ble_eq_true rfl) (Nat.le_of_ble_eq_true rfl) (Nat.le_of_ble_eq_true rfl) (Nat.le_of_ble_eq_true rfl) (fun r h1 hq => ?_)
      obtain ⟨rfl, rfl⟩ := hq
      rw [hv0, hv1, hts]
      by_cases hc : sp_cv c.2.2 (sp_val fc sv sp c.1) (sp_val fc sv sp c.2.1) = true
      · rw [hc, Bool.true_and]
        refine rr_if_ne 187 d_Ma_isTaken_182 (by decide) (fun _ => ?_) (fun c9 => absurd c9 (by decide))
        refine rr_iinc 1 d_Ma_isTaken_187 rfl rfl (by decide) ?_
        refine rr_goto 13 d_Ma_isTaken_190 (by decide) ?_
        rw [nI_1]
        exact rr_lvs _ rfl (ih (i + c.1.length + c.2.1.length + 1) fs3 d3 (by simp only [List.length_append]; omega) (fun r hr => hg r (List.mem_cons_of_mem _ hr)))
      · rw [(Bool.not_eq_true _).mp hc, Bool.false_and]
        refine rr_if_ne 187 d_Ma_isTaken_182 (by decide) (fun c9 => absurd (rfl) c9) (fun _ => ?_)
        refine rr_iconst 0 d_Ma_isTaken_185 rfl ?_
        exact rr_ireturn d_Ma_isTaken_186 rfl rfl (Nat.le_of_ble_eq_true rfl) (Nat.le_of_ble_eq_true rfl) (⟨_, _, _, _, _, rfl, rfl⟩)
    have g5b := g5
    rcases g5b with q | q | q | q
    · rw [q]
      refine rr_tin 171 145 d_Ma_isTaken_26 (by decide) (by decide) rfl (by decide) ?_
      exact rr_lvs _ rfl go
    · rw [q]
      refine rr_tin 171 145 d_Ma_isTaken_26 (by decide) (by decide) rfl (by decide) ?_
      exact rr_lvs _ rfl go
    · rw [q]
      refine rr_tin 171 145 d_Ma_isTaken_26 (by decide) (by decide) rfl (by decide) ?_
      exact rr_lvs _ rfl go
    · rw [q]
      refine rr_tin 171 145 d_Ma_isTaken_26 (by decide) (by decide) rfl (by decide) ?_
      exact rr_lvs _ rfl go

set_option maxRecDepth 100000 in
set_option maxHeartbeats 4000000 in
theorem s_Ma_isTaken {x0 x1 x2 x3 x4 x5 x6 x7 x8 x9 x10 x11 x17 x18 x19 : va_E} {g : rr_H} {cg ru s0 r0 hg ef sv sp : Int32} {fc fs ec ev ck cv : Nat → Int32} {b e : Nat} (u : sp_U) (hu : gu u) (he : e ≤ 160) (ha : at_c ck cv b (fl_u u)) (hb : b + (fl_u u).length = e) : rr_Spec 2 y_Ma_isTaken c_Ma_isTaken 7 (some .boolean) 0 0 [.ref 12, .ref 20, .int (nI b), .int (nI e), .int sv, .int sp] (x0 :: x1 :: x2 :: x3 :: x4 :: x5 :: x6 :: x7 :: x8 :: x9 :: x10 :: x11 :: .inr (1, [.ref 13, .ref 14, .int hg, .ref 15, .ref 16, .int ef, .ref 17, .ref 18, .int cg, .ref 19, .int ru]) :: .inl (0, 32, .inl (fc)) :: .inl (0, 80, .inl (fs)) :: .inl (0, 8, .inl (ec)) :: .inl (0, 8, .inl (ev)) :: x17 :: x18 :: x19 :: .inr (0, [.ref 21, .ref 22, .ref 23, .int s0, .int r0]) :: .inl (0, 160, .inl ck) :: .inl (0, 160, .inl cv) :: g) (fun r h1 => ∃ (n2 m2 : Int32) (fs2 ec2 ev2 : Nat → Int32), if sp_ts fc sv sp u.1 = true then (r = some (.int 1) ∧ h1 = x0 :: x1 :: x2 :: x3 :: x4 :: x5 :: x6 :: x7 :: x8 :: x9 :: x10 :: x11 :: .inr (1, [.ref 13, .ref 14, .int n2, .ref 15, .ref 16, .int (nI u.2.length), .ref 17, .ref 18, .int cg, .ref 19, .int ru]) :: .inl (0, 32, .inl (fc)) :: .inl (0, 80, .inl (fs2)) :: .inl (0, 8, .inl (sp_wr ec 0 (u.2.map fun q => q.1))) :: .inl (0, 8, .inl (sp_wr ev 0 (u.2.map fun q => sp_val fc sv sp q.2))) :: x17 :: x18 :: x19 :: .inr (0, [.ref 21, .ref 22, .ref 23, .int s0, .int r0]) :: .inl (0, 160, .inl ck) :: .inl (0, 160, .inl cv) :: g) else (r = some (.int 0) ∧ h1 = x0 :: x1 :: x2 :: x3 :: x4 :: x5 :: x6 :: x7 :: x8 :: x9 :: x10 :: x11 :: .inr (1, [.ref 13, .ref 14, .int n2, .ref 15, .ref 16, .int m2, .ref 17, .ref 18, .int cg, .ref 19, .int ru]) :: .inl (0, 32, .inl (fc)) :: .inl (0, 80, .inl (fs2)) :: .inl (0, 8, .inl (ec2)) :: .inl (0, 8, .inl (ev2)) :: x17 :: x18 :: x19 :: .inr (0, [.ref 21, .ref 22, .ref 23, .int s0, .int r0]) :: .inl (0, 160, .inl ck) :: .inl (0, 160, .inl cv) :: g)) := by
  refine rr_met (own := R_Ma) (kd := (false, none)) (by decide +kernel) rfl (fun h => by cases h) rfl (Nat.le_of_ble_eq_true rfl) ?_
  refine rr_aload_n d_Ma_isTaken_0 rfl rfl ?_
  refine rr_iconst 0 d_Ma_isTaken_1 rfl ?_
  refine rr_putf d_Ma_isTaken_2 fl_Ma_55 rfl rfl rfl rfl ?_
  refine rr_aload_n d_Ma_isTaken_5 rfl rfl ?_
  refine rr_iconst 0 d_Ma_isTaken_6 rfl ?_
  refine rr_putf d_Ma_isTaken_7 fl_Ma_58 rfl rfl rfl rfl ?_
  refine rr_iload_n d_Ma_isTaken_10 rfl rfl ?_
  refine rr_istore d_Ma_isTaken_11 (by decide) ?_
  exact rr_lvs _ rfl (l_tests he u.2 hu.2.1 hu.2.2 u.1 b fs ha hb hu.1)
end
section
/-! Changes, runs, and back. -/
def ch_c : List (Nat × Int32) → (Nat → Int32) → (Nat → Int32)
  | [], f => f
  | q :: l, f => ch_c l (upd f q.1 q.2)
def ch_k : List (Nat × Int32) → (Nat → Int32) → Nat → (Nat → Int32)
  | [], cc, _ => cc
  | q :: l, cc, g => ch_k l (upd cc g (nI q.1)) (g + 1)
def ch_v : List (Nat × Int32) → (Nat → Int32) → (Nat → Int32) → Nat → (Nat → Int32)
  | [], _, cf, _ => cf
  | q :: l, f, cf, g => ch_v l (upd f q.1 q.2) (upd cf g (f q.1)) (g + 1)
def sp_eL (fc : Nat → Int32) (sv sp : Int32) (es : List sp_F) : List (Nat × Int32) := es.map (fun e => (e.1.toNatClampNeg, sp_val fc sv sp e.2))
def sp_pick (fc : Nat → Int32) (sv sp : Int32) : List sp_U → Nat → Option (Nat × List (Nat × Int32))
  | [], _ => none
  | u :: l, k => if sp_ts fc sv sp u.1 = true then some (k + 1, sp_eL fc sv sp u.2) else sp_pick fc sv sp l (k + 1)
/-- back: the last j changes from lo on are taken back -/
def rb (cc cf : Nat → Int32) (lo : Nat) : Nat → (Nat → Int32) → (Nat → Int32)
  | 0, f => f
  | j + 1, f => rb cc cf lo j (upd f (cc (lo + j)).toNatClampNeg (cf (lo + j)))

set_option maxRecDepth 100000 in
set_option maxHeartbeats 4000000 in
theorem s_Ma_change {x0 x1 x2 x3 x4 x5 x6 x7 x8 x9 x10 x11 x14 x15 x16 : va_E} {g0 : rr_H} {hg ef ru v : Int32} {fc cc cf : Nat → Int32} {g c : Nat} (hg0 : g < 1600) (hc : c < 32) : rr_Spec 1 y_Ma_change c_Ma_change 3 none 0 0 [.ref 12, .int (nI c), .int v] (x0 :: x1 :: x2 :: x3 :: x4 :: x5 :: x6 :: x7 :: x8 :: x9 :: x10 :: x11 :: .inr (1, [.ref 13, .ref 14, .int hg, .ref 15, .ref 16, .int ef, .ref 17, .ref 18, .int (nI g), .ref 19, .int ru]) :: .inl (0, 32, .inl (fc)) :: x14 :: x15 :: x16 :: .inl (0, 1600, .inl (cc)) :: .inl (0, 1600, .inl (cf)) :: g0) (fun r h1 => r = none ∧ h1 = x0 :: x1 :: x2 :: x3 :: x4 :: x5 :: x6 :: x7 :: x8 :: x9 :: x10 :: x11 :: .inr (1, [.ref 13, .ref 14, .int hg, .ref 15, .ref 16, .int ef, .ref 17, .ref 18, .int (nI (g + 1)), .ref 19, .int ru]) :: .inl (0, 32, .inl (upd fc c v)) :: x14 :: x15 :: x16 :: .inl (0, 1600, .inl (upd cc g (nI c))) :: .inl (0, 1600, .inl (upd cf g (fc c))) :: g0) := by
  refine rr_met (own := R_Ma) (kd := (false, none)) (by decide +kernel) rfl (fun h => by cases h) rfl (Nat.le_of_ble_eq_true rfl) ?_
  refine rr_aload_n d_Ma_change_0 rfl rfl ?_
  refine rr_getf d_Ma_change_1 fl_Ma_37 rfl rfl ?_
  refine rr_sipush 1600 d_Ma_change_4 rfl ?_
  refine rr_icmp_ge 59 d_Ma_change_7 (by decide) (fun c9 => absurd c9 (nI_ge (a := g) (b := 1600) hg0 (by decide))) (fun _ => ?_)
  refine rr_iload_n d_Ma_change_10 rfl rfl ?_
  refine rr_callS d_Ma_change_11 il_Ma_89 m_Ru_isCell (s_Ru_isCell) rfl rfl (Nat.le_of_ble_eq_true rfl) (Nat.le_of_ble_eq_true rfl) (Nat.le_of_ble_eq_true rfl) (Nat.le_of_ble_eq_true rfl) (Nat.le_of_ble_eq_true rfl) (fun r h1 hq => ?_)
  obtain ⟨rfl, rfl⟩ := hq
  rw [show decide (0 ≤ nI c ∧ nI c < 32) = true from decide_eq_true ⟨nI_pos' (by omega), nI_lt (b := 32) hc (by decide)⟩]
  refine rr_if_eq 59 d_Ma_change_14 (by decide) (fun c9 => absurd c9 (by decide)) (fun _ => ?_)
  refine rr_aload_n d_Ma_change_17 rfl rfl ?_
  refine rr_getf d_Ma_change_18 fl_Ma_24 rfl rfl ?_
  refine rr_aload_n d_Ma_change_21 rfl rfl ?_
  refine rr_getf d_Ma_change_22 fl_Ma_37 rfl rfl ?_
  refine rr_iload_n d_Ma_change_25 rfl rfl ?_
  refine rr_iast d_Ma_change_26 rfl (vp_in_nI hg0 (by decide)) ?_
  refine rr_aload_n d_Ma_change_27 rfl rfl ?_
  refine rr_getf d_Ma_change_28 fl_Ma_27 rfl rfl ?_
  refine rr_aload_n d_Ma_change_31 rfl rfl ?_
  refine rr_getf d_Ma_change_32 fl_Ma_37 rfl rfl ?_
  refine rr_aload_n d_Ma_change_35 rfl rfl ?_
  refine rr_getf d_Ma_change_36 fl_Ma_9 rfl rfl ?_
  refine rr_iload_n d_Ma_change_39 rfl rfl ?_
  refine rr_iald d_Ma_change_40 rfl (vp_in_nI hc (by decide)) ?_
  refine rr_iast d_Ma_change_41 rfl (vp_in_nI hg0 (by decide)) ?_
  refine rr_aload_n d_Ma_change_42 rfl rfl ?_
  refine rr_dup d_Ma_change_43 rfl ?_
  refine rr_getf d_Ma_change_44 fl_Ma_37 rfl rfl ?_
  refine rr_iconst 1 d_Ma_change_47 rfl ?_
  refine rr_iadd d_Ma_change_48 ?_
  refine rr_putf d_Ma_change_49 fl_Ma_37 rfl rfl rfl rfl ?_
  refine rr_aload_n d_Ma_change_52 rfl rfl ?_
  refine rr_getf d_Ma_change_53 fl_Ma_9 rfl rfl ?_
  refine rr_iload_n d_Ma_change_56 rfl rfl ?_
  refine rr_iload_n d_Ma_change_57 rfl rfl ?_
  refine rr_iast d_Ma_change_58 rfl (vp_in_nI hc (by decide)) ?_
  rw [nI_1, nI_clamp (n := g) (by omega), nI_clamp (n := c) (by omega)]
  exact rr_return d_Ma_change_59 rfl (Nat.le_of_ble_eq_true rfl) (Nat.le_of_ble_eq_true rfl) (⟨rfl, rfl⟩)

set_option maxRecDepth 100000 in
set_option maxHeartbeats 4000000 in
theorem l_Ma_applyEffects {x0 x1 x2 x3 x4 x5 x6 x7 x8 x9 x10 x11 x14 : va_E} {g0 : rr_H} {hg ru : Int32} {ec ev : Nat → Int32} : ∀ (L : List (Nat × Int32)) (i g : Nat) (fc cc cf : Nat → Int32), (∀ (k : Nat) (q : Nat × Int32), L[k]? = some q → ec (i + k) = nI q.1 ∧ ev (i + k) = q.2 ∧ q.1 < 32) → i + L.length ≤ 8 → g + L.length ≤ 1600 → rr_A R_Ma c_Ma_applyEffects 2 none (false, none) { frames := 2, cells := 0, slots := 0, locals := 2 * 64 } (fun r h1 => r = none ∧ h1 = x0 :: x1 :: x2 :: x3 :: x4 :: x5 :: x6 :: x7 :: x8 :: x9 :: x10 :: x11 :: .inr (1, [.ref 13, .ref 14, .int hg, .ref 15, .ref 16, .int (nI (i + L.length)), .ref 17, .ref 18, .int (nI (g + L.length)), .ref 19, .int ru]) :: .inl (0, 32, .inl (ch_c L fc)) :: x14 :: .inl (0, 8, .inl (ec)) :: .inl (0, 8, .inl (ev)) :: .inl (0, 1600, .inl (ch_k L cc g)) :: .inl (0, 1600, .inl (ch_v L fc cf g)) :: g0) 0 0 2 [(1, .int (nI i)), (0, .ref 12)] [] (x0 :: x1 :: x2 :: x3 :: x4 :: x5 :: x6 :: x7 :: x8 :: x9 :: x10 :: x11 :: .inr (1, [.ref 13, .ref 14, .int hg, .ref 15, .ref 16, .int (nI (i + L.length)), .ref 17, .ref 18, .int (nI g), .ref 19, .int ru]) :: .inl (0, 32, .inl (fc)) :: x14 :: .inl (0, 8, .inl (ec)) :: .inl (0, 8, .inl (ev)) :: .inl (0, 1600, .inl (cc)) :: .inl (0, 1600, .inl (cf)) :: g0) := by
  intro L
  induction L with
  | nil =>
    intro i g fc cc cf hL hi hg
    refine rr_iload_n d_Ma_applyEffects_2 rfl rfl ?_
    refine rr_aload_n d_Ma_applyEffects_3 rfl rfl ?_
    refine rr_getf d_Ma_applyEffects_4 fl_Ma_58 rfl rfl ?_
    refine rr_icmp_ge 32 d_Ma_applyEffects_7 (by decide) (fun _ => ?_) (fun c9 => absurd (nI_le (by simp) (by simp; omega)) c9)
    exact rr_return d_Ma_applyEffects_32 rfl (Nat.le_of_ble_eq_true rfl) (Nat.le_of_ble_eq_true rfl) (⟨rfl, rfl⟩)
  | cons q L ih =>
    intro i g fc cc cf hL hi hg
    have hlen : (q :: L).length = L.length + 1 := rfl
    rw [hlen] at hi hg
    obtain ⟨h1, h2, h3⟩ := hL 0 q rfl
    rw [Nat.add_zero] at h1 h2
    have hiv : vp_in (nI i) 8 := vp_in_nI (by omega) (by decide)
    refine rr_iload_n d_Ma_applyEffects_2 rfl rfl ?_
    refine rr_aload_n d_Ma_applyEffects_3 rfl rfl ?_
    refine rr_getf d_Ma_applyEffects_4 fl_Ma_58 rfl rfl ?_
    refine rr_icmp_ge 32 d_Ma_applyEffects_7 (by decide) (fun c9 => absurd c9 (nI_ge (a := i) (by rw [hlen]; omega) (by rw [hlen]; omega))) (fun _ => ?_)
    refine rr_aload_n d_Ma_applyEffects_10 rfl rfl ?_
    refine rr_aload_n d_Ma_applyEffects_11 rfl rfl ?_
    refine rr_getf d_Ma_applyEffects_12 fl_Ma_18 rfl rfl ?_
    refine rr_iload_n d_Ma_applyEffects_15 rfl rfl ?_
    refine rr_iald d_Ma_applyEffects_16 rfl (hiv) ?_
    refine rr_aload_n d_Ma_applyEffects_17 rfl rfl ?_
    refine rr_getf d_Ma_applyEffects_18 fl_Ma_21 rfl rfl ?_
    refine rr_iload_n d_Ma_applyEffects_21 rfl rfl ?_
    refine rr_iald d_Ma_applyEffects_22 rfl (hiv) ?_
    rw [nI_clamp (by omega), h1, h2]
    refine rr_callV d_Ma_applyEffects_23 il_Ma_86 m_Ma_change (s_Ma_change (g := g) (c := q.1) (by omega) h3) rfl rfl rfl rfl (Nat.le_of_ble_eq_true rfl) (Nat.le_of_ble_eq_true rfl) (Nat.le_of_ble_eq_true rfl) (Nat.le_of_ble_eq_true rfl) (Nat.le_of_ble_eq_true rfl) (fun r h1 hq => ?_)
    obtain ⟨rfl, rfl⟩ := hq
    refine rr_iinc 1 d_Ma_applyEffects_26 rfl rfl (by decide) ?_
    refine rr_goto 2 d_Ma_applyEffects_29 (by decide) ?_
    rw [nI_1, hlen, show i + (L.length + 1) = i + 1 + L.length by omega, show g + (L.length + 1) = g + 1 + L.length by omega]
    exact rr_lvs _ rfl (ih (i + 1) (g + 1) _ _ _ (fun k r hr => by
      have := hL (k + 1) r (by rw [List.getElem?_cons_succ]; exact hr)
      rwa [show i + (k + 1) = i + 1 + k by omega] at this) (by omega) (by omega))

set_option maxRecDepth 100000 in
set_option maxHeartbeats 4000000 in
theorem s_Ma_applyEffects {x0 x1 x2 x3 x4 x5 x6 x7 x8 x9 x10 x11 x14 : va_E} {g0 : rr_H} {hg ru : Int32} {fc cc cf ec ev : Nat → Int32} {g : Nat} (L : List (Nat × Int32)) (hL : ∀ (k : Nat) (q : Nat × Int32), L[k]? = some q → ec k = nI q.1 ∧ ev k = q.2 ∧ q.1 < 32) (h8 : L.length ≤ 8) (hg2 : g + L.length ≤ 1600) : rr_Spec 2 y_Ma_applyEffects c_Ma_applyEffects 2 none 0 0 [.ref 12] (x0 :: x1 :: x2 :: x3 :: x4 :: x5 :: x6 :: x7 :: x8 :: x9 :: x10 :: x11 :: .inr (1, [.ref 13, .ref 14, .int hg, .ref 15, .ref 16, .int (nI L.length), .ref 17, .ref 18, .int (nI g), .ref 19, .int ru]) :: .inl (0, 32, .inl (fc)) :: x14 :: .inl (0, 8, .inl (ec)) :: .inl (0, 8, .inl (ev)) :: .inl (0, 1600, .inl (cc)) :: .inl (0, 1600, .inl (cf)) :: g0) (fun r h1 => r = none ∧ h1 = x0 :: x1 :: x2 :: x3 :: x4 :: x5 :: x6 :: x7 :: x8 :: x9 :: x10 :: x11 :: .inr (1, [.ref 13, .ref 14, .int hg, .ref 15, .ref 16, .int (nI L.length), .ref 17, .ref 18, .int (nI (g + L.length)), .ref 19, .int ru]) :: .inl (0, 32, .inl (ch_c L fc)) :: x14 :: .inl (0, 8, .inl (ec)) :: .inl (0, 8, .inl (ev)) :: .inl (0, 1600, .inl (ch_k L cc g)) :: .inl (0, 1600, .inl (ch_v L fc cf g)) :: g0) := by
  refine rr_met (own := R_Ma) (kd := (false, none)) (by decide +kernel) rfl (fun h => by cases h) rfl (Nat.le_of_ble_eq_true rfl) ?_
  refine rr_iconst 0 d_Ma_applyEffects_0 rfl ?_
  refine rr_istore_n d_Ma_applyEffects_1 rfl (by decide) ?_
  have nx := l_Ma_applyEffects (x0 := x0) (x1 := x1) (x2 := x2) (x3 := x3) (x4 := x4) (x5 := x5) (x6 := x6) (x7 := x7) (x8 := x8) (x9 := x9) (x10 := x10) (x11 := x11) (x14 := x14) (g0 := g0) (hg := hg) (ru := ru) (ec := ec) (ev := ev) L 0 g fc cc cf (fun k q hq => by rw [Nat.zero_add]; exact hL k q hq) (by omega) hg2
  rw [Nat.zero_add] at nx
  exact rr_lvs _ rfl nx

theorem sp_eL_get {fc : Nat → Int32} {sv sp : Int32} {ec ev : Nat → Int32} {es : List sp_F} (hg : ∀ e ∈ es, gf e) : ∀ (k : Nat) (q : Nat × Int32), (sp_eL fc sv sp es)[k]? = some q → sp_wr ec 0 (es.map fun q => q.1) k = nI q.1 ∧ sp_wr ev 0 (es.map fun q => sp_val fc sv sp q.2) k = q.2 ∧ q.1 < 32 := by
  intro k q hq
  unfold sp_eL at hq
  rw [List.getElem?_map] at hq
  cases he : es[k]? with
  | none => rw [he] at hq; cases hq
  | some e =>
    rw [he] at hq
    cases hq
    obtain ⟨-, -, c, hc, h3⟩ := hg e (List.mem_of_getElem? he)
    have h1 := sp_wr_get (es.map fun q => q.1) ec 0 k e.1 (by rw [List.getElem?_map, he]; rfl)
    have h2 := sp_wr_get (es.map fun q => sp_val fc sv sp q.2) ev 0 k (sp_val fc sv sp e.2) (by rw [List.getElem?_map, he]; rfl)
    rw [Nat.zero_add] at h1 h2
    refine ⟨?_, h2, ?_⟩
    · rw [h1]
      show e.1 = nI e.1.toNatClampNeg
      rw [h3, nI_clamp (by omega)]
    · show e.1.toNatClampNeg < 32
      rw [h3, nI_clamp (by omega)]
      exact hc

set_option maxRecDepth 100000 in
set_option maxHeartbeats 4000000 in
theorem l_Ma_perform {x0 x1 x2 x3 x4 x5 x6 x7 x8 x9 x10 x11 : va_E} {g0 : rr_H} {r g : Nat} {s0 sv sp : Int32} {fc cc cf cb ck cv re : Nat → Int32} {us : List sp_U} (hco : co_is us ck cv re) (hgu : ∀ u ∈ us, gu u) (hg2 : g + 8 ≤ 1600) : ∀ (rs dn : List sp_U) (hg ef : Int32) (fs ec ev : Nat → Int32), us = dn ++ rs → rr_A R_Ma c_Ma_perform 6 (some .int) (false, none) { frames := 3, cells := 0, slots := 0, locals := 3 * 64 } (fun rv h1 => ∃ (hg2 ef2 : Int32) (fs2 ec2 ev2 : Nat → Int32), (sp_pick fc sv sp rs dn.length = none ∧ rv = some (.int 0) ∧ h1 = x0 :: x1 :: x2 :: x3 :: x4 :: x5 :: x6 :: x7 :: x8 :: x9 :: x10 :: x11 :: .inr (1, [.ref 13, .ref 14, .int hg2, .ref 15, .ref 16, .int ef2, .ref 17, .ref 18, .int (nI g), .ref 19, .int (nI r)]) :: .inl (0, 32, .inl (fc)) :: .inl (0, 80, .inl (fs2)) :: .inl (0, 8, .inl (ec2)) :: .inl (0, 8, .inl (ev2)) :: .inl (0, 1600, .inl (cc)) :: .inl (0, 1600, .inl (cf)) :: .inl (0, 200, .inl (cb)) :: .inr (0, [.ref 21, .ref 22, .ref 23, .int s0, .int (nI us.length)]) :: .inl (0, 160, .inl ck) :: .inl (0, 160, .inl cv) :: .inl (0, 6, .inl re) :: g0) ∨ ∃ (k2 : Nat) (L2 : List (Nat × Int32)), sp_pick fc sv sp rs dn.length = some (k2, L2) ∧ rv = some (.int (nI k2)) ∧ h1 = x0 :: x1 :: x2 :: x3 :: x4 :: x5 :: x6 :: x7 :: x8 :: x9 :: x10 :: x11 :: .inr (1, [.ref 13, .ref 14, .int hg2, .ref 15, .ref 16, .int ef2, .ref 17, .ref 18, .int (nI (g + L2.length)), .ref 19, .int (nI r)]) :: .inl (0, 32, .inl (ch_c L2 fc)) :: .inl (0, 80, .inl (fs2)) :: .inl (0, 8, .inl (ec2)) :: .inl (0, 8, .inl (ev2)) :: .inl (0, 1600, .inl (ch_k L2 cc g)) :: .inl (0, 1600, .inl (ch_v L2 fc cf g)) :: .inl (0, 200, .inl (cb)) :: .inr (0, [.ref 21, .ref 22, .ref 23, .int s0, .int (nI us.length)]) :: .inl (0, 160, .inl ck) :: .inl (0, 160, .inl cv) :: .inl (0, 6, .inl re) :: g0) 0 0 42 [(5, .int (nI dn.length)), (4, .int (nI (dn.flatMap fl_u).length)), (0, .ref 12), (1, .ref 20), (2, .int sv), (3, .int sp)] [] (x0 :: x1 :: x2 :: x3 :: x4 :: x5 :: x6 :: x7 :: x8 :: x9 :: x10 :: x11 :: .inr (1, [.ref 13, .ref 14, .int hg, .ref 15, .ref 16, .int ef, .ref 17, .ref 18, .int (nI g), .ref 19, .int (nI r)]) :: .inl (0, 32, .inl (fc)) :: .inl (0, 80, .inl (fs)) :: .inl (0, 8, .inl (ec)) :: .inl (0, 8, .inl (ev)) :: .inl (0, 1600, .inl (cc)) :: .inl (0, 1600, .inl (cf)) :: .inl (0, 200, .inl (cb)) :: .inr (0, [.ref 21, .ref 22, .ref 23, .int s0, .int (nI us.length)]) :: .inl (0, 160, .inl ck) :: .inl (0, 160, .inl cv) :: .inl (0, 6, .inl re) :: g0) := by
  obtain ⟨h6, h160, hck, hre⟩ := hco
  intro rs
  induction rs with
  | nil =>
    intro dn hg ef fs ec ev hus
    rw [List.append_nil] at hus
    subst hus
    refine rr_iload d_Ma_perform_42 rfl ?_
    refine rr_aload_n d_Ma_perform_44 rfl rfl ?_
    refine rr_getf d_Ma_perform_45 fl_Ma_40 rfl rfl ?_
    refine rr_icmp_ge 94 d_Ma_perform_48 (by decide) (fun _ => ?_) (fun c9 => absurd (nI_le (Nat.le_refl _) (by omega)) c9)
    refine rr_iconst 0 d_Ma_perform_94 rfl ?_
    exact rr_ireturn d_Ma_perform_95 rfl rfl (Nat.le_of_ble_eq_true rfl) (Nat.le_of_ble_eq_true rfl) (⟨_, _, _, _, _, Or.inl ⟨rfl, rfl, rfl⟩⟩)
  | cons u rs ih =>
    intro dn hg ef fs ec ev hus
    have hul : us.length = dn.length + (rs.length + 1) := by rw [hus, List.length_append]; rfl
    have hfl : us.flatMap fl_u = dn.flatMap fl_u ++ (fl_u u ++ rs.flatMap fl_u) := by rw [hus, List.flatMap_append, List.flatMap_cons]
    have hre1 : re dn.length = nI ((dn.flatMap fl_u).length + (fl_u u).length) := by
      rw [hre dn.length (by omega), hus, List.take_append, List.take_of_length_le (by omega), show dn.length + 1 - dn.length = 1 by omega]
      simp [List.flatMap_append]
    have hal : at_c ck cv 0 (us.flatMap fl_u) := fun k q hq => by rw [Nat.zero_add]; exact hck k q hq
    rw [hfl] at hal
    obtain ⟨-, a2⟩ := at_c_app hal
    obtain ⟨a3, -⟩ := at_c_app a2
    rw [Nat.zero_add] at a3
    have hlen : (dn.flatMap fl_u).length + (fl_u u).length ≤ 160 := by
      rw [hfl] at h160
      simp only [List.length_append] at h160
      omega
    have hguu := hgu u (by rw [hus]; simp)
    have hiv : vp_in (nI dn.length) 6 := vp_in_nI (by omega) (by decide)
    refine rr_iload d_Ma_perform_42 rfl ?_
    refine rr_aload_n d_Ma_perform_44 rfl rfl ?_
    refine rr_getf d_Ma_perform_45 fl_Ma_40 rfl rfl ?_
    refine rr_icmp_ge 94 d_Ma_perform_48 (by decide) (fun c9 => absurd c9 (nI_ge (by omega) (by omega))) (fun _ => ?_)
    refine rr_aload_n d_Ma_perform_51 rfl rfl ?_
    refine rr_aload_n d_Ma_perform_52 rfl rfl ?_
    refine rr_iload d_Ma_perform_53 rfl ?_
    refine rr_aload_n d_Ma_perform_55 rfl rfl ?_
    refine rr_getf d_Ma_perform_56 fl_Ma_45 rfl rfl ?_
    refine rr_iload d_Ma_perform_59 rfl ?_
    refine rr_iald d_Ma_perform_61 rfl (hiv) ?_
    refine rr_iload_n d_Ma_perform_62 rfl rfl ?_
    refine rr_iload_n d_Ma_perform_63 rfl rfl ?_
    rw [nI_clamp (by omega), hre1]
    refine rr_callV d_Ma_perform_64 il_Ma_48 m_Ma_isTaken (s_Ma_isTaken u hguu hlen a3 rfl) rfl rfl rfl rfl (Nat.le_of_ble_eq_true rfl) (Nat.le_of_ble_eq_true rfl) (Nat.le_of_ble_eq_true rfl) (Nat.le_of_ble_eq_true rfl) (Nat.le_of_ble_eq_true rfl) (fun r h1 hq => ?_)
    obtain ⟨n2, m2, fs2, ec2, ev2, hq⟩ := hq
    unfold sp_pick
    by_cases hc : sp_ts fc sv sp u.1 = true
    · rw [if_pos hc] at hq
      obtain ⟨rfl, rfl⟩ := hq
      simp only [if_pos hc]
      refine rr_if_eq 79 d_Ma_perform_67 (by decide) (fun c9 => absurd c9 (by decide)) (fun _ => ?_)
      refine rr_aload_n d_Ma_perform_70 rfl rfl ?_
      rw [show nI u.2.length = nI (sp_eL fc sv sp u.2).length by unfold sp_eL; rw [List.length_map]]
      have hl8 : (sp_eL fc sv sp u.2).length ≤ 8 := by unfold sp_eL; rw [List.length_map]; exact hguu.2.2
      refine rr_callV d_Ma_perform_71 il_Ma_52 m_Ma_applyEffects (s_Ma_applyEffects (g := g) (sp_eL fc sv sp u.2) (sp_eL_get hguu.2.1) hl8 (by omega)) rfl rfl rfl rfl (Nat.le_of_ble_eq_true rfl) (Nat.le_of_ble_eq_true rfl) (Nat.le_of_ble_eq_true rfl) (Nat.le_of_ble_eq_true rfl) (Nat.le_of_ble_eq_true rfl) (fun r h1 hq => ?_)
      obtain ⟨rfl, rfl⟩ := hq
      refine rr_iload d_Ma_perform_74 rfl ?_
      refine rr_iconst 1 d_Ma_perform_76 rfl ?_
      refine rr_iadd d_Ma_perform_77 ?_
      rw [nI_1]
      exact rr_ireturn d_Ma_perform_78 rfl rfl (Nat.le_of_ble_eq_true rfl) (Nat.le_of_ble_eq_true rfl) (⟨_, _, _, _, _, Or.inr ⟨_, _, rfl, rfl, rfl⟩⟩)
    · rw [if_neg hc] at hq
      obtain ⟨rfl, rfl⟩ := hq
      simp only [if_neg hc]
      refine rr_if_eq 79 d_Ma_perform_67 (by decide) (fun _ => ?_) (fun c9 => absurd (rfl) c9)
      refine rr_aload_n d_Ma_perform_79 rfl rfl ?_
      refine rr_getf d_Ma_perform_80 fl_Ma_45 rfl rfl ?_
      refine rr_iload d_Ma_perform_83 rfl ?_
      refine rr_iald d_Ma_perform_85 rfl (hiv) ?_
      refine rr_istore d_Ma_perform_86 (by decide) ?_
      refine rr_iinc 1 d_Ma_perform_88 rfl rfl (by decide) ?_
      refine rr_goto 42 d_Ma_perform_91 (by decide) ?_
      rw [nI_clamp (by omega), hre1, nI_1]
      have nx := ih (dn ++ [u]) n2 m2 fs2 ec2 ev2 (by rw [hus]; simp)
      rw [show (dn ++ [u]).length = dn.length + 1 by simp, show ((dn ++ [u]).flatMap fl_u).length = (dn.flatMap fl_u).length + (fl_u u).length by simp [List.flatMap_append]] at nx
      exact rr_lvs _ rfl nx

set_option maxRecDepth 100000 in
set_option maxHeartbeats 4000000 in
theorem s_Ma_perform {x0 x1 x2 x3 x4 x5 x6 x7 x8 x9 x10 x11 : va_E} {g0 : rr_H} {r g : Nat} {s0 sv sp : Int32} {fc cc cf cb ck cv re : Nat → Int32} {us : List sp_U} {hg ef : Int32} {fs ec ev : Nat → Int32} (hco : co_is us ck cv re) (hgu : ∀ u ∈ us, gu u) (hr : r ≤ 200) (hg2 : r < 200 → g + 8 ≤ 1600) : rr_Spec 3 y_Ma_perform c_Ma_perform 6 (some .int) 0 0 [.ref 12, .ref 20, .int sv, .int sp] (x0 :: x1 :: x2 :: x3 :: x4 :: x5 :: x6 :: x7 :: x8 :: x9 :: x10 :: x11 :: .inr (1, [.ref 13, .ref 14, .int hg, .ref 15, .ref 16, .int ef, .ref 17, .ref 18, .int (nI g), .ref 19, .int (nI r)]) :: .inl (0, 32, .inl (fc)) :: .inl (0, 80, .inl (fs)) :: .inl (0, 8, .inl (ec)) :: .inl (0, 8, .inl (ev)) :: .inl (0, 1600, .inl (cc)) :: .inl (0, 1600, .inl (cf)) :: .inl (0, 200, .inl (cb)) :: .inr (0, [.ref 21, .ref 22, .ref 23, .int s0, .int (nI us.length)]) :: .inl (0, 160, .inl ck) :: .inl (0, 160, .inl cv) :: .inl (0, 6, .inl re) :: g0) (fun rv h1 => if r < 200 then (fun rv h1 => ∃ (hg2 ef2 : Int32) (fs2 ec2 ev2 : Nat → Int32), (sp_pick fc sv sp us 0 = none ∧ rv = some (.int 0) ∧ h1 = x0 :: x1 :: x2 :: x3 :: x4 :: x5 :: x6 :: x7 :: x8 :: x9 :: x10 :: x11 :: .inr (1, [.ref 13, .ref 14, .int hg2, .ref 15, .ref 16, .int ef2, .ref 17, .ref 18, .int (nI g), .ref 19, .int (nI (r + 1))]) :: .inl (0, 32, .inl (fc)) :: .inl (0, 80, .inl (fs2)) :: .inl (0, 8, .inl (ec2)) :: .inl (0, 8, .inl (ev2)) :: .inl (0, 1600, .inl (cc)) :: .inl (0, 1600, .inl (cf)) :: .inl (0, 200, .inl ((upd cb r (nI g)))) :: .inr (0, [.ref 21, .ref 22, .ref 23, .int s0, .int (nI us.length)]) :: .inl (0, 160, .inl ck) :: .inl (0, 160, .inl cv) :: .inl (0, 6, .inl re) :: g0) ∨ ∃ (k2 : Nat) (L2 : List (Nat × Int32)), sp_pick fc sv sp us 0 = some (k2, L2) ∧ rv = some (.int (nI k2)) ∧ h1 = x0 :: x1 :: x2 :: x3 :: x4 :: x5 :: x6 :: x7 :: x8 :: x9 :: x10 :: x11 :: .inr (1, [.ref 13, .ref 14, .int hg2, .ref 15, .ref 16, .int ef2, .ref 17, .ref 18, .int (nI (g + L2.length)), .ref 19, .int (nI (r + 1))]) :: .inl (0, 32, .inl (ch_c L2 fc)) :: .inl (0, 80, .inl (fs2)) :: .inl (0, 8, .inl (ec2)) :: .inl (0, 8, .inl (ev2)) :: .inl (0, 1600, .inl (ch_k L2 cc g)) :: .inl (0, 1600, .inl (ch_v L2 fc cf g)) :: .inl (0, 200, .inl ((upd cb r (nI g)))) :: .inr (0, [.ref 21, .ref 22, .ref 23, .int s0, .int (nI us.length)]) :: .inl (0, 160, .inl ck) :: .inl (0, 160, .inl cv) :: .inl (0, 6, .inl re) :: g0) rv h1 else rv = some (.int (-3)) ∧ h1 = x0 :: x1 :: x2 :: x3 :: x4 :: x5 :: x6 :: x7 :: x8 :: x9 :: x10 :: x11 :: .inr (1, [.ref 13, .ref 14, .int hg, .ref 15, .ref 16, .int ef, .ref 17, .ref 18, .int (nI g), .ref 19, .int (nI r)]) :: .inl (0, 32, .inl (fc)) :: .inl (0, 80, .inl (fs)) :: .inl (0, 8, .inl (ec)) :: .inl (0, 8, .inl (ev)) :: .inl (0, 1600, .inl (cc)) :: .inl (0, 1600, .inl (cf)) :: .inl (0, 200, .inl (cb)) :: .inr (0, [.ref 21, .ref 22, .ref 23, .int s0, .int (nI us.length)]) :: .inl (0, 160, .inl ck) :: .inl (0, 160, .inl cv) :: .inl (0, 6, .inl re) :: g0) := by
  refine rr_met (own := R_Ma) (kd := (false, none)) (by decide +kernel) rfl (fun h => by cases h) rfl (Nat.le_of_ble_eq_true rfl) ?_
  refine rr_aload_n d_Ma_perform_0 rfl rfl ?_
  refine rr_getf d_Ma_perform_1 fl_Ma_33 rfl rfl ?_
  refine rr_sipush 200 d_Ma_perform_4 rfl ?_
  by_cases hr2 : r < 200
  · simp only [if_pos hr2]
    refine rr_icmp_lt 13 d_Ma_perform_7 (by decide) (fun _ => ?_) (fun c9 => absurd (nI_lt (b := 200) hr2 (by decide)) c9)
    refine rr_aload_n d_Ma_perform_13 rfl rfl ?_
    refine rr_getf d_Ma_perform_14 fl_Ma_30 rfl rfl ?_
    refine rr_aload_n d_Ma_perform_17 rfl rfl ?_
    refine rr_getf d_Ma_perform_18 fl_Ma_33 rfl rfl ?_
    refine rr_aload_n d_Ma_perform_21 rfl rfl ?_
    refine rr_getf d_Ma_perform_22 fl_Ma_37 rfl rfl ?_
    refine rr_iast d_Ma_perform_25 rfl (vp_in_nI hr2 (by decide)) ?_
    refine rr_aload_n d_Ma_perform_26 rfl rfl ?_
    refine rr_dup d_Ma_perform_27 rfl ?_
    refine rr_getf d_Ma_perform_28 fl_Ma_33 rfl rfl ?_
    refine rr_iconst 1 d_Ma_perform_31 rfl ?_
    refine rr_iadd d_Ma_perform_32 ?_
    refine rr_putf d_Ma_perform_33 fl_Ma_33 rfl rfl rfl rfl ?_
    refine rr_iconst 0 d_Ma_perform_36 rfl ?_
    refine rr_istore d_Ma_perform_37 (by decide) ?_
    refine rr_iconst 0 d_Ma_perform_39 rfl ?_
    refine rr_istore d_Ma_perform_40 (by decide) ?_
    rw [nI_1, nI_clamp (by omega)]
    exact rr_lvs _ rfl (l_Ma_perform (r := r + 1) hco hgu (hg2 hr2) us [] hg ef fs ec ev rfl)
  · simp only [if_neg hr2]
    refine rr_icmp_lt 13 d_Ma_perform_7 (by decide) (fun c9 => absurd c9 (nI_nlt (a := r) (b := 200) (by omega) (by omega))) (fun _ => ?_)
    refine rr_bipush (-3) d_Ma_perform_10 rfl ?_
    exact rr_ireturn d_Ma_perform_12 rfl rfl (Nat.le_of_ble_eq_true rfl) (Nat.le_of_ble_eq_true rfl) (⟨rfl, rfl⟩)

theorem tb_lt {lo : Nat} (h : lo < 2 ^ 30) : nI lo - 1 < nI lo := by
  have e1 : (nI lo - 1 : Int32).toInt = (lo : Int) - 1 := pk_sub_toInt (b := 1) h (by decide)
  have e2 := nI_toInt (n := lo) (by omega)
  rw [Int32.lt_iff_toInt_lt]
  omega
theorem tb_m1 (x : Int32) : x + -1 = x - 1 := by rw [Int32.sub_eq_add_neg]

set_option maxRecDepth 100000 in
set_option maxHeartbeats 4000000 in
theorem l_Ma_takeBack {x0 x1 x2 x3 x4 x5 x6 x7 x8 x9 x10 x11 x14 x15 x16 : va_E} {g0 : rr_H} {r g lo : Nat} {hg ef : Int32} {cc cf cb : Nat → Int32} (hr : r < 200) : ∀ (j : Nat) (fc : Nat → Int32), (∀ i, i < lo + j → ∃ c : Nat, c < 32 ∧ cc i = nI c) → lo + j ≤ 1600 → rr_A R_Ma c_Ma_takeBack 3 (some .int) (false, none) { frames := 0, cells := 0, slots := 0, locals := 0 * 64 } (fun rv h1 => rv = some (.int (nI r)) ∧ h1 = x0 :: x1 :: x2 :: x3 :: x4 :: x5 :: x6 :: x7 :: x8 :: x9 :: x10 :: x11 :: .inr (1, [.ref 13, .ref 14, .int hg, .ref 15, .ref 16, .int ef, .ref 17, .ref 18, .int (nI lo), .ref 19, .int (nI r)]) :: .inl (0, 32, .inl (rb cc cf lo j fc)) :: x14 :: x15 :: x16 :: .inl (0, 1600, .inl (cc)) :: .inl (0, 1600, .inl (cf)) :: .inl (0, 200, .inl (cb)) :: g0) 0 0 37 [(2, .int (nI (lo + j) - 1)), (1, .int (nI lo)), (0, .ref 12)] [] (x0 :: x1 :: x2 :: x3 :: x4 :: x5 :: x6 :: x7 :: x8 :: x9 :: x10 :: x11 :: .inr (1, [.ref 13, .ref 14, .int hg, .ref 15, .ref 16, .int ef, .ref 17, .ref 18, .int (nI g), .ref 19, .int (nI r)]) :: .inl (0, 32, .inl (fc)) :: x14 :: x15 :: x16 :: .inl (0, 1600, .inl (cc)) :: .inl (0, 1600, .inl (cf)) :: .inl (0, 200, .inl (cb)) :: g0) := by
  intro j
  induction j with
  | zero =>
    intro fc hc hj
    refine rr_iload_n d_Ma_takeBack_37 rfl rfl ?_
    refine rr_iload_n d_Ma_takeBack_38 rfl rfl ?_
    refine rr_icmp_lt 65 d_Ma_takeBack_39 (by decide) (fun _ => ?_) (fun c9 => absurd (tb_lt (by omega)) c9)
    refine rr_aload_n d_Ma_takeBack_65 rfl rfl ?_
    refine rr_iload_n d_Ma_takeBack_66 rfl rfl ?_
    refine rr_putf d_Ma_takeBack_67 fl_Ma_37 rfl rfl rfl rfl ?_
    refine rr_aload_n d_Ma_takeBack_70 rfl rfl ?_
    refine rr_getf d_Ma_takeBack_71 fl_Ma_33 rfl rfl ?_
    exact rr_ireturn d_Ma_takeBack_74 rfl rfl (Nat.le_of_ble_eq_true rfl) (Nat.le_of_ble_eq_true rfl) (⟨rfl, rfl⟩)
  | succ j ih =>
    intro fc hc hj
    obtain ⟨c, hc1, hc2⟩ := hc (lo + j) (by omega)
    rw [show lo + (j + 1) = (lo + j) + 1 by omega, nI_pred]
    have hiv : vp_in (nI (lo + j)) 1600 := vp_in_nI (by omega) (by decide)
    refine rr_iload_n d_Ma_takeBack_37 rfl rfl ?_
    refine rr_iload_n d_Ma_takeBack_38 rfl rfl ?_
    refine rr_icmp_lt 65 d_Ma_takeBack_39 (by decide) (fun c9 => absurd c9 (nI_nlt (by omega) (by omega))) (fun _ => ?_)
    refine rr_aload_n d_Ma_takeBack_42 rfl rfl ?_
    refine rr_getf d_Ma_takeBack_43 fl_Ma_9 rfl rfl ?_
    refine rr_aload_n d_Ma_takeBack_46 rfl rfl ?_
    refine rr_getf d_Ma_takeBack_47 fl_Ma_24 rfl rfl ?_
    refine rr_iload_n d_Ma_takeBack_50 rfl rfl ?_
    refine rr_iald d_Ma_takeBack_51 rfl (hiv) ?_
    refine rr_aload_n d_Ma_takeBack_52 rfl rfl ?_
    refine rr_getf d_Ma_takeBack_53 fl_Ma_27 rfl rfl ?_
    refine rr_iload_n d_Ma_takeBack_56 rfl rfl ?_
    refine rr_iald d_Ma_takeBack_57 rfl (hiv) ?_
    refine rr_iast d_Ma_takeBack_58 rfl (show vp_in (cc (nI (lo + j)).toNatClampNeg) 32 by rw [nI_clamp (by omega), hc2]; exact vp_in_nI hc1 (by decide)) ?_
    refine rr_iinc (-1) d_Ma_takeBack_59 rfl rfl (by decide) ?_
    refine rr_goto 37 d_Ma_takeBack_62 (by decide) ?_
    rw [nI_clamp (n := lo + j) (by omega), tb_m1]
    exact rr_lvs _ rfl (ih _ (fun i hi => hc i (by omega)) (by omega))

set_option maxRecDepth 100000 in
set_option maxHeartbeats 4000000 in
theorem s_Ma_takeBack {x0 x1 x2 x3 x4 x5 x6 x7 x8 x9 x10 x11 x14 x15 x16 : va_E} {g0 : rr_H} {r g lo : Nat} {hg ef : Int32} {fc cc cf cb : Nat → Int32} (hr : r ≤ 200) (hlo : 0 < r → cb (r - 1) = nI lo ∧ lo ≤ g) (hc : ∀ i, i < g → ∃ c : Nat, c < 32 ∧ cc i = nI c) (hg2 : g ≤ 1600) : rr_Spec 0 y_Ma_takeBack c_Ma_takeBack 3 (some .int) 0 0 [.ref 12] (x0 :: x1 :: x2 :: x3 :: x4 :: x5 :: x6 :: x7 :: x8 :: x9 :: x10 :: x11 :: .inr (1, [.ref 13, .ref 14, .int hg, .ref 15, .ref 16, .int ef, .ref 17, .ref 18, .int (nI g), .ref 19, .int (nI r)]) :: .inl (0, 32, .inl (fc)) :: x14 :: x15 :: x16 :: .inl (0, 1600, .inl (cc)) :: .inl (0, 1600, .inl (cf)) :: .inl (0, 200, .inl (cb)) :: g0) (fun rv h1 => if r = 0 then rv = some (.int (-2)) ∧ h1 = x0 :: x1 :: x2 :: x3 :: x4 :: x5 :: x6 :: x7 :: x8 :: x9 :: x10 :: x11 :: .inr (1, [.ref 13, .ref 14, .int hg, .ref 15, .ref 16, .int ef, .ref 17, .ref 18, .int (nI g), .ref 19, .int (nI r)]) :: .inl (0, 32, .inl (fc)) :: x14 :: x15 :: x16 :: .inl (0, 1600, .inl (cc)) :: .inl (0, 1600, .inl (cf)) :: .inl (0, 200, .inl (cb)) :: g0 else rv = some (.int (nI (r - 1))) ∧ h1 = x0 :: x1 :: x2 :: x3 :: x4 :: x5 :: x6 :: x7 :: x8 :: x9 :: x10 :: x11 :: .inr (1, [.ref 13, .ref 14, .int hg, .ref 15, .ref 16, .int ef, .ref 17, .ref 18, .int (nI lo), .ref 19, .int (nI (r - 1))]) :: .inl (0, 32, .inl (rb cc cf lo (g - lo) fc)) :: x14 :: x15 :: x16 :: .inl (0, 1600, .inl (cc)) :: .inl (0, 1600, .inl (cf)) :: .inl (0, 200, .inl (cb)) :: g0) := by
  refine rr_met (own := R_Ma) (kd := (false, none)) (by decide +kernel) rfl (fun h => by cases h) rfl (Nat.le_of_ble_eq_true rfl) ?_
  refine rr_aload_n d_Ma_takeBack_0 rfl rfl ?_
  refine rr_getf d_Ma_takeBack_1 fl_Ma_33 rfl rfl ?_
  by_cases h0 : r = 0
  · simp only [if_pos h0]
    subst h0
    refine rr_if_ne 10 d_Ma_takeBack_4 (by decide) (fun c9 => absurd (rfl) c9) (fun _ => ?_)
    refine rr_bipush (-2) d_Ma_takeBack_7 rfl ?_
    exact rr_ireturn d_Ma_takeBack_9 rfl rfl (Nat.le_of_ble_eq_true rfl) (Nat.le_of_ble_eq_true rfl) (⟨rfl, rfl⟩)
  · simp only [if_neg h0]
    obtain ⟨k, rfl⟩ : ∃ k, r = k + 1 := ⟨r - 1, by omega⟩
    obtain ⟨e1, e2⟩ := hlo (by omega)
    rw [Nat.add_sub_cancel] at e1 ⊢
    refine rr_if_ne 10 d_Ma_takeBack_4 (by decide) (fun _ => ?_) (fun c9 => absurd c9 (nI_ne0 (by omega) (by omega)))
    refine rr_aload_n d_Ma_takeBack_10 rfl rfl ?_
    refine rr_dup d_Ma_takeBack_11 rfl ?_
    refine rr_getf d_Ma_takeBack_12 fl_Ma_33 rfl rfl ?_
    refine rr_iconst 1 d_Ma_takeBack_15 rfl ?_
    refine rr_isub d_Ma_takeBack_16 ?_
    refine rr_putf d_Ma_takeBack_17 fl_Ma_33 rfl rfl rfl rfl ?_
    rw [nI_pred]
    refine rr_aload_n d_Ma_takeBack_20 rfl rfl ?_
    refine rr_getf d_Ma_takeBack_21 fl_Ma_30 rfl rfl ?_
    refine rr_aload_n d_Ma_takeBack_24 rfl rfl ?_
    refine rr_getf d_Ma_takeBack_25 fl_Ma_33 rfl rfl ?_
    refine rr_iald d_Ma_takeBack_28 rfl (vp_in_nI (n := k) (by omega) (by decide)) ?_
    refine rr_istore_n d_Ma_takeBack_29 rfl (by decide) ?_
    refine rr_aload_n d_Ma_takeBack_30 rfl rfl ?_
    refine rr_getf d_Ma_takeBack_31 fl_Ma_37 rfl rfl ?_
    refine rr_iconst 1 d_Ma_takeBack_34 rfl ?_
    refine rr_isub d_Ma_takeBack_35 ?_
    refine rr_istore_n d_Ma_takeBack_36 rfl (by decide) ?_
    rw [nI_clamp (by omega), e1]
    have nx := l_Ma_takeBack (x0 := x0) (x1 := x1) (x2 := x2) (x3 := x3) (x4 := x4) (x5 := x5) (x6 := x6) (x7 := x7) (x8 := x8) (x9 := x9) (x10 := x10) (x11 := x11) (x14 := x14) (x15 := x15) (x16 := x16) (g0 := g0) (r := k) (g := g) (lo := lo) (hg := hg) (ef := ef) (cc := cc) (cf := cf) (cb := cb) (by omega) (g - lo) fc (fun i hi => hc i (by omega)) (by omega)
    rw [show lo + (g - lo) = g by omega] at nx
    exact rr_lvs _ rfl nx
end
section
/-! The face: run, undo; making. -/

set_option maxRecDepth 100000 in
set_option maxHeartbeats 4000000 in
theorem s_Ru_run {x1 x2 x3 x4 x5 x6 x7 x8 x9 x10 x11 : va_E} {g0 : rr_H} {r g : Nat} {s0 sv sp : Int32} {fc cc cf cb ck cv re : Nat → Int32} {us : List sp_U} {hg ef : Int32} {fs ec ev : Nat → Int32} (hco : co_is us ck cv re) (hgu : ∀ u ∈ us, gu u) (hr : r ≤ 200) (hg2 : r < 200 → g + 8 ≤ 1600) : rr_Spec 4 y_Ru_run c_Ru_run 3 (some .int) 0 0 [.ref 0, .int sv, .int sp] (.inr (5, [.ref 1, .ref 3, .ref 12, .ref 20]) :: x1 :: x2 :: x3 :: x4 :: x5 :: x6 :: x7 :: x8 :: x9 :: x10 :: x11 :: .inr (1, [.ref 13, .ref 14, .int hg, .ref 15, .ref 16, .int ef, .ref 17, .ref 18, .int (nI g), .ref 19, .int (nI r)]) :: .inl (0, 32, .inl (fc)) :: .inl (0, 80, .inl (fs)) :: .inl (0, 8, .inl (ec)) :: .inl (0, 8, .inl (ev)) :: .inl (0, 1600, .inl (cc)) :: .inl (0, 1600, .inl (cf)) :: .inl (0, 200, .inl (cb)) :: .inr (0, [.ref 21, .ref 22, .ref 23, .int s0, .int (nI us.length)]) :: .inl (0, 160, .inl ck) :: .inl (0, 160, .inl cv) :: .inl (0, 6, .inl re) :: g0) (fun rv h1 => if us.length = 0 then rv = some (.int (-2)) ∧ h1 = .inr (5, [.ref 1, .ref 3, .ref 12, .ref 20]) :: x1 :: x2 :: x3 :: x4 :: x5 :: x6 :: x7 :: x8 :: x9 :: x10 :: x11 :: .inr (1, [.ref 13, .ref 14, .int hg, .ref 15, .ref 16, .int ef, .ref 17, .ref 18, .int (nI g), .ref 19, .int (nI r)]) :: .inl (0, 32, .inl (fc)) :: .inl (0, 80, .inl (fs)) :: .inl (0, 8, .inl (ec)) :: .inl (0, 8, .inl (ev)) :: .inl (0, 1600, .inl (cc)) :: .inl (0, 1600, .inl (cf)) :: .inl (0, 200, .inl (cb)) :: .inr (0, [.ref 21, .ref 22, .ref 23, .int s0, .int (nI us.length)]) :: .inl (0, 160, .inl ck) :: .inl (0, 160, .inl cv) :: .inl (0, 6, .inl re) :: g0 else if r < 200 then (fun rv h1 => ∃ (hg2 ef2 : Int32) (fs2 ec2 ev2 : Nat → Int32), (sp_pick fc sv sp us 0 = none ∧ rv = some (.int 0) ∧ h1 = .inr (5, [.ref 1, .ref 3, .ref 12, .ref 20]) :: x1 :: x2 :: x3 :: x4 :: x5 :: x6 :: x7 :: x8 :: x9 :: x10 :: x11 :: .inr (1, [.ref 13, .ref 14, .int hg2, .ref 15, .ref 16, .int ef2, .ref 17, .ref 18, .int (nI g), .ref 19, .int (nI (r + 1))]) :: .inl (0, 32, .inl (fc)) :: .inl (0, 80, .inl (fs2)) :: .inl (0, 8, .inl (ec2)) :: .inl (0, 8, .inl (ev2)) :: .inl (0, 1600, .inl (cc)) :: .inl (0, 1600, .inl (cf)) :: .inl (0, 200, .inl ((upd cb r (nI g)))) :: .inr (0, [.ref 21, .ref 22, .ref 23, .int s0, .int (nI us.length)]) :: .inl (0, 160, .inl ck) :: .inl (0, 160, .inl cv) :: .inl (0, 6, .inl re) :: g0) ∨ ∃ (k2 : Nat) (L2 : List (Nat × Int32)), sp_pick fc sv sp us 0 = some (k2, L2) ∧ rv = some (.int (nI k2)) ∧ h1 = .inr (5, [.ref 1, .ref 3, .ref 12, .ref 20]) :: x1 :: x2 :: x3 :: x4 :: x5 :: x6 :: x7 :: x8 :: x9 :: x10 :: x11 :: .inr (1, [.ref 13, .ref 14, .int hg2, .ref 15, .ref 16, .int ef2, .ref 17, .ref 18, .int (nI (g + L2.length)), .ref 19, .int (nI (r + 1))]) :: .inl (0, 32, .inl (ch_c L2 fc)) :: .inl (0, 80, .inl (fs2)) :: .inl (0, 8, .inl (ec2)) :: .inl (0, 8, .inl (ev2)) :: .inl (0, 1600, .inl (ch_k L2 cc g)) :: .inl (0, 1600, .inl (ch_v L2 fc cf g)) :: .inl (0, 200, .inl ((upd cb r (nI g)))) :: .inr (0, [.ref 21, .ref 22, .ref 23, .int s0, .int (nI us.length)]) :: .inl (0, 160, .inl ck) :: .inl (0, 160, .inl cv) :: .inl (0, 6, .inl re) :: g0) rv h1 else rv = some (.int (-3)) ∧ h1 = .inr (5, [.ref 1, .ref 3, .ref 12, .ref 20]) :: x1 :: x2 :: x3 :: x4 :: x5 :: x6 :: x7 :: x8 :: x9 :: x10 :: x11 :: .inr (1, [.ref 13, .ref 14, .int hg, .ref 15, .ref 16, .int ef, .ref 17, .ref 18, .int (nI g), .ref 19, .int (nI r)]) :: .inl (0, 32, .inl (fc)) :: .inl (0, 80, .inl (fs)) :: .inl (0, 8, .inl (ec)) :: .inl (0, 8, .inl (ev)) :: .inl (0, 1600, .inl (cc)) :: .inl (0, 1600, .inl (cf)) :: .inl (0, 200, .inl (cb)) :: .inr (0, [.ref 21, .ref 22, .ref 23, .int s0, .int (nI us.length)]) :: .inl (0, 160, .inl ck) :: .inl (0, 160, .inl cv) :: .inl (0, 6, .inl re) :: g0) := by
  refine rr_met (own := R_Ru) (kd := (false, none)) (by decide +kernel) rfl (fun h => by cases h) rfl (Nat.le_of_ble_eq_true rfl) ?_
  refine rr_aload_n d_Ru_run_0 rfl rfl ?_
  refine rr_getf d_Ru_run_1 fl_Ru_33 rfl rfl ?_
  refine rr_getf d_Ru_run_4 fl_Ru_53 rfl rfl ?_
  by_cases h0 : us.length = 0
  · simp only [if_pos h0]
    refine rr_if_ne 15 d_Ru_run_7 (by decide) (fun c9 => absurd (by rw [h0]; rfl) c9) (fun _ => ?_)
    refine rr_bipush (-2) d_Ru_run_10 rfl ?_
    refine rr_goto 28 d_Ru_run_12 (by decide) ?_
    exact rr_ireturn d_Ru_run_28 rfl rfl (Nat.le_of_ble_eq_true rfl) (Nat.le_of_ble_eq_true rfl) (⟨rfl, rfl⟩)
  · simp only [if_neg h0]
    have h6 := hco.1
    refine rr_if_ne 15 d_Ru_run_7 (by decide) (fun _ => ?_) (fun c9 => absurd c9 (nI_ne0 (by omega) (by omega)))
    refine rr_aload_n d_Ru_run_15 rfl rfl ?_
    refine rr_getf d_Ru_run_16 fl_Ru_26 rfl rfl ?_
    refine rr_aload_n d_Ru_run_19 rfl rfl ?_
    refine rr_getf d_Ru_run_20 fl_Ru_33 rfl rfl ?_
    refine rr_iload_n d_Ru_run_23 rfl rfl ?_
    refine rr_iload_n d_Ru_run_24 rfl rfl ?_
    refine rr_callV d_Ru_run_25 il_Ru_56 m_Ma_perform (s_Ma_perform hco hgu hr hg2) rfl rfl rfl rfl (Nat.le_of_ble_eq_true rfl) (Nat.le_of_ble_eq_true rfl) (Nat.le_of_ble_eq_true rfl) (Nat.le_of_ble_eq_true rfl) (Nat.le_of_ble_eq_true rfl) (fun rv9 hp9 hq => ?_)
    by_cases hr2 : r < 200
    · rw [if_pos hr2] at hq
      obtain ⟨hg2, ef2, fs2, ec2, ev2, ⟨e1, rfl, rfl⟩ | ⟨k2, L2, e1, rfl, rfl⟩⟩ := hq
      · simp only [if_pos hr2]
        exact rr_ireturn d_Ru_run_28 rfl rfl (Nat.le_of_ble_eq_true rfl) (Nat.le_of_ble_eq_true rfl) (⟨_, _, _, _, _, Or.inl ⟨e1, rfl, rfl⟩⟩)
      · simp only [if_pos hr2]
        exact rr_ireturn d_Ru_run_28 rfl rfl (Nat.le_of_ble_eq_true rfl) (Nat.le_of_ble_eq_true rfl) (⟨_, _, _, _, _, Or.inr ⟨_, _, e1, rfl, rfl⟩⟩)
    · rw [if_neg hr2] at hq
      obtain ⟨rfl, rfl⟩ := hq
      simp only [if_neg hr2]
      exact rr_ireturn d_Ru_run_28 rfl rfl (Nat.le_of_ble_eq_true rfl) (Nat.le_of_ble_eq_true rfl) (⟨rfl, rfl⟩)

set_option maxRecDepth 100000 in
set_option maxHeartbeats 4000000 in
theorem s_Ru_undo {x1 x2 x3 x4 x5 x6 x7 x8 x9 x10 x11 x14 x15 x16 : va_E} {g0 : rr_H} {r g lo : Nat} {hg ef : Int32} {fc cc cf cb : Nat → Int32} (hr : r ≤ 200) (hlo : 0 < r → cb (r - 1) = nI lo ∧ lo ≤ g) (hc : ∀ i, i < g → ∃ c : Nat, c < 32 ∧ cc i = nI c) (hg2 : g ≤ 1600) : rr_Spec 1 y_Ru_undo c_Ru_undo 1 (some .int) 0 0 [.ref 0] (.inr (5, [.ref 1, .ref 3, .ref 12, .ref 20]) :: x1 :: x2 :: x3 :: x4 :: x5 :: x6 :: x7 :: x8 :: x9 :: x10 :: x11 :: .inr (1, [.ref 13, .ref 14, .int hg, .ref 15, .ref 16, .int ef, .ref 17, .ref 18, .int (nI g), .ref 19, .int (nI r)]) :: .inl (0, 32, .inl (fc)) :: x14 :: x15 :: x16 :: .inl (0, 1600, .inl (cc)) :: .inl (0, 1600, .inl (cf)) :: .inl (0, 200, .inl (cb)) :: g0) (fun rv h1 => if r = 0 then rv = some (.int (-2)) ∧ h1 = .inr (5, [.ref 1, .ref 3, .ref 12, .ref 20]) :: x1 :: x2 :: x3 :: x4 :: x5 :: x6 :: x7 :: x8 :: x9 :: x10 :: x11 :: .inr (1, [.ref 13, .ref 14, .int hg, .ref 15, .ref 16, .int ef, .ref 17, .ref 18, .int (nI g), .ref 19, .int (nI r)]) :: .inl (0, 32, .inl (fc)) :: x14 :: x15 :: x16 :: .inl (0, 1600, .inl (cc)) :: .inl (0, 1600, .inl (cf)) :: .inl (0, 200, .inl (cb)) :: g0 else rv = some (.int (nI (r - 1))) ∧ h1 = .inr (5, [.ref 1, .ref 3, .ref 12, .ref 20]) :: x1 :: x2 :: x3 :: x4 :: x5 :: x6 :: x7 :: x8 :: x9 :: x10 :: x11 :: .inr (1, [.ref 13, .ref 14, .int hg, .ref 15, .ref 16, .int ef, .ref 17, .ref 18, .int (nI lo), .ref 19, .int (nI (r - 1))]) :: .inl (0, 32, .inl (rb cc cf lo (g - lo) fc)) :: x14 :: x15 :: x16 :: .inl (0, 1600, .inl (cc)) :: .inl (0, 1600, .inl (cf)) :: .inl (0, 200, .inl (cb)) :: g0) := by
  refine rr_met (own := R_Ru) (kd := (false, none)) (by decide +kernel) rfl (fun h => by cases h) rfl (Nat.le_of_ble_eq_true rfl) ?_
  refine rr_aload_n d_Ru_undo_0 rfl rfl ?_
  refine rr_getf d_Ru_undo_1 fl_Ru_26 rfl rfl ?_
  refine rr_callV d_Ru_undo_4 il_Ru_60 m_Ma_takeBack (s_Ma_takeBack hr hlo hc hg2) rfl rfl rfl rfl (Nat.le_of_ble_eq_true rfl) (Nat.le_of_ble_eq_true rfl) (Nat.le_of_ble_eq_true rfl) (Nat.le_of_ble_eq_true rfl) (Nat.le_of_ble_eq_true rfl) (fun rv9 hp9 hq => ?_)
  by_cases h0 : r = 0
  · rw [if_pos h0] at hq
    obtain ⟨rfl, rfl⟩ := hq
    simp only [if_pos h0]
    exact rr_ireturn d_Ru_undo_7 rfl rfl (Nat.le_of_ble_eq_true rfl) (Nat.le_of_ble_eq_true rfl) (⟨rfl, rfl⟩)
  · rw [if_neg h0] at hq
    obtain ⟨rfl, rfl⟩ := hq
    simp only [if_neg h0]
    exact rr_ireturn d_Ru_undo_7 rfl rfl (Nat.le_of_ble_eq_true rfl) (Nat.le_of_ble_eq_true rfl) (⟨rfl, rfl⟩)

set_option maxRecDepth 100000 in
set_option maxHeartbeats 4000000 in
theorem s_Ta_init {x0 : va_E} : rr_Spec 1 y_Ta_init c_Ta_init 1 none 1 400 [.ref 1] (x0 :: .inr (3, [.null, .int 0]) :: []) (fun r h1 => r = none ∧ h1 = x0 :: .inr (3, [.ref 2, .int 0]) :: .inl (1, 400, .inl (fun _ => 0)) :: []) := by
  refine rr_met (own := R_Ta) (kd := (true, none)) (by decide +kernel) rfl (fun _ => rfl) rfl (Nat.le_of_ble_eq_true rfl) ?_
  refine rr_aload_n d_Ta_init_0 rfl rfl ?_
  refine rr_objInit d_Ta_init_1 ol_Ta_3 (Nat.le_of_ble_eq_true rfl) (Nat.le_of_ble_eq_true rfl) ?_
  refine rr_aload_n d_Ta_init_4 rfl rfl ?_
  refine rr_sipush 400 d_Ta_init_5 rfl ?_
  refine rr_newB (400) d_Ta_init_8 (by decide) (by decide) (Nat.le_of_ble_eq_true rfl) (Nat.le_of_ble_eq_true rfl) (Nat.le_of_ble_eq_true rfl) (Nat.le_of_ble_eq_true rfl) ?_
  refine rr_putF d_Ta_init_10 rfl fF_Ta_9 rfl rfl rfl ?_
  exact rr_return d_Ta_init_13 rfl (Nat.le_of_ble_eq_true rfl) (Nat.le_of_ble_eq_true rfl) (⟨rfl, rfl⟩)

set_option maxRecDepth 100000 in
set_option maxHeartbeats 4000000 in
theorem s_To_init {x0 x1 x2 x3 : va_E} : rr_Spec 1 y_To_init c_To_init 1 none 3 1203 [.ref 4] (x0 :: x1 :: x2 :: x3 :: .inr (4, [.null, .null, .null, .int 0]) :: []) (fun r h1 => r = none ∧ h1 = x0 :: x1 :: x2 :: x3 :: .inr (4, [.ref 5, .ref 6, .ref 7, .int 0]) :: .inl (0, 401, .inl (fun _ => 0)) :: .inl (0, 401, .inl (fun _ => 0)) :: .inl (0, 401, .inl (fun _ => 0)) :: []) := by
  refine rr_met (own := R_To) (kd := (true, none)) (by decide +kernel) rfl (fun _ => rfl) rfl (Nat.le_of_ble_eq_true rfl) ?_
  refine rr_aload_n d_To_init_0 rfl rfl ?_
  refine rr_objInit d_To_init_1 ol_To_3 (Nat.le_of_ble_eq_true rfl) (Nat.le_of_ble_eq_true rfl) ?_
  refine rr_aload_n d_To_init_4 rfl rfl ?_
  refine rr_sipush 401 d_To_init_5 rfl ?_
  refine rr_newI (401) d_To_init_8 (by decide) (by decide) (Nat.le_of_ble_eq_true rfl) (Nat.le_of_ble_eq_true rfl) (Nat.le_of_ble_eq_true rfl) (Nat.le_of_ble_eq_true rfl) ?_
  refine rr_putF d_To_init_10 rfl fF_To_9 rfl rfl rfl ?_
  refine rr_aload_n d_To_init_13 rfl rfl ?_
  refine rr_sipush 401 d_To_init_14 rfl ?_
  refine rr_newI (401) d_To_init_17 (by decide) (by decide) (Nat.le_of_ble_eq_true rfl) (Nat.le_of_ble_eq_true rfl) (Nat.le_of_ble_eq_true rfl) (Nat.le_of_ble_eq_true rfl) ?_
  refine rr_putF d_To_init_19 rfl fF_To_15 rfl rfl rfl ?_
  refine rr_aload_n d_To_init_22 rfl rfl ?_
  refine rr_sipush 401 d_To_init_23 rfl ?_
  refine rr_newI (401) d_To_init_26 (by decide) (by decide) (Nat.le_of_ble_eq_true rfl) (Nat.le_of_ble_eq_true rfl) (Nat.le_of_ble_eq_true rfl) (Nat.le_of_ble_eq_true rfl) ?_
  refine rr_putF d_To_init_28 rfl fF_To_18 rfl rfl rfl ?_
  exact rr_return d_To_init_31 rfl (Nat.le_of_ble_eq_true rfl) (Nat.le_of_ble_eq_true rfl) (⟨rfl, rfl⟩)

set_option maxRecDepth 100000 in
set_option maxHeartbeats 4000000 in
theorem s_Co_init_8 {x0 x1 x2 x3 x4 x5 x6 x7 : va_E} : rr_Spec 1 y_Co_init c_Co_init 1 none 3 326 [.ref 8] (x0 :: x1 :: x2 :: x3 :: x4 :: x5 :: x6 :: x7 :: .inr (0, [.null, .null, .null, .int 0, .int 0]) :: []) (fun r h1 => r = none ∧ h1 = x0 :: x1 :: x2 :: x3 :: x4 :: x5 :: x6 :: x7 :: .inr (0, [.ref 9, .ref 10, .ref 11, .int 0, .int 0]) :: .inl (0, 160, .inl (fun _ => 0)) :: .inl (0, 160, .inl (fun _ => 0)) :: .inl (0, 6, .inl (fun _ => 0)) :: []) := by
  refine rr_met (own := R_Co) (kd := (true, none)) (by decide +kernel) rfl (fun _ => rfl) rfl (Nat.le_of_ble_eq_true rfl) ?_
  refine rr_aload_n d_Co_init_0 rfl rfl ?_
  refine rr_objInit d_Co_init_1 ol_Co_3 (Nat.le_of_ble_eq_true rfl) (Nat.le_of_ble_eq_true rfl) ?_
  refine rr_aload_n d_Co_init_4 rfl rfl ?_
  refine rr_sipush 160 d_Co_init_5 rfl ?_
  refine rr_newI (160) d_Co_init_8 (by decide) (by decide) (Nat.le_of_ble_eq_true rfl) (Nat.le_of_ble_eq_true rfl) (Nat.le_of_ble_eq_true rfl) (Nat.le_of_ble_eq_true rfl) ?_
  refine rr_putF d_Co_init_10 rfl fF_Co_9 rfl rfl rfl ?_
  refine rr_aload_n d_Co_init_13 rfl rfl ?_
  refine rr_sipush 160 d_Co_init_14 rfl ?_
  refine rr_newI (160) d_Co_init_17 (by decide) (by decide) (Nat.le_of_ble_eq_true rfl) (Nat.le_of_ble_eq_true rfl) (Nat.le_of_ble_eq_true rfl) (Nat.le_of_ble_eq_true rfl) ?_
  refine rr_putF d_Co_init_19 rfl fF_Co_15 rfl rfl rfl ?_
  refine rr_aload_n d_Co_init_22 rfl rfl ?_
  refine rr_bipush 6 d_Co_init_23 rfl ?_
  refine rr_newI (6) d_Co_init_25 (by decide) (by decide) (Nat.le_of_ble_eq_true rfl) (Nat.le_of_ble_eq_true rfl) (Nat.le_of_ble_eq_true rfl) (Nat.le_of_ble_eq_true rfl) ?_
  refine rr_putF d_Co_init_27 rfl fF_Co_18 rfl rfl rfl ?_
  exact rr_return d_Co_init_30 rfl (Nat.le_of_ble_eq_true rfl) (Nat.le_of_ble_eq_true rfl) (⟨rfl, rfl⟩)

set_option maxRecDepth 100000 in
set_option maxHeartbeats 4000000 in
theorem s_Co_init_20 {x0 x1 x2 x3 x4 x5 x6 x7 x8 x9 x10 x11 x12 x13 x14 x15 x16 x17 x18 x19 : va_E} : rr_Spec 1 y_Co_init c_Co_init 1 none 3 326 [.ref 20] (x0 :: x1 :: x2 :: x3 :: x4 :: x5 :: x6 :: x7 :: x8 :: x9 :: x10 :: x11 :: x12 :: x13 :: x14 :: x15 :: x16 :: x17 :: x18 :: x19 :: .inr (0, [.null, .null, .null, .int 0, .int 0]) :: []) (fun r h1 => r = none ∧ h1 = x0 :: x1 :: x2 :: x3 :: x4 :: x5 :: x6 :: x7 :: x8 :: x9 :: x10 :: x11 :: x12 :: x13 :: x14 :: x15 :: x16 :: x17 :: x18 :: x19 :: .inr (0, [.ref 21, .ref 22, .ref 23, .int 0, .int 0]) :: .inl (0, 160, .inl (fun _ => 0)) :: .inl (0, 160, .inl (fun _ => 0)) :: .inl (0, 6, .inl (fun _ => 0)) :: []) := by
  refine rr_met (own := R_Co) (kd := (true, none)) (by decide +kernel) rfl (fun _ => rfl) rfl (Nat.le_of_ble_eq_true rfl) ?_
  refine rr_aload_n d_Co_init_0 rfl rfl ?_
  refine rr_objInit d_Co_init_1 ol_Co_3 (Nat.le_of_ble_eq_true rfl) (Nat.le_of_ble_eq_true rfl) ?_
  refine rr_aload_n d_Co_init_4 rfl rfl ?_
  refine rr_sipush 160 d_Co_init_5 rfl ?_
  refine rr_newI (160) d_Co_init_8 (by decide) (by decide) (Nat.le_of_ble_eq_true rfl) (Nat.le_of_ble_eq_true rfl) (Nat.le_of_ble_eq_true rfl) (Nat.le_of_ble_eq_true rfl) ?_
  refine rr_putF d_Co_init_10 rfl fF_Co_9 rfl rfl rfl ?_
  refine rr_aload_n d_Co_init_13 rfl rfl ?_
  refine rr_sipush 160 d_Co_init_14 rfl ?_
  refine rr_newI (160) d_Co_init_17 (by decide) (by decide) (Nat.le_of_ble_eq_true rfl) (Nat.le_of_ble_eq_true rfl) (Nat.le_of_ble_eq_true rfl) (Nat.le_of_ble_eq_true rfl) ?_
  refine rr_putF d_Co_init_19 rfl fF_Co_15 rfl rfl rfl ?_
  refine rr_aload_n d_Co_init_22 rfl rfl ?_
  refine rr_bipush 6 d_Co_init_23 rfl ?_
  refine rr_newI (6) d_Co_init_25 (by decide) (by decide) (Nat.le_of_ble_eq_true rfl) (Nat.le_of_ble_eq_true rfl) (Nat.le_of_ble_eq_true rfl) (Nat.le_of_ble_eq_true rfl) ?_
  refine rr_putF d_Co_init_27 rfl fF_Co_18 rfl rfl rfl ?_
  exact rr_return d_Co_init_30 rfl (Nat.le_of_ble_eq_true rfl) (Nat.le_of_ble_eq_true rfl) (⟨rfl, rfl⟩)

set_option maxRecDepth 100000 in
set_option maxHeartbeats 4000000 in
theorem s_Ma_init {x0 x1 x2 x3 x4 x5 x6 x7 x8 x9 x10 x11 : va_E} : rr_Spec 1 y_Ma_init c_Ma_init 1 none 7 3528 [.ref 12] (x0 :: x1 :: x2 :: x3 :: x4 :: x5 :: x6 :: x7 :: x8 :: x9 :: x10 :: x11 :: .inr (1, [.null, .null, .int 0, .null, .null, .int 0, .null, .null, .int 0, .null, .int 0]) :: []) (fun r h1 => r = none ∧ h1 = x0 :: x1 :: x2 :: x3 :: x4 :: x5 :: x6 :: x7 :: x8 :: x9 :: x10 :: x11 :: .inr (1, [.ref 13, .ref 14, .int 0, .ref 15, .ref 16, .int 0, .ref 17, .ref 18, .int 0, .ref 19, .int 0]) :: .inl (0, 32, .inl (fun _ => 0)) :: .inl (0, 80, .inl (fun _ => 0)) :: .inl (0, 8, .inl (fun _ => 0)) :: .inl (0, 8, .inl (fun _ => 0)) :: .inl (0, 1600, .inl (fun _ => 0)) :: .inl (0, 1600, .inl (fun _ => 0)) :: .inl (0, 200, .inl (fun _ => 0)) :: []) := by
  refine rr_met (own := R_Ma) (kd := (true, none)) (by decide +kernel) rfl (fun _ => rfl) rfl (Nat.le_of_ble_eq_true rfl) ?_
  refine rr_aload_n d_Ma_init_0 rfl rfl ?_
  refine rr_objInit d_Ma_init_1 ol_Ma_3 (Nat.le_of_ble_eq_true rfl) (Nat.le_of_ble_eq_true rfl) ?_
  refine rr_aload_n d_Ma_init_4 rfl rfl ?_
  refine rr_bipush 32 d_Ma_init_5 rfl ?_
  refine rr_newI (32) d_Ma_init_7 (by decide) (by decide) (Nat.le_of_ble_eq_true rfl) (Nat.le_of_ble_eq_true rfl) (Nat.le_of_ble_eq_true rfl) (Nat.le_of_ble_eq_true rfl) ?_
  refine rr_putF d_Ma_init_9 rfl fF_Ma_9 rfl rfl rfl ?_
  refine rr_aload_n d_Ma_init_12 rfl rfl ?_
  refine rr_bipush 80 d_Ma_init_13 rfl ?_
  refine rr_newI (80) d_Ma_init_15 (by decide) (by decide) (Nat.le_of_ble_eq_true rfl) (Nat.le_of_ble_eq_true rfl) (Nat.le_of_ble_eq_true rfl) (Nat.le_of_ble_eq_true rfl) ?_
  refine rr_putF d_Ma_init_17 rfl fF_Ma_15 rfl rfl rfl ?_
  refine rr_aload_n d_Ma_init_20 rfl rfl ?_
  refine rr_bipush 8 d_Ma_init_21 rfl ?_
  refine rr_newI (8) d_Ma_init_23 (by decide) (by decide) (Nat.le_of_ble_eq_true rfl) (Nat.le_of_ble_eq_true rfl) (Nat.le_of_ble_eq_true rfl) (Nat.le_of_ble_eq_true rfl) ?_
  refine rr_putF d_Ma_init_25 rfl fF_Ma_18 rfl rfl rfl ?_
  refine rr_aload_n d_Ma_init_28 rfl rfl ?_
  refine rr_bipush 8 d_Ma_init_29 rfl ?_
  refine rr_newI (8) d_Ma_init_31 (by decide) (by decide) (Nat.le_of_ble_eq_true rfl) (Nat.le_of_ble_eq_true rfl) (Nat.le_of_ble_eq_true rfl) (Nat.le_of_ble_eq_true rfl) ?_
  refine rr_putF d_Ma_init_33 rfl fF_Ma_21 rfl rfl rfl ?_
  refine rr_aload_n d_Ma_init_36 rfl rfl ?_
  refine rr_sipush 1600 d_Ma_init_37 rfl ?_
  refine rr_newI (1600) d_Ma_init_40 (by decide) (by decide) (Nat.le_of_ble_eq_true rfl) (Nat.le_of_ble_eq_true rfl) (Nat.le_of_ble_eq_true rfl) (Nat.le_of_ble_eq_true rfl) ?_
  refine rr_putF d_Ma_init_42 rfl fF_Ma_24 rfl rfl rfl ?_
  refine rr_aload_n d_Ma_init_45 rfl rfl ?_
  refine rr_sipush 1600 d_Ma_init_46 rfl ?_
  refine rr_newI (1600) d_Ma_init_49 (by decide) (by decide) (Nat.le_of_ble_eq_true rfl) (Nat.le_of_ble_eq_true rfl) (Nat.le_of_ble_eq_true rfl) (Nat.le_of_ble_eq_true rfl) ?_
  refine rr_putF d_Ma_init_51 rfl fF_Ma_27 rfl rfl rfl ?_
  refine rr_aload_n d_Ma_init_54 rfl rfl ?_
  refine rr_sipush 200 d_Ma_init_55 rfl ?_
  refine rr_newI (200) d_Ma_init_58 (by decide) (by decide) (Nat.le_of_ble_eq_true rfl) (Nat.le_of_ble_eq_true rfl) (Nat.le_of_ble_eq_true rfl) (Nat.le_of_ble_eq_true rfl) ?_
  refine rr_putF d_Ma_init_60 rfl fF_Ma_30 rfl rfl rfl ?_
  exact rr_return d_Ma_init_63 rfl (Nat.le_of_ble_eq_true rfl) (Nat.le_of_ble_eq_true rfl) (⟨rfl, rfl⟩)

set_option maxRecDepth 100000 in
set_option maxHeartbeats 4000000 in
theorem s_Re_init {x0 x1 x2 : va_E} : rr_Spec 2 y_Re_init c_Re_init 1 none 8 1538 [.ref 3] (x0 :: x1 :: x2 :: .inr (2, [.null, .null, .int 0, .int 0]) :: []) (fun r h1 => r = none ∧ h1 = x0 :: x1 :: x2 :: .inr (2, [.ref 4, .ref 8, .int 0, .int 0]) :: .inr (4, [.ref 5, .ref 6, .ref 7, .int 0]) :: .inl (0, 401, .inl (fun _ => 0)) :: .inl (0, 401, .inl (fun _ => 0)) :: .inl (0, 401, .inl (fun _ => 0)) :: .inr (0, [.ref 9, .ref 10, .ref 11, .int 0, .int 0]) :: .inl (0, 160, .inl (fun _ => 0)) :: .inl (0, 160, .inl (fun _ => 0)) :: .inl (0, 6, .inl (fun _ => 0)) :: []) := by
  refine rr_met (own := R_Re) (kd := (true, none)) (by decide +kernel) rfl (fun _ => rfl) rfl (Nat.le_of_ble_eq_true rfl) ?_
  refine rr_aload_n d_Re_init_0 rfl rfl ?_
  refine rr_objInit d_Re_init_1 ol_Re_3 (Nat.le_of_ble_eq_true rfl) (Nat.le_of_ble_eq_true rfl) ?_
  refine rr_aload_n d_Re_init_4 rfl rfl ?_
  refine rr_new d_Re_init_5 nl_Re_9 (Nat.le_of_ble_eq_true rfl) (Nat.le_of_ble_eq_true rfl) (Nat.le_of_ble_eq_true rfl) ?_
  refine rr_dup d_Re_init_8 rfl ?_
  refine rr_callI d_Re_init_9 il_Re_11 m_To_init (s_To_init) rfl rfl (Nat.le_of_ble_eq_true rfl) (Nat.le_of_ble_eq_true rfl) (Nat.le_of_ble_eq_true rfl) (Nat.le_of_ble_eq_true rfl) (Nat.le_of_ble_eq_true rfl) (fun rv9 hp9 hq => ?_)
  obtain ⟨rfl, rfl⟩ := hq
  refine rr_putF d_Re_init_12 rfl fF_Re_12 rfl rfl rfl ?_
  refine rr_aload_n d_Re_init_15 rfl rfl ?_
  refine rr_new d_Re_init_16 nl_Re_18 (Nat.le_of_ble_eq_true rfl) (Nat.le_of_ble_eq_true rfl) (Nat.le_of_ble_eq_true rfl) ?_
  refine rr_dup d_Re_init_19 rfl ?_
  refine rr_callI d_Re_init_20 il_Re_20 m_Co_init (s_Co_init_8) rfl rfl (Nat.le_of_ble_eq_true rfl) (Nat.le_of_ble_eq_true rfl) (Nat.le_of_ble_eq_true rfl) (Nat.le_of_ble_eq_true rfl) (Nat.le_of_ble_eq_true rfl) (fun rv9 hp9 hq => ?_)
  obtain ⟨rfl, rfl⟩ := hq
  refine rr_putf d_Re_init_23 fl_Re_21 rfl rfl rfl rfl ?_
  exact rr_return d_Re_init_26 rfl (Nat.le_of_ble_eq_true rfl) (Nat.le_of_ble_eq_true rfl) (⟨rfl, rfl⟩)

set_option maxRecDepth 100000 in
set_option maxHeartbeats 4000000 in
theorem s_Ru_init  : rr_Spec 3 y_Ru_init c_Ru_init 1 none 23 5814 [.ref 0] (.inr (5, [.null, .null, .null, .null]) :: []) (fun r h1 => r = none ∧ h1 = .inr (5, [.ref 1, .ref 3, .ref 12, .ref 20]) :: .inr (3, [.ref 2, .int 0]) :: .inl (1, 400, .inl (fun _ => 0)) :: .inr (2, [.ref 4, .ref 8, .int 0, .int 0]) :: .inr (4, [.ref 5, .ref 6, .ref 7, .int 0]) :: .inl (0, 401, .inl (fun _ => 0)) :: .inl (0, 401, .inl (fun _ => 0)) :: .inl (0, 401, .inl (fun _ => 0)) :: .inr (0, [.ref 9, .ref 10, .ref 11, .int 0, .int 0]) :: .inl (0, 160, .inl (fun _ => 0)) :: .inl (0, 160, .inl (fun _ => 0)) :: .inl (0, 6, .inl (fun _ => 0)) :: .inr (1, [.ref 13, .ref 14, .int 0, .ref 15, .ref 16, .int 0, .ref 17, .ref 18, .int 0, .ref 19, .int 0]) :: .inl (0, 32, .inl (fun _ => 0)) :: .inl (0, 80, .inl (fun _ => 0)) :: .inl (0, 8, .inl (fun _ => 0)) :: .inl (0, 8, .inl (fun _ => 0)) :: .inl (0, 1600, .inl (fun _ => 0)) :: .inl (0, 1600, .inl (fun _ => 0)) :: .inl (0, 200, .inl (fun _ => 0)) :: .inr (0, [.ref 21, .ref 22, .ref 23, .int 0, .int 0]) :: .inl (0, 160, .inl (fun _ => 0)) :: .inl (0, 160, .inl (fun _ => 0)) :: .inl (0, 6, .inl (fun _ => 0)) :: []) := by
  refine rr_met (own := R_Ru) (kd := (true, none)) (by decide +kernel) rfl (fun _ => rfl) rfl (Nat.le_of_ble_eq_true rfl) ?_
  refine rr_aload_n d_Ru_init_0 rfl rfl ?_
  refine rr_objInit d_Ru_init_1 ol_Ru_3 (Nat.le_of_ble_eq_true rfl) (Nat.le_of_ble_eq_true rfl) ?_
  refine rr_aload_n d_Ru_init_4 rfl rfl ?_
  refine rr_new d_Ru_init_5 nl_Ru_9 (Nat.le_of_ble_eq_true rfl) (Nat.le_of_ble_eq_true rfl) (Nat.le_of_ble_eq_true rfl) ?_
  refine rr_dup d_Ru_init_8 rfl ?_
  refine rr_callI d_Ru_init_9 il_Ru_11 m_Ta_init (s_Ta_init) rfl rfl (Nat.le_of_ble_eq_true rfl) (Nat.le_of_ble_eq_true rfl) (Nat.le_of_ble_eq_true rfl) (Nat.le_of_ble_eq_true rfl) (Nat.le_of_ble_eq_true rfl) (fun rv9 hp9 hq => ?_)
  obtain ⟨rfl, rfl⟩ := hq
  refine rr_putF d_Ru_init_12 rfl fF_Ru_12 rfl rfl rfl ?_
  refine rr_aload_n d_Ru_init_15 rfl rfl ?_
  refine rr_new d_Ru_init_16 nl_Ru_16 (Nat.le_of_ble_eq_true rfl) (Nat.le_of_ble_eq_true rfl) (Nat.le_of_ble_eq_true rfl) ?_
  refine rr_dup d_Ru_init_19 rfl ?_
  refine rr_callI d_Ru_init_20 il_Ru_18 m_Re_init (s_Re_init) rfl rfl (Nat.le_of_ble_eq_true rfl) (Nat.le_of_ble_eq_true rfl) (Nat.le_of_ble_eq_true rfl) (Nat.le_of_ble_eq_true rfl) (Nat.le_of_ble_eq_true rfl) (fun rv9 hp9 hq => ?_)
  obtain ⟨rfl, rfl⟩ := hq
  refine rr_putF d_Ru_init_23 rfl fF_Ru_19 rfl rfl rfl ?_
  refine rr_aload_n d_Ru_init_26 rfl rfl ?_
  refine rr_new d_Ru_init_27 nl_Ru_23 (Nat.le_of_ble_eq_true rfl) (Nat.le_of_ble_eq_true rfl) (Nat.le_of_ble_eq_true rfl) ?_
  refine rr_dup d_Ru_init_30 rfl ?_
  refine rr_callI d_Ru_init_31 il_Ru_25 m_Ma_init (s_Ma_init) rfl rfl (Nat.le_of_ble_eq_true rfl) (Nat.le_of_ble_eq_true rfl) (Nat.le_of_ble_eq_true rfl) (Nat.le_of_ble_eq_true rfl) (Nat.le_of_ble_eq_true rfl) (fun rv9 hp9 hq => ?_)
  obtain ⟨rfl, rfl⟩ := hq
  refine rr_putF d_Ru_init_34 rfl fF_Ru_26 rfl rfl rfl ?_
  refine rr_aload_n d_Ru_init_37 rfl rfl ?_
  refine rr_new d_Ru_init_38 nl_Ru_30 (Nat.le_of_ble_eq_true rfl) (Nat.le_of_ble_eq_true rfl) (Nat.le_of_ble_eq_true rfl) ?_
  refine rr_dup d_Ru_init_41 rfl ?_
  refine rr_callI d_Ru_init_42 il_Ru_32 m_Co_init (s_Co_init_20) rfl rfl (Nat.le_of_ble_eq_true rfl) (Nat.le_of_ble_eq_true rfl) (Nat.le_of_ble_eq_true rfl) (Nat.le_of_ble_eq_true rfl) (Nat.le_of_ble_eq_true rfl) (fun rv9 hp9 hq => ?_)
  obtain ⟨rfl, rfl⟩ := hq
  refine rr_putf d_Ru_init_45 fl_Ru_33 rfl rfl rfl rfl ?_
  exact rr_return d_Ru_init_48 rfl (Nat.le_of_ble_eq_true rfl) (Nat.le_of_ble_eq_true rfl) (⟨rfl, rfl⟩)
end
section
/-! The reference: tokens. -/
/-- the reference's kinds: 0 end, 1 word, 2 number, 3 sign, 4 bad -/
def mk (k : Nat) : Nat := if k = 0 then 0 else if k = 1 then 4 else if k ≤ 8 then 1 else if k = 9 then 2 else 3

set_option maxRecDepth 100000 in
set_option maxHeartbeats 4000000 in
theorem s_Mo_in {h : rr_H} {x a b : Int32} : rr_Spec 0 y_Mo_in c_Mo_in 3 (some .boolean) 0 0 [.int x, .int a, .int b] (h) (fun r h1 => r = some (.int (sp_b (decide (a ≤ x ∧ x ≤ b)))) ∧ h1 = h) := by
  refine rr_met (own := R_Mo) (kd := (false, none)) (by decide +kernel) rfl (fun h => by cases h) rfl (Nat.le_of_ble_eq_true rfl) ?_
  refine rr_iload_n d_Mo_in_0 rfl rfl ?_
  refine rr_iload_n d_Mo_in_1 rfl rfl ?_
  refine rr_icmp_lt 14 d_Mo_in_2 (by decide) (fun hc => ?_) (fun hc => ?_)
  · rw [show decide (a ≤ x ∧ x ≤ b) = false from decide_eq_false (fun q => Int32.not_le.mpr hc q.1)]
    refine rr_iconst 0 d_Mo_in_14 rfl ?_
    exact rr_ireturn d_Mo_in_15 rfl rfl (Nat.le_of_ble_eq_true rfl) (Nat.le_of_ble_eq_true rfl) (⟨rfl, rfl⟩)
  · skip
    refine rr_iload_n d_Mo_in_5 rfl rfl ?_
    refine rr_iload_n d_Mo_in_6 rfl rfl ?_
    refine rr_icmp_gt 14 d_Mo_in_7 (by decide) (fun hd => ?_) (fun hd => ?_)
    · rw [show decide (a ≤ x ∧ x ≤ b) = false from decide_eq_false (fun q => Int32.not_le.mpr hd q.2)]
      refine rr_iconst 0 d_Mo_in_14 rfl ?_
      exact rr_ireturn d_Mo_in_15 rfl rfl (Nat.le_of_ble_eq_true rfl) (Nat.le_of_ble_eq_true rfl) (⟨rfl, rfl⟩)
    · rw [show decide (a ≤ x ∧ x ≤ b) = true from decide_eq_true ⟨Int32.not_lt.mp hc, Int32.not_lt.mp hd⟩]
      refine rr_iconst 1 d_Mo_in_10 rfl ?_
      refine rr_goto 15 d_Mo_in_11 (by decide) ?_
      exact rr_ireturn d_Mo_in_15 rfl rfl (Nat.le_of_ble_eq_true rfl) (Nat.le_of_ble_eq_true rfl) (⟨rfl, rfl⟩)

set_option maxRecDepth 100000 in
set_option maxHeartbeats 4000000 in
theorem s_Mo_isLetter {h : rr_H} {x : Int32} : rr_Spec 0 y_Mo_isLetter c_Mo_isLetter 1 (some .boolean) 0 0 [.int x] (h) (fun r h1 => r = some (.int (sp_b (sp_isL x))) ∧ h1 = h) := by
  refine rr_met (own := R_Mo) (kd := (false, none)) (by decide +kernel) rfl (fun h => by cases h) rfl (Nat.le_of_ble_eq_true rfl) ?_
  refine rr_iload_n d_Mo_isLetter_0 rfl rfl ?_
  refine rr_bipush 97 d_Mo_isLetter_1 rfl ?_
  refine rr_icmp_lt 16 d_Mo_isLetter_3 (by decide) (fun hc => ?_) (fun hc => ?_)
  · have e : sp_isL x = false := by
      unfold sp_isL
      rw [decide_eq_false (Int32.not_le.mpr hc)]
      rfl
    rw [e]
    refine rr_iconst 0 d_Mo_isLetter_16 rfl ?_
    exact rr_ireturn d_Mo_isLetter_17 rfl rfl (Nat.le_of_ble_eq_true rfl) (Nat.le_of_ble_eq_true rfl) (⟨rfl, rfl⟩)
  · skip
    refine rr_iload_n d_Mo_isLetter_6 rfl rfl ?_
    refine rr_bipush 122 d_Mo_isLetter_7 rfl ?_
    refine rr_icmp_gt 16 d_Mo_isLetter_9 (by decide) (fun hd => ?_) (fun hd => ?_)
    · have e : sp_isL x = false := by
        unfold sp_isL
        rw [decide_eq_false (Int32.not_le.mpr hd), Bool.and_false]
      rw [e]
      refine rr_iconst 0 d_Mo_isLetter_16 rfl ?_
      exact rr_ireturn d_Mo_isLetter_17 rfl rfl (Nat.le_of_ble_eq_true rfl) (Nat.le_of_ble_eq_true rfl) (⟨rfl, rfl⟩)
    · have e : sp_isL x = true := by
        unfold sp_isL
        rw [decide_eq_true (Int32.not_lt.mp hc), decide_eq_true (Int32.not_lt.mp hd)]
        rfl
      rw [e]
      refine rr_iconst 1 d_Mo_isLetter_12 rfl ?_
      refine rr_goto 17 d_Mo_isLetter_13 (by decide) ?_
      exact rr_ireturn d_Mo_isLetter_17 rfl rfl (Nat.le_of_ble_eq_true rfl) (Nat.le_of_ble_eq_true rfl) (⟨rfl, rfl⟩)

set_option maxRecDepth 100000 in
set_option maxHeartbeats 4000000 in
theorem s_Mo_isDigit {h : rr_H} {x : Int32} : rr_Spec 0 y_Mo_isDigit c_Mo_isDigit 1 (some .boolean) 0 0 [.int x] (h) (fun r h1 => r = some (.int (sp_b (sp_isD x))) ∧ h1 = h) := by
  refine rr_met (own := R_Mo) (kd := (false, none)) (by decide +kernel) rfl (fun h => by cases h) rfl (Nat.le_of_ble_eq_true rfl) ?_
  refine rr_iload_n d_Mo_isDigit_0 rfl rfl ?_
  refine rr_bipush 48 d_Mo_isDigit_1 rfl ?_
  refine rr_icmp_lt 16 d_Mo_isDigit_3 (by decide) (fun hc => ?_) (fun hc => ?_)
  · have e : sp_isD x = false := by
      unfold sp_isD
      rw [decide_eq_false (Int32.not_le.mpr hc)]
      rfl
    rw [e]
    refine rr_iconst 0 d_Mo_isDigit_16 rfl ?_
    exact rr_ireturn d_Mo_isDigit_17 rfl rfl (Nat.le_of_ble_eq_true rfl) (Nat.le_of_ble_eq_true rfl) (⟨rfl, rfl⟩)
  · skip
    refine rr_iload_n d_Mo_isDigit_6 rfl rfl ?_
    refine rr_bipush 57 d_Mo_isDigit_7 rfl ?_
    refine rr_icmp_gt 16 d_Mo_isDigit_9 (by decide) (fun hd => ?_) (fun hd => ?_)
    · have e : sp_isD x = false := by
        unfold sp_isD
        rw [decide_eq_false (Int32.not_le.mpr hd), Bool.and_false]
      rw [e]
      refine rr_iconst 0 d_Mo_isDigit_16 rfl ?_
      exact rr_ireturn d_Mo_isDigit_17 rfl rfl (Nat.le_of_ble_eq_true rfl) (Nat.le_of_ble_eq_true rfl) (⟨rfl, rfl⟩)
    · have e : sp_isD x = true := by
        unfold sp_isD
        rw [decide_eq_true (Int32.not_lt.mp hc), decide_eq_true (Int32.not_lt.mp hd)]
        rfl
      rw [e]
      refine rr_iconst 1 d_Mo_isDigit_12 rfl ?_
      refine rr_goto 17 d_Mo_isDigit_13 (by decide) ?_
      exact rr_ireturn d_Mo_isDigit_17 rfl rfl (Nat.le_of_ble_eq_true rfl) (Nat.le_of_ble_eq_true rfl) (⟨rfl, rfl⟩)

set_option maxRecDepth 100000 in
set_option maxHeartbeats 4000000 in
theorem l_is {x0 x1 x2 x3 x4 x5 x6 x7 x8 x9 x10 x11 x12 x13 x14 x15 x16 x17 x18 x19 x20 x21 x22 x23 : va_E} {g : rr_H} {tm ru fa pa my pcv at0 sz : Int32} {lt : Value} {nu : Int64} {f : Nat → Int32} {p e j kd : Nat} (hj : j < rr_nS) (he : e ≤ 400) (hp : p + rr_len.getD j 0 = e) : ∀ (k i : Nat), i + k = rr_len.getD j 0 → rr_A R_Mo c_Mo_is 3 (some .boolean) (false, none) { frames := 4, cells := 0, slots := 0, locals := 4 * 64 } (fun r h1 => r = some (.int (sp_b (sp_eqs f p j i k))) ∧ h1 = x0 :: x1 :: x2 :: x3 :: x4 :: x5 :: x6 :: x7 :: x8 :: x9 :: x10 :: x11 :: x12 :: x13 :: x14 :: x15 :: x16 :: x17 :: x18 :: x19 :: x20 :: x21 :: x22 :: x23 :: .inr (6, [.ref 25, .int tm, lt, .ref 26, .int ru, .int at0, .int sz, .int (nI kd), .int (nI p), .int (nI e), .int fa, .int pa, .long nu, .ref 27, .int my, .ref 28, .ref 29, .ref 30, .ref 31, .int pcv]) :: .inl (1, 400, .inl f) :: g) 0 0 36 [(2, .int (nI i)), (0, .ref 24), (1, .ref (rr_K0 + j))] [] (x0 :: x1 :: x2 :: x3 :: x4 :: x5 :: x6 :: x7 :: x8 :: x9 :: x10 :: x11 :: x12 :: x13 :: x14 :: x15 :: x16 :: x17 :: x18 :: x19 :: x20 :: x21 :: x22 :: x23 :: .inr (6, [.ref 25, .int tm, lt, .ref 26, .int ru, .int at0, .int sz, .int (nI kd), .int (nI p), .int (nI e), .int fa, .int pa, .long nu, .ref 27, .int my, .ref 28, .ref 29, .ref 30, .ref 31, .int pcv]) :: .inl (1, 400, .inl f) :: g) := by
  have h6 := sp_len_ok j hj
  intro k
  induction k with
  | zero =>
    intro i hi
    refine rr_iload_n d_Mo_is_36 rfl rfl ?_
    refine rr_aload_n d_Mo_is_37 rfl rfl ?_
    refine rr_callS0 d_Mo_is_38 il_Mo_100 m_St_length (s_St_length hj) hj rfl rfl rfl (Nat.le_of_ble_eq_true rfl) (Nat.le_of_ble_eq_true rfl) (Nat.le_of_ble_eq_true rfl) (Nat.le_of_ble_eq_true rfl) (Nat.le_of_ble_eq_true rfl) (fun rv9 hp9 hq => ?_)
    obtain ⟨rfl, rfl⟩ := hq
    refine rr_icmp_ge 71 d_Mo_is_41 (by decide) (fun _ => ?_) (fun c9 => absurd (nI_le (by omega) (by omega)) c9)
    refine rr_iconst 1 d_Mo_is_71 rfl ?_
    exact rr_ireturn d_Mo_is_72 rfl rfl (Nat.le_of_ble_eq_true rfl) (Nat.le_of_ble_eq_true rfl) (⟨rfl, rfl⟩)
  | succ k ih =>
    intro i hi
    refine rr_iload_n d_Mo_is_36 rfl rfl ?_
    refine rr_aload_n d_Mo_is_37 rfl rfl ?_
    refine rr_callS0 d_Mo_is_38 il_Mo_100 m_St_length (s_St_length hj) hj rfl rfl rfl (Nat.le_of_ble_eq_true rfl) (Nat.le_of_ble_eq_true rfl) (Nat.le_of_ble_eq_true rfl) (Nat.le_of_ble_eq_true rfl) (Nat.le_of_ble_eq_true rfl) (fun rv9 hp9 hq => ?_)
    obtain ⟨rfl, rfl⟩ := hq
    refine rr_icmp_ge 71 d_Mo_is_41 (by decide) (fun c9 => absurd c9 (nI_ge (by omega) (by omega))) (fun _ => ?_)
    refine rr_aload_n d_Mo_is_44 rfl rfl ?_
    refine rr_getf d_Mo_is_45 fl_Mo_9 rfl rfl ?_
    refine rr_aload_n d_Mo_is_48 rfl rfl ?_
    refine rr_getf d_Mo_is_49 fl_Mo_46 rfl rfl ?_
    refine rr_iload_n d_Mo_is_52 rfl rfl ?_
    refine rr_iadd d_Mo_is_53 ?_
    rw [nI_add]
    refine rr_bald d_Mo_is_54 rfl (vp_in_nI (n := p + i) (by omega) (by decide)) ?_
    refine rr_aload_n d_Mo_is_55 rfl rfl ?_
    refine rr_iload_n d_Mo_is_56 rfl rfl ?_
    rw [nI_clamp (by omega)]
    refine rr_callS0 d_Mo_is_57 il_Mo_106 m_St_charAt (s_St_charAt hj (i := i) (by omega)) hj rfl rfl rfl (Nat.le_of_ble_eq_true rfl) (Nat.le_of_ble_eq_true rfl) (Nat.le_of_ble_eq_true rfl) (Nat.le_of_ble_eq_true rfl) (Nat.le_of_ble_eq_true rfl) (fun rv9 hp9 hq => ?_)
    obtain ⟨rfl, rfl⟩ := hq
    refine rr_icmp_eq 65 d_Mo_is_60 (by decide) (fun hc => ?_) (fun hc => ?_)
    · have e1 : sp_eqs f p j i (k + 1) = sp_eqs f p j (i + 1) k := by
        show (decide (f (p + i) = sp_ch j i) && sp_eqs f p j (i + 1) k) = _
        rw [decide_eq_true hc]
        rfl
      rw [e1]
      refine rr_iinc 1 d_Mo_is_65 rfl rfl (by decide) ?_
      refine rr_goto 36 d_Mo_is_68 (by decide) ?_
      rw [nI_1]
      exact rr_lvs _ rfl (ih (i + 1) (by omega))
    · have e1 : sp_eqs f p j i (k + 1) = false := by
        show (decide (f (p + i) = sp_ch j i) && sp_eqs f p j (i + 1) k) = _
        rw [decide_eq_false hc]
        rfl
      rw [e1]
      refine rr_iconst 0 d_Mo_is_63 rfl ?_
      exact rr_ireturn d_Mo_is_64 rfl rfl (Nat.le_of_ble_eq_true rfl) (Nat.le_of_ble_eq_true rfl) (⟨rfl, rfl⟩)

set_option maxRecDepth 100000 in
set_option maxHeartbeats 4000000 in
theorem s_Mo_is {x0 x1 x2 x3 x4 x5 x6 x7 x8 x9 x10 x11 x12 x13 x14 x15 x16 x17 x18 x19 x20 x21 x22 x23 : va_E} {g : rr_H} {tm ru fa pa my pcv at0 sz : Int32} {lt : Value} {nu : Int64} {f : Nat → Int32} {p e j kd : Nat} (hj : j < rr_nS) (hk : kd ≤ 4) (hpe : p ≤ e) (he : e ≤ 400) : rr_Spec 4 y_Mo_is c_Mo_is 3 (some .boolean) 0 0 [.ref 24, .ref (rr_K0 + j)] (x0 :: x1 :: x2 :: x3 :: x4 :: x5 :: x6 :: x7 :: x8 :: x9 :: x10 :: x11 :: x12 :: x13 :: x14 :: x15 :: x16 :: x17 :: x18 :: x19 :: x20 :: x21 :: x22 :: x23 :: .inr (6, [.ref 25, .int tm, lt, .ref 26, .int ru, .int at0, .int sz, .int (nI kd), .int (nI p), .int (nI e), .int fa, .int pa, .long nu, .ref 27, .int my, .ref 28, .ref 29, .ref 30, .ref 31, .int pcv]) :: .inl (1, 400, .inl f) :: g) (fun r h1 => r = some (.int (sp_b (decide (kd = 1 ∨ kd = 3) && sp_spell f p e j))) ∧ h1 = x0 :: x1 :: x2 :: x3 :: x4 :: x5 :: x6 :: x7 :: x8 :: x9 :: x10 :: x11 :: x12 :: x13 :: x14 :: x15 :: x16 :: x17 :: x18 :: x19 :: x20 :: x21 :: x22 :: x23 :: .inr (6, [.ref 25, .int tm, lt, .ref 26, .int ru, .int at0, .int sz, .int (nI kd), .int (nI p), .int (nI e), .int fa, .int pa, .long nu, .ref 27, .int my, .ref 28, .ref 29, .ref 30, .ref 31, .int pcv]) :: .inl (1, 400, .inl f) :: g) := by
  have h6 := sp_len_ok j hj
  refine rr_met (own := R_Mo) (kd := (false, none)) (by decide +kernel) rfl (fun h => by cases h) rfl (Nat.le_of_ble_eq_true rfl) ?_
  refine rr_aload_n d_Mo_is_0 rfl rfl ?_
  refine rr_getf d_Mo_is_1 fl_Mo_49 rfl rfl ?_
  refine rr_iconst 1 d_Mo_is_4 rfl ?_
  have go : kd = 1 ∨ kd = 3 → rr_A R_Mo c_Mo_is 3 (some .boolean) (false, none) { frames := 4, cells := 0, slots := 0, locals := 4 * 64 } (fun r h1 => r = some (.int (sp_b (decide (kd = 1 ∨ kd = 3) && sp_spell f p e j))) ∧ h1 = x0 :: x1 :: x2 :: x3 :: x4 :: x5 :: x6 :: x7 :: x8 :: x9 :: x10 :: x11 :: x12 :: x13 :: x14 :: x15 :: x16 :: x17 :: x18 :: x19 :: x20 :: x21 :: x22 :: x23 :: .inr (6, [.ref 25, .int tm, lt, .ref 26, .int ru, .int at0, .int sz, .int (nI kd), .int (nI p), .int (nI e), .int fa, .int pa, .long nu, .ref 27, .int my, .ref 28, .ref 29, .ref 30, .ref 31, .int pcv]) :: .inl (1, 400, .inl f) :: g) 0 0 16 [(0, .ref 24), (1, .ref (rr_K0 + j))] [] (x0 :: x1 :: x2 :: x3 :: x4 :: x5 :: x6 :: x7 :: x8 :: x9 :: x10 :: x11 :: x12 :: x13 :: x14 :: x15 :: x16 :: x17 :: x18 :: x19 :: x20 :: x21 :: x22 :: x23 :: .inr (6, [.ref 25, .int tm, lt, .ref 26, .int ru, .int at0, .int sz, .int (nI kd), .int (nI p), .int (nI e), .int fa, .int pa, .long nu, .ref 27, .int my, .ref 28, .ref 29, .ref 30, .ref 31, .int pcv]) :: .inl (1, 400, .inl f) :: g) := by
    intro hk13
    rw [show decide (kd = 1 ∨ kd = 3) = true from decide_eq_true hk13, Bool.true_and]
    refine rr_aload_n d_Mo_is_16 rfl rfl ?_
    refine rr_getf d_Mo_is_17 fl_Mo_56 rfl rfl ?_
    refine rr_aload_n d_Mo_is_20 rfl rfl ?_
    refine rr_getf d_Mo_is_21 fl_Mo_46 rfl rfl ?_
    refine rr_isub d_Mo_is_24 ?_
    refine rr_aload_n d_Mo_is_25 rfl rfl ?_
    rw [pk_sub hpe]
    refine rr_callS0 d_Mo_is_26 il_Mo_100 m_St_length (s_St_length hj) hj rfl rfl rfl (Nat.le_of_ble_eq_true rfl) (Nat.le_of_ble_eq_true rfl) (Nat.le_of_ble_eq_true rfl) (Nat.le_of_ble_eq_true rfl) (Nat.le_of_ble_eq_true rfl) (fun rv9 hp9 hq => ?_)
    obtain ⟨rfl, rfl⟩ := hq
    refine rr_icmp_eq 34 d_Mo_is_29 (by decide) (fun hc => ?_) (fun hc => ?_)
    · have hp : p + rr_len.getD j 0 = e := by
        have := (nI_eq (by omega) (by omega)).mp hc
        omega
      have e1 : sp_spell f p e j = sp_eqs f p j 0 (rr_len.getD j 0) := by
        unfold sp_spell
        rw [decide_eq_true hp]
        rfl
      rw [e1]
      refine rr_iconst 0 d_Mo_is_34 rfl ?_
      refine rr_istore_n d_Mo_is_35 rfl (by decide) ?_
      exact rr_lvs _ rfl (l_is hj he hp (rr_len.getD j 0) 0 (by omega))
    · have e1 : sp_spell f p e j = false := by
        unfold sp_spell
        rw [decide_eq_false (fun q => hc ((nI_eq (by omega) (by omega)).mpr (by omega)))]
        rfl
      rw [e1]
      refine rr_iconst 0 d_Mo_is_32 rfl ?_
      exact rr_ireturn d_Mo_is_33 rfl rfl (Nat.le_of_ble_eq_true rfl) (Nat.le_of_ble_eq_true rfl) (⟨rfl, rfl⟩)
  refine rr_icmp_eq 16 d_Mo_is_5 (by decide) (fun h1 => ?_) (fun h1 => ?_)
  · exact go (Or.inl ((nI_eq (b := 1) (by omega) (by decide)).mp h1))
  refine rr_aload_n d_Mo_is_8 rfl rfl ?_
  refine rr_getf d_Mo_is_9 fl_Mo_49 rfl rfl ?_
  refine rr_iconst 3 d_Mo_is_12 rfl ?_
  refine rr_icmp_ne 32 d_Mo_is_13 (by decide) (fun h3 => ?_) (fun h3 => ?_)
  · rw [show decide (kd = 1 ∨ kd = 3) = false from decide_eq_false (fun q => q.elim (fun q => h1 ((nI_eq (b := 1) (by omega) (by decide)).mpr q)) (fun q => h3 ((nI_eq (b := 3) (by omega) (by decide)).mpr q))), Bool.false_and]
    refine rr_iconst 0 d_Mo_is_32 rfl ?_
    exact rr_ireturn d_Mo_is_33 rfl rfl (Nat.le_of_ble_eq_true rfl) (Nat.le_of_ble_eq_true rfl) (⟨rfl, rfl⟩)
  · exact go (Or.inr ((nI_eq (b := 3) (by omega) (by decide)).mp h3))

set_option maxRecDepth 100000 in
set_option maxHeartbeats 4000000 in
theorem s_Mo_bad {x0 x1 x2 x3 x4 x5 x6 x7 x8 x9 x10 x11 x12 x13 x14 x15 x16 x17 x18 x19 x20 x21 x22 x23 : va_E} {g : rr_H} {tm ru pa my pcv at0 sz kd0 to0 fr0 : Int32} {lt : Value} {nu : Int64} {f : Nat → Int32} : rr_Spec 0 y_Mo_bad c_Mo_bad 1 (some .boolean) 0 0 [.ref 24] (x0 :: x1 :: x2 :: x3 :: x4 :: x5 :: x6 :: x7 :: x8 :: x9 :: x10 :: x11 :: x12 :: x13 :: x14 :: x15 :: x16 :: x17 :: x18 :: x19 :: x20 :: x21 :: x22 :: x23 :: .inr (6, [.ref 25, .int tm, lt, .ref 26, .int ru, .int at0, .int sz, .int kd0, .int fr0, .int to0, .int (-1), .int pa, .long nu, .ref 27, .int my, .ref 28, .ref 29, .ref 30, .ref 31, .int pcv]) :: .inl (1, 400, .inl f) :: g) (fun r h1 => r = some (.int 0) ∧ h1 = x0 :: x1 :: x2 :: x3 :: x4 :: x5 :: x6 :: x7 :: x8 :: x9 :: x10 :: x11 :: x12 :: x13 :: x14 :: x15 :: x16 :: x17 :: x18 :: x19 :: x20 :: x21 :: x22 :: x23 :: .inr (6, [.ref 25, .int tm, lt, .ref 26, .int ru, .int at0, .int sz, .int kd0, .int fr0, .int to0, .int fr0, .int pa, .long nu, .ref 27, .int my, .ref 28, .ref 29, .ref 30, .ref 31, .int pcv]) :: .inl (1, 400, .inl f) :: g) := by
  refine rr_met (own := R_Mo) (kd := (false, none)) (by decide +kernel) rfl (fun h => by cases h) rfl (Nat.le_of_ble_eq_true rfl) ?_
  refine rr_aload_n d_Mo_bad_0 rfl rfl ?_
  refine rr_getf d_Mo_bad_1 fl_Mo_110 rfl rfl ?_
  refine rr_if_ge 15 d_Mo_bad_4 (by decide) (fun c9 => absurd c9 (by decide)) (fun _ => ?_)
  refine rr_aload_n d_Mo_bad_7 rfl rfl ?_
  refine rr_aload_n d_Mo_bad_8 rfl rfl ?_
  refine rr_getf d_Mo_bad_9 fl_Mo_46 rfl rfl ?_
  refine rr_putf d_Mo_bad_12 fl_Mo_110 rfl rfl rfl rfl ?_
  refine rr_iconst 0 d_Mo_bad_15 rfl ?_
  exact rr_ireturn d_Mo_bad_16 rfl rfl (Nat.le_of_ble_eq_true rfl) (Nat.le_of_ble_eq_true rfl) (⟨rfl, rfl⟩)

set_option maxRecDepth 100000 in
set_option maxHeartbeats 4000000 in
theorem s_Mo_put {x0 x1 x2 x3 x4 x5 x6 x7 x8 x9 x10 x11 x12 x13 x14 x15 x16 x17 x18 x19 x20 x21 x22 x23 x25 x26 : va_E} {g : rr_H} {tm ru fa pa pcv at0 sz kd0 to0 fr0 v : Int32} {lt : Value} {nu : Int64} {cd : Nat → Int32} {y : Nat} (hy : y < 1600) : rr_Spec 0 y_Mo_put c_Mo_put 2 none 0 0 [.ref 24, .int v] (x0 :: x1 :: x2 :: x3 :: x4 :: x5 :: x6 :: x7 :: x8 :: x9 :: x10 :: x11 :: x12 :: x13 :: x14 :: x15 :: x16 :: x17 :: x18 :: x19 :: x20 :: x21 :: x22 :: x23 :: .inr (6, [.ref 25, .int tm, lt, .ref 26, .int ru, .int at0, .int sz, .int kd0, .int fr0, .int to0, .int fa, .int pa, .long nu, .ref 27, .int (nI y), .ref 28, .ref 29, .ref 30, .ref 31, .int pcv]) :: x25 :: x26 :: .inl (0, 1600, .inl (cd)) :: g) (fun r h1 => r = none ∧ h1 = x0 :: x1 :: x2 :: x3 :: x4 :: x5 :: x6 :: x7 :: x8 :: x9 :: x10 :: x11 :: x12 :: x13 :: x14 :: x15 :: x16 :: x17 :: x18 :: x19 :: x20 :: x21 :: x22 :: x23 :: .inr (6, [.ref 25, .int tm, lt, .ref 26, .int ru, .int at0, .int sz, .int kd0, .int fr0, .int to0, .int fa, .int pa, .long nu, .ref 27, .int (nI (y + 1)), .ref 28, .ref 29, .ref 30, .ref 31, .int pcv]) :: x25 :: x26 :: .inl (0, 1600, .inl (upd cd y v)) :: g) := by
  refine rr_met (own := R_Mo) (kd := (false, none)) (by decide +kernel) rfl (fun h => by cases h) rfl (Nat.le_of_ble_eq_true rfl) ?_
  refine rr_aload_n d_Mo_put_0 rfl rfl ?_
  refine rr_getf d_Mo_put_1 fl_Mo_17 rfl rfl ?_
  refine rr_aload_n d_Mo_put_4 rfl rfl ?_
  refine rr_getf d_Mo_put_5 fl_Mo_120 rfl rfl ?_
  refine rr_iload_n d_Mo_put_8 rfl rfl ?_
  refine rr_iast d_Mo_put_9 rfl (vp_in_nI hy (by decide)) ?_
  refine rr_aload_n d_Mo_put_10 rfl rfl ?_
  refine rr_dup d_Mo_put_11 rfl ?_
  refine rr_getf d_Mo_put_12 fl_Mo_120 rfl rfl ?_
  refine rr_iconst 1 d_Mo_put_15 rfl ?_
  refine rr_iadd d_Mo_put_16 ?_
  refine rr_putf d_Mo_put_17 fl_Mo_120 rfl rfl rfl rfl ?_
  rw [nI_1, nI_clamp (by omega)]
  exact rr_return d_Mo_put_20 rfl (Nat.le_of_ble_eq_true rfl) (Nat.le_of_ble_eq_true rfl) (⟨rfl, rfl⟩)

theorem nu_stepF {a : Nat} {x : Int32} (hx : sp_isD x = true) : (if 10 * lN (min a 1099511627776) + x.toInt64 - 48 < 1099511627776 then 10 * lN (min a 1099511627776) + x.toInt64 - 48 else (1099511627776 : Int64)) = lN (min (a * 10 + sp_dg x) 1099511627776) := by
  obtain ⟨c, h1, h2, rfl⟩ := sp_isD_of hx
  have e2 : sp_dg (nI c) = c - 48 := by unfold sp_dg; rw [nI_clamp (by omega)]
  rw [e2, nI_l (by omega), show (10 : Int64) = lN 10 from rfl, lN_mul, lN_add, show (48 : Int64) = lN 48 from rfl, lN_sub (by omega), show (1099511627776 : Int64) = lN 1099511627776 from rfl]
  have hb : 10 * min a 1099511627776 + c - 48 < 2 ^ 63 := by omega
  by_cases h : 10 * min a 1099511627776 + c - 48 < 1099511627776
  · rw [if_pos ((pk_lLT hb (by omega)).mpr h)]
    exact congrArg lN (by omega)
  · rw [if_neg (fun q => h ((pk_lLT hb (by omega)).mp q))]
    exact congrArg lN (by omega)
theorem nu_endF {a : Nat} : 0 < lg_cmp (lN (min a 1099511627776)) 2147483647 ↔ ¬ a < 2147483648 := by
  rw [show (2147483647 : Int64) = lN 2147483647 from rfl]
  unfold lg_cmp
  by_cases h : a < 2147483648
  · rw [if_neg (fun q => by have := (pk_lLT (by omega) (by omega)).mp q; omega)]
    refine ⟨fun q => ?_, fun q => absurd h q⟩
    exfalso
    revert q
    split <;> decide
  · rw [if_pos ((pk_lLT (by omega) (by omega)).mpr (by omega))]
    exact ⟨fun _ => h, fun _ => by decide⟩

set_option maxRecDepth 100000 in
set_option maxHeartbeats 4000000 in
theorem l_skip {x0 x1 x2 x3 x4 x5 x6 x7 x8 x9 x10 x11 x12 x13 x14 x15 x16 x17 x18 x19 x20 x21 x22 x23 : va_E} {g : rr_H} {tm ru fa pa my pcv : Int32} {lt : Value} {f : Nat → Int32} {n : Nat} {Q : Option Value → rr_H → Prop} {fr0 to0 kd0 : Int32} {nu : Int64} (hn : n ≤ 400) : ∀ (k p : Nat), p + k = n → rr_A R_Mo c_Mo_step 3 none (false, none) { frames := 5, cells := 0, slots := 0, locals := 5 * 64 } (Q) 0 0 38 [(0, .ref 24)] [] (x0 :: x1 :: x2 :: x3 :: x4 :: x5 :: x6 :: x7 :: x8 :: x9 :: x10 :: x11 :: x12 :: x13 :: x14 :: x15 :: x16 :: x17 :: x18 :: x19 :: x20 :: x21 :: x22 :: x23 :: .inr (6, [.ref 25, .int tm, lt, .ref 26, .int ru, .int (nI (sp_run (fun x => decide (x = 32)) f p k)), .int (nI n), .int kd0, .int fr0, .int to0, .int fa, .int pa, .long nu, .ref 27, .int my, .ref 28, .ref 29, .ref 30, .ref 31, .int pcv]) :: .inl (1, 400, .inl f) :: g) → rr_A R_Mo c_Mo_step 3 none (false, none) { frames := 5, cells := 0, slots := 0, locals := 5 * 64 } (Q) 0 0 0 [(0, .ref 24)] [] (x0 :: x1 :: x2 :: x3 :: x4 :: x5 :: x6 :: x7 :: x8 :: x9 :: x10 :: x11 :: x12 :: x13 :: x14 :: x15 :: x16 :: x17 :: x18 :: x19 :: x20 :: x21 :: x22 :: x23 :: .inr (6, [.ref 25, .int tm, lt, .ref 26, .int ru, .int (nI p), .int (nI n), .int kd0, .int fr0, .int to0, .int fa, .int pa, .long nu, .ref 27, .int my, .ref 28, .ref 29, .ref 30, .ref 31, .int pcv]) :: .inl (1, 400, .inl f) :: g) := by
  intro k
  induction k with
  | zero =>
    intro p hp K
    refine rr_aload_n d_Mo_step_0 rfl rfl ?_
    refine rr_getf d_Mo_step_1 fl_Mo_40 rfl rfl ?_
    refine rr_aload_n d_Mo_step_4 rfl rfl ?_
    refine rr_getf d_Mo_step_5 fl_Mo_43 rfl rfl ?_
    refine rr_icmp_ge 38 d_Mo_step_8 (by decide) (fun _ => ?_) (fun c9 => absurd (nI_le (by omega) (by omega)) c9)
    exact K
  | succ k ih =>
    intro p hp K
    refine rr_aload_n d_Mo_step_0 rfl rfl ?_
    refine rr_getf d_Mo_step_1 fl_Mo_40 rfl rfl ?_
    refine rr_aload_n d_Mo_step_4 rfl rfl ?_
    refine rr_getf d_Mo_step_5 fl_Mo_43 rfl rfl ?_
    refine rr_icmp_ge 38 d_Mo_step_8 (by decide) (fun c9 => absurd c9 (nI_ge (by omega) (by omega))) (fun _ => ?_)
    refine rr_aload_n d_Mo_step_11 rfl rfl ?_
    refine rr_getf d_Mo_step_12 fl_Mo_9 rfl rfl ?_
    refine rr_aload_n d_Mo_step_15 rfl rfl ?_
    refine rr_getf d_Mo_step_16 fl_Mo_40 rfl rfl ?_
    refine rr_bald d_Mo_step_19 rfl (vp_in_nI (n := p) (by omega) (by decide)) ?_
    refine rr_bipush 32 d_Mo_step_20 rfl ?_
    rw [nI_clamp (by omega)]
    unfold sp_run at K
    refine rr_icmp_ne 38 d_Mo_step_22 (by decide) (fun hc => ?_) (fun hc => ?_)
    · rw [if_neg (by rw [decide_eq_false hc]; decide)] at K
      exact K
    · rw [if_pos (decide_eq_true hc)] at K
      refine rr_aload_n d_Mo_step_25 rfl rfl ?_
      refine rr_dup d_Mo_step_26 rfl ?_
      refine rr_getf d_Mo_step_27 fl_Mo_40 rfl rfl ?_
      refine rr_iconst 1 d_Mo_step_30 rfl ?_
      refine rr_iadd d_Mo_step_31 ?_
      refine rr_putf d_Mo_step_32 fl_Mo_40 rfl rfl rfl rfl ?_
      refine rr_goto 0 d_Mo_step_35 (by decide) ?_
      rw [nI_1]
      exact ih (p + 1) (by omega) K

set_option maxRecDepth 100000 in
set_option maxHeartbeats 4000000 in
theorem l_word {x0 x1 x2 x3 x4 x5 x6 x7 x8 x9 x10 x11 x12 x13 x14 x15 x16 x17 x18 x19 x20 x21 x22 x23 : va_E} {g : rr_H} {tm ru fa pa my pcv : Int32} {lt : Value} {f : Nat → Int32} {n : Nat} {Q : Option Value → rr_H → Prop} {fr0 to0 kd0 : Int32} {nu : Int64} (hn : n ≤ 400) : ∀ (k p : Nat), p + k = n → rr_A R_Mo c_Mo_step 3 none (false, none) { frames := 5, cells := 0, slots := 0, locals := 5 * 64 } (Q) 0 0 119 [(0, .ref 24)] [] (x0 :: x1 :: x2 :: x3 :: x4 :: x5 :: x6 :: x7 :: x8 :: x9 :: x10 :: x11 :: x12 :: x13 :: x14 :: x15 :: x16 :: x17 :: x18 :: x19 :: x20 :: x21 :: x22 :: x23 :: .inr (6, [.ref 25, .int tm, lt, .ref 26, .int ru, .int (nI (sp_run sp_isL f p k)), .int (nI n), .int kd0, .int fr0, .int to0, .int fa, .int pa, .long nu, .ref 27, .int my, .ref 28, .ref 29, .ref 30, .ref 31, .int pcv]) :: .inl (1, 400, .inl f) :: g) → rr_A R_Mo c_Mo_step 3 none (false, none) { frames := 5, cells := 0, slots := 0, locals := 5 * 64 } (Q) 0 0 80 [(0, .ref 24)] [] (x0 :: x1 :: x2 :: x3 :: x4 :: x5 :: x6 :: x7 :: x8 :: x9 :: x10 :: x11 :: x12 :: x13 :: x14 :: x15 :: x16 :: x17 :: x18 :: x19 :: x20 :: x21 :: x22 :: x23 :: .inr (6, [.ref 25, .int tm, lt, .ref 26, .int ru, .int (nI p), .int (nI n), .int kd0, .int fr0, .int to0, .int fa, .int pa, .long nu, .ref 27, .int my, .ref 28, .ref 29, .ref 30, .ref 31, .int pcv]) :: .inl (1, 400, .inl f) :: g) := by
  intro k
  induction k with
  | zero =>
    intro p hp K
    refine rr_aload_n d_Mo_step_80 rfl rfl ?_
    refine rr_getf d_Mo_step_81 fl_Mo_40 rfl rfl ?_
    refine rr_aload_n d_Mo_step_84 rfl rfl ?_
    refine rr_getf d_Mo_step_85 fl_Mo_43 rfl rfl ?_
    refine rr_icmp_ge 119 d_Mo_step_88 (by decide) (fun _ => ?_) (fun c9 => absurd (nI_le (by omega) (by omega)) c9)
    exact K
  | succ k ih =>
    intro p hp K
    refine rr_aload_n d_Mo_step_80 rfl rfl ?_
    refine rr_getf d_Mo_step_81 fl_Mo_40 rfl rfl ?_
    refine rr_aload_n d_Mo_step_84 rfl rfl ?_
    refine rr_getf d_Mo_step_85 fl_Mo_43 rfl rfl ?_
    refine rr_icmp_ge 119 d_Mo_step_88 (by decide) (fun c9 => absurd c9 (nI_ge (by omega) (by omega))) (fun _ => ?_)
    refine rr_aload_n d_Mo_step_91 rfl rfl ?_
    refine rr_getf d_Mo_step_92 fl_Mo_9 rfl rfl ?_
    refine rr_aload_n d_Mo_step_95 rfl rfl ?_
    refine rr_getf d_Mo_step_96 fl_Mo_40 rfl rfl ?_
    refine rr_bald d_Mo_step_99 rfl (vp_in_nI (n := p) (by omega) (by decide)) ?_
    rw [nI_clamp (by omega)]
    refine rr_callS d_Mo_step_100 il_Mo_52 m_Mo_isLetter (s_Mo_isLetter) rfl rfl (Nat.le_of_ble_eq_true rfl) (Nat.le_of_ble_eq_true rfl) (Nat.le_of_ble_eq_true rfl) (Nat.le_of_ble_eq_true rfl) (Nat.le_of_ble_eq_true rfl) (fun rv9 hp9 hq => ?_)
    obtain ⟨rfl, rfl⟩ := hq
    unfold sp_run at K
    by_cases hc : sp_isL (f p) = true
    · rw [if_pos hc] at K
      rw [hc]
      refine rr_if_eq 119 d_Mo_step_103 (by decide) (fun c9 => absurd c9 (by decide)) (fun _ => ?_)
      refine rr_aload_n d_Mo_step_106 rfl rfl ?_
      refine rr_dup d_Mo_step_107 rfl ?_
      refine rr_getf d_Mo_step_108 fl_Mo_40 rfl rfl ?_
      refine rr_iconst 1 d_Mo_step_111 rfl ?_
      refine rr_iadd d_Mo_step_112 ?_
      refine rr_putf d_Mo_step_113 fl_Mo_40 rfl rfl rfl rfl ?_
      refine rr_goto 80 d_Mo_step_116 (by decide) ?_
      rw [nI_1]
      exact ih (p + 1) (by omega) K
    · rw [if_neg hc] at K
      rw [(Bool.not_eq_true _).mp hc]
      refine rr_if_eq 119 d_Mo_step_103 (by decide) (fun _ => ?_) (fun c9 => absurd (rfl) c9)
      exact K

set_option maxRecDepth 100000 in
set_option maxHeartbeats 4000000 in
theorem l_digs {x0 x1 x2 x3 x4 x5 x6 x7 x8 x9 x10 x11 x12 x13 x14 x15 x16 x17 x18 x19 x20 x21 x22 x23 : va_E} {g : rr_H} {tm ru fa pa my pcv : Int32} {lt : Value} {f : Nat → Int32} {n : Nat} {Q : Option Value → rr_H → Prop} {fr0 to0 kd0 : Int32} (hn : n ≤ 400) : ∀ (k p a : Nat), p + k = n → rr_A R_Mo c_Mo_step 3 none (false, none) { frames := 5, cells := 0, slots := 0, locals := 5 * 64 } (Q) 0 0 295 [(0, .ref 24)] [] (x0 :: x1 :: x2 :: x3 :: x4 :: x5 :: x6 :: x7 :: x8 :: x9 :: x10 :: x11 :: x12 :: x13 :: x14 :: x15 :: x16 :: x17 :: x18 :: x19 :: x20 :: x21 :: x22 :: x23 :: .inr (6, [.ref 25, .int tm, lt, .ref 26, .int ru, .int (nI (sp_run sp_isD f p k)), .int (nI n), .int kd0, .int fr0, .int to0, .int fa, .int pa, .long (lN (min (sp_nv f p k a) 1099511627776)), .ref 27, .int my, .ref 28, .ref 29, .ref 30, .ref 31, .int pcv]) :: .inl (1, 400, .inl f) :: g) → rr_A R_Mo c_Mo_step 3 none (false, none) { frames := 5, cells := 0, slots := 0, locals := 5 * 64 } (Q) 0 0 223 [(0, .ref 24)] [] (x0 :: x1 :: x2 :: x3 :: x4 :: x5 :: x6 :: x7 :: x8 :: x9 :: x10 :: x11 :: x12 :: x13 :: x14 :: x15 :: x16 :: x17 :: x18 :: x19 :: x20 :: x21 :: x22 :: x23 :: .inr (6, [.ref 25, .int tm, lt, .ref 26, .int ru, .int (nI p), .int (nI n), .int kd0, .int fr0, .int to0, .int fa, .int pa, .long (lN (min a 1099511627776)), .ref 27, .int my, .ref 28, .ref 29, .ref 30, .ref 31, .int pcv]) :: .inl (1, 400, .inl f) :: g) := by
  intro k
  induction k with
  | zero =>
    intro p a hp K
    refine rr_aload_n d_Mo_step_223 rfl rfl ?_
    refine rr_getf d_Mo_step_224 fl_Mo_40 rfl rfl ?_
    refine rr_aload_n d_Mo_step_227 rfl rfl ?_
    refine rr_getf d_Mo_step_228 fl_Mo_43 rfl rfl ?_
    refine rr_icmp_ge 295 d_Mo_step_231 (by decide) (fun _ => ?_) (fun c9 => absurd (nI_le (by omega) (by omega)) c9)
    exact K
  | succ k ih =>
    intro p a hp K
    refine rr_aload_n d_Mo_step_223 rfl rfl ?_
    refine rr_getf d_Mo_step_224 fl_Mo_40 rfl rfl ?_
    refine rr_aload_n d_Mo_step_227 rfl rfl ?_
    refine rr_getf d_Mo_step_228 fl_Mo_43 rfl rfl ?_
    refine rr_icmp_ge 295 d_Mo_step_231 (by decide) (fun c9 => absurd c9 (nI_ge (by omega) (by omega))) (fun _ => ?_)
    refine rr_aload_n d_Mo_step_234 rfl rfl ?_
    refine rr_getf d_Mo_step_235 fl_Mo_9 rfl rfl ?_
    refine rr_aload_n d_Mo_step_238 rfl rfl ?_
    refine rr_getf d_Mo_step_239 fl_Mo_40 rfl rfl ?_
    refine rr_bald d_Mo_step_242 rfl (vp_in_nI (n := p) (by omega) (by decide)) ?_
    rw [nI_clamp (by omega)]
    refine rr_callS d_Mo_step_243 il_Mo_77 m_Mo_isDigit (s_Mo_isDigit) rfl rfl (Nat.le_of_ble_eq_true rfl) (Nat.le_of_ble_eq_true rfl) (Nat.le_of_ble_eq_true rfl) (Nat.le_of_ble_eq_true rfl) (Nat.le_of_ble_eq_true rfl) (fun rv9 hp9 hq => ?_)
    obtain ⟨rfl, rfl⟩ := hq
    unfold sp_run sp_nv at K
    by_cases hc : sp_isD (f p) = true
    · simp only [if_pos hc] at K
      rw [hc]
      refine rr_if_eq 295 d_Mo_step_246 (by decide) (fun c9 => absurd c9 (by decide)) (fun _ => ?_)
      refine rr_aload_n d_Mo_step_249 rfl rfl ?_
      refine rr_ldc2 d_Mo_step_250 kl_Mo_84 ?_
      refine rr_ldc2 d_Mo_step_253 kl_Mo_86 ?_
      refine rr_aload_n d_Mo_step_256 rfl rfl ?_
      refine rr_getf d_Mo_step_257 fl_Mo_80 rfl rfl ?_
      refine rr_lmul d_Mo_step_260 ?_
      refine rr_aload_n d_Mo_step_261 rfl rfl ?_
      refine rr_getf d_Mo_step_262 fl_Mo_9 rfl rfl ?_
      refine rr_aload_n d_Mo_step_265 rfl rfl ?_
      refine rr_getf d_Mo_step_266 fl_Mo_40 rfl rfl ?_
      refine rr_bald d_Mo_step_269 rfl (vp_in_nI (n := p) (by omega) (by decide)) ?_
      refine rr_i2l d_Mo_step_270 ?_
      refine rr_ladd d_Mo_step_271 ?_
      refine rr_ldc2 d_Mo_step_272 kl_Mo_88 ?_
      refine rr_lsub d_Mo_step_275 ?_
      refine rr_minJ d_Mo_step_276 ml_Mo_90 (Nat.le_of_ble_eq_true rfl) (Nat.le_of_ble_eq_true rfl) (Nat.le_of_ble_eq_true rfl) (Nat.le_of_ble_eq_true rfl) ?_
      rw [nI_clamp (by omega), nu_stepF hc]
      refine rr_putf d_Mo_step_279 fl_Mo_80 rfl rfl rfl rfl ?_
      refine rr_aload_n d_Mo_step_282 rfl rfl ?_
      refine rr_dup d_Mo_step_283 rfl ?_
      refine rr_getf d_Mo_step_284 fl_Mo_40 rfl rfl ?_
      refine rr_iconst 1 d_Mo_step_287 rfl ?_
      refine rr_iadd d_Mo_step_288 ?_
      refine rr_putf d_Mo_step_289 fl_Mo_40 rfl rfl rfl rfl ?_
      refine rr_goto 223 d_Mo_step_292 (by decide) ?_
      rw [nI_1]
      exact ih (p + 1) _ (by omega) K
    · simp only [if_neg hc] at K
      rw [(Bool.not_eq_true _).mp hc]
      refine rr_if_eq 295 d_Mo_step_246 (by decide) (fun _ => ?_) (fun c9 => absurd (rfl) c9)
      exact K
end
