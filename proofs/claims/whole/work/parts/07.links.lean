theorem m_Ru_init : Cond.code y_Ru_init c_Ru_init 1 none ∈ rr_ws := rr_inw 65 (by decide +kernel) (by decide +kernel)
theorem m_Ta_init : Cond.code y_Ta_init c_Ta_init 1 none ∈ rr_ws := rr_inw 73 (by decide +kernel) (by decide +kernel)
theorem m_Re_init : Cond.code y_Re_init c_Re_init 1 none ∈ rr_ws := rr_inw 90 (by decide +kernel) (by decide +kernel)
theorem m_To_init : Cond.code y_To_init c_To_init 1 none ∈ rr_ws := rr_inw 96 (by decide +kernel) (by decide +kernel)
theorem m_Co_init : Cond.code y_Co_init c_Co_init 1 none ∈ rr_ws := rr_inw 119 (by decide +kernel) (by decide +kernel)
theorem m_Ma_init : Cond.code y_Ma_init c_Ma_init 1 none ∈ rr_ws := rr_inw 159 (by decide +kernel) (by decide +kernel)
theorem m_Ru_feed : Cond.code y_Ru_feed c_Ru_feed 6 (some .int) ∈ rr_ws := rr_inw 215 (by decide +kernel) (by decide +kernel)
theorem m_Ta_append : Cond.code y_Ta_append c_Ta_append 3 none ∈ rr_ws := rr_inw 219 (by decide +kernel) (by decide +kernel)
theorem m_Ru_end : Cond.code y_Ru_end c_Ru_end 2 (some .int) ∈ rr_ws := rr_inw 223 (by decide +kernel) (by decide +kernel)
theorem m_Ru_program : Cond.code y_Ru_program c_Ru_program 2 (some .int) ∈ rr_ws := rr_inw 227 (by decide +kernel) (by decide +kernel)
theorem m_Re_read : Cond.code y_Re_read c_Re_read 3 (some .int) ∈ rr_ws := rr_inw 231 (by decide +kernel) (by decide +kernel)
theorem m_To_split : Cond.code y_To_split c_To_split 4 none ∈ rr_ws := rr_inw 235 (by decide +kernel) (by decide +kernel)
theorem m_To_splitOne : Cond.code y_To_splitOne c_To_splitOne 4 (some .int) ∈ rr_ws := rr_inw 239 (by decide +kernel) (by decide +kernel)
theorem m_To_isLetter : Cond.code y_To_isLetter c_To_isLetter 1 (some .boolean) ∈ rr_ws := rr_inw 242 (by decide +kernel) (by decide +kernel)
theorem m_To_splitWord : Cond.code y_To_splitWord c_To_splitWord 4 (some .int) ∈ rr_ws := rr_inw 246 (by decide +kernel) (by decide +kernel)
theorem m_To_wordKind : Cond.code y_To_wordKind c_To_wordKind 3 (some .int) ∈ rr_ws := rr_inw 249 (by decide +kernel) (by decide +kernel)
theorem m_Ta_spells : Cond.code y_Ta_spells c_Ta_spells 5 (some .boolean) ∈ rr_ws := rr_inw 254 (by decide +kernel) (by decide +kernel)
theorem m_St_length : Cond.code y_St_length c_St_length 1 (some .int) ∈ rr_ws := rr_inw 258 (by decide +kernel) (by decide +kernel)
theorem m_St_coder : Cond.code y_St_coder c_St_coder 1 (some .byte) ∈ rr_ws := rr_inw 262 (by decide +kernel) (by decide +kernel)
theorem m_St_charAt : Cond.code y_St_charAt c_St_charAt 2 (some .char) ∈ rr_ws := rr_inw 268 (by decide +kernel) (by decide +kernel)
theorem m_St_isLatin1 : Cond.code y_St_isLatin1 c_St_isLatin1 1 (some .boolean) ∈ rr_ws := rr_inw 272 (by decide +kernel) (by decide +kernel)
theorem m_Sl_charAt : Cond.code y_Sl_charAt c_Sl_charAt 2 (some .char) ∈ rr_ws := rr_inw 275 (by decide +kernel) (by decide +kernel)
theorem m_St_checkIndex : Cond.code y_St_checkIndex c_St_checkIndex 2 none ∈ rr_ws := rr_inw 278 (by decide +kernel) (by decide +kernel)
theorem m_Pr_checkIndex : Cond.code y_Pr_checkIndex c_Pr_checkIndex 3 (some .int) ∈ rr_ws := rr_inw 283 (by decide +kernel) (by decide +kernel)
theorem m_To_add : Cond.code y_To_add c_To_add 4 none ∈ rr_ws := rr_inw 312 (by decide +kernel) (by decide +kernel)
theorem m_To_isDigit : Cond.code y_To_isDigit c_To_isDigit 1 (some .boolean) ∈ rr_ws := rr_inw 315 (by decide +kernel) (by decide +kernel)
theorem m_To_splitNumber : Cond.code y_To_splitNumber c_To_splitNumber 6 (some .int) ∈ rr_ws := rr_inw 319 (by decide +kernel) (by decide +kernel)
theorem m_Mt_minJ : Cond.code y_Mt_minJ c_Mt_minJ 4 (some .long) ∈ rr_ws := rr_inw 324 (by decide +kernel) (by decide +kernel)
theorem m_To_signKind : Cond.code y_To_signKind c_To_signKind 1 (some .int) ∈ rr_ws := rr_inw 328 (by decide +kernel) (by decide +kernel)
theorem m_Co_clear : Cond.code y_Co_clear c_Co_clear 1 none ∈ rr_ws := rr_inw 332 (by decide +kernel) (by decide +kernel)
theorem m_Re_readRule : Cond.code y_Re_readRule c_Re_readRule 2 (some .boolean) ∈ rr_ws := rr_inw 336 (by decide +kernel) (by decide +kernel)
theorem m_Re_pass : Cond.code y_Re_pass c_Re_pass 2 (some .boolean) ∈ rr_ws := rr_inw 340 (by decide +kernel) (by decide +kernel)
theorem m_Re_readTest : Cond.code y_Re_readTest c_Re_readTest 3 (some .boolean) ∈ rr_ws := rr_inw 344 (by decide +kernel) (by decide +kernel)
theorem m_Re_readSum : Cond.code y_Re_readSum c_Re_readSum 4 (some .boolean) ∈ rr_ws := rr_inw 348 (by decide +kernel) (by decide +kernel)
theorem m_Re_readTerm : Cond.code y_Re_readTerm c_Re_readTerm 3 (some .boolean) ∈ rr_ws := rr_inw 352 (by decide +kernel) (by decide +kernel)
theorem m_Re_readPart : Cond.code y_Re_readPart c_Re_readPart 3 (some .boolean) ∈ rr_ws := rr_inw 356 (by decide +kernel) (by decide +kernel)
theorem m_Re_looksAt : Cond.code y_Re_looksAt c_Re_looksAt 2 (some .boolean) ∈ rr_ws := rr_inw 360 (by decide +kernel) (by decide +kernel)
theorem m_Re_looksAtCellNumber : Cond.code y_Re_looksAtCellNumber c_Re_looksAtCellNumber 1 (some .boolean) ∈ rr_ws := rr_inw 364 (by decide +kernel) (by decide +kernel)
theorem m_Co_add : Cond.code y_Co_add c_Co_add 3 none ∈ rr_ws := rr_inw 368 (by decide +kernel) (by decide +kernel)
theorem m_Re_readEffect : Cond.code y_Re_readEffect c_Re_readEffect 2 (some .boolean) ∈ rr_ws := rr_inw 372 (by decide +kernel) (by decide +kernel)
theorem m_Co_closeRule : Cond.code y_Co_closeRule c_Co_closeRule 1 none ∈ rr_ws := rr_inw 376 (by decide +kernel) (by decide +kernel)
theorem m_Re_exchange : Cond.code y_Re_exchange c_Re_exchange 3 (some (.object "RuleRunner$Code")) ∈ rr_ws := rr_inw 380 (by decide +kernel) (by decide +kernel)
theorem m_Ru_run : Cond.code y_Ru_run c_Ru_run 3 (some .int) ∈ rr_ws := rr_inw 384 (by decide +kernel) (by decide +kernel)
theorem m_Ma_perform : Cond.code y_Ma_perform c_Ma_perform 6 (some .int) ∈ rr_ws := rr_inw 388 (by decide +kernel) (by decide +kernel)
theorem m_Ma_isTaken : Cond.code y_Ma_isTaken c_Ma_isTaken 7 (some .boolean) ∈ rr_ws := rr_inw 392 (by decide +kernel) (by decide +kernel)
theorem m_Ma_push : Cond.code y_Ma_push c_Ma_push 2 none ∈ rr_ws := rr_inw 396 (by decide +kernel) (by decide +kernel)
theorem m_Ma_pop : Cond.code y_Ma_pop c_Ma_pop 1 (some .int) ∈ rr_ws := rr_inw 400 (by decide +kernel) (by decide +kernel)
theorem m_Ma_addEffect : Cond.code y_Ma_addEffect c_Ma_addEffect 3 none ∈ rr_ws := rr_inw 404 (by decide +kernel) (by decide +kernel)
theorem m_Ma_calculate : Cond.code y_Ma_calculate c_Ma_calculate 4 none ∈ rr_ws := rr_inw 408 (by decide +kernel) (by decide +kernel)
theorem m_Ma_holds : Cond.code y_Ma_holds c_Ma_holds 4 (some .boolean) ∈ rr_ws := rr_inw 412 (by decide +kernel) (by decide +kernel)
theorem m_Ma_applyEffects : Cond.code y_Ma_applyEffects c_Ma_applyEffects 2 none ∈ rr_ws := rr_inw 416 (by decide +kernel) (by decide +kernel)
theorem m_Ma_change : Cond.code y_Ma_change c_Ma_change 3 none ∈ rr_ws := rr_inw 420 (by decide +kernel) (by decide +kernel)
theorem m_Ru_isCell : Cond.code y_Ru_isCell c_Ru_isCell 1 (some .boolean) ∈ rr_ws := rr_inw 423 (by decide +kernel) (by decide +kernel)
theorem m_Ru_undo : Cond.code y_Ru_undo c_Ru_undo 1 (some .int) ∈ rr_ws := rr_inw 427 (by decide +kernel) (by decide +kernel)
theorem m_Ma_takeBack : Cond.code y_Ma_takeBack c_Ma_takeBack 3 (some .int) ∈ rr_ws := rr_inw 431 (by decide +kernel) (by decide +kernel)
theorem m_Ru_cell : Cond.code y_Ru_cell c_Ru_cell 2 (some .long) ∈ rr_ws := rr_inw 435 (by decide +kernel) (by decide +kernel)
theorem m_Ru_set : Cond.code y_Ru_set c_Ru_set 3 (some .int) ∈ rr_ws := rr_inw 441 (by decide +kernel) (by decide +kernel)
theorem m_Ru_count : Cond.code y_Ru_count c_Ru_count 2 (some .int) ∈ rr_ws := rr_inw 445 (by decide +kernel) (by decide +kernel)
theorem m_Mo_init : Cond.code y_Mo_init c_Mo_init 1 none ∈ rr_ws := rr_inw 450 (by decide +kernel) (by decide +kernel)
theorem m_Mo_feed : Cond.code y_Mo_feed c_Mo_feed 8 (some .int) ∈ rr_ws := rr_inw 516 (by decide +kernel) (by decide +kernel)
theorem m_Mo_end : Cond.code y_Mo_end c_Mo_end 2 (some .int) ∈ rr_ws := rr_inw 520 (by decide +kernel) (by decide +kernel)
theorem m_Mo_in : Cond.code y_Mo_in c_Mo_in 3 (some .boolean) ∈ rr_ws := rr_inw 523 (by decide +kernel) (by decide +kernel)
theorem m_Mo_program : Cond.code y_Mo_program c_Mo_program 2 (some .int) ∈ rr_ws := rr_inw 527 (by decide +kernel) (by decide +kernel)
theorem m_Mo_step : Cond.code y_Mo_step c_Mo_step 3 none ∈ rr_ws := rr_inw 531 (by decide +kernel) (by decide +kernel)
theorem m_Mo_isLetter : Cond.code y_Mo_isLetter c_Mo_isLetter 1 (some .boolean) ∈ rr_ws := rr_inw 534 (by decide +kernel) (by decide +kernel)
theorem m_Mo_is : Cond.code y_Mo_is c_Mo_is 3 (some .boolean) ∈ rr_ws := rr_inw 539 (by decide +kernel) (by decide +kernel)
theorem m_Mo_isDigit : Cond.code y_Mo_isDigit c_Mo_isDigit 1 (some .boolean) ∈ rr_ws := rr_inw 550 (by decide +kernel) (by decide +kernel)
theorem m_Mo_rule : Cond.code y_Mo_rule c_Mo_rule 4 (some .boolean) ∈ rr_ws := rr_inw 559 (by decide +kernel) (by decide +kernel)
theorem m_Mo_bad : Cond.code y_Mo_bad c_Mo_bad 1 (some .boolean) ∈ rr_ws := rr_inw 563 (by decide +kernel) (by decide +kernel)
theorem m_Mo_put : Cond.code y_Mo_put c_Mo_put 2 none ∈ rr_ws := rr_inw 567 (by decide +kernel) (by decide +kernel)
theorem m_Mo_compare : Cond.code y_Mo_compare c_Mo_compare 2 (some .boolean) ∈ rr_ws := rr_inw 571 (by decide +kernel) (by decide +kernel)
theorem m_Mo_whole : Cond.code y_Mo_whole c_Mo_whole 1 (some .boolean) ∈ rr_ws := rr_inw 575 (by decide +kernel) (by decide +kernel)
theorem m_Mo_sum : Cond.code y_Mo_sum c_Mo_sum 3 (some .boolean) ∈ rr_ws := rr_inw 579 (by decide +kernel) (by decide +kernel)
theorem m_Mo_term : Cond.code y_Mo_term c_Mo_term 2 (some .boolean) ∈ rr_ws := rr_inw 583 (by decide +kernel) (by decide +kernel)
theorem m_Mo_part : Cond.code y_Mo_part c_Mo_part 2 (some .boolean) ∈ rr_ws := rr_inw 587 (by decide +kernel) (by decide +kernel)
theorem m_Mo_take : Cond.code y_Mo_take c_Mo_take 2 (some .boolean) ∈ rr_ws := rr_inw 593 (by decide +kernel) (by decide +kernel)
theorem m_Mo_cellZ : Cond.code y_Mo_cellZ c_Mo_cellZ 1 (some .boolean) ∈ rr_ws := rr_inw 597 (by decide +kernel) (by decide +kernel)
theorem m_Ar_copyOf : Cond.code y_Ar_copyOf c_Ar_copyOf 3 (some (.array .int)) ∈ rr_ws := rr_inw 610 (by decide +kernel) (by decide +kernel)
theorem m_Mt_min : Cond.code y_Mt_min c_Mt_min 2 (some .int) ∈ rr_ws := rr_inw 620 (by decide +kernel) (by decide +kernel)
theorem m_Mo_run : Cond.code y_Mo_run c_Mo_run 3 (some .int) ∈ rr_ws := rr_inw 627 (by decide +kernel) (by decide +kernel)
theorem m_Mo_perform : Cond.code y_Mo_perform c_Mo_perform 7 (some .int) ∈ rr_ws := rr_inw 632 (by decide +kernel) (by decide +kernel)
theorem m_Mo_holds : Cond.code y_Mo_holds c_Mo_holds 10 (some .boolean) ∈ rr_ws := rr_inw 636 (by decide +kernel) (by decide +kernel)
theorem m_Mo_value : Cond.code y_Mo_value c_Mo_value 6 (some .int) ∈ rr_ws := rr_inw 640 (by decide +kernel) (by decide +kernel)
theorem m_Mo_undo : Cond.code y_Mo_undo c_Mo_undo 1 (some .int) ∈ rr_ws := rr_inw 644 (by decide +kernel) (by decide +kernel)
theorem m_Mo_cell : Cond.code y_Mo_cell c_Mo_cell 2 (some .long) ∈ rr_ws := rr_inw 648 (by decide +kernel) (by decide +kernel)
theorem m_Mo_set : Cond.code y_Mo_set c_Mo_set 3 (some .int) ∈ rr_ws := rr_inw 652 (by decide +kernel) (by decide +kernel)
theorem m_Mo_count : Cond.code y_Mo_count c_Mo_count 2 (some .int) ∈ rr_ws := rr_inw 656 (by decide +kernel) (by decide +kernel)
theorem ol_Ru_3 : Cond.methodLink R_Ru 3 objectInit ∈ rr_ws := rr_inw 66 (by decide +kernel) (by decide +kernel)
theorem nl_Ru_9 : rr_NL R_Ru 9 3 [.null, .int 0] := ⟨_, _, rfl, rr_inw 69 (by decide +kernel) (by decide +kernel), rr_inw 70 (by decide +kernel) (by decide +kernel), rr_inw 48 (by decide +kernel) (by decide +kernel), by decide +kernel, by decide +kernel⟩
theorem il_Ru_11 : rr_LI R_Ru 11 y_Ta_init 0 := ⟨Or.inr ⟨"RuleRunner", rr_inn 71 (by decide +kernel) (by decide +kernel)⟩, rr_inw 72 (by decide +kernel) (by decide +kernel), rfl, rr_inw 48 (by decide +kernel) (by decide +kernel), ⟨by decide +kernel, by decide +kernel, by decide +kernel⟩⟩
theorem fl_Ru_12 : rr_FL R_Ru 12 5 0 := ⟨_, _, _, rfl, by decide, Or.inl (rr_inw 199 (by decide +kernel) (by decide +kernel))⟩
theorem fF_Ru_12 : ∃ (T : u_T) (N : Nat), rr_cl[5]? = some (R_Ru, T, N) ∧ 0 < N ∧ (T 0).1 = R_Ru ∧ (T 0).2.2.2 = true ∧ Cond.fieldLink R_Ru 12 (T 0).1 (T 0).2.1 (T 0).2.2.1 ∈ rr_ws := ⟨_, _, rfl, by decide, rfl, rfl, rr_inw 199 (by decide +kernel) (by decide +kernel)⟩
theorem nl_Ru_16 : rr_NL R_Ru 16 2 [.null, .null, .int 0, .int 0] := ⟨_, _, rfl, rr_inw 86 (by decide +kernel) (by decide +kernel), rr_inw 87 (by decide +kernel) (by decide +kernel), rr_inw 49 (by decide +kernel) (by decide +kernel), by decide +kernel, by decide +kernel⟩
theorem il_Ru_18 : rr_LI R_Ru 18 y_Re_init 0 := ⟨Or.inr ⟨"RuleRunner", rr_inn 88 (by decide +kernel) (by decide +kernel)⟩, rr_inw 89 (by decide +kernel) (by decide +kernel), rfl, rr_inw 49 (by decide +kernel) (by decide +kernel), ⟨by decide +kernel, by decide +kernel, by decide +kernel⟩⟩
theorem fl_Ru_19 : rr_FL R_Ru 19 5 1 := ⟨_, _, _, rfl, by decide, Or.inl (rr_inw 200 (by decide +kernel) (by decide +kernel))⟩
theorem fF_Ru_19 : ∃ (T : u_T) (N : Nat), rr_cl[5]? = some (R_Ru, T, N) ∧ 1 < N ∧ (T 1).1 = R_Ru ∧ (T 1).2.2.2 = true ∧ Cond.fieldLink R_Ru 19 (T 1).1 (T 1).2.1 (T 1).2.2.1 ∈ rr_ws := ⟨_, _, rfl, by decide, rfl, rfl, rr_inw 200 (by decide +kernel) (by decide +kernel)⟩
theorem nl_Ru_23 : rr_NL R_Ru 23 1 [.null, .null, .int 0, .null, .null, .int 0, .null, .null, .int 0, .null, .int 0] := ⟨_, _, rfl, rr_inw 155 (by decide +kernel) (by decide +kernel), rr_inw 156 (by decide +kernel) (by decide +kernel), rr_inw 52 (by decide +kernel) (by decide +kernel), by decide +kernel, by decide +kernel⟩
theorem il_Ru_25 : rr_LI R_Ru 25 y_Ma_init 0 := ⟨Or.inr ⟨"RuleRunner", rr_inn 157 (by decide +kernel) (by decide +kernel)⟩, rr_inw 158 (by decide +kernel) (by decide +kernel), rfl, rr_inw 52 (by decide +kernel) (by decide +kernel), ⟨by decide +kernel, by decide +kernel, by decide +kernel⟩⟩
theorem fl_Ru_26 : rr_FL R_Ru 26 5 2 := ⟨_, _, _, rfl, by decide, Or.inl (rr_inw 201 (by decide +kernel) (by decide +kernel))⟩
theorem fF_Ru_26 : ∃ (T : u_T) (N : Nat), rr_cl[5]? = some (R_Ru, T, N) ∧ 2 < N ∧ (T 2).1 = R_Ru ∧ (T 2).2.2.2 = true ∧ Cond.fieldLink R_Ru 26 (T 2).1 (T 2).2.1 (T 2).2.2.1 ∈ rr_ws := ⟨_, _, rfl, by decide, rfl, rfl, rr_inw 201 (by decide +kernel) (by decide +kernel)⟩
theorem nl_Ru_30 : rr_NL R_Ru 30 0 [.null, .null, .null, .int 0, .int 0] := ⟨_, _, rfl, rr_inw 197 (by decide +kernel) (by decide +kernel), rr_inw 116 (by decide +kernel) (by decide +kernel), rr_inw 51 (by decide +kernel) (by decide +kernel), by decide +kernel, by decide +kernel⟩
theorem il_Ru_32 : rr_LI R_Ru 32 y_Co_init 0 := ⟨Or.inr ⟨"RuleRunner", rr_inn 198 (by decide +kernel) (by decide +kernel)⟩, rr_inw 118 (by decide +kernel) (by decide +kernel), rfl, rr_inw 51 (by decide +kernel) (by decide +kernel), ⟨by decide +kernel, by decide +kernel, by decide +kernel⟩⟩
theorem fl_Ru_33 : rr_FL R_Ru 33 5 3 := ⟨_, _, _, rfl, by decide, Or.inl (rr_inw 202 (by decide +kernel) (by decide +kernel))⟩
theorem ol_Ta_3 : Cond.methodLink R_Ta 3 objectInit ∈ rr_ws := rr_inw 74 (by decide +kernel) (by decide +kernel)
theorem fl_Ta_9 : rr_FL R_Ta 9 3 0 := ⟨_, _, _, rfl, by decide, Or.inl (rr_inw 75 (by decide +kernel) (by decide +kernel))⟩
theorem fF_Ta_9 : ∃ (T : u_T) (N : Nat), rr_cl[3]? = some (R_Ta, T, N) ∧ 0 < N ∧ (T 0).1 = R_Ta ∧ (T 0).2.2.2 = true ∧ Cond.fieldLink R_Ta 9 (T 0).1 (T 0).2.1 (T 0).2.2.1 ∈ rr_ws := ⟨_, _, rfl, by decide, rfl, rfl, rr_inw 75 (by decide +kernel) (by decide +kernel)⟩
theorem ol_Re_3 : Cond.methodLink R_Re 3 objectInit ∈ rr_ws := rr_inw 91 (by decide +kernel) (by decide +kernel)
theorem nl_Re_9 : rr_NL R_Re 9 4 [.null, .null, .null, .int 0] := ⟨_, _, rfl, rr_inw 92 (by decide +kernel) (by decide +kernel), rr_inw 93 (by decide +kernel) (by decide +kernel), rr_inw 50 (by decide +kernel) (by decide +kernel), by decide +kernel, by decide +kernel⟩
theorem il_Re_11 : rr_LI R_Re 11 y_To_init 0 := ⟨Or.inr ⟨"RuleRunner", rr_inn 94 (by decide +kernel) (by decide +kernel)⟩, rr_inw 95 (by decide +kernel) (by decide +kernel), rfl, rr_inw 50 (by decide +kernel) (by decide +kernel), ⟨by decide +kernel, by decide +kernel, by decide +kernel⟩⟩
theorem fl_Re_12 : rr_FL R_Re 12 2 0 := ⟨_, _, _, rfl, by decide, Or.inl (rr_inw 142 (by decide +kernel) (by decide +kernel))⟩
theorem fF_Re_12 : ∃ (T : u_T) (N : Nat), rr_cl[2]? = some (R_Re, T, N) ∧ 0 < N ∧ (T 0).1 = R_Re ∧ (T 0).2.2.2 = true ∧ Cond.fieldLink R_Re 12 (T 0).1 (T 0).2.1 (T 0).2.2.1 ∈ rr_ws := ⟨_, _, rfl, by decide, rfl, rfl, rr_inw 142 (by decide +kernel) (by decide +kernel)⟩
theorem nl_Re_18 : rr_NL R_Re 18 0 [.null, .null, .null, .int 0, .int 0] := ⟨_, _, rfl, rr_inw 115 (by decide +kernel) (by decide +kernel), rr_inw 116 (by decide +kernel) (by decide +kernel), rr_inw 51 (by decide +kernel) (by decide +kernel), by decide +kernel, by decide +kernel⟩
theorem il_Re_20 : rr_LI R_Re 20 y_Co_init 0 := ⟨Or.inr ⟨"RuleRunner", rr_inn 117 (by decide +kernel) (by decide +kernel)⟩, rr_inw 118 (by decide +kernel) (by decide +kernel), rfl, rr_inw 51 (by decide +kernel) (by decide +kernel), ⟨by decide +kernel, by decide +kernel, by decide +kernel⟩⟩
theorem fl_Re_21 : rr_FL R_Re 21 2 1 := ⟨_, _, _, rfl, by decide, Or.inl (rr_inw 143 (by decide +kernel) (by decide +kernel))⟩
theorem ol_To_3 : Cond.methodLink R_To 3 objectInit ∈ rr_ws := rr_inw 97 (by decide +kernel) (by decide +kernel)
theorem fl_To_9 : rr_FL R_To 9 4 0 := ⟨_, _, _, rfl, by decide, Or.inl (rr_inw 98 (by decide +kernel) (by decide +kernel))⟩
theorem fF_To_9 : ∃ (T : u_T) (N : Nat), rr_cl[4]? = some (R_To, T, N) ∧ 0 < N ∧ (T 0).1 = R_To ∧ (T 0).2.2.2 = true ∧ Cond.fieldLink R_To 9 (T 0).1 (T 0).2.1 (T 0).2.2.1 ∈ rr_ws := ⟨_, _, rfl, by decide, rfl, rfl, rr_inw 98 (by decide +kernel) (by decide +kernel)⟩
theorem fl_To_15 : rr_FL R_To 15 4 1 := ⟨_, _, _, rfl, by decide, Or.inl (rr_inw 100 (by decide +kernel) (by decide +kernel))⟩
theorem fF_To_15 : ∃ (T : u_T) (N : Nat), rr_cl[4]? = some (R_To, T, N) ∧ 1 < N ∧ (T 1).1 = R_To ∧ (T 1).2.2.2 = true ∧ Cond.fieldLink R_To 15 (T 1).1 (T 1).2.1 (T 1).2.2.1 ∈ rr_ws := ⟨_, _, rfl, by decide, rfl, rfl, rr_inw 100 (by decide +kernel) (by decide +kernel)⟩
theorem fl_To_18 : rr_FL R_To 18 4 2 := ⟨_, _, _, rfl, by decide, Or.inl (rr_inw 102 (by decide +kernel) (by decide +kernel))⟩
theorem fF_To_18 : ∃ (T : u_T) (N : Nat), rr_cl[4]? = some (R_To, T, N) ∧ 2 < N ∧ (T 2).1 = R_To ∧ (T 2).2.2.2 = true ∧ Cond.fieldLink R_To 18 (T 2).1 (T 2).2.1 (T 2).2.2.1 ∈ rr_ws := ⟨_, _, rfl, by decide, rfl, rfl, rr_inw 102 (by decide +kernel) (by decide +kernel)⟩
theorem ol_Co_3 : Cond.methodLink R_Co 3 objectInit ∈ rr_ws := rr_inw 120 (by decide +kernel) (by decide +kernel)
theorem fl_Co_9 : rr_FL R_Co 9 0 0 := ⟨_, _, _, rfl, by decide, Or.inl (rr_inw 121 (by decide +kernel) (by decide +kernel))⟩
theorem fF_Co_9 : ∃ (T : u_T) (N : Nat), rr_cl[0]? = some (R_Co, T, N) ∧ 0 < N ∧ (T 0).1 = R_Co ∧ (T 0).2.2.2 = true ∧ Cond.fieldLink R_Co 9 (T 0).1 (T 0).2.1 (T 0).2.2.1 ∈ rr_ws := ⟨_, _, rfl, by decide, rfl, rfl, rr_inw 121 (by decide +kernel) (by decide +kernel)⟩
theorem fl_Co_15 : rr_FL R_Co 15 0 1 := ⟨_, _, _, rfl, by decide, Or.inl (rr_inw 123 (by decide +kernel) (by decide +kernel))⟩
theorem fF_Co_15 : ∃ (T : u_T) (N : Nat), rr_cl[0]? = some (R_Co, T, N) ∧ 1 < N ∧ (T 1).1 = R_Co ∧ (T 1).2.2.2 = true ∧ Cond.fieldLink R_Co 15 (T 1).1 (T 1).2.1 (T 1).2.2.1 ∈ rr_ws := ⟨_, _, rfl, by decide, rfl, rfl, rr_inw 123 (by decide +kernel) (by decide +kernel)⟩
theorem fl_Co_18 : rr_FL R_Co 18 0 2 := ⟨_, _, _, rfl, by decide, Or.inl (rr_inw 125 (by decide +kernel) (by decide +kernel))⟩
theorem fF_Co_18 : ∃ (T : u_T) (N : Nat), rr_cl[0]? = some (R_Co, T, N) ∧ 2 < N ∧ (T 2).1 = R_Co ∧ (T 2).2.2.2 = true ∧ Cond.fieldLink R_Co 18 (T 2).1 (T 2).2.1 (T 2).2.2.1 ∈ rr_ws := ⟨_, _, rfl, by decide, rfl, rfl, rr_inw 125 (by decide +kernel) (by decide +kernel)⟩
theorem ol_Ma_3 : Cond.methodLink R_Ma 3 objectInit ∈ rr_ws := rr_inw 160 (by decide +kernel) (by decide +kernel)
theorem fl_Ma_9 : rr_FL R_Ma 9 1 0 := ⟨_, _, _, rfl, by decide, Or.inl (rr_inw 161 (by decide +kernel) (by decide +kernel))⟩
theorem fF_Ma_9 : ∃ (T : u_T) (N : Nat), rr_cl[1]? = some (R_Ma, T, N) ∧ 0 < N ∧ (T 0).1 = R_Ma ∧ (T 0).2.2.2 = true ∧ Cond.fieldLink R_Ma 9 (T 0).1 (T 0).2.1 (T 0).2.2.1 ∈ rr_ws := ⟨_, _, rfl, by decide, rfl, rfl, rr_inw 161 (by decide +kernel) (by decide +kernel)⟩
theorem fl_Ma_15 : rr_FL R_Ma 15 1 1 := ⟨_, _, _, rfl, by decide, Or.inl (rr_inw 163 (by decide +kernel) (by decide +kernel))⟩
theorem fF_Ma_15 : ∃ (T : u_T) (N : Nat), rr_cl[1]? = some (R_Ma, T, N) ∧ 1 < N ∧ (T 1).1 = R_Ma ∧ (T 1).2.2.2 = true ∧ Cond.fieldLink R_Ma 15 (T 1).1 (T 1).2.1 (T 1).2.2.1 ∈ rr_ws := ⟨_, _, rfl, by decide, rfl, rfl, rr_inw 163 (by decide +kernel) (by decide +kernel)⟩
theorem fl_Ma_18 : rr_FL R_Ma 18 1 3 := ⟨_, _, _, rfl, by decide, Or.inl (rr_inw 165 (by decide +kernel) (by decide +kernel))⟩
theorem fF_Ma_18 : ∃ (T : u_T) (N : Nat), rr_cl[1]? = some (R_Ma, T, N) ∧ 3 < N ∧ (T 3).1 = R_Ma ∧ (T 3).2.2.2 = true ∧ Cond.fieldLink R_Ma 18 (T 3).1 (T 3).2.1 (T 3).2.2.1 ∈ rr_ws := ⟨_, _, rfl, by decide, rfl, rfl, rr_inw 165 (by decide +kernel) (by decide +kernel)⟩
theorem fl_Ma_21 : rr_FL R_Ma 21 1 4 := ⟨_, _, _, rfl, by decide, Or.inl (rr_inw 166 (by decide +kernel) (by decide +kernel))⟩
theorem fF_Ma_21 : ∃ (T : u_T) (N : Nat), rr_cl[1]? = some (R_Ma, T, N) ∧ 4 < N ∧ (T 4).1 = R_Ma ∧ (T 4).2.2.2 = true ∧ Cond.fieldLink R_Ma 21 (T 4).1 (T 4).2.1 (T 4).2.2.1 ∈ rr_ws := ⟨_, _, rfl, by decide, rfl, rfl, rr_inw 166 (by decide +kernel) (by decide +kernel)⟩
theorem fl_Ma_24 : rr_FL R_Ma 24 1 6 := ⟨_, _, _, rfl, by decide, Or.inl (rr_inw 168 (by decide +kernel) (by decide +kernel))⟩
theorem fF_Ma_24 : ∃ (T : u_T) (N : Nat), rr_cl[1]? = some (R_Ma, T, N) ∧ 6 < N ∧ (T 6).1 = R_Ma ∧ (T 6).2.2.2 = true ∧ Cond.fieldLink R_Ma 24 (T 6).1 (T 6).2.1 (T 6).2.2.1 ∈ rr_ws := ⟨_, _, rfl, by decide, rfl, rfl, rr_inw 168 (by decide +kernel) (by decide +kernel)⟩
theorem fl_Ma_27 : rr_FL R_Ma 27 1 7 := ⟨_, _, _, rfl, by decide, Or.inl (rr_inw 169 (by decide +kernel) (by decide +kernel))⟩
theorem fF_Ma_27 : ∃ (T : u_T) (N : Nat), rr_cl[1]? = some (R_Ma, T, N) ∧ 7 < N ∧ (T 7).1 = R_Ma ∧ (T 7).2.2.2 = true ∧ Cond.fieldLink R_Ma 27 (T 7).1 (T 7).2.1 (T 7).2.2.1 ∈ rr_ws := ⟨_, _, rfl, by decide, rfl, rfl, rr_inw 169 (by decide +kernel) (by decide +kernel)⟩
theorem fl_Ma_30 : rr_FL R_Ma 30 1 9 := ⟨_, _, _, rfl, by decide, Or.inl (rr_inw 171 (by decide +kernel) (by decide +kernel))⟩
theorem fF_Ma_30 : ∃ (T : u_T) (N : Nat), rr_cl[1]? = some (R_Ma, T, N) ∧ 9 < N ∧ (T 9).1 = R_Ma ∧ (T 9).2.2.2 = true ∧ Cond.fieldLink R_Ma 30 (T 9).1 (T 9).2.1 (T 9).2.2.1 ∈ rr_ws := ⟨_, _, rfl, by decide, rfl, rfl, rr_inw 171 (by decide +kernel) (by decide +kernel)⟩
theorem fl_Ru_37 : rr_FL R_Ru 37 3 1 := ⟨_, _, _, rfl, by decide, Or.inr ⟨"RuleRunner", rr_inn 77 (by decide +kernel) (by decide +kernel)⟩⟩
theorem il_Ru_41 : rr_LV R_Ru 41 y_Ta_append 1 := ⟨Or.inr ⟨"RuleRunner", rr_inn 216 (by decide +kernel) (by decide +kernel)⟩, rr_inw 218 (by decide +kernel) (by decide +kernel), rr_inw 0 (by decide +kernel) (by decide +kernel), rr_inw 48 (by decide +kernel) (by decide +kernel), ⟨by decide +kernel, by decide +kernel, by decide +kernel⟩⟩
theorem fl_Ta_15 : rr_FL R_Ta 15 3 1 := ⟨_, _, _, rfl, by decide, Or.inl (rr_inw 78 (by decide +kernel) (by decide +kernel))⟩
theorem il_Ru_45 : rr_LV R_Ru 45 y_Re_read 1 := ⟨Or.inr ⟨"RuleRunner", rr_inn 228 (by decide +kernel) (by decide +kernel)⟩, rr_inw 230 (by decide +kernel) (by decide +kernel), rr_inw 1 (by decide +kernel) (by decide +kernel), rr_inw 49 (by decide +kernel) (by decide +kernel), ⟨by decide +kernel, by decide +kernel, by decide +kernel⟩⟩
theorem il_Ru_49 : rr_LV R_Ru 49 y_Re_exchange 1 := ⟨Or.inr ⟨"RuleRunner", rr_inn 377 (by decide +kernel) (by decide +kernel)⟩, rr_inw 379 (by decide +kernel) (by decide +kernel), rr_inw 20 (by decide +kernel) (by decide +kernel), rr_inw 49 (by decide +kernel) (by decide +kernel), ⟨by decide +kernel, by decide +kernel, by decide +kernel⟩⟩
theorem il_Re_25 : rr_LV R_Re 25 y_To_split 1 := ⟨Or.inr ⟨"RuleRunner", rr_inn 232 (by decide +kernel) (by decide +kernel)⟩, rr_inw 234 (by decide +kernel) (by decide +kernel), rr_inw 2 (by decide +kernel) (by decide +kernel), rr_inw 50 (by decide +kernel) (by decide +kernel), ⟨by decide +kernel, by decide +kernel, by decide +kernel⟩⟩
theorem il_Re_29 : rr_LV R_Re 29 y_Co_clear 0 := ⟨Or.inr ⟨"RuleRunner", rr_inn 329 (by decide +kernel) (by decide +kernel)⟩, rr_inw 331 (by decide +kernel) (by decide +kernel), rr_inw 8 (by decide +kernel) (by decide +kernel), rr_inw 51 (by decide +kernel) (by decide +kernel), ⟨by decide +kernel, by decide +kernel, by decide +kernel⟩⟩
theorem fl_Re_32 : rr_FL R_Re 32 2 2 := ⟨_, _, _, rfl, by decide, Or.inl (rr_inw 144 (by decide +kernel) (by decide +kernel))⟩
theorem fl_Re_36 : rr_FL R_Re 36 2 3 := ⟨_, _, _, rfl, by decide, Or.inl (rr_inw 145 (by decide +kernel) (by decide +kernel))⟩
theorem il_Re_39 : rr_LV R_Re 39 y_Re_readRule 0 := ⟨Or.inl (rr_inw 333 (by decide +kernel) (by decide +kernel)), rr_inw 335 (by decide +kernel) (by decide +kernel), rr_inw 9 (by decide +kernel) (by decide +kernel), rr_inw 49 (by decide +kernel) (by decide +kernel), ⟨by decide +kernel, by decide +kernel, by decide +kernel⟩⟩
theorem il_Re_43 : rr_LV R_Re 43 y_Co_closeRule 0 := ⟨Or.inr ⟨"RuleRunner", rr_inn 373 (by decide +kernel) (by decide +kernel)⟩, rr_inw 375 (by decide +kernel) (by decide +kernel), rr_inw 19 (by decide +kernel) (by decide +kernel), rr_inw 51 (by decide +kernel) (by decide +kernel), ⟨by decide +kernel, by decide +kernel, by decide +kernel⟩⟩
theorem il_Re_46 : rr_LV R_Re 46 y_Re_looksAt 1 := ⟨Or.inl (rr_inw 357 (by decide +kernel) (by decide +kernel)), rr_inw 359 (by decide +kernel) (by decide +kernel), rr_inw 15 (by decide +kernel) (by decide +kernel), rr_inw 49 (by decide +kernel) (by decide +kernel), ⟨by decide +kernel, by decide +kernel, by decide +kernel⟩⟩
theorem il_Re_50 : rr_LV R_Re 50 y_Re_pass 1 := ⟨Or.inl (rr_inw 337 (by decide +kernel) (by decide +kernel)), rr_inw 339 (by decide +kernel) (by decide +kernel), rr_inw 10 (by decide +kernel) (by decide +kernel), rr_inw 49 (by decide +kernel) (by decide +kernel), ⟨by decide +kernel, by decide +kernel, by decide +kernel⟩⟩
theorem fl_Re_53 : rr_FL R_Re 53 4 2 := ⟨_, _, _, rfl, by decide, Or.inr ⟨"RuleRunner", rr_inn 103 (by decide +kernel) (by decide +kernel)⟩⟩
theorem fl_To_21 : rr_FL R_To 21 4 3 := ⟨_, _, _, rfl, by decide, Or.inl (rr_inw 104 (by decide +kernel) (by decide +kernel))⟩
theorem fl_To_25 : rr_FL R_To 25 3 1 := ⟨_, _, _, rfl, by decide, Or.inr ⟨"RuleRunner", rr_inn 79 (by decide +kernel) (by decide +kernel)⟩⟩
theorem fl_To_30 : rr_FL R_To 30 3 0 := ⟨_, _, _, rfl, by decide, Or.inr ⟨"RuleRunner", rr_inn 76 (by decide +kernel) (by decide +kernel)⟩⟩
theorem il_To_34 : rr_LV R_To 34 y_To_splitOne 2 := ⟨Or.inl (rr_inw 236 (by decide +kernel) (by decide +kernel)), rr_inw 238 (by decide +kernel) (by decide +kernel), rr_inw 3 (by decide +kernel) (by decide +kernel), rr_inw 50 (by decide +kernel) (by decide +kernel), ⟨by decide +kernel, by decide +kernel, by decide +kernel⟩⟩
theorem il_To_38 : rr_LV R_To 38 y_To_add 3 := ⟨Or.inl (rr_inw 309 (by decide +kernel) (by decide +kernel)), rr_inw 311 (by decide +kernel) (by decide +kernel), rr_inw 6 (by decide +kernel) (by decide +kernel), rr_inw 50 (by decide +kernel) (by decide +kernel), ⟨by decide +kernel, by decide +kernel, by decide +kernel⟩⟩
theorem il_To_42 : rr_LS R_To 42 y_To_isLetter 1 := ⟨Or.inl (rr_inw 240 (by decide +kernel) (by decide +kernel)), rr_inw 241 (by decide +kernel) (by decide +kernel), rr_inw 50 (by decide +kernel) (by decide +kernel), ⟨by decide +kernel, by decide +kernel, by decide +kernel⟩⟩
theorem il_To_46 : rr_LV R_To 46 y_To_splitWord 2 := ⟨Or.inl (rr_inw 243 (by decide +kernel) (by decide +kernel)), rr_inw 245 (by decide +kernel) (by decide +kernel), rr_inw 4 (by decide +kernel) (by decide +kernel), rr_inw 50 (by decide +kernel) (by decide +kernel), ⟨by decide +kernel, by decide +kernel, by decide +kernel⟩⟩
theorem il_To_49 : rr_LS R_To 49 y_To_isDigit 1 := ⟨Or.inl (rr_inw 313 (by decide +kernel) (by decide +kernel)), rr_inw 314 (by decide +kernel) (by decide +kernel), rr_inw 50 (by decide +kernel) (by decide +kernel), ⟨by decide +kernel, by decide +kernel, by decide +kernel⟩⟩
theorem il_To_52 : rr_LV R_To 52 y_To_splitNumber 2 := ⟨Or.inl (rr_inw 316 (by decide +kernel) (by decide +kernel)), rr_inw 318 (by decide +kernel) (by decide +kernel), rr_inw 7 (by decide +kernel) (by decide +kernel), rr_inw 50 (by decide +kernel) (by decide +kernel), ⟨by decide +kernel, by decide +kernel, by decide +kernel⟩⟩
theorem il_To_55 : rr_LS R_To 55 y_To_signKind 1 := ⟨Or.inl (rr_inw 326 (by decide +kernel) (by decide +kernel)), rr_inw 327 (by decide +kernel) (by decide +kernel), rr_inw 50 (by decide +kernel) (by decide +kernel), ⟨by decide +kernel, by decide +kernel, by decide +kernel⟩⟩
theorem il_To_59 : rr_LS R_To 59 y_To_wordKind 3 := ⟨Or.inl (rr_inw 247 (by decide +kernel) (by decide +kernel)), rr_inw 248 (by decide +kernel) (by decide +kernel), rr_inw 50 (by decide +kernel) (by decide +kernel), ⟨by decide +kernel, by decide +kernel, by decide +kernel⟩⟩
theorem sl_To_75 : (R_To, 75, "c", 6) ∈ rr_str := List.mem_of_getElem? (i := 0) rfl
theorem il_To_77 : rr_LV R_To 77 y_Ta_spells 3 := ⟨Or.inr ⟨"RuleRunner", rr_inn 251 (by decide +kernel) (by decide +kernel)⟩, rr_inw 253 (by decide +kernel) (by decide +kernel), rr_inw 5 (by decide +kernel) (by decide +kernel), rr_inw 48 (by decide +kernel) (by decide +kernel), ⟨by decide +kernel, by decide +kernel, by decide +kernel⟩⟩
theorem sl_To_81 : (R_To, 81, "if", 0) ∈ rr_str := List.mem_of_getElem? (i := 1) rfl
theorem sl_To_83 : (R_To, 83, "then", 1) ∈ rr_str := List.mem_of_getElem? (i := 2) rfl
theorem sl_To_85 : (R_To, 85, "else", 2) ∈ rr_str := List.mem_of_getElem? (i := 3) rfl
theorem sl_To_87 : (R_To, 87, "and", 3) ∈ rr_str := List.mem_of_getElem? (i := 4) rfl
theorem sl_To_89 : (R_To, 89, "server", 4) ∈ rr_str := List.mem_of_getElem? (i := 5) rfl
theorem sl_To_91 : (R_To, 91, "stamp", 5) ∈ rr_str := List.mem_of_getElem? (i := 6) rfl
theorem il_Ta_19 : rr_LV R_Ta 19 y_St_length 0 := ⟨Or.inl (rr_inw 255 (by decide +kernel) (by decide +kernel)), rr_inw 256 (by decide +kernel) (by decide +kernel), rr_inw 257 (by decide +kernel) (by decide +kernel), rr_inw 54 (by decide +kernel) (by decide +kernel), ⟨by decide +kernel, by decide +kernel, by decide +kernel⟩⟩
theorem il_Ta_24 : rr_LV R_Ta 24 y_St_charAt 1 := ⟨Or.inl (rr_inw 265 (by decide +kernel) (by decide +kernel)), rr_inw 266 (by decide +kernel) (by decide +kernel), rr_inw 267 (by decide +kernel) (by decide +kernel), rr_inw 54 (by decide +kernel) (by decide +kernel), ⟨by decide +kernel, by decide +kernel, by decide +kernel⟩⟩
theorem fs_St_9 : Cond.fieldLink R_St 9 "java/lang/String" "value" "[B" ∈ rr_ws := rr_inw 657 (by decide +kernel) (by decide +kernel)
theorem il_St_335 : rr_LV R_St 335 y_St_coder 0 := ⟨Or.inl (rr_inw 259 (by decide +kernel) (by decide +kernel)), rr_inw 260 (by decide +kernel) (by decide +kernel), rr_inw 261 (by decide +kernel) (by decide +kernel), rr_inw 54 (by decide +kernel) (by decide +kernel), ⟨by decide +kernel, by decide +kernel, by decide +kernel⟩⟩
theorem fs_St_38 : Cond.fieldLink R_St 38 "java/lang/String" "COMPACT_STRINGS" "Z" ∈ rr_ws := rr_inw 263 (by decide +kernel) (by decide +kernel)
theorem fs_St_15 : Cond.fieldLink R_St 15 "java/lang/String" "coder" "B" ∈ rr_ws := rr_inw 658 (by decide +kernel) (by decide +kernel)
theorem il_St_492 : rr_LV R_St 492 y_St_isLatin1 0 := ⟨Or.inl (rr_inw 269 (by decide +kernel) (by decide +kernel)), rr_inw 270 (by decide +kernel) (by decide +kernel), rr_inw 271 (by decide +kernel) (by decide +kernel), rr_inw 54 (by decide +kernel) (by decide +kernel), ⟨by decide +kernel, by decide +kernel, by decide +kernel⟩⟩
theorem il_St_495 : rr_LS R_St 495 y_Sl_charAt 2 := ⟨Or.inl (rr_inw 273 (by decide +kernel) (by decide +kernel)), rr_inw 274 (by decide +kernel) (by decide +kernel), rr_inw 55 (by decide +kernel) (by decide +kernel), ⟨by decide +kernel, by decide +kernel, by decide +kernel⟩⟩
theorem il_Sl_9 : rr_LS R_Sl 9 y_St_checkIndex 2 := ⟨Or.inl (rr_inw 276 (by decide +kernel) (by decide +kernel)), rr_inw 277 (by decide +kernel) (by decide +kernel), rr_inw 54 (by decide +kernel) (by decide +kernel), ⟨by decide +kernel, by decide +kernel, by decide +kernel⟩⟩
theorem fs_St_1053 : Cond.fieldLink R_St 1053 "jdk/internal/util/Preconditions" "SIOOBE_FORMATTER" "Ljava/util/function/BiFunction;" ∈ rr_ws := rr_inw 279 (by decide +kernel) (by decide +kernel)
theorem il_St_1059 : rr_LS R_St 1059 y_Pr_checkIndex 3 := ⟨Or.inl (rr_inw 281 (by decide +kernel) (by decide +kernel)), rr_inw 282 (by decide +kernel) (by decide +kernel), rr_inw 56 (by decide +kernel) (by decide +kernel), ⟨by decide +kernel, by decide +kernel, by decide +kernel⟩⟩
theorem kl_To_63 : Cond.constantLong R_To 63 10 ∈ rr_ws := rr_inw 320 (by decide +kernel) (by decide +kernel)
theorem kl_To_65 : Cond.constantLong R_To 65 2147483648 ∈ rr_ws := rr_inw 321 (by decide +kernel) (by decide +kernel)
theorem il_To_67 : rr_LS R_To 67 y_Mt_minJ 2 := ⟨Or.inl (rr_inw 322 (by decide +kernel) (by decide +kernel)), rr_inw 323 (by decide +kernel) (by decide +kernel), rr_inw 58 (by decide +kernel) (by decide +kernel), ⟨by decide +kernel, by decide +kernel, by decide +kernel⟩⟩
theorem kl_To_73 : Cond.constantLong R_To 73 2147483647 ∈ rr_ws := rr_inw 325 (by decide +kernel) (by decide +kernel)
theorem fl_Co_21 : rr_FL R_Co 21 0 3 := ⟨_, _, _, rfl, by decide, Or.inl (rr_inw 127 (by decide +kernel) (by decide +kernel))⟩
theorem fl_Co_25 : rr_FL R_Co 25 0 4 := ⟨_, _, _, rfl, by decide, Or.inl (rr_inw 128 (by decide +kernel) (by decide +kernel))⟩
theorem il_Re_57 : rr_LV R_Re 57 y_Re_readTest 0 := ⟨Or.inl (rr_inw 341 (by decide +kernel) (by decide +kernel)), rr_inw 343 (by decide +kernel) (by decide +kernel), rr_inw 11 (by decide +kernel) (by decide +kernel), rr_inw 49 (by decide +kernel) (by decide +kernel), ⟨by decide +kernel, by decide +kernel, by decide +kernel⟩⟩
theorem il_Re_60 : rr_LV R_Re 60 y_Re_readEffect 0 := ⟨Or.inl (rr_inw 369 (by decide +kernel) (by decide +kernel)), rr_inw 371 (by decide +kernel) (by decide +kernel), rr_inw 18 (by decide +kernel) (by decide +kernel), rr_inw 49 (by decide +kernel) (by decide +kernel), ⟨by decide +kernel, by decide +kernel, by decide +kernel⟩⟩
theorem fl_Re_66 : rr_FL R_Re 66 4 0 := ⟨_, _, _, rfl, by decide, Or.inr ⟨"RuleRunner", rr_inn 99 (by decide +kernel) (by decide +kernel)⟩⟩
theorem il_Re_63 : rr_LV R_Re 63 y_Re_readSum 1 := ⟨Or.inl (rr_inw 345 (by decide +kernel) (by decide +kernel)), rr_inw 347 (by decide +kernel) (by decide +kernel), rr_inw 12 (by decide +kernel) (by decide +kernel), rr_inw 49 (by decide +kernel) (by decide +kernel), ⟨by decide +kernel, by decide +kernel, by decide +kernel⟩⟩
theorem il_Re_69 : rr_LV R_Re 69 y_Co_add 2 := ⟨Or.inr ⟨"RuleRunner", rr_inn 365 (by decide +kernel) (by decide +kernel)⟩, rr_inw 367 (by decide +kernel) (by decide +kernel), rr_inw 17 (by decide +kernel) (by decide +kernel), rr_inw 51 (by decide +kernel) (by decide +kernel), ⟨by decide +kernel, by decide +kernel, by decide +kernel⟩⟩
theorem il_Re_79 : rr_LV R_Re 79 y_Re_readTerm 1 := ⟨Or.inl (rr_inw 349 (by decide +kernel) (by decide +kernel)), rr_inw 351 (by decide +kernel) (by decide +kernel), rr_inw 13 (by decide +kernel) (by decide +kernel), rr_inw 49 (by decide +kernel) (by decide +kernel), ⟨by decide +kernel, by decide +kernel, by decide +kernel⟩⟩
theorem il_Re_82 : rr_LV R_Re 82 y_Re_readPart 1 := ⟨Or.inl (rr_inw 353 (by decide +kernel) (by decide +kernel)), rr_inw 355 (by decide +kernel) (by decide +kernel), rr_inw 14 (by decide +kernel) (by decide +kernel), rr_inw 49 (by decide +kernel) (by decide +kernel), ⟨by decide +kernel, by decide +kernel, by decide +kernel⟩⟩
theorem il_Re_73 : rr_LV R_Re 73 y_Re_looksAtCellNumber 0 := ⟨Or.inl (rr_inw 361 (by decide +kernel) (by decide +kernel)), rr_inw 363 (by decide +kernel) (by decide +kernel), rr_inw 16 (by decide +kernel) (by decide +kernel), rr_inw 49 (by decide +kernel) (by decide +kernel), ⟨by decide +kernel, by decide +kernel, by decide +kernel⟩⟩
theorem fl_Re_76 : rr_FL R_Re 76 4 1 := ⟨_, _, _, rfl, by decide, Or.inr ⟨"RuleRunner", rr_inn 101 (by decide +kernel) (by decide +kernel)⟩⟩
theorem fl_Ru_53 : rr_FL R_Ru 53 0 4 := ⟨_, _, _, rfl, by decide, Or.inr ⟨"RuleRunner", rr_inn 130 (by decide +kernel) (by decide +kernel)⟩⟩
theorem il_Ru_56 : rr_LV R_Ru 56 y_Ma_perform 3 := ⟨Or.inr ⟨"RuleRunner", rr_inn 385 (by decide +kernel) (by decide +kernel)⟩, rr_inw 387 (by decide +kernel) (by decide +kernel), rr_inw 21 (by decide +kernel) (by decide +kernel), rr_inw 52 (by decide +kernel) (by decide +kernel), ⟨by decide +kernel, by decide +kernel, by decide +kernel⟩⟩
theorem fl_Ma_33 : rr_FL R_Ma 33 1 10 := ⟨_, _, _, rfl, by decide, Or.inl (rr_inw 172 (by decide +kernel) (by decide +kernel))⟩
theorem fl_Ma_37 : rr_FL R_Ma 37 1 8 := ⟨_, _, _, rfl, by decide, Or.inl (rr_inw 170 (by decide +kernel) (by decide +kernel))⟩
theorem fl_Ma_40 : rr_FL R_Ma 40 0 4 := ⟨_, _, _, rfl, by decide, Or.inr ⟨"RuleRunner", rr_inn 129 (by decide +kernel) (by decide +kernel)⟩⟩
theorem fl_Ma_45 : rr_FL R_Ma 45 0 2 := ⟨_, _, _, rfl, by decide, Or.inr ⟨"RuleRunner", rr_inn 126 (by decide +kernel) (by decide +kernel)⟩⟩
theorem il_Ma_48 : rr_LV R_Ma 48 y_Ma_isTaken 5 := ⟨Or.inl (rr_inw 389 (by decide +kernel) (by decide +kernel)), rr_inw 391 (by decide +kernel) (by decide +kernel), rr_inw 22 (by decide +kernel) (by decide +kernel), rr_inw 52 (by decide +kernel) (by decide +kernel), ⟨by decide +kernel, by decide +kernel, by decide +kernel⟩⟩
theorem il_Ma_52 : rr_LV R_Ma 52 y_Ma_applyEffects 0 := ⟨Or.inl (rr_inw 413 (by decide +kernel) (by decide +kernel)), rr_inw 415 (by decide +kernel) (by decide +kernel), rr_inw 28 (by decide +kernel) (by decide +kernel), rr_inw 52 (by decide +kernel) (by decide +kernel), ⟨by decide +kernel, by decide +kernel, by decide +kernel⟩⟩
theorem fl_Ma_55 : rr_FL R_Ma 55 1 2 := ⟨_, _, _, rfl, by decide, Or.inl (rr_inw 164 (by decide +kernel) (by decide +kernel))⟩
theorem fl_Ma_58 : rr_FL R_Ma 58 1 5 := ⟨_, _, _, rfl, by decide, Or.inl (rr_inw 167 (by decide +kernel) (by decide +kernel))⟩
theorem fl_Ma_61 : rr_FL R_Ma 61 0 0 := ⟨_, _, _, rfl, by decide, Or.inr ⟨"RuleRunner", rr_inn 122 (by decide +kernel) (by decide +kernel)⟩⟩
theorem fl_Ma_64 : rr_FL R_Ma 64 0 1 := ⟨_, _, _, rfl, by decide, Or.inr ⟨"RuleRunner", rr_inn 124 (by decide +kernel) (by decide +kernel)⟩⟩
theorem il_Ma_67 : rr_LV R_Ma 67 y_Ma_push 1 := ⟨Or.inl (rr_inw 393 (by decide +kernel) (by decide +kernel)), rr_inw 395 (by decide +kernel) (by decide +kernel), rr_inw 23 (by decide +kernel) (by decide +kernel), rr_inw 52 (by decide +kernel) (by decide +kernel), ⟨by decide +kernel, by decide +kernel, by decide +kernel⟩⟩
theorem il_Ma_71 : rr_LV R_Ma 71 y_Ma_pop 0 := ⟨Or.inl (rr_inw 397 (by decide +kernel) (by decide +kernel)), rr_inw 399 (by decide +kernel) (by decide +kernel), rr_inw 24 (by decide +kernel) (by decide +kernel), rr_inw 52 (by decide +kernel) (by decide +kernel), ⟨by decide +kernel, by decide +kernel, by decide +kernel⟩⟩
theorem il_Ma_75 : rr_LV R_Ma 75 y_Ma_addEffect 2 := ⟨Or.inl (rr_inw 401 (by decide +kernel) (by decide +kernel)), rr_inw 403 (by decide +kernel) (by decide +kernel), rr_inw 25 (by decide +kernel) (by decide +kernel), rr_inw 52 (by decide +kernel) (by decide +kernel), ⟨by decide +kernel, by decide +kernel, by decide +kernel⟩⟩
theorem il_Ma_79 : rr_LV R_Ma 79 y_Ma_calculate 1 := ⟨Or.inl (rr_inw 405 (by decide +kernel) (by decide +kernel)), rr_inw 407 (by decide +kernel) (by decide +kernel), rr_inw 26 (by decide +kernel) (by decide +kernel), rr_inw 52 (by decide +kernel) (by decide +kernel), ⟨by decide +kernel, by decide +kernel, by decide +kernel⟩⟩
theorem il_Ma_82 : rr_LV R_Ma 82 y_Ma_holds 1 := ⟨Or.inl (rr_inw 409 (by decide +kernel) (by decide +kernel)), rr_inw 411 (by decide +kernel) (by decide +kernel), rr_inw 27 (by decide +kernel) (by decide +kernel), rr_inw 52 (by decide +kernel) (by decide +kernel), ⟨by decide +kernel, by decide +kernel, by decide +kernel⟩⟩
theorem il_Ma_86 : rr_LV R_Ma 86 y_Ma_change 2 := ⟨Or.inl (rr_inw 417 (by decide +kernel) (by decide +kernel)), rr_inw 419 (by decide +kernel) (by decide +kernel), rr_inw 29 (by decide +kernel) (by decide +kernel), rr_inw 52 (by decide +kernel) (by decide +kernel), ⟨by decide +kernel, by decide +kernel, by decide +kernel⟩⟩
theorem il_Ma_89 : rr_LS R_Ma 89 y_Ru_isCell 1 := ⟨Or.inr ⟨"RuleRunner", rr_inn 421 (by decide +kernel) (by decide +kernel)⟩, rr_inw 422 (by decide +kernel) (by decide +kernel), rr_inw 47 (by decide +kernel) (by decide +kernel), ⟨by decide +kernel, by decide +kernel, by decide +kernel⟩⟩
theorem il_Ru_60 : rr_LV R_Ru 60 y_Ma_takeBack 0 := ⟨Or.inr ⟨"RuleRunner", rr_inn 428 (by decide +kernel) (by decide +kernel)⟩, rr_inw 430 (by decide +kernel) (by decide +kernel), rr_inw 30 (by decide +kernel) (by decide +kernel), rr_inw 52 (by decide +kernel) (by decide +kernel), ⟨by decide +kernel, by decide +kernel, by decide +kernel⟩⟩
theorem il_Ru_64 : rr_LS R_Ru 64 y_Ru_isCell 1 := ⟨Or.inl (rr_inw 436 (by decide +kernel) (by decide +kernel)), rr_inw 422 (by decide +kernel) (by decide +kernel), rr_inw 47 (by decide +kernel) (by decide +kernel), ⟨by decide +kernel, by decide +kernel, by decide +kernel⟩⟩
theorem fl_Ru_68 : rr_FL R_Ru 68 1 0 := ⟨_, _, _, rfl, by decide, Or.inr ⟨"RuleRunner", rr_inn 162 (by decide +kernel) (by decide +kernel)⟩⟩
theorem kl_Ru_72 : Cond.constantLong R_Ru 72 1099511627776 ∈ rr_ws := rr_inw 437 (by decide +kernel) (by decide +kernel)
theorem fl_Ru_74 : rr_FL R_Ru 74 1 10 := ⟨_, _, _, rfl, by decide, Or.inr ⟨"RuleRunner", rr_inn 173 (by decide +kernel) (by decide +kernel)⟩⟩
theorem ol_Mo_1 : Cond.methodLink R_Mo 1 objectInit ∈ rr_ws := rr_inw 451 (by decide +kernel) (by decide +kernel)
theorem fl_Mo_9 : rr_FL R_Mo 9 6 0 := ⟨_, _, _, rfl, by decide, Or.inl (rr_inw 452 (by decide +kernel) (by decide +kernel))⟩
theorem fF_Mo_9 : ∃ (T : u_T) (N : Nat), rr_cl[6]? = some (R_Mo, T, N) ∧ 0 < N ∧ (T 0).1 = R_Mo ∧ (T 0).2.2.2 = true ∧ Cond.fieldLink R_Mo 9 (T 0).1 (T 0).2.1 (T 0).2.2.1 ∈ rr_ws := ⟨_, _, rfl, by decide, rfl, rfl, rr_inw 452 (by decide +kernel) (by decide +kernel)⟩
theorem fl_Mo_13 : rr_FL R_Mo 13 6 3 := ⟨_, _, _, rfl, by decide, Or.inl (rr_inw 455 (by decide +kernel) (by decide +kernel))⟩
theorem fF_Mo_13 : ∃ (T : u_T) (N : Nat), rr_cl[6]? = some (R_Mo, T, N) ∧ 3 < N ∧ (T 3).1 = R_Mo ∧ (T 3).2.2.2 = true ∧ Cond.fieldLink R_Mo 13 (T 3).1 (T 3).2.1 (T 3).2.2.1 ∈ rr_ws := ⟨_, _, rfl, by decide, rfl, rfl, rr_inw 455 (by decide +kernel) (by decide +kernel)⟩
theorem fl_Mo_17 : rr_FL R_Mo 17 6 13 := ⟨_, _, _, rfl, by decide, Or.inl (rr_inw 465 (by decide +kernel) (by decide +kernel))⟩
theorem fF_Mo_17 : ∃ (T : u_T) (N : Nat), rr_cl[6]? = some (R_Mo, T, N) ∧ 13 < N ∧ (T 13).1 = R_Mo ∧ (T 13).2.2.2 = true ∧ Cond.fieldLink R_Mo 17 (T 13).1 (T 13).2.1 (T 13).2.2.1 ∈ rr_ws := ⟨_, _, rfl, by decide, rfl, rfl, rr_inw 465 (by decide +kernel) (by decide +kernel)⟩
theorem fl_Mo_20 : rr_FL R_Mo 20 6 15 := ⟨_, _, _, rfl, by decide, Or.inl (rr_inw 467 (by decide +kernel) (by decide +kernel))⟩
theorem fF_Mo_20 : ∃ (T : u_T) (N : Nat), rr_cl[6]? = some (R_Mo, T, N) ∧ 15 < N ∧ (T 15).1 = R_Mo ∧ (T 15).2.2.2 = true ∧ Cond.fieldLink R_Mo 20 (T 15).1 (T 15).2.1 (T 15).2.2.1 ∈ rr_ws := ⟨_, _, rfl, by decide, rfl, rfl, rr_inw 467 (by decide +kernel) (by decide +kernel)⟩
theorem fl_Mo_23 : rr_FL R_Mo 23 6 16 := ⟨_, _, _, rfl, by decide, Or.inl (rr_inw 468 (by decide +kernel) (by decide +kernel))⟩
theorem fF_Mo_23 : ∃ (T : u_T) (N : Nat), rr_cl[6]? = some (R_Mo, T, N) ∧ 16 < N ∧ (T 16).1 = R_Mo ∧ (T 16).2.2.2 = true ∧ Cond.fieldLink R_Mo 23 (T 16).1 (T 16).2.1 (T 16).2.2.1 ∈ rr_ws := ⟨_, _, rfl, by decide, rfl, rfl, rr_inw 468 (by decide +kernel) (by decide +kernel)⟩
theorem fl_Mo_26 : rr_FL R_Mo 26 6 17 := ⟨_, _, _, rfl, by decide, Or.inl (rr_inw 469 (by decide +kernel) (by decide +kernel))⟩
theorem fF_Mo_26 : ∃ (T : u_T) (N : Nat), rr_cl[6]? = some (R_Mo, T, N) ∧ 17 < N ∧ (T 17).1 = R_Mo ∧ (T 17).2.2.2 = true ∧ Cond.fieldLink R_Mo 26 (T 17).1 (T 17).2.1 (T 17).2.2.1 ∈ rr_ws := ⟨_, _, rfl, by decide, rfl, rfl, rr_inw 469 (by decide +kernel) (by decide +kernel)⟩
theorem fl_Mo_29 : rr_FL R_Mo 29 6 18 := ⟨_, _, _, rfl, by decide, Or.inl (rr_inw 470 (by decide +kernel) (by decide +kernel))⟩
theorem fF_Mo_29 : ∃ (T : u_T) (N : Nat), rr_cl[6]? = some (R_Mo, T, N) ∧ 18 < N ∧ (T 18).1 = R_Mo ∧ (T 18).2.2.2 = true ∧ Cond.fieldLink R_Mo 29 (T 18).1 (T 18).2.1 (T 18).2.2.1 ∈ rr_ws := ⟨_, _, rfl, by decide, rfl, rfl, rr_inw 470 (by decide +kernel) (by decide +kernel)⟩
theorem fl_Mo_32 : rr_FL R_Mo 32 6 1 := ⟨_, _, _, rfl, by decide, Or.inl (rr_inw 453 (by decide +kernel) (by decide +kernel))⟩
theorem il_Mo_36 : rr_LS R_Mo 36 y_Mo_in 3 := ⟨Or.inl (rr_inw 521 (by decide +kernel) (by decide +kernel)), rr_inw 522 (by decide +kernel) (by decide +kernel), rr_inw 53 (by decide +kernel) (by decide +kernel), ⟨by decide +kernel, by decide +kernel, by decide +kernel⟩⟩
theorem fl_Mo_43 : rr_FL R_Mo 43 6 6 := ⟨_, _, _, rfl, by decide, Or.inl (rr_inw 458 (by decide +kernel) (by decide +kernel))⟩
theorem fl_Mo_40 : rr_FL R_Mo 40 6 5 := ⟨_, _, _, rfl, by decide, Or.inl (rr_inw 457 (by decide +kernel) (by decide +kernel))⟩
theorem fl_Mo_110 : rr_FL R_Mo 110 6 10 := ⟨_, _, _, rfl, by decide, Or.inl (rr_inw 462 (by decide +kernel) (by decide +kernel))⟩
theorem fl_Mo_123 : rr_FL R_Mo 123 6 11 := ⟨_, _, _, rfl, by decide, Or.inl (rr_inw 463 (by decide +kernel) (by decide +kernel))⟩
theorem fl_Mo_120 : rr_FL R_Mo 120 6 14 := ⟨_, _, _, rfl, by decide, Or.inl (rr_inw 466 (by decide +kernel) (by decide +kernel))⟩
theorem il_Mo_117 : rr_LV R_Mo 117 y_Mo_step 0 := ⟨Or.inl (rr_inw 528 (by decide +kernel) (by decide +kernel)), rr_inw 530 (by decide +kernel) (by decide +kernel), rr_inw 31 (by decide +kernel) (by decide +kernel), rr_inw 53 (by decide +kernel) (by decide +kernel), ⟨by decide +kernel, by decide +kernel, by decide +kernel⟩⟩
theorem il_Mo_126 : rr_LV R_Mo 126 y_Mo_rule 0 := ⟨Or.inl (rr_inw 556 (by decide +kernel) (by decide +kernel)), rr_inw 558 (by decide +kernel) (by decide +kernel), rr_inw 33 (by decide +kernel) (by decide +kernel), rr_inw 53 (by decide +kernel) (by decide +kernel), ⟨by decide +kernel, by decide +kernel, by decide +kernel⟩⟩
theorem sl_Mo_67 : (R_Mo, 67, "else", 2) ∈ rr_str := List.mem_of_getElem? (i := 9) rfl
theorem il_Mo_61 : rr_LV R_Mo 61 y_Mo_is 1 := ⟨Or.inl (rr_inw 536 (by decide +kernel) (by decide +kernel)), rr_inw 538 (by decide +kernel) (by decide +kernel), rr_inw 32 (by decide +kernel) (by decide +kernel), rr_inw 53 (by decide +kernel) (by decide +kernel), ⟨by decide +kernel, by decide +kernel, by decide +kernel⟩⟩
theorem fl_Mo_49 : rr_FL R_Mo 49 6 7 := ⟨_, _, _, rfl, by decide, Or.inl (rr_inw 459 (by decide +kernel) (by decide +kernel))⟩
theorem il_Mo_113 : rr_LV R_Mo 113 y_Mo_bad 0 := ⟨Or.inl (rr_inw 560 (by decide +kernel) (by decide +kernel)), rr_inw 562 (by decide +kernel) (by decide +kernel), rr_inw 34 (by decide +kernel) (by decide +kernel), rr_inw 53 (by decide +kernel) (by decide +kernel), ⟨by decide +kernel, by decide +kernel, by decide +kernel⟩⟩
theorem il_Mo_129 : rr_LS R_Mo 129 y_Ar_copyOf 2 := ⟨Or.inl (rr_inw 608 (by decide +kernel) (by decide +kernel)), rr_inw 609 (by decide +kernel) (by decide +kernel), rr_inw 59 (by decide +kernel) (by decide +kernel), ⟨by decide +kernel, by decide +kernel, by decide +kernel⟩⟩
theorem fl_Mo_135 : rr_FL R_Mo 135 6 2 := ⟨_, _, _, rfl, by decide, Or.inl (rr_inw 454 (by decide +kernel) (by decide +kernel))⟩
theorem fl_Mo_46 : rr_FL R_Mo 46 6 8 := ⟨_, _, _, rfl, by decide, Or.inl (rr_inw 460 (by decide +kernel) (by decide +kernel))⟩
theorem il_Mo_52 : rr_LS R_Mo 52 y_Mo_isLetter 1 := ⟨Or.inl (rr_inw 532 (by decide +kernel) (by decide +kernel)), rr_inw 533 (by decide +kernel) (by decide +kernel), rr_inw 53 (by decide +kernel) (by decide +kernel), ⟨by decide +kernel, by decide +kernel, by decide +kernel⟩⟩
theorem fl_Mo_56 : rr_FL R_Mo 56 6 9 := ⟨_, _, _, rfl, by decide, Or.inl (rr_inw 461 (by decide +kernel) (by decide +kernel))⟩
theorem sl_Mo_59 : (R_Mo, 59, "if", 0) ∈ rr_str := List.mem_of_getElem? (i := 7) rfl
theorem sl_Mo_65 : (R_Mo, 65, "then", 1) ∈ rr_str := List.mem_of_getElem? (i := 8) rfl
theorem sl_Mo_69 : (R_Mo, 69, "and", 3) ∈ rr_str := List.mem_of_getElem? (i := 10) rfl
theorem sl_Mo_71 : (R_Mo, 71, "server", 4) ∈ rr_str := List.mem_of_getElem? (i := 11) rfl
theorem sl_Mo_73 : (R_Mo, 73, "stamp", 5) ∈ rr_str := List.mem_of_getElem? (i := 12) rfl
theorem sl_Mo_75 : (R_Mo, 75, "c", 6) ∈ rr_str := List.mem_of_getElem? (i := 13) rfl
theorem il_Mo_77 : rr_LS R_Mo 77 y_Mo_isDigit 1 := ⟨Or.inl (rr_inw 548 (by decide +kernel) (by decide +kernel)), rr_inw 549 (by decide +kernel) (by decide +kernel), rr_inw 53 (by decide +kernel) (by decide +kernel), ⟨by decide +kernel, by decide +kernel, by decide +kernel⟩⟩
theorem fl_Mo_80 : rr_FL R_Mo 80 6 12 := ⟨_, _, _, rfl, by decide, Or.inl (rr_inw 464 (by decide +kernel) (by decide +kernel))⟩
theorem kl_Mo_84 : Cond.constantLong R_Mo 84 1099511627776 ∈ rr_ws := rr_inw 551 (by decide +kernel) (by decide +kernel)
theorem kl_Mo_86 : Cond.constantLong R_Mo 86 10 ∈ rr_ws := rr_inw 552 (by decide +kernel) (by decide +kernel)
theorem kl_Mo_88 : Cond.constantLong R_Mo 88 48 ∈ rr_ws := rr_inw 553 (by decide +kernel) (by decide +kernel)
theorem il_Mo_90 : rr_LS R_Mo 90 y_Mt_minJ 2 := ⟨Or.inl (rr_inw 554 (by decide +kernel) (by decide +kernel)), rr_inw 323 (by decide +kernel) (by decide +kernel), rr_inw 58 (by decide +kernel) (by decide +kernel), ⟨by decide +kernel, by decide +kernel, by decide +kernel⟩⟩
theorem kl_Mo_98 : Cond.constantLong R_Mo 98 2147483647 ∈ rr_ws := rr_inw 555 (by decide +kernel) (by decide +kernel)
theorem il_Mo_100 : rr_LV R_Mo 100 y_St_length 0 := ⟨Or.inl (rr_inw 540 (by decide +kernel) (by decide +kernel)), rr_inw 256 (by decide +kernel) (by decide +kernel), rr_inw 257 (by decide +kernel) (by decide +kernel), rr_inw 54 (by decide +kernel) (by decide +kernel), ⟨by decide +kernel, by decide +kernel, by decide +kernel⟩⟩
theorem il_Mo_106 : rr_LV R_Mo 106 y_St_charAt 1 := ⟨Or.inl (rr_inw 541 (by decide +kernel) (by decide +kernel)), rr_inw 266 (by decide +kernel) (by decide +kernel), rr_inw 267 (by decide +kernel) (by decide +kernel), rr_inw 54 (by decide +kernel) (by decide +kernel), ⟨by decide +kernel, by decide +kernel, by decide +kernel⟩⟩
theorem il_Mo_138 : rr_LV R_Mo 138 y_Mo_put 1 := ⟨Or.inl (rr_inw 564 (by decide +kernel) (by decide +kernel)), rr_inw 566 (by decide +kernel) (by decide +kernel), rr_inw 35 (by decide +kernel) (by decide +kernel), rr_inw 53 (by decide +kernel) (by decide +kernel), ⟨by decide +kernel, by decide +kernel, by decide +kernel⟩⟩
theorem il_Mo_142 : rr_LV R_Mo 142 y_Mo_compare 0 := ⟨Or.inl (rr_inw 568 (by decide +kernel) (by decide +kernel)), rr_inw 570 (by decide +kernel) (by decide +kernel), rr_inw 36 (by decide +kernel) (by decide +kernel), rr_inw 53 (by decide +kernel) (by decide +kernel), ⟨by decide +kernel, by decide +kernel, by decide +kernel⟩⟩
theorem il_Mo_145 : rr_LV R_Mo 145 y_Mo_take 1 := ⟨Or.inl (rr_inw 590 (by decide +kernel) (by decide +kernel)), rr_inw 592 (by decide +kernel) (by decide +kernel), rr_inw 41 (by decide +kernel) (by decide +kernel), rr_inw 53 (by decide +kernel) (by decide +kernel), ⟨by decide +kernel, by decide +kernel, by decide +kernel⟩⟩
theorem il_Mo_148 : rr_LV R_Mo 148 y_Mo_cellZ 0 := ⟨Or.inl (rr_inw 594 (by decide +kernel) (by decide +kernel)), rr_inw 596 (by decide +kernel) (by decide +kernel), rr_inw 42 (by decide +kernel) (by decide +kernel), rr_inw 53 (by decide +kernel) (by decide +kernel), ⟨by decide +kernel, by decide +kernel, by decide +kernel⟩⟩
theorem sl_Mo_151 : (R_Mo, 151, ":=", 16) ∈ rr_str := List.mem_of_getElem? (i := 23) rfl
theorem il_Mo_153 : rr_LV R_Mo 153 y_Mo_whole 0 := ⟨Or.inl (rr_inw 572 (by decide +kernel) (by decide +kernel)), rr_inw 574 (by decide +kernel) (by decide +kernel), rr_inw 37 (by decide +kernel) (by decide +kernel), rr_inw 53 (by decide +kernel) (by decide +kernel), ⟨by decide +kernel, by decide +kernel, by decide +kernel⟩⟩
theorem sl_Mo_156 : (R_Mo, 156, ",", 17) ∈ rr_str := List.mem_of_getElem? (i := 24) rfl
theorem sl_Mo_160 : (R_Mo, 160, "=", 12) ∈ rr_str := List.mem_of_getElem? (i := 19) rfl
theorem sl_Mo_162 : (R_Mo, 162, "#", 13) ∈ rr_str := List.mem_of_getElem? (i := 20) rfl
theorem sl_Mo_164 : (R_Mo, 164, "<", 14) ∈ rr_str := List.mem_of_getElem? (i := 21) rfl
theorem sl_Mo_166 : (R_Mo, 166, ">", 15) ∈ rr_str := List.mem_of_getElem? (i := 22) rfl
theorem il_Mo_168 : rr_LV R_Mo 168 y_Mo_sum 1 := ⟨Or.inl (rr_inw 576 (by decide +kernel) (by decide +kernel)), rr_inw 578 (by decide +kernel) (by decide +kernel), rr_inw 38 (by decide +kernel) (by decide +kernel), rr_inw 53 (by decide +kernel) (by decide +kernel), ⟨by decide +kernel, by decide +kernel, by decide +kernel⟩⟩
theorem il_Mo_171 : rr_LV R_Mo 171 y_Mo_term 1 := ⟨Or.inl (rr_inw 580 (by decide +kernel) (by decide +kernel)), rr_inw 582 (by decide +kernel) (by decide +kernel), rr_inw 39 (by decide +kernel) (by decide +kernel), rr_inw 53 (by decide +kernel) (by decide +kernel), ⟨by decide +kernel, by decide +kernel, by decide +kernel⟩⟩
theorem sl_Mo_174 : (R_Mo, 174, "+", 10) ∈ rr_str := List.mem_of_getElem? (i := 17) rfl
theorem sl_Mo_176 : (R_Mo, 176, "-", 11) ∈ rr_str := List.mem_of_getElem? (i := 18) rfl
theorem il_Mo_178 : rr_LV R_Mo 178 y_Mo_part 1 := ⟨Or.inl (rr_inw 584 (by decide +kernel) (by decide +kernel)), rr_inw 586 (by decide +kernel) (by decide +kernel), rr_inw 40 (by decide +kernel) (by decide +kernel), rr_inw 53 (by decide +kernel) (by decide +kernel), ⟨by decide +kernel, by decide +kernel, by decide +kernel⟩⟩
theorem sl_Mo_181 : (R_Mo, 181, "*", 9) ∈ rr_str := List.mem_of_getElem? (i := 16) rfl
theorem sl_Mo_183 : (R_Mo, 183, "(", 7) ∈ rr_str := List.mem_of_getElem? (i := 14) rfl
theorem sl_Mo_185 : (R_Mo, 185, ")", 8) ∈ rr_str := List.mem_of_getElem? (i := 15) rfl
theorem kl_Mo_158 : Cond.constantLong R_Mo 158 32 ∈ rr_ws := rr_inw 598 (by decide +kernel) (by decide +kernel)
theorem il_Ar_304 : rr_LS R_Ar 304 y_Mt_min 2 := ⟨Or.inl (rr_inw 618 (by decide +kernel) (by decide +kernel)), rr_inw 619 (by decide +kernel) (by decide +kernel), rr_inw 58 (by decide +kernel) (by decide +kernel), ⟨by decide +kernel, by decide +kernel, by decide +kernel⟩⟩
theorem sy_Ar_150 : Cond.methodLink R_Ar 150 arraycopyName ∈ rr_ws := rr_inw 621 (by decide +kernel) (by decide +kernel)
theorem fl_Mo_198 : rr_FL R_Mo 198 6 4 := ⟨_, _, _, rfl, by decide, Or.inl (rr_inw 456 (by decide +kernel) (by decide +kernel))⟩
theorem sy_Mo_201 : Cond.methodLink R_Mo 201 arraycopyName ∈ rr_ws := rr_inw 628 (by decide +kernel) (by decide +kernel)
theorem il_Mo_207 : rr_LV R_Mo 207 y_Mo_perform 2 := ⟨Or.inl (rr_inw 629 (by decide +kernel) (by decide +kernel)), rr_inw 631 (by decide +kernel) (by decide +kernel), rr_inw 43 (by decide +kernel) (by decide +kernel), rr_inw 53 (by decide +kernel) (by decide +kernel), ⟨by decide +kernel, by decide +kernel, by decide +kernel⟩⟩
theorem fl_Mo_187 : rr_FL R_Mo 187 6 19 := ⟨_, _, _, rfl, by decide, Or.inl (rr_inw 471 (by decide +kernel) (by decide +kernel))⟩
theorem il_Mo_194 : rr_LV R_Mo 194 y_Mo_holds 2 := ⟨Or.inl (rr_inw 633 (by decide +kernel) (by decide +kernel)), rr_inw 635 (by decide +kernel) (by decide +kernel), rr_inw 44 (by decide +kernel) (by decide +kernel), rr_inw 53 (by decide +kernel) (by decide +kernel), ⟨by decide +kernel, by decide +kernel, by decide +kernel⟩⟩
theorem il_Mo_190 : rr_LV R_Mo 190 y_Mo_value 2 := ⟨Or.inl (rr_inw 637 (by decide +kernel) (by decide +kernel)), rr_inw 639 (by decide +kernel) (by decide +kernel), rr_inw 45 (by decide +kernel) (by decide +kernel), rr_inw 53 (by decide +kernel) (by decide +kernel), ⟨by decide +kernel, by decide +kernel, by decide +kernel⟩⟩
theorem nl_La_7 : rr_NL R_La 7 5 [.null, .null, .null, .null] := ⟨_, _, rfl, rr_inw 61 (by decide +kernel) (by decide +kernel), rr_inw 62 (by decide +kernel) (by decide +kernel), rr_inw 47 (by decide +kernel) (by decide +kernel), by decide +kernel, by decide +kernel⟩
theorem il_La_9 : rr_LI R_La 9 y_Ru_init 0 := ⟨Or.inl (rr_inw 63 (by decide +kernel) (by decide +kernel)), rr_inw 64 (by decide +kernel) (by decide +kernel), rfl, rr_inw 47 (by decide +kernel) (by decide +kernel), ⟨by decide +kernel, by decide +kernel, by decide +kernel⟩⟩
theorem nl_La_10 : rr_NL R_La 10 6 [.null, .int 0, .null, .null, .int 0, .int 0, .int 0, .int 0, .int 0, .int 0, .int 0, .int 0, .long 0, .null, .int 0, .null, .null, .null, .null, .int 0] := ⟨_, _, rfl, rr_inw 446 (by decide +kernel) (by decide +kernel), rr_inw 447 (by decide +kernel) (by decide +kernel), rr_inw 53 (by decide +kernel) (by decide +kernel), by decide +kernel, by decide +kernel⟩
theorem il_La_12 : rr_LI R_La 12 y_Mo_init 0 := ⟨Or.inl (rr_inw 448 (by decide +kernel) (by decide +kernel)), rr_inw 449 (by decide +kernel) (by decide +kernel), rfl, rr_inw 53 (by decide +kernel) (by decide +kernel), ⟨by decide +kernel, by decide +kernel, by decide +kernel⟩⟩
theorem il_La_13 : rr_LV R_La 13 y_Ru_feed 5 := ⟨Or.inl (rr_inw 212 (by decide +kernel) (by decide +kernel)), rr_inw 213 (by decide +kernel) (by decide +kernel), rr_inw 214 (by decide +kernel) (by decide +kernel), rr_inw 47 (by decide +kernel) (by decide +kernel), ⟨by decide +kernel, by decide +kernel, by decide +kernel⟩⟩
theorem il_La_17 : rr_LV R_La 17 y_Mo_feed 5 := ⟨Or.inl (rr_inw 513 (by decide +kernel) (by decide +kernel)), rr_inw 514 (by decide +kernel) (by decide +kernel), rr_inw 515 (by decide +kernel) (by decide +kernel), rr_inw 53 (by decide +kernel) (by decide +kernel), ⟨by decide +kernel, by decide +kernel, by decide +kernel⟩⟩
theorem il_La_18 : rr_LV R_La 18 y_Ru_end 1 := ⟨Or.inl (rr_inw 220 (by decide +kernel) (by decide +kernel)), rr_inw 221 (by decide +kernel) (by decide +kernel), rr_inw 222 (by decide +kernel) (by decide +kernel), rr_inw 47 (by decide +kernel) (by decide +kernel), ⟨by decide +kernel, by decide +kernel, by decide +kernel⟩⟩
theorem il_La_22 : rr_LV R_La 22 y_Mo_end 1 := ⟨Or.inl (rr_inw 517 (by decide +kernel) (by decide +kernel)), rr_inw 518 (by decide +kernel) (by decide +kernel), rr_inw 519 (by decide +kernel) (by decide +kernel), rr_inw 53 (by decide +kernel) (by decide +kernel), ⟨by decide +kernel, by decide +kernel, by decide +kernel⟩⟩
theorem il_La_23 : rr_LV R_La 23 y_Ru_program 0 := ⟨Or.inl (rr_inw 224 (by decide +kernel) (by decide +kernel)), rr_inw 225 (by decide +kernel) (by decide +kernel), rr_inw 226 (by decide +kernel) (by decide +kernel), rr_inw 47 (by decide +kernel) (by decide +kernel), ⟨by decide +kernel, by decide +kernel, by decide +kernel⟩⟩
theorem il_La_27 : rr_LV R_La 27 y_Mo_program 0 := ⟨Or.inl (rr_inw 524 (by decide +kernel) (by decide +kernel)), rr_inw 525 (by decide +kernel) (by decide +kernel), rr_inw 526 (by decide +kernel) (by decide +kernel), rr_inw 53 (by decide +kernel) (by decide +kernel), ⟨by decide +kernel, by decide +kernel, by decide +kernel⟩⟩
theorem il_La_28 : rr_LV R_La 28 y_Ru_run 2 := ⟨Or.inl (rr_inw 381 (by decide +kernel) (by decide +kernel)), rr_inw 382 (by decide +kernel) (by decide +kernel), rr_inw 383 (by decide +kernel) (by decide +kernel), rr_inw 47 (by decide +kernel) (by decide +kernel), ⟨by decide +kernel, by decide +kernel, by decide +kernel⟩⟩
theorem il_La_32 : rr_LV R_La 32 y_Mo_run 2 := ⟨Or.inl (rr_inw 624 (by decide +kernel) (by decide +kernel)), rr_inw 625 (by decide +kernel) (by decide +kernel), rr_inw 626 (by decide +kernel) (by decide +kernel), rr_inw 53 (by decide +kernel) (by decide +kernel), ⟨by decide +kernel, by decide +kernel, by decide +kernel⟩⟩
theorem il_La_33 : rr_LV R_La 33 y_Ru_undo 0 := ⟨Or.inl (rr_inw 424 (by decide +kernel) (by decide +kernel)), rr_inw 425 (by decide +kernel) (by decide +kernel), rr_inw 426 (by decide +kernel) (by decide +kernel), rr_inw 47 (by decide +kernel) (by decide +kernel), ⟨by decide +kernel, by decide +kernel, by decide +kernel⟩⟩
theorem il_La_36 : rr_LV R_La 36 y_Mo_undo 0 := ⟨Or.inl (rr_inw 641 (by decide +kernel) (by decide +kernel)), rr_inw 642 (by decide +kernel) (by decide +kernel), rr_inw 643 (by decide +kernel) (by decide +kernel), rr_inw 53 (by decide +kernel) (by decide +kernel), ⟨by decide +kernel, by decide +kernel, by decide +kernel⟩⟩
theorem il_La_37 : rr_LV R_La 37 y_Ru_cell 1 := ⟨Or.inl (rr_inw 432 (by decide +kernel) (by decide +kernel)), rr_inw 433 (by decide +kernel) (by decide +kernel), rr_inw 434 (by decide +kernel) (by decide +kernel), rr_inw 47 (by decide +kernel) (by decide +kernel), ⟨by decide +kernel, by decide +kernel, by decide +kernel⟩⟩
theorem il_La_41 : rr_LV R_La 41 y_Mo_cell 1 := ⟨Or.inl (rr_inw 645 (by decide +kernel) (by decide +kernel)), rr_inw 646 (by decide +kernel) (by decide +kernel), rr_inw 647 (by decide +kernel) (by decide +kernel), rr_inw 53 (by decide +kernel) (by decide +kernel), ⟨by decide +kernel, by decide +kernel, by decide +kernel⟩⟩
theorem il_La_42 : rr_LV R_La 42 y_Ru_set 2 := ⟨Or.inl (rr_inw 438 (by decide +kernel) (by decide +kernel)), rr_inw 439 (by decide +kernel) (by decide +kernel), rr_inw 440 (by decide +kernel) (by decide +kernel), rr_inw 47 (by decide +kernel) (by decide +kernel), ⟨by decide +kernel, by decide +kernel, by decide +kernel⟩⟩
theorem il_La_45 : rr_LV R_La 45 y_Mo_set 2 := ⟨Or.inl (rr_inw 649 (by decide +kernel) (by decide +kernel)), rr_inw 650 (by decide +kernel) (by decide +kernel), rr_inw 651 (by decide +kernel) (by decide +kernel), rr_inw 53 (by decide +kernel) (by decide +kernel), ⟨by decide +kernel, by decide +kernel, by decide +kernel⟩⟩
theorem il_La_46 : rr_LV R_La 46 y_Ru_count 1 := ⟨Or.inl (rr_inw 442 (by decide +kernel) (by decide +kernel)), rr_inw 443 (by decide +kernel) (by decide +kernel), rr_inw 444 (by decide +kernel) (by decide +kernel), rr_inw 47 (by decide +kernel) (by decide +kernel), ⟨by decide +kernel, by decide +kernel, by decide +kernel⟩⟩
theorem il_La_49 : rr_LV R_La 49 y_Mo_count 1 := ⟨Or.inl (rr_inw 653 (by decide +kernel) (by decide +kernel)), rr_inw 654 (by decide +kernel) (by decide +kernel), rr_inw 655 (by decide +kernel) (by decide +kernel), rr_inw 53 (by decide +kernel) (by decide +kernel), ⟨by decide +kernel, by decide +kernel, by decide +kernel⟩⟩
theorem rr_wSy : Cond.native arraycopyName ∈ rr_ws ∧ Cond.static arraycopyName ∈ rr_ws ∧ Cond.initialized "java/lang/System" ∈ rr_ws := ⟨rr_inw 623 (by decide +kernel) (by decide +kernel), rr_inw 622 (by decide +kernel) (by decide +kernel), rr_inw 60 (by decide +kernel) (by decide +kernel)⟩
