/-! ===== the words by their places; the methods; a row for each field ===== -/
theorem aT_all {ws : List Cond} (ps : List Nat) (hp : ws = ps.filterMap (fun i => lw_tbl[i]?)) (g : ws.all goodWord = true) : ∀ w ∈ ws, w ∈ aT := by
  intro w hw
  have h1 := List.all_eq_true.mp g w hw
  rw [hp] at hw
  obtain ⟨i, -, hi⟩ := List.mem_filterMap.mp hw
  exact aT_of (List.mem_of_getElem? hi) h1
theorem inX0 : ∀ w ∈ u_ws RX0 TX0 7, w ∈ aT := aT_all [293, 295, 297, 299, 301, 303, 305] (by decide +kernel) (by decide +kernel)
theorem inX1 : ∀ w ∈ u_ws RX1 TX1 6, w ∈ aT := aT_all [318, 320, 322, 324, 326, 328] (by decide +kernel) (by decide +kernel)
theorem inX2 : ∀ w ∈ u_ws RX2 TX2 2, w ∈ aT := aT_all [351, 353] (by decide +kernel) (by decide +kernel)
theorem inX3 : ∀ w ∈ u_ws RX3 TX3 3, w ∈ aT := aT_all [194, 196, 198] (by decide +kernel) (by decide +kernel)
theorem inX4 : ∀ w ∈ u_ws RX4 TX4 5, w ∈ aT := aT_all [221, 223, 225, 227, 229] (by decide +kernel) (by decide +kernel)
theorem inX5 : ∀ w ∈ u_ws RX5 TX5 1, w ∈ aT := aT_all [338] (by decide +kernel) (by decide +kernel)
theorem inX6 : ∀ w ∈ u_ws RX6 TX6 2, w ∈ aT := aT_all [136, 138] (by decide +kernel) (by decide +kernel)
theorem inX7 : ∀ w ∈ u_ws RX7 TX7 9, w ∈ aT := aT_all [243, 245, 247, 249, 251, 253, 255, 257, 259] (by decide +kernel) (by decide +kernel)
theorem inX8 : ∀ w ∈ u_ws RX8 TX8 5, w ∈ aT := aT_all [373, 375, 377, 379, 381] (by decide +kernel) (by decide +kernel)
theorem inX9 : ∀ w ∈ u_ws RX9 TX9 2, w ∈ aT := aT_all [123, 125] (by decide +kernel) (by decide +kernel)
theorem inX10 : ∀ w ∈ u_ws RX10 TX10 5, w ∈ aT := aT_all [163, 165, 167, 169, 171] (by decide +kernel) (by decide +kernel)
theorem inX11 : ∀ w ∈ u_ws RX11 TX11 8, w ∈ aT := aT_all [392, 394, 396, 398, 400, 402, 404, 406] (by decide +kernel) (by decide +kernel)
abbrev mX9_init : aMt := (yX9_init, cX9_init, 2, none)
abbrev mX0_init : aMt := (yX0_init, cX0_init, 1, none)
abbrev mX6_atEnd : aMt := (yX6_atEnd, cX6_atEnd, 1, (some .boolean))
abbrev mX9_signAt : aMt := (yX9_signAt, cX9_signAt, 2, (some .char))
abbrev mX6_here : aMt := (yX6_here, cX6_here, 1, (some .char))
abbrev mX9_add : aMt := (yX9_add, cX9_add, 2, none)
abbrev mX6_takeWord : aMt := (yX6_takeWord, cX6_takeWord, 3, (some .boolean))
abbrev mX6_takeIf : aMt := (yX6_takeIf, cX6_takeIf, 2, (some .boolean))
abbrev mX6_take : aMt := (yX6_take, cX6_take, 2, (some .boolean))
abbrev mX11_isDigit : aMt := (yX11_isDigit, cX11_isDigit, 2, (some .boolean))
abbrev mX6_takeNumber : aMt := (yX6_takeNumber, cX6_takeNumber, 5, (some .int))
abbrev mX0_readNumbers : aMt := (yX0_readNumbers, cX0_readNumbers, 2, (some .boolean))
abbrev mX9_becomeCleaned : aMt := (yX9_becomeCleaned, cX9_becomeCleaned, 4, none)
abbrev mX0_read : aMt := (yX0_read, cX0_read, 3, (some .boolean))
abbrev mX1_init : aMt := (yX1_init, cX1_init, 2, none)
abbrev mX1_readAddress : aMt := (yX1_readAddress, cX1_readAddress, 5, (some .boolean))
abbrev mX1_hasMatch : aMt := (yX1_hasMatch, cX1_hasMatch, 2, (some .boolean))
abbrev mX1_areMatched : aMt := (yX1_areMatched, cX1_areMatched, 3, (some .boolean))
abbrev mX1_turnMatch : aMt := (yX1_turnMatch, cX1_turnMatch, 3, none)
abbrev mX1_matchesOf : aMt := (yX1_matchesOf, cX1_matchesOf, 4, (some .int))
abbrev mX1_groupOf : aMt := (yX1_groupOf, cX1_groupOf, 5, (some .int))
abbrev mX1_wasPosted : aMt := (yX1_wasPosted, cX1_wasPosted, 4, (some .boolean))
abbrev mX1_listDue : aMt := (yX1_listDue, cX1_listDue, 6, (some .int))
abbrev mX1_dueAt : aMt := (yX1_dueAt, cX1_dueAt, 2, (some .int))
abbrev mX1_notePosted : aMt := (yX1_notePosted, cX1_notePosted, 4, none)
abbrev mX2_init : aMt := (yX2_init, cX2_init, 1, none)
abbrev mX2_weightOf : aMt := (yX2_weightOf, cX2_weightOf, 3, (some .int))
abbrev mX2_costOf : aMt := (yX2_costOf, cX2_costOf, 7, (some .int))
abbrev mX3_init : aMt := (yX3_init, cX3_init, 2, none)
abbrev mX9_addAll : aMt := (yX9_addAll, cX9_addAll, 3, none)
abbrev mX3_addMember : aMt := (yX3_addMember, cX3_addMember, 2, none)
abbrev mX9_addNumber : aMt := (yX9_addNumber, cX9_addNumber, 3, none)
abbrev mX3_gather : aMt := (yX3_gather, cX3_gather, 4, none)
abbrev mX4_init : aMt := (yX4_init, cX4_init, 1, none)
abbrev mX9_become : aMt := (yX9_become, cX9_become, 2, none)
abbrev mX4_become : aMt := (yX4_become, cX4_become, 2, none)
abbrev mX5_init : aMt := (yX5_init, cX5_init, 1, none)
abbrev mX5_readSign : aMt := (yX5_readSign, cX5_readSign, 7, none)
abbrev mX5_distance : aMt := (yX5_distance, cX5_distance, 5, (some .int))
abbrev mX5_wordLikeness : aMt := (yX5_wordLikeness, cX5_wordLikeness, 4, (some .float))
abbrev mX5_likenessOf : aMt := (yX5_likenessOf, cX5_likenessOf, 6, (some .float))
abbrev mX6_init : aMt := (yX6_init, cX6_init, 1, none)
abbrev mX6_clear : aMt := (yX6_clear, cX6_clear, 1, none)
abbrev mX6_takeDigit : aMt := (yX6_takeDigit, cX6_takeDigit, 2, (some .boolean))
abbrev mJ0_isLatin1_aae02 : aMt := (yJ0_isLatin1_aae02, cJ0_isLatin1_aae02, 1, (some .boolean))
abbrev mJ0_coder_7d493 : aMt := (yJ0_coder_7d493, cJ0_coder_7d493, 1, (some .byte))
abbrev mJ0_length_8abf5 : aMt := (yJ0_length_8abf5, cJ0_length_8abf5, 1, (some .int))
abbrev mJ1_canEncode_9a6ad : aMt := (yJ1_canEncode_9a6ad, cJ1_canEncode_9a6ad, 1, (some .boolean))
abbrev mJ1_indexOfChar_4cfef : aMt := (yJ1_indexOfChar_4cfef, cJ1_indexOfChar_4cfef, 6, (some .int))
abbrev mJ1_indexOf_4cfef : aMt := (yJ1_indexOf_4cfef, cJ1_indexOf_4cfef, 4, (some .int))
abbrev mJ2_length_9d52b : aMt := (yJ2_length_9d52b, cJ2_length_9d52b, 1, (some .int))
abbrev mJ3_checkFromToIndex_8c36e : aMt := (yJ3_checkFromToIndex_8c36e, cJ3_checkFromToIndex_8c36e, 4, (some .int))
abbrev mJ0_checkBoundsBeginEnd_23922 : aMt := (yJ0_checkBoundsBeginEnd_23922, cJ0_checkBoundsBeginEnd_23922, 3, none)
abbrev mJ2_checkBoundsBeginEnd_d044e : aMt := (yJ2_checkBoundsBeginEnd_d044e, cJ2_checkBoundsBeginEnd_d044e, 3, none)
abbrev mJ2_getChar_3b067 : aMt := (yJ2_getChar_3b067, cJ2_getChar_3b067, 2, (some .char))
abbrev mJ2_indexOfCharUnsafe_4cfef : aMt := (yJ2_indexOfCharUnsafe_4cfef, cJ2_indexOfCharUnsafe_4cfef, 5, (some .int))
abbrev mJ2_indexOfChar_4cfef : aMt := (yJ2_indexOfChar_4cfef, cJ2_indexOfChar_4cfef, 4, (some .int))
abbrev mJ11_isValidCodePoint_9a6ad : aMt := (yJ11_isValidCodePoint_9a6ad, cJ11_isValidCodePoint_9a6ad, 2, (some .boolean))
abbrev mJ11_highSurrogate_5068e : aMt := (yJ11_highSurrogate_5068e, cJ11_highSurrogate_5068e, 1, (some .char))
abbrev mJ11_lowSurrogate_5068e : aMt := (yJ11_lowSurrogate_5068e, cJ11_lowSurrogate_5068e, 1, (some .char))
abbrev mJ2_indexOfSupplementary_4cfef : aMt := (yJ2_indexOfSupplementary_4cfef, cJ2_indexOfSupplementary_4cfef, 7, (some .int))
abbrev mJ2_indexOf_4cfef : aMt := (yJ2_indexOf_4cfef, cJ2_indexOf_4cfef, 4, (some .int))
abbrev mJ0_indexOf_7cf53 : aMt := (yJ0_indexOf_7cf53, cJ0_indexOf_7cf53, 3, (some .int))
abbrev mJ0_indexOf_0f7a4 : aMt := (yJ0_indexOf_0f7a4, cJ0_indexOf_0f7a4, 2, (some .int))
abbrev mX6_takeField : aMt := (yX6_takeField, cX6_takeField, 1, (some .boolean))
abbrev mX6_takeRelation : aMt := (yX6_takeRelation, cX6_takeRelation, 1, (some .boolean))
abbrev mX10_init : aMt := (yX10_init, cX10_init, 1, none)
abbrev mX7_init : aMt := (yX7_init, cX7_init, 2, none)
abbrev mX10_openChoice : aMt := (yX10_openChoice, cX10_openChoice, 2, (some .boolean))
abbrev mX10_jumpFromMark : aMt := (yX10_jumpFromMark, cX10_jumpFromMark, 4, (some .boolean))
abbrev mX10_turnChoice : aMt := (yX10_turnChoice, cX10_turnChoice, 2, (some .boolean))
abbrev mX10_closeChoice : aMt := (yX10_closeChoice, cX10_closeChoice, 2, (some .boolean))
abbrev mX10_readPart : aMt := (yX10_readPart, cX10_readPart, 3, (some .boolean))
abbrev mX10_read : aMt := (yX10_read, cX10_read, 3, (some .boolean))
abbrev mX7_readTemplate : aMt := (yX7_readTemplate, cX7_readTemplate, 5, (some .boolean))
abbrev mX7_templateAt : aMt := (yX7_templateAt, cX7_templateAt, 2, (some .int))
abbrev mX7_placeAt : aMt := (yX7_placeAt, cX7_placeAt, 2, (some .int))
abbrev mX7_isTold : aMt := (yX7_isTold, cX7_isTold, 2, (some .boolean))
abbrev mX7_open : aMt := (yX7_open, cX7_open, 2, none)
abbrev mX7_blameWhole : aMt := (yX7_blameWhole, cX7_blameWhole, 3, none)
abbrev mX7_silentBit : aMt := (yX7_silentBit, cX7_silentBit, 2, (some .long))
abbrev mX7_close : aMt := (yX7_close, cX7_close, 2, none)
abbrev mX7_enter : aMt := (yX7_enter, cX7_enter, 3, none)
abbrev mX9_room : aMt := (yX9_room, cX9_room, 1, (some .int))
abbrev mX7_writeField : aMt := (yX7_writeField, cX7_writeField, 4, none)
abbrev mX7_holds : aMt := (yX7_holds, cX7_holds, 3, (some .boolean))
abbrev mX10_jumpAt : aMt := (yX10_jumpAt, cX10_jumpAt, 2, (some .int))
abbrev mX7_choose : aMt := (yX7_choose, cX7_choose, 9, none)
abbrev mX7_writeSign : aMt := (yX7_writeSign, cX7_writeSign, 3, none)
abbrev mX7_writePart : aMt := (yX7_writePart, cX7_writePart, 5, none)
abbrev mX7_write : aMt := (yX7_write, cX7_write, 3, none)
abbrev mX8_init : aMt := (yX8_init, cX8_init, 2, none)
abbrev mX8_keep : aMt := (yX8_keep, cX8_keep, 2, none)
abbrev mX9_unlikeSigns : aMt := (yX9_unlikeSigns, cX9_unlikeSigns, 4, (some .int))
abbrev mX11_init : aMt := (yX11_init, cX11_init, 2, none)
abbrev mX11_signOf : aMt := (yX11_signOf, cX11_signOf, 3, (some .char))
abbrev mX11_countSigns : aMt := (yX11_countSigns, cX11_countSigns, 5, (some .int))
abbrev mX11_type : aMt := (yX11_type, cX11_type, 5, (some .int))
abbrev mX11_checkTemplate : aMt := (yX11_checkTemplate, cX11_checkTemplate, 2, none)
abbrev mX11_template : aMt := (yX11_template, cX11_template, 4, (some .int))
abbrev mX11_address : aMt := (yX11_address, cX11_address, 4, (some .int))
abbrev mX11_addresses : aMt := (yX11_addresses, cX11_addresses, 1, (some .int))
abbrev mX11_checkAddress : aMt := (yX11_checkAddress, cX11_checkAddress, 2, none)
abbrev mX11_canBeMatched : aMt := (yX11_canBeMatched, cX11_canBeMatched, 3, (some .boolean))
abbrev mX11_match : aMt := (yX11_match, cX11_match, 4, (some .boolean))
abbrev mX11_group : aMt := (yX11_group, cX11_group, 2, (some .int))
abbrev mX11_franking : aMt := (yX11_franking, cX11_franking, 3, (some .int))
abbrev mX11_run : aMt := (yX11_run, cX11_run, 3, (some .int))
abbrev mX11_checkRun : aMt := (yX11_checkRun, cX11_checkRun, 2, none)
abbrev mX11_countLetters : aMt := (yX11_countLetters, cX11_countLetters, 2, (some .int))
abbrev mX11_letters : aMt := (yX11_letters, cX11_letters, 2, (some .int))
abbrev mX11_checkLetter : aMt := (yX11_checkLetter, cX11_checkLetter, 3, none)
abbrev mX11_compose : aMt := (yX11_compose, cX11_compose, 4, (some (.object "MergePost$Letter")))
abbrev mX11_findLetter : aMt := (yX11_findLetter, cX11_findLetter, 3, (some (.object "MergePost$Letter")))
abbrev mX11_letter : aMt := (yX11_letter, cX11_letter, 5, (some .int))
abbrev mX11_sign : aMt := (yX11_sign, cX11_sign, 5, (some .char))
abbrev mX11_anew : aMt := (yX11_anew, cX11_anew, 5, (some .int))
abbrev mX11_trouble : aMt := (yX11_trouble, cX11_trouble, 5, (some .int))
abbrev mX11_pay : aMt := (yX11_pay, cX11_pay, 2, none)
abbrev mX11_post : aMt := (yX11_post, cX11_post, 6, (some .int))
abbrev mX11_spent : aMt := (yX11_spent, cX11_spent, 1, (some .int))
abbrev mX11_reasons : aMt := (yX11_reasons, cX11_reasons, 2, (some .int))
abbrev mJ9_max_7cf53 : aMt := (yJ9_max_7cf53, cJ9_max_7cf53, 2, (some .int))
abbrev mJ9_min_7cf53 : aMt := (yJ9_min_7cf53, cJ9_min_7cf53, 2, (some .int))
abbrev mL_cell : aMt := (yL_cell, cL_cell, 2, (some .int))
abbrev mL_low : aMt := (yL_low, cL_low, 2, (some .int))
abbrev mL_types : aMt := (yL_types, cL_types, 7, none)
abbrev mL_adds : aMt := (yL_adds, cL_adds, 10, (some .boolean))
abbrev mL_groups : aMt := (yL_groups, cL_groups, 6, none)
abbrev mL_says : aMt := (yL_says, cL_says, 5, (some .boolean))
abbrev mL_tells : aMt := (yL_tells, cL_tells, 6, (some .boolean))
abbrev mL_first : aMt := (yL_first, cL_first, 2, (some .int))
abbrev mL_many : aMt := (yL_many, cL_many, 3, (some .int))
abbrev mL_points : aMt := (yL_points, cL_points, 4, (some .int))
abbrev mL_all : aMt := (yL_all, cL_all, 9, (some .boolean))
abbrev mL_some : aMt := (yL_some, cL_some, 7, (some .boolean))
abbrev mL_text : aMt := (yL_text, cL_text, 8, (some .boolean))
abbrev mL_cost : aMt := (yL_cost, cL_cost, 6, (some .int))
abbrev mL_spread : aMt := (yL_spread, cL_spread, 8, none)
abbrev mL_letters : aMt := (yL_letters, cL_letters, 14, (some .boolean))
abbrev mL_templates : aMt := (yL_templates, cL_templates, 2, (some .boolean))
theorem wi_J0 : Cond.initialized RJ0 ∈ aT := aT_of (List.mem_of_getElem? (i := 89) (by decide +kernel)) (by decide +kernel)
theorem wi_J1 : Cond.initialized RJ1 ∈ aT := aT_of (List.mem_of_getElem? (i := 90) (by decide +kernel)) (by decide +kernel)
theorem wi_J10 : Cond.initialized RJ10 ∈ aT := aT_of (List.mem_of_getElem? (i := 95) (by decide +kernel)) (by decide +kernel)
theorem wi_J11 : Cond.initialized RJ11 ∈ aT := aT_of (List.mem_of_getElem? (i := 94) (by decide +kernel)) (by decide +kernel)
theorem wi_J2 : Cond.initialized RJ2 ∈ aT := aT_of (List.mem_of_getElem? (i := 92) (by decide +kernel)) (by decide +kernel)
theorem wi_J3 : Cond.initialized RJ3 ∈ aT := aT_of (List.mem_of_getElem? (i := 93) (by decide +kernel)) (by decide +kernel)
theorem wi_J9 : Cond.initialized RJ9 ∈ aT := aT_of (List.mem_of_getElem? (i := 91) (by decide +kernel)) (by decide +kernel)
theorem wi_L : Cond.initialized RL ∈ aT := aT_of (List.mem_of_getElem? (i := 70) (by decide +kernel)) (by decide +kernel)
theorem wi_X0 : Cond.initialized RX0 ∈ aT := aT_of (List.mem_of_getElem? (i := 79) (by decide +kernel)) (by decide +kernel)
theorem wi_X1 : Cond.initialized RX1 ∈ aT := aT_of (List.mem_of_getElem? (i := 78) (by decide +kernel)) (by decide +kernel)
theorem wi_X10 : Cond.initialized RX10 ∈ aT := aT_of (List.mem_of_getElem? (i := 75) (by decide +kernel)) (by decide +kernel)
theorem wi_X11 : Cond.initialized RX11 ∈ aT := aT_of (List.mem_of_getElem? (i := 71) (by decide +kernel)) (by decide +kernel)
theorem wi_X2 : Cond.initialized RX2 ∈ aT := aT_of (List.mem_of_getElem? (i := 81) (by decide +kernel)) (by decide +kernel)
theorem wi_X3 : Cond.initialized RX3 ∈ aT := aT_of (List.mem_of_getElem? (i := 76) (by decide +kernel)) (by decide +kernel)
theorem wi_X4 : Cond.initialized RX4 ∈ aT := aT_of (List.mem_of_getElem? (i := 77) (by decide +kernel)) (by decide +kernel)
theorem wi_X5 : Cond.initialized RX5 ∈ aT := aT_of (List.mem_of_getElem? (i := 80) (by decide +kernel)) (by decide +kernel)
theorem wi_X6 : Cond.initialized RX6 ∈ aT := aT_of (List.mem_of_getElem? (i := 72) (by decide +kernel)) (by decide +kernel)
theorem wi_X7 : Cond.initialized RX7 ∈ aT := aT_of (List.mem_of_getElem? (i := 74) (by decide +kernel)) (by decide +kernel)
theorem wi_X8 : Cond.initialized RX8 ∈ aT := aT_of (List.mem_of_getElem? (i := 82) (by decide +kernel)) (by decide +kernel)
theorem wi_X9 : Cond.initialized RX9 ∈ aT := aT_of (List.mem_of_getElem? (i := 73) (by decide +kernel)) (by decide +kernel)
theorem koX9_init : aOK mX9_init 1 := ⟨by decide +kernel, by decide +kernel, by decide +kernel, wi_X9, aT_of (List.mem_of_getElem? (i := 114) (by decide +kernel)) (by decide +kernel)⟩
theorem okX9_init : aOKc mX9_init 1 := ⟨koX9_init, rfl, rfl, aT_of (List.mem_of_getElem? (i := 113) (by decide +kernel)) (by decide +kernel)⟩
theorem koX0_init : aOK mX0_init 0 := ⟨by decide +kernel, by decide +kernel, by decide +kernel, wi_X0, aT_of (List.mem_of_getElem? (i := 273) (by decide +kernel)) (by decide +kernel)⟩
theorem okX0_init : aOKc mX0_init 0 := ⟨koX0_init, rfl, rfl, aT_of (List.mem_of_getElem? (i := 272) (by decide +kernel)) (by decide +kernel)⟩
theorem koX6_atEnd : aOK mX6_atEnd 0 := ⟨by decide +kernel, by decide +kernel, by decide +kernel, wi_X6, aT_of (List.mem_of_getElem? (i := 665) (by decide +kernel)) (by decide +kernel)⟩
theorem okX6_atEnd : aOKi mX6_atEnd 0 := ⟨koX6_atEnd, aT_of (List.mem_of_getElem? (i := 664) (by decide +kernel)) (by decide +kernel), aT_of (List.mem_of_getElem? (i := 20) (by decide +kernel)) (by decide +kernel)⟩
theorem koX9_signAt : aOK mX9_signAt 1 := ⟨by decide +kernel, by decide +kernel, by decide +kernel, wi_X9, aT_of (List.mem_of_getElem? (i := 601) (by decide +kernel)) (by decide +kernel)⟩
theorem okX9_signAt : aOKi mX9_signAt 1 := ⟨koX9_signAt, aT_of (List.mem_of_getElem? (i := 600) (by decide +kernel)) (by decide +kernel), aT_of (List.mem_of_getElem? (i := 13) (by decide +kernel)) (by decide +kernel)⟩
theorem koX6_here : aOK mX6_here 0 := ⟨by decide +kernel, by decide +kernel, by decide +kernel, wi_X6, aT_of (List.mem_of_getElem? (i := 669) (by decide +kernel)) (by decide +kernel)⟩
theorem okX6_here : aOKi mX6_here 0 := ⟨koX6_here, aT_of (List.mem_of_getElem? (i := 668) (by decide +kernel)) (by decide +kernel), aT_of (List.mem_of_getElem? (i := 21) (by decide +kernel)) (by decide +kernel)⟩
theorem koX9_add : aOK mX9_add 1 := ⟨by decide +kernel, by decide +kernel, by decide +kernel, wi_X9, aT_of (List.mem_of_getElem? (i := 187) (by decide +kernel)) (by decide +kernel)⟩
theorem okX9_add : aOKi mX9_add 1 := ⟨koX9_add, aT_of (List.mem_of_getElem? (i := 186) (by decide +kernel)) (by decide +kernel), aT_of (List.mem_of_getElem? (i := 0) (by decide +kernel)) (by decide +kernel)⟩
theorem koX6_takeWord : aOK mX6_takeWord 1 := ⟨by decide +kernel, by decide +kernel, by decide +kernel, wi_X6, aT_of (List.mem_of_getElem? (i := 661) (by decide +kernel)) (by decide +kernel)⟩
theorem okX6_takeWord : aOKi mX6_takeWord 1 := ⟨koX6_takeWord, aT_of (List.mem_of_getElem? (i := 660) (by decide +kernel)) (by decide +kernel), aT_of (List.mem_of_getElem? (i := 19) (by decide +kernel)) (by decide +kernel)⟩
theorem koX6_takeIf : aOK mX6_takeIf 1 := ⟨by decide +kernel, by decide +kernel, by decide +kernel, wi_X6, aT_of (List.mem_of_getElem? (i := 679) (by decide +kernel)) (by decide +kernel)⟩
theorem okX6_takeIf : aOKi mX6_takeIf 1 := ⟨koX6_takeIf, aT_of (List.mem_of_getElem? (i := 678) (by decide +kernel)) (by decide +kernel), aT_of (List.mem_of_getElem? (i := 23) (by decide +kernel)) (by decide +kernel)⟩
theorem koX6_take : aOK mX6_take 1 := ⟨by decide +kernel, by decide +kernel, by decide +kernel, wi_X6, aT_of (List.mem_of_getElem? (i := 675) (by decide +kernel)) (by decide +kernel)⟩
theorem okX6_take : aOKi mX6_take 1 := ⟨koX6_take, aT_of (List.mem_of_getElem? (i := 674) (by decide +kernel)) (by decide +kernel), aT_of (List.mem_of_getElem? (i := 22) (by decide +kernel)) (by decide +kernel)⟩
theorem koX11_isDigit : aOK mX11_isDigit 2 := ⟨by decide +kernel, by decide +kernel, by decide +kernel, wi_X11, aT_of (List.mem_of_getElem? (i := 690) (by decide +kernel)) (by decide +kernel)⟩
theorem okX11_isDigit : aOKs mX11_isDigit 2 := ⟨koX11_isDigit, aT_of (List.mem_of_getElem? (i := 689) (by decide +kernel)) (by decide +kernel)⟩
theorem koX6_takeNumber : aOK mX6_takeNumber 2 := ⟨by decide +kernel, by decide +kernel, by decide +kernel, wi_X6, aT_of (List.mem_of_getElem? (i := 687) (by decide +kernel)) (by decide +kernel)⟩
theorem okX6_takeNumber : aOKi mX6_takeNumber 2 := ⟨koX6_takeNumber, aT_of (List.mem_of_getElem? (i := 686) (by decide +kernel)) (by decide +kernel), aT_of (List.mem_of_getElem? (i := 25) (by decide +kernel)) (by decide +kernel)⟩
theorem koX0_readNumbers : aOK mX0_readNumbers 1 := ⟨by decide +kernel, by decide +kernel, by decide +kernel, wi_X0, aT_of (List.mem_of_getElem? (i := 683) (by decide +kernel)) (by decide +kernel)⟩
theorem okX0_readNumbers : aOKi mX0_readNumbers 1 := ⟨koX0_readNumbers, aT_of (List.mem_of_getElem? (i := 682) (by decide +kernel)) (by decide +kernel), aT_of (List.mem_of_getElem? (i := 24) (by decide +kernel)) (by decide +kernel)⟩
theorem koX9_becomeCleaned : aOK mX9_becomeCleaned 1 := ⟨by decide +kernel, by decide +kernel, by decide +kernel, wi_X9, aT_of (List.mem_of_getElem? (i := 695) (by decide +kernel)) (by decide +kernel)⟩
theorem okX9_becomeCleaned : aOKi mX9_becomeCleaned 1 := ⟨koX9_becomeCleaned, aT_of (List.mem_of_getElem? (i := 694) (by decide +kernel)) (by decide +kernel), aT_of (List.mem_of_getElem? (i := 26) (by decide +kernel)) (by decide +kernel)⟩
theorem koX0_read : aOK mX0_read 1 := ⟨by decide +kernel, by decide +kernel, by decide +kernel, wi_X0, aT_of (List.mem_of_getElem? (i := 657) (by decide +kernel)) (by decide +kernel)⟩
theorem okX0_read : aOKi mX0_read 1 := ⟨koX0_read, aT_of (List.mem_of_getElem? (i := 656) (by decide +kernel)) (by decide +kernel), aT_of (List.mem_of_getElem? (i := 18) (by decide +kernel)) (by decide +kernel)⟩
theorem koX1_init : aOK mX1_init 0 := ⟨by decide +kernel, by decide +kernel, by decide +kernel, wi_X1, aT_of (List.mem_of_getElem? (i := 266) (by decide +kernel)) (by decide +kernel)⟩
theorem okX1_init : aOKc mX1_init 0 := ⟨koX1_init, rfl, rfl, aT_of (List.mem_of_getElem? (i := 265) (by decide +kernel)) (by decide +kernel)⟩
theorem koX1_readAddress : aOK mX1_readAddress 2 := ⟨by decide +kernel, by decide +kernel, by decide +kernel, wi_X1, aT_of (List.mem_of_getElem? (i := 653) (by decide +kernel)) (by decide +kernel)⟩
theorem okX1_readAddress : aOKi mX1_readAddress 2 := ⟨koX1_readAddress, aT_of (List.mem_of_getElem? (i := 652) (by decide +kernel)) (by decide +kernel), aT_of (List.mem_of_getElem? (i := 17) (by decide +kernel)) (by decide +kernel)⟩
theorem koX1_hasMatch : aOK mX1_hasMatch 1 := ⟨by decide +kernel, by decide +kernel, by decide +kernel, wi_X1, aT_of (List.mem_of_getElem? (i := 648) (by decide +kernel)) (by decide +kernel)⟩
theorem okX1_hasMatch : aOKi mX1_hasMatch 1 := ⟨koX1_hasMatch, aT_of (List.mem_of_getElem? (i := 647) (by decide +kernel)) (by decide +kernel), aT_of (List.mem_of_getElem? (i := 16) (by decide +kernel)) (by decide +kernel)⟩
theorem koX1_areMatched : aOK mX1_areMatched 2 := ⟨by decide +kernel, by decide +kernel, by decide +kernel, wi_X1, aT_of (List.mem_of_getElem? (i := 574) (by decide +kernel)) (by decide +kernel)⟩
theorem okX1_areMatched : aOKi mX1_areMatched 2 := ⟨koX1_areMatched, aT_of (List.mem_of_getElem? (i := 573) (by decide +kernel)) (by decide +kernel), aT_of (List.mem_of_getElem? (i := 8) (by decide +kernel)) (by decide +kernel)⟩
theorem koX1_turnMatch : aOK mX1_turnMatch 2 := ⟨by decide +kernel, by decide +kernel, by decide +kernel, wi_X1, aT_of (List.mem_of_getElem? (i := 614) (by decide +kernel)) (by decide +kernel)⟩
theorem okX1_turnMatch : aOKi mX1_turnMatch 2 := ⟨koX1_turnMatch, aT_of (List.mem_of_getElem? (i := 613) (by decide +kernel)) (by decide +kernel), aT_of (List.mem_of_getElem? (i := 15) (by decide +kernel)) (by decide +kernel)⟩
theorem koX1_matchesOf : aOK mX1_matchesOf 1 := ⟨by decide +kernel, by decide +kernel, by decide +kernel, wi_X1, aT_of (List.mem_of_getElem? (i := 492) (by decide +kernel)) (by decide +kernel)⟩
theorem okX1_matchesOf : aOKi mX1_matchesOf 1 := ⟨koX1_matchesOf, aT_of (List.mem_of_getElem? (i := 491) (by decide +kernel)) (by decide +kernel), aT_of (List.mem_of_getElem? (i := 4) (by decide +kernel)) (by decide +kernel)⟩
theorem koX1_groupOf : aOK mX1_groupOf 1 := ⟨by decide +kernel, by decide +kernel, by decide +kernel, wi_X1, aT_of (List.mem_of_getElem? (i := 488) (by decide +kernel)) (by decide +kernel)⟩
theorem okX1_groupOf : aOKi mX1_groupOf 1 := ⟨koX1_groupOf, aT_of (List.mem_of_getElem? (i := 487) (by decide +kernel)) (by decide +kernel), aT_of (List.mem_of_getElem? (i := 3) (by decide +kernel)) (by decide +kernel)⟩
theorem koX1_wasPosted : aOK mX1_wasPosted 2 := ⟨by decide +kernel, by decide +kernel, by decide +kernel, wi_X1, aT_of (List.mem_of_getElem? (i := 746) (by decide +kernel)) (by decide +kernel)⟩
theorem okX1_wasPosted : aOKi mX1_wasPosted 2 := ⟨koX1_wasPosted, aT_of (List.mem_of_getElem? (i := 745) (by decide +kernel)) (by decide +kernel), aT_of (List.mem_of_getElem? (i := 32) (by decide +kernel)) (by decide +kernel)⟩
theorem koX1_listDue : aOK mX1_listDue 1 := ⟨by decide +kernel, by decide +kernel, by decide +kernel, wi_X1, aT_of (List.mem_of_getElem? (i := 741) (by decide +kernel)) (by decide +kernel)⟩
theorem okX1_listDue : aOKi mX1_listDue 1 := ⟨koX1_listDue, aT_of (List.mem_of_getElem? (i := 740) (by decide +kernel)) (by decide +kernel), aT_of (List.mem_of_getElem? (i := 31) (by decide +kernel)) (by decide +kernel)⟩
theorem koX1_dueAt : aOK mX1_dueAt 1 := ⟨by decide +kernel, by decide +kernel, by decide +kernel, wi_X1, aT_of (List.mem_of_getElem? (i := 756) (by decide +kernel)) (by decide +kernel)⟩
theorem okX1_dueAt : aOKi mX1_dueAt 1 := ⟨koX1_dueAt, aT_of (List.mem_of_getElem? (i := 755) (by decide +kernel)) (by decide +kernel), aT_of (List.mem_of_getElem? (i := 34) (by decide +kernel)) (by decide +kernel)⟩
theorem koX1_notePosted : aOK mX1_notePosted 2 := ⟨by decide +kernel, by decide +kernel, by decide +kernel, wi_X1, aT_of (List.mem_of_getElem? (i := 1001) (by decide +kernel)) (by decide +kernel)⟩
theorem okX1_notePosted : aOKi mX1_notePosted 2 := ⟨koX1_notePosted, aT_of (List.mem_of_getElem? (i := 1000) (by decide +kernel)) (by decide +kernel), aT_of (List.mem_of_getElem? (i := 58) (by decide +kernel)) (by decide +kernel)⟩
theorem koX2_init : aOK mX2_init 0 := ⟨by decide +kernel, by decide +kernel, by decide +kernel, wi_X2, aT_of (List.mem_of_getElem? (i := 345) (by decide +kernel)) (by decide +kernel)⟩
theorem okX2_init : aOKc mX2_init 0 := ⟨koX2_init, rfl, rfl, aT_of (List.mem_of_getElem? (i := 344) (by decide +kernel)) (by decide +kernel)⟩
theorem koX2_weightOf : aOK mX2_weightOf 2 := ⟨by decide +kernel, by decide +kernel, by decide +kernel, wi_X2, aT_of (List.mem_of_getElem? (i := 517) (by decide +kernel)) (by decide +kernel)⟩
theorem okX2_weightOf : aOKi mX2_weightOf 2 := ⟨koX2_weightOf, aT_of (List.mem_of_getElem? (i := 516) (by decide +kernel)) (by decide +kernel), aT_of (List.mem_of_getElem? (i := 5) (by decide +kernel)) (by decide +kernel)⟩
theorem koX2_costOf : aOK mX2_costOf 2 := ⟨by decide +kernel, by decide +kernel, by decide +kernel, wi_X2, aT_of (List.mem_of_getElem? (i := 521) (by decide +kernel)) (by decide +kernel)⟩
theorem okX2_costOf : aOKi mX2_costOf 2 := ⟨koX2_costOf, aT_of (List.mem_of_getElem? (i := 520) (by decide +kernel)) (by decide +kernel), aT_of (List.mem_of_getElem? (i := 6) (by decide +kernel)) (by decide +kernel)⟩
theorem koX3_init : aOK mX3_init 0 := ⟨by decide +kernel, by decide +kernel, by decide +kernel, wi_X3, aT_of (List.mem_of_getElem? (i := 179) (by decide +kernel)) (by decide +kernel)⟩
theorem okX3_init : aOKc mX3_init 0 := ⟨koX3_init, rfl, rfl, aT_of (List.mem_of_getElem? (i := 178) (by decide +kernel)) (by decide +kernel)⟩
theorem koX9_addAll : aOK mX9_addAll 1 := ⟨by decide +kernel, by decide +kernel, by decide +kernel, wi_X9, aT_of (List.mem_of_getElem? (i := 772) (by decide +kernel)) (by decide +kernel)⟩
theorem okX9_addAll : aOKi mX9_addAll 1 := ⟨koX9_addAll, aT_of (List.mem_of_getElem? (i := 771) (by decide +kernel)) (by decide +kernel), aT_of (List.mem_of_getElem? (i := 38) (by decide +kernel)) (by decide +kernel)⟩
theorem koX3_addMember : aOK mX3_addMember 1 := ⟨by decide +kernel, by decide +kernel, by decide +kernel, wi_X3, aT_of (List.mem_of_getElem? (i := 768) (by decide +kernel)) (by decide +kernel)⟩
theorem okX3_addMember : aOKi mX3_addMember 1 := ⟨koX3_addMember, aT_of (List.mem_of_getElem? (i := 767) (by decide +kernel)) (by decide +kernel), aT_of (List.mem_of_getElem? (i := 37) (by decide +kernel)) (by decide +kernel)⟩
theorem koX9_addNumber : aOK mX9_addNumber 1 := ⟨by decide +kernel, by decide +kernel, by decide +kernel, wi_X9, aT_of (List.mem_of_getElem? (i := 780) (by decide +kernel)) (by decide +kernel)⟩
theorem okX9_addNumber : aOKi mX9_addNumber 1 := ⟨koX9_addNumber, aT_of (List.mem_of_getElem? (i := 779) (by decide +kernel)) (by decide +kernel), aT_of (List.mem_of_getElem? (i := 39) (by decide +kernel)) (by decide +kernel)⟩
theorem koX3_gather : aOK mX3_gather 2 := ⟨by decide +kernel, by decide +kernel, by decide +kernel, wi_X3, aT_of (List.mem_of_getElem? (i := 764) (by decide +kernel)) (by decide +kernel)⟩
theorem okX3_gather : aOKi mX3_gather 2 := ⟨koX3_gather, aT_of (List.mem_of_getElem? (i := 763) (by decide +kernel)) (by decide +kernel), aT_of (List.mem_of_getElem? (i := 36) (by decide +kernel)) (by decide +kernel)⟩
theorem koX4_init : aOK mX4_init 0 := ⟨by decide +kernel, by decide +kernel, by decide +kernel, wi_X4, aT_of (List.mem_of_getElem? (i := 205) (by decide +kernel)) (by decide +kernel)⟩
theorem okX4_init : aOKc mX4_init 0 := ⟨koX4_init, rfl, rfl, aT_of (List.mem_of_getElem? (i := 204) (by decide +kernel)) (by decide +kernel)⟩
theorem koX9_become : aOK mX9_become 1 := ⟨by decide +kernel, by decide +kernel, by decide +kernel, wi_X9, aT_of (List.mem_of_getElem? (i := 996) (by decide +kernel)) (by decide +kernel)⟩
theorem okX9_become : aOKi mX9_become 1 := ⟨koX9_become, aT_of (List.mem_of_getElem? (i := 995) (by decide +kernel)) (by decide +kernel), aT_of (List.mem_of_getElem? (i := 57) (by decide +kernel)) (by decide +kernel)⟩
theorem koX4_become : aOK mX4_become 1 := ⟨by decide +kernel, by decide +kernel, by decide +kernel, wi_X4, aT_of (List.mem_of_getElem? (i := 992) (by decide +kernel)) (by decide +kernel)⟩
theorem okX4_become : aOKi mX4_become 1 := ⟨koX4_become, aT_of (List.mem_of_getElem? (i := 991) (by decide +kernel)) (by decide +kernel), aT_of (List.mem_of_getElem? (i := 56) (by decide +kernel)) (by decide +kernel)⟩
theorem koX5_init : aOK mX5_init 0 := ⟨by decide +kernel, by decide +kernel, by decide +kernel, wi_X5, aT_of (List.mem_of_getElem? (i := 335) (by decide +kernel)) (by decide +kernel)⟩
theorem okX5_init : aOKc mX5_init 0 := ⟨koX5_init, rfl, rfl, aT_of (List.mem_of_getElem? (i := 334) (by decide +kernel)) (by decide +kernel)⟩
theorem koX5_readSign : aOK mX5_readSign 3 := ⟨by decide +kernel, by decide +kernel, by decide +kernel, wi_X5, aT_of (List.mem_of_getElem? (i := 605) (by decide +kernel)) (by decide +kernel)⟩
theorem okX5_readSign : aOKi mX5_readSign 3 := ⟨koX5_readSign, aT_of (List.mem_of_getElem? (i := 604) (by decide +kernel)) (by decide +kernel), aT_of (List.mem_of_getElem? (i := 14) (by decide +kernel)) (by decide +kernel)⟩
theorem koX5_distance : aOK mX5_distance 2 := ⟨by decide +kernel, by decide +kernel, by decide +kernel, wi_X5, aT_of (List.mem_of_getElem? (i := 594) (by decide +kernel)) (by decide +kernel)⟩
theorem okX5_distance : aOKi mX5_distance 2 := ⟨koX5_distance, aT_of (List.mem_of_getElem? (i := 593) (by decide +kernel)) (by decide +kernel), aT_of (List.mem_of_getElem? (i := 12) (by decide +kernel)) (by decide +kernel)⟩
theorem koX5_wordLikeness : aOK mX5_wordLikeness 2 := ⟨by decide +kernel, by decide +kernel, by decide +kernel, wi_X5, aT_of (List.mem_of_getElem? (i := 587) (by decide +kernel)) (by decide +kernel)⟩
theorem okX5_wordLikeness : aOKi mX5_wordLikeness 2 := ⟨koX5_wordLikeness, aT_of (List.mem_of_getElem? (i := 586) (by decide +kernel)) (by decide +kernel), aT_of (List.mem_of_getElem? (i := 11) (by decide +kernel)) (by decide +kernel)⟩
theorem koX5_likenessOf : aOK mX5_likenessOf 2 := ⟨by decide +kernel, by decide +kernel, by decide +kernel, wi_X5, aT_of (List.mem_of_getElem? (i := 582) (by decide +kernel)) (by decide +kernel)⟩
theorem okX5_likenessOf : aOKi mX5_likenessOf 2 := ⟨koX5_likenessOf, aT_of (List.mem_of_getElem? (i := 581) (by decide +kernel)) (by decide +kernel), aT_of (List.mem_of_getElem? (i := 10) (by decide +kernel)) (by decide +kernel)⟩
theorem koX6_init : aOK mX6_init 0 := ⟨by decide +kernel, by decide +kernel, by decide +kernel, wi_X6, aT_of (List.mem_of_getElem? (i := 108) (by decide +kernel)) (by decide +kernel)⟩
theorem okX6_init : aOKc mX6_init 0 := ⟨koX6_init, rfl, rfl, aT_of (List.mem_of_getElem? (i := 107) (by decide +kernel)) (by decide +kernel)⟩
theorem koX6_clear : aOK mX6_clear 0 := ⟨by decide +kernel, by decide +kernel, by decide +kernel, wi_X6, aT_of (List.mem_of_getElem? (i := 703) (by decide +kernel)) (by decide +kernel)⟩
theorem okX6_clear : aOKi mX6_clear 0 := ⟨koX6_clear, aT_of (List.mem_of_getElem? (i := 702) (by decide +kernel)) (by decide +kernel), aT_of (List.mem_of_getElem? (i := 27) (by decide +kernel)) (by decide +kernel)⟩
theorem koX6_takeDigit : aOK mX6_takeDigit 1 := ⟨by decide +kernel, by decide +kernel, by decide +kernel, wi_X6, aT_of (List.mem_of_getElem? (i := 1044) (by decide +kernel)) (by decide +kernel)⟩
theorem okX6_takeDigit : aOKi mX6_takeDigit 1 := ⟨koX6_takeDigit, aT_of (List.mem_of_getElem? (i := 1043) (by decide +kernel)) (by decide +kernel), aT_of (List.mem_of_getElem? (i := 64) (by decide +kernel)) (by decide +kernel)⟩
theorem koJ0_isLatin1_aae02 : aOK mJ0_isLatin1_aae02 0 := ⟨by decide +kernel, by decide +kernel, by decide +kernel, wi_J0, aT_of (List.mem_of_getElem? (i := 830) (by decide +kernel)) (by decide +kernel)⟩
theorem okJ0_isLatin1_aae02 : aOKi mJ0_isLatin1_aae02 0 := ⟨koJ0_isLatin1_aae02, aT_of (List.mem_of_getElem? (i := 828) (by decide +kernel)) (by decide +kernel), aT_of (List.mem_of_getElem? (i := 829) (by decide +kernel)) (by decide +kernel)⟩
theorem koJ0_coder_7d493 : aOK mJ0_coder_7d493 0 := ⟨by decide +kernel, by decide +kernel, by decide +kernel, wi_J0, aT_of (List.mem_of_getElem? (i := 840) (by decide +kernel)) (by decide +kernel)⟩
theorem okJ0_coder_7d493 : aOKi mJ0_coder_7d493 0 := ⟨koJ0_coder_7d493, aT_of (List.mem_of_getElem? (i := 838) (by decide +kernel)) (by decide +kernel), aT_of (List.mem_of_getElem? (i := 839) (by decide +kernel)) (by decide +kernel)⟩
theorem koJ0_length_8abf5 : aOK mJ0_length_8abf5 0 := ⟨by decide +kernel, by decide +kernel, by decide +kernel, wi_J0, aT_of (List.mem_of_getElem? (i := 836) (by decide +kernel)) (by decide +kernel)⟩
theorem okJ0_length_8abf5 : aOKi mJ0_length_8abf5 0 := ⟨koJ0_length_8abf5, aT_of (List.mem_of_getElem? (i := 834) (by decide +kernel)) (by decide +kernel), aT_of (List.mem_of_getElem? (i := 835) (by decide +kernel)) (by decide +kernel)⟩
theorem koJ1_canEncode_9a6ad : aOK mJ1_canEncode_9a6ad 1 := ⟨by decide +kernel, by decide +kernel, by decide +kernel, wi_J1, aT_of (List.mem_of_getElem? (i := 846) (by decide +kernel)) (by decide +kernel)⟩
theorem okJ1_canEncode_9a6ad : aOKs mJ1_canEncode_9a6ad 1 := ⟨koJ1_canEncode_9a6ad, aT_of (List.mem_of_getElem? (i := 845) (by decide +kernel)) (by decide +kernel)⟩
theorem koJ1_indexOfChar_4cfef : aOK mJ1_indexOfChar_4cfef 4 := ⟨by decide +kernel, by decide +kernel, by decide +kernel, wi_J1, aT_of (List.mem_of_getElem? (i := 851) (by decide +kernel)) (by decide +kernel)⟩
theorem okJ1_indexOfChar_4cfef : aOKs mJ1_indexOfChar_4cfef 4 := ⟨koJ1_indexOfChar_4cfef, aT_of (List.mem_of_getElem? (i := 850) (by decide +kernel)) (by decide +kernel)⟩
theorem koJ1_indexOf_4cfef : aOK mJ1_indexOf_4cfef 4 := ⟨by decide +kernel, by decide +kernel, by decide +kernel, wi_J1, aT_of (List.mem_of_getElem? (i := 843) (by decide +kernel)) (by decide +kernel)⟩
theorem okJ1_indexOf_4cfef : aOKs mJ1_indexOf_4cfef 4 := ⟨koJ1_indexOf_4cfef, aT_of (List.mem_of_getElem? (i := 842) (by decide +kernel)) (by decide +kernel)⟩
theorem koJ2_length_9d52b : aOK mJ2_length_9d52b 1 := ⟨by decide +kernel, by decide +kernel, by decide +kernel, wi_J2, aT_of (List.mem_of_getElem? (i := 866) (by decide +kernel)) (by decide +kernel)⟩
theorem okJ2_length_9d52b : aOKs mJ2_length_9d52b 1 := ⟨koJ2_length_9d52b, aT_of (List.mem_of_getElem? (i := 865) (by decide +kernel)) (by decide +kernel)⟩
theorem koJ3_checkFromToIndex_8c36e : aOK mJ3_checkFromToIndex_8c36e 4 := ⟨by decide +kernel, by decide +kernel, by decide +kernel, wi_J3, aT_of (List.mem_of_getElem? (i := 874) (by decide +kernel)) (by decide +kernel)⟩
theorem okJ3_checkFromToIndex_8c36e : aOKs mJ3_checkFromToIndex_8c36e 4 := ⟨koJ3_checkFromToIndex_8c36e, aT_of (List.mem_of_getElem? (i := 873) (by decide +kernel)) (by decide +kernel)⟩
theorem koJ0_checkBoundsBeginEnd_23922 : aOK mJ0_checkBoundsBeginEnd_23922 3 := ⟨by decide +kernel, by decide +kernel, by decide +kernel, wi_J0, aT_of (List.mem_of_getElem? (i := 869) (by decide +kernel)) (by decide +kernel)⟩
theorem okJ0_checkBoundsBeginEnd_23922 : aOKs mJ0_checkBoundsBeginEnd_23922 3 := ⟨koJ0_checkBoundsBeginEnd_23922, aT_of (List.mem_of_getElem? (i := 868) (by decide +kernel)) (by decide +kernel)⟩
theorem koJ2_checkBoundsBeginEnd_d044e : aOK mJ2_checkBoundsBeginEnd_d044e 3 := ⟨by decide +kernel, by decide +kernel, by decide +kernel, wi_J2, aT_of (List.mem_of_getElem? (i := 863) (by decide +kernel)) (by decide +kernel)⟩
theorem okJ2_checkBoundsBeginEnd_d044e : aOKs mJ2_checkBoundsBeginEnd_d044e 3 := ⟨koJ2_checkBoundsBeginEnd_d044e, aT_of (List.mem_of_getElem? (i := 862) (by decide +kernel)) (by decide +kernel)⟩
theorem koJ2_getChar_3b067 : aOK mJ2_getChar_3b067 2 := ⟨by decide +kernel, by decide +kernel, by decide +kernel, wi_J2, aT_of (List.mem_of_getElem? (i := 880) (by decide +kernel)) (by decide +kernel)⟩
theorem okJ2_getChar_3b067 : aOKs mJ2_getChar_3b067 2 := ⟨koJ2_getChar_3b067, aT_of (List.mem_of_getElem? (i := 879) (by decide +kernel)) (by decide +kernel)⟩
theorem koJ2_indexOfCharUnsafe_4cfef : aOK mJ2_indexOfCharUnsafe_4cfef 4 := ⟨by decide +kernel, by decide +kernel, by decide +kernel, wi_J2, aT_of (List.mem_of_getElem? (i := 877) (by decide +kernel)) (by decide +kernel)⟩
theorem okJ2_indexOfCharUnsafe_4cfef : aOKs mJ2_indexOfCharUnsafe_4cfef 4 := ⟨koJ2_indexOfCharUnsafe_4cfef, aT_of (List.mem_of_getElem? (i := 876) (by decide +kernel)) (by decide +kernel)⟩
theorem koJ2_indexOfChar_4cfef : aOK mJ2_indexOfChar_4cfef 4 := ⟨by decide +kernel, by decide +kernel, by decide +kernel, wi_J2, aT_of (List.mem_of_getElem? (i := 860) (by decide +kernel)) (by decide +kernel)⟩
theorem okJ2_indexOfChar_4cfef : aOKs mJ2_indexOfChar_4cfef 4 := ⟨koJ2_indexOfChar_4cfef, aT_of (List.mem_of_getElem? (i := 859) (by decide +kernel)) (by decide +kernel)⟩
theorem koJ11_isValidCodePoint_9a6ad : aOK mJ11_isValidCodePoint_9a6ad 1 := ⟨by decide +kernel, by decide +kernel, by decide +kernel, wi_J11, aT_of (List.mem_of_getElem? (i := 892) (by decide +kernel)) (by decide +kernel)⟩
theorem okJ11_isValidCodePoint_9a6ad : aOKs mJ11_isValidCodePoint_9a6ad 1 := ⟨koJ11_isValidCodePoint_9a6ad, aT_of (List.mem_of_getElem? (i := 891) (by decide +kernel)) (by decide +kernel)⟩
theorem koJ11_highSurrogate_5068e : aOK mJ11_highSurrogate_5068e 1 := ⟨by decide +kernel, by decide +kernel, by decide +kernel, wi_J11, aT_of (List.mem_of_getElem? (i := 895) (by decide +kernel)) (by decide +kernel)⟩
theorem okJ11_highSurrogate_5068e : aOKs mJ11_highSurrogate_5068e 1 := ⟨koJ11_highSurrogate_5068e, aT_of (List.mem_of_getElem? (i := 894) (by decide +kernel)) (by decide +kernel)⟩
theorem koJ11_lowSurrogate_5068e : aOK mJ11_lowSurrogate_5068e 1 := ⟨by decide +kernel, by decide +kernel, by decide +kernel, wi_J11, aT_of (List.mem_of_getElem? (i := 899) (by decide +kernel)) (by decide +kernel)⟩
theorem okJ11_lowSurrogate_5068e : aOKs mJ11_lowSurrogate_5068e 1 := ⟨koJ11_lowSurrogate_5068e, aT_of (List.mem_of_getElem? (i := 898) (by decide +kernel)) (by decide +kernel)⟩
theorem koJ2_indexOfSupplementary_4cfef : aOK mJ2_indexOfSupplementary_4cfef 4 := ⟨by decide +kernel, by decide +kernel, by decide +kernel, wi_J2, aT_of (List.mem_of_getElem? (i := 889) (by decide +kernel)) (by decide +kernel)⟩
theorem okJ2_indexOfSupplementary_4cfef : aOKs mJ2_indexOfSupplementary_4cfef 4 := ⟨koJ2_indexOfSupplementary_4cfef, aT_of (List.mem_of_getElem? (i := 888) (by decide +kernel)) (by decide +kernel)⟩
theorem koJ2_indexOf_4cfef : aOK mJ2_indexOf_4cfef 4 := ⟨by decide +kernel, by decide +kernel, by decide +kernel, wi_J2, aT_of (List.mem_of_getElem? (i := 854) (by decide +kernel)) (by decide +kernel)⟩
theorem okJ2_indexOf_4cfef : aOKs mJ2_indexOf_4cfef 4 := ⟨koJ2_indexOf_4cfef, aT_of (List.mem_of_getElem? (i := 853) (by decide +kernel)) (by decide +kernel)⟩
theorem koJ0_indexOf_7cf53 : aOK mJ0_indexOf_7cf53 2 := ⟨by decide +kernel, by decide +kernel, by decide +kernel, wi_J0, aT_of (List.mem_of_getElem? (i := 826) (by decide +kernel)) (by decide +kernel)⟩
theorem okJ0_indexOf_7cf53 : aOKi mJ0_indexOf_7cf53 2 := ⟨koJ0_indexOf_7cf53, aT_of (List.mem_of_getElem? (i := 824) (by decide +kernel)) (by decide +kernel), aT_of (List.mem_of_getElem? (i := 825) (by decide +kernel)) (by decide +kernel)⟩
theorem koJ0_indexOf_0f7a4 : aOK mJ0_indexOf_0f7a4 1 := ⟨by decide +kernel, by decide +kernel, by decide +kernel, wi_J0, aT_of (List.mem_of_getElem? (i := 822) (by decide +kernel)) (by decide +kernel)⟩
theorem okJ0_indexOf_0f7a4 : aOKi mJ0_indexOf_0f7a4 1 := ⟨koJ0_indexOf_0f7a4, aT_of (List.mem_of_getElem? (i := 820) (by decide +kernel)) (by decide +kernel), aT_of (List.mem_of_getElem? (i := 821) (by decide +kernel)) (by decide +kernel)⟩
theorem koX6_takeField : aOK mX6_takeField 0 := ⟨by decide +kernel, by decide +kernel, by decide +kernel, wi_X6, aT_of (List.mem_of_getElem? (i := 1038) (by decide +kernel)) (by decide +kernel)⟩
theorem okX6_takeField : aOKi mX6_takeField 0 := ⟨koX6_takeField, aT_of (List.mem_of_getElem? (i := 1037) (by decide +kernel)) (by decide +kernel), aT_of (List.mem_of_getElem? (i := 63) (by decide +kernel)) (by decide +kernel)⟩
theorem koX6_takeRelation : aOK mX6_takeRelation 0 := ⟨by decide +kernel, by decide +kernel, by decide +kernel, wi_X6, aT_of (List.mem_of_getElem? (i := 1052) (by decide +kernel)) (by decide +kernel)⟩
theorem okX6_takeRelation : aOKi mX6_takeRelation 0 := ⟨koX6_takeRelation, aT_of (List.mem_of_getElem? (i := 1051) (by decide +kernel)) (by decide +kernel), aT_of (List.mem_of_getElem? (i := 66) (by decide +kernel)) (by decide +kernel)⟩
theorem koX10_init : aOK mX10_init 0 := ⟨by decide +kernel, by decide +kernel, by decide +kernel, wi_X10, aT_of (List.mem_of_getElem? (i := 152) (by decide +kernel)) (by decide +kernel)⟩
theorem okX10_init : aOKc mX10_init 0 := ⟨koX10_init, rfl, rfl, aT_of (List.mem_of_getElem? (i := 151) (by decide +kernel)) (by decide +kernel)⟩
theorem koX7_init : aOK mX7_init 0 := ⟨by decide +kernel, by decide +kernel, by decide +kernel, wi_X7, aT_of (List.mem_of_getElem? (i := 145) (by decide +kernel)) (by decide +kernel)⟩
theorem okX7_init : aOKc mX7_init 0 := ⟨koX7_init, rfl, rfl, aT_of (List.mem_of_getElem? (i := 144) (by decide +kernel)) (by decide +kernel)⟩
theorem koX10_openChoice : aOK mX10_openChoice 1 := ⟨by decide +kernel, by decide +kernel, by decide +kernel, wi_X10, aT_of (List.mem_of_getElem? (i := 1048) (by decide +kernel)) (by decide +kernel)⟩
theorem okX10_openChoice : aOKi mX10_openChoice 1 := ⟨koX10_openChoice, aT_of (List.mem_of_getElem? (i := 1047) (by decide +kernel)) (by decide +kernel), aT_of (List.mem_of_getElem? (i := 65) (by decide +kernel)) (by decide +kernel)⟩
theorem koX10_jumpFromMark : aOK mX10_jumpFromMark 2 := ⟨by decide +kernel, by decide +kernel, by decide +kernel, wi_X10, aT_of (List.mem_of_getElem? (i := 1061) (by decide +kernel)) (by decide +kernel)⟩
theorem okX10_jumpFromMark : aOKi mX10_jumpFromMark 2 := ⟨koX10_jumpFromMark, aT_of (List.mem_of_getElem? (i := 1060) (by decide +kernel)) (by decide +kernel), aT_of (List.mem_of_getElem? (i := 68) (by decide +kernel)) (by decide +kernel)⟩
theorem koX10_turnChoice : aOK mX10_turnChoice 1 := ⟨by decide +kernel, by decide +kernel, by decide +kernel, wi_X10, aT_of (List.mem_of_getElem? (i := 1057) (by decide +kernel)) (by decide +kernel)⟩
theorem okX10_turnChoice : aOKi mX10_turnChoice 1 := ⟨koX10_turnChoice, aT_of (List.mem_of_getElem? (i := 1056) (by decide +kernel)) (by decide +kernel), aT_of (List.mem_of_getElem? (i := 67) (by decide +kernel)) (by decide +kernel)⟩
theorem koX10_closeChoice : aOK mX10_closeChoice 1 := ⟨by decide +kernel, by decide +kernel, by decide +kernel, wi_X10, aT_of (List.mem_of_getElem? (i := 1066) (by decide +kernel)) (by decide +kernel)⟩
theorem okX10_closeChoice : aOKi mX10_closeChoice 1 := ⟨koX10_closeChoice, aT_of (List.mem_of_getElem? (i := 1065) (by decide +kernel)) (by decide +kernel), aT_of (List.mem_of_getElem? (i := 69) (by decide +kernel)) (by decide +kernel)⟩
theorem koX10_readPart : aOK mX10_readPart 1 := ⟨by decide +kernel, by decide +kernel, by decide +kernel, wi_X10, aT_of (List.mem_of_getElem? (i := 1032) (by decide +kernel)) (by decide +kernel)⟩
theorem okX10_readPart : aOKi mX10_readPart 1 := ⟨koX10_readPart, aT_of (List.mem_of_getElem? (i := 1031) (by decide +kernel)) (by decide +kernel), aT_of (List.mem_of_getElem? (i := 62) (by decide +kernel)) (by decide +kernel)⟩
theorem koX10_read : aOK mX10_read 1 := ⟨by decide +kernel, by decide +kernel, by decide +kernel, wi_X10, aT_of (List.mem_of_getElem? (i := 1027) (by decide +kernel)) (by decide +kernel)⟩
theorem okX10_read : aOKi mX10_read 1 := ⟨koX10_read, aT_of (List.mem_of_getElem? (i := 1026) (by decide +kernel)) (by decide +kernel), aT_of (List.mem_of_getElem? (i := 61) (by decide +kernel)) (by decide +kernel)⟩
theorem koX7_readTemplate : aOK mX7_readTemplate 2 := ⟨by decide +kernel, by decide +kernel, by decide +kernel, wi_X7, aT_of (List.mem_of_getElem? (i := 1023) (by decide +kernel)) (by decide +kernel)⟩
theorem okX7_readTemplate : aOKi mX7_readTemplate 2 := ⟨koX7_readTemplate, aT_of (List.mem_of_getElem? (i := 1022) (by decide +kernel)) (by decide +kernel), aT_of (List.mem_of_getElem? (i := 60) (by decide +kernel)) (by decide +kernel)⟩
theorem koX7_templateAt : aOK mX7_templateAt 1 := ⟨by decide +kernel, by decide +kernel, by decide +kernel, wi_X7, aT_of (List.mem_of_getElem? (i := 975) (by decide +kernel)) (by decide +kernel)⟩
theorem okX7_templateAt : aOKi mX7_templateAt 1 := ⟨koX7_templateAt, aT_of (List.mem_of_getElem? (i := 974) (by decide +kernel)) (by decide +kernel), aT_of (List.mem_of_getElem? (i := 54) (by decide +kernel)) (by decide +kernel)⟩
theorem koX7_placeAt : aOK mX7_placeAt 1 := ⟨by decide +kernel, by decide +kernel, by decide +kernel, wi_X7, aT_of (List.mem_of_getElem? (i := 971) (by decide +kernel)) (by decide +kernel)⟩
theorem okX7_placeAt : aOKi mX7_placeAt 1 := ⟨koX7_placeAt, aT_of (List.mem_of_getElem? (i := 970) (by decide +kernel)) (by decide +kernel), aT_of (List.mem_of_getElem? (i := 53) (by decide +kernel)) (by decide +kernel)⟩
theorem koX7_isTold : aOK mX7_isTold 1 := ⟨by decide +kernel, by decide +kernel, by decide +kernel, wi_X7, aT_of (List.mem_of_getElem? (i := 788) (by decide +kernel)) (by decide +kernel)⟩
theorem okX7_isTold : aOKi mX7_isTold 1 := ⟨koX7_isTold, aT_of (List.mem_of_getElem? (i := 787) (by decide +kernel)) (by decide +kernel), aT_of (List.mem_of_getElem? (i := 41) (by decide +kernel)) (by decide +kernel)⟩
theorem koX7_open : aOK mX7_open 1 := ⟨by decide +kernel, by decide +kernel, by decide +kernel, wi_X7, aT_of (List.mem_of_getElem? (i := 796) (by decide +kernel)) (by decide +kernel)⟩
theorem okX7_open : aOKi mX7_open 1 := ⟨koX7_open, aT_of (List.mem_of_getElem? (i := 795) (by decide +kernel)) (by decide +kernel), aT_of (List.mem_of_getElem? (i := 43) (by decide +kernel)) (by decide +kernel)⟩
theorem koX7_blameWhole : aOK mX7_blameWhole 2 := ⟨by decide +kernel, by decide +kernel, by decide +kernel, wi_X7, aT_of (List.mem_of_getElem? (i := 792) (by decide +kernel)) (by decide +kernel)⟩
theorem okX7_blameWhole : aOKi mX7_blameWhole 2 := ⟨koX7_blameWhole, aT_of (List.mem_of_getElem? (i := 791) (by decide +kernel)) (by decide +kernel), aT_of (List.mem_of_getElem? (i := 42) (by decide +kernel)) (by decide +kernel)⟩
theorem koX7_silentBit : aOK mX7_silentBit 2 := ⟨by decide +kernel, by decide +kernel, by decide +kernel, wi_X7, aT_of (List.mem_of_getElem? (i := 809) (by decide +kernel)) (by decide +kernel)⟩
theorem okX7_silentBit : aOKs mX7_silentBit 2 := ⟨koX7_silentBit, aT_of (List.mem_of_getElem? (i := 808) (by decide +kernel)) (by decide +kernel)⟩
theorem koX7_close : aOK mX7_close 1 := ⟨by decide +kernel, by decide +kernel, by decide +kernel, wi_X7, aT_of (List.mem_of_getElem? (i := 806) (by decide +kernel)) (by decide +kernel)⟩
theorem okX7_close : aOKi mX7_close 1 := ⟨koX7_close, aT_of (List.mem_of_getElem? (i := 805) (by decide +kernel)) (by decide +kernel), aT_of (List.mem_of_getElem? (i := 45) (by decide +kernel)) (by decide +kernel)⟩
theorem koX7_enter : aOK mX7_enter 2 := ⟨by decide +kernel, by decide +kernel, by decide +kernel, wi_X7, aT_of (List.mem_of_getElem? (i := 813) (by decide +kernel)) (by decide +kernel)⟩
theorem okX7_enter : aOKi mX7_enter 2 := ⟨koX7_enter, aT_of (List.mem_of_getElem? (i := 812) (by decide +kernel)) (by decide +kernel), aT_of (List.mem_of_getElem? (i := 46) (by decide +kernel)) (by decide +kernel)⟩
theorem koX9_room : aOK mX9_room 0 := ⟨by decide +kernel, by decide +kernel, by decide +kernel, wi_X9, aT_of (List.mem_of_getElem? (i := 904) (by decide +kernel)) (by decide +kernel)⟩
theorem okX9_room : aOKi mX9_room 0 := ⟨koX9_room, aT_of (List.mem_of_getElem? (i := 903) (by decide +kernel)) (by decide +kernel), aT_of (List.mem_of_getElem? (i := 48) (by decide +kernel)) (by decide +kernel)⟩
theorem koX7_writeField : aOK mX7_writeField 2 := ⟨by decide +kernel, by decide +kernel, by decide +kernel, wi_X7, aT_of (List.mem_of_getElem? (i := 817) (by decide +kernel)) (by decide +kernel)⟩
theorem okX7_writeField : aOKi mX7_writeField 2 := ⟨koX7_writeField, aT_of (List.mem_of_getElem? (i := 816) (by decide +kernel)) (by decide +kernel), aT_of (List.mem_of_getElem? (i := 47) (by decide +kernel)) (by decide +kernel)⟩
theorem koX7_holds : aOK mX7_holds 3 := ⟨by decide +kernel, by decide +kernel, by decide +kernel, wi_X7, aT_of (List.mem_of_getElem? (i := 913) (by decide +kernel)) (by decide +kernel)⟩
theorem okX7_holds : aOKs mX7_holds 3 := ⟨koX7_holds, aT_of (List.mem_of_getElem? (i := 912) (by decide +kernel)) (by decide +kernel)⟩
theorem koX10_jumpAt : aOK mX10_jumpAt 1 := ⟨by decide +kernel, by decide +kernel, by decide +kernel, wi_X10, aT_of (List.mem_of_getElem? (i := 917) (by decide +kernel)) (by decide +kernel)⟩
theorem okX10_jumpAt : aOKi mX10_jumpAt 1 := ⟨koX10_jumpAt, aT_of (List.mem_of_getElem? (i := 916) (by decide +kernel)) (by decide +kernel), aT_of (List.mem_of_getElem? (i := 50) (by decide +kernel)) (by decide +kernel)⟩
theorem koX7_choose : aOK mX7_choose 2 := ⟨by decide +kernel, by decide +kernel, by decide +kernel, wi_X7, aT_of (List.mem_of_getElem? (i := 909) (by decide +kernel)) (by decide +kernel)⟩
theorem okX7_choose : aOKi mX7_choose 2 := ⟨koX7_choose, aT_of (List.mem_of_getElem? (i := 908) (by decide +kernel)) (by decide +kernel), aT_of (List.mem_of_getElem? (i := 49) (by decide +kernel)) (by decide +kernel)⟩
theorem koX7_writeSign : aOK mX7_writeSign 2 := ⟨by decide +kernel, by decide +kernel, by decide +kernel, wi_X7, aT_of (List.mem_of_getElem? (i := 921) (by decide +kernel)) (by decide +kernel)⟩
theorem okX7_writeSign : aOKi mX7_writeSign 2 := ⟨koX7_writeSign, aT_of (List.mem_of_getElem? (i := 920) (by decide +kernel)) (by decide +kernel), aT_of (List.mem_of_getElem? (i := 51) (by decide +kernel)) (by decide +kernel)⟩
theorem koX7_writePart : aOK mX7_writePart 1 := ⟨by decide +kernel, by decide +kernel, by decide +kernel, wi_X7, aT_of (List.mem_of_getElem? (i := 801) (by decide +kernel)) (by decide +kernel)⟩
theorem okX7_writePart : aOKi mX7_writePart 1 := ⟨koX7_writePart, aT_of (List.mem_of_getElem? (i := 800) (by decide +kernel)) (by decide +kernel), aT_of (List.mem_of_getElem? (i := 44) (by decide +kernel)) (by decide +kernel)⟩
theorem koX7_write : aOK mX7_write 1 := ⟨by decide +kernel, by decide +kernel, by decide +kernel, wi_X7, aT_of (List.mem_of_getElem? (i := 784) (by decide +kernel)) (by decide +kernel)⟩
theorem okX7_write : aOKi mX7_write 1 := ⟨koX7_write, aT_of (List.mem_of_getElem? (i := 783) (by decide +kernel)) (by decide +kernel), aT_of (List.mem_of_getElem? (i := 40) (by decide +kernel)) (by decide +kernel)⟩
theorem koX8_init : aOK mX8_init 0 := ⟨by decide +kernel, by decide +kernel, by decide +kernel, wi_X8, aT_of (List.mem_of_getElem? (i := 361) (by decide +kernel)) (by decide +kernel)⟩
theorem okX8_init : aOKc mX8_init 0 := ⟨koX8_init, rfl, rfl, aT_of (List.mem_of_getElem? (i := 360) (by decide +kernel)) (by decide +kernel)⟩
theorem koX8_keep : aOK mX8_keep 1 := ⟨by decide +kernel, by decide +kernel, by decide +kernel, wi_X8, aT_of (List.mem_of_getElem? (i := 988) (by decide +kernel)) (by decide +kernel)⟩
theorem okX8_keep : aOKi mX8_keep 1 := ⟨koX8_keep, aT_of (List.mem_of_getElem? (i := 987) (by decide +kernel)) (by decide +kernel), aT_of (List.mem_of_getElem? (i := 55) (by decide +kernel)) (by decide +kernel)⟩
theorem koX9_unlikeSigns : aOK mX9_unlikeSigns 1 := ⟨by decide +kernel, by decide +kernel, by decide +kernel, wi_X9, aT_of (List.mem_of_getElem? (i := 961) (by decide +kernel)) (by decide +kernel)⟩
theorem okX9_unlikeSigns : aOKi mX9_unlikeSigns 1 := ⟨koX9_unlikeSigns, aT_of (List.mem_of_getElem? (i := 960) (by decide +kernel)) (by decide +kernel), aT_of (List.mem_of_getElem? (i := 52) (by decide +kernel)) (by decide +kernel)⟩
theorem koX11_init : aOK mX11_init 0 := ⟨by decide +kernel, by decide +kernel, by decide +kernel, wi_X11, aT_of (List.mem_of_getElem? (i := 100) (by decide +kernel)) (by decide +kernel)⟩
theorem okX11_init : aOKc mX11_init 0 := ⟨koX11_init, rfl, rfl, aT_of (List.mem_of_getElem? (i := 99) (by decide +kernel)) (by decide +kernel)⟩
theorem koX11_signOf : aOK mX11_signOf 2 := ⟨by decide +kernel, by decide +kernel, by decide +kernel, wi_X11, aT_of (List.mem_of_getElem? (i := 633) (by decide +kernel)) (by decide +kernel)⟩
theorem okX11_signOf : aOKs mX11_signOf 2 := ⟨koX11_signOf, aT_of (List.mem_of_getElem? (i := 632) (by decide +kernel)) (by decide +kernel)⟩
theorem koX11_countSigns : aOK mX11_countSigns 1 := ⟨by decide +kernel, by decide +kernel, by decide +kernel, wi_X11, aT_of (List.mem_of_getElem? (i := 630) (by decide +kernel)) (by decide +kernel)⟩
theorem okX11_countSigns : aOKs mX11_countSigns 1 := ⟨koX11_countSigns, aT_of (List.mem_of_getElem? (i := 629) (by decide +kernel)) (by decide +kernel)⟩
theorem koX11_type : aOK mX11_type 1 := ⟨by decide +kernel, by decide +kernel, by decide +kernel, wi_X11, aT_of (List.mem_of_getElem? (i := 627) (by decide +kernel)) (by decide +kernel)⟩
theorem okX11_type : aOKi mX11_type 1 := ⟨koX11_type, aT_of (List.mem_of_getElem? (i := 625) (by decide +kernel)) (by decide +kernel), aT_of (List.mem_of_getElem? (i := 626) (by decide +kernel)) (by decide +kernel)⟩
theorem koX11_checkTemplate : aOK mX11_checkTemplate 1 := ⟨by decide +kernel, by decide +kernel, by decide +kernel, wi_X11, aT_of (List.mem_of_getElem? (i := 530) (by decide +kernel)) (by decide +kernel)⟩
theorem okX11_checkTemplate : aOKi mX11_checkTemplate 1 := ⟨koX11_checkTemplate, aT_of (List.mem_of_getElem? (i := 529) (by decide +kernel)) (by decide +kernel), aT_of (List.mem_of_getElem? (i := 7) (by decide +kernel)) (by decide +kernel)⟩
theorem koX11_template : aOK mX11_template 1 := ⟨by decide +kernel, by decide +kernel, by decide +kernel, wi_X11, aT_of (List.mem_of_getElem? (i := 1019) (by decide +kernel)) (by decide +kernel)⟩
theorem okX11_template : aOKi mX11_template 1 := ⟨koX11_template, aT_of (List.mem_of_getElem? (i := 1017) (by decide +kernel)) (by decide +kernel), aT_of (List.mem_of_getElem? (i := 1018) (by decide +kernel)) (by decide +kernel)⟩
theorem koX11_address : aOK mX11_address 1 := ⟨by decide +kernel, by decide +kernel, by decide +kernel, wi_X11, aT_of (List.mem_of_getElem? (i := 644) (by decide +kernel)) (by decide +kernel)⟩
theorem okX11_address : aOKi mX11_address 1 := ⟨koX11_address, aT_of (List.mem_of_getElem? (i := 642) (by decide +kernel)) (by decide +kernel), aT_of (List.mem_of_getElem? (i := 643) (by decide +kernel)) (by decide +kernel)⟩
theorem koX11_addresses : aOK mX11_addresses 0 := ⟨by decide +kernel, by decide +kernel, by decide +kernel, wi_X11, aT_of (List.mem_of_getElem? (i := 707) (by decide +kernel)) (by decide +kernel)⟩
theorem okX11_addresses : aOKi mX11_addresses 0 := ⟨koX11_addresses, aT_of (List.mem_of_getElem? (i := 705) (by decide +kernel)) (by decide +kernel), aT_of (List.mem_of_getElem? (i := 706) (by decide +kernel)) (by decide +kernel)⟩
theorem koX11_checkAddress : aOK mX11_checkAddress 1 := ⟨by decide +kernel, by decide +kernel, by decide +kernel, wi_X11, aT_of (List.mem_of_getElem? (i := 416) (by decide +kernel)) (by decide +kernel)⟩
theorem okX11_checkAddress : aOKi mX11_checkAddress 1 := ⟨koX11_checkAddress, aT_of (List.mem_of_getElem? (i := 415) (by decide +kernel)) (by decide +kernel), aT_of (List.mem_of_getElem? (i := 1) (by decide +kernel)) (by decide +kernel)⟩
theorem koX11_canBeMatched : aOK mX11_canBeMatched 2 := ⟨by decide +kernel, by decide +kernel, by decide +kernel, wi_X11, aT_of (List.mem_of_getElem? (i := 578) (by decide +kernel)) (by decide +kernel)⟩
theorem okX11_canBeMatched : aOKi mX11_canBeMatched 2 := ⟨koX11_canBeMatched, aT_of (List.mem_of_getElem? (i := 577) (by decide +kernel)) (by decide +kernel), aT_of (List.mem_of_getElem? (i := 9) (by decide +kernel)) (by decide +kernel)⟩
theorem koX11_match : aOK mX11_match 2 := ⟨by decide +kernel, by decide +kernel, by decide +kernel, wi_X11, aT_of (List.mem_of_getElem? (i := 570) (by decide +kernel)) (by decide +kernel)⟩
theorem okX11_match : aOKi mX11_match 2 := ⟨koX11_match, aT_of (List.mem_of_getElem? (i := 568) (by decide +kernel)) (by decide +kernel), aT_of (List.mem_of_getElem? (i := 569) (by decide +kernel)) (by decide +kernel)⟩
theorem koX11_group : aOK mX11_group 1 := ⟨by decide +kernel, by decide +kernel, by decide +kernel, wi_X11, aT_of (List.mem_of_getElem? (i := 412) (by decide +kernel)) (by decide +kernel)⟩
theorem okX11_group : aOKi mX11_group 1 := ⟨koX11_group, aT_of (List.mem_of_getElem? (i := 410) (by decide +kernel)) (by decide +kernel), aT_of (List.mem_of_getElem? (i := 411) (by decide +kernel)) (by decide +kernel)⟩
theorem koX11_franking : aOK mX11_franking 2 := ⟨by decide +kernel, by decide +kernel, by decide +kernel, wi_X11, aT_of (List.mem_of_getElem? (i := 496) (by decide +kernel)) (by decide +kernel)⟩
theorem okX11_franking : aOKi mX11_franking 2 := ⟨koX11_franking, aT_of (List.mem_of_getElem? (i := 494) (by decide +kernel)) (by decide +kernel), aT_of (List.mem_of_getElem? (i := 495) (by decide +kernel)) (by decide +kernel)⟩
theorem koX11_run : aOK mX11_run 2 := ⟨by decide +kernel, by decide +kernel, by decide +kernel, wi_X11, aT_of (List.mem_of_getElem? (i := 526) (by decide +kernel)) (by decide +kernel)⟩
theorem okX11_run : aOKi mX11_run 2 := ⟨koX11_run, aT_of (List.mem_of_getElem? (i := 524) (by decide +kernel)) (by decide +kernel), aT_of (List.mem_of_getElem? (i := 525) (by decide +kernel)) (by decide +kernel)⟩
theorem koX11_checkRun : aOK mX11_checkRun 1 := ⟨by decide +kernel, by decide +kernel, by decide +kernel, wi_X11, aT_of (List.mem_of_getElem? (i := 732) (by decide +kernel)) (by decide +kernel)⟩
theorem okX11_checkRun : aOKi mX11_checkRun 1 := ⟨koX11_checkRun, aT_of (List.mem_of_getElem? (i := 731) (by decide +kernel)) (by decide +kernel), aT_of (List.mem_of_getElem? (i := 29) (by decide +kernel)) (by decide +kernel)⟩
theorem koX11_countLetters : aOK mX11_countLetters 1 := ⟨by decide +kernel, by decide +kernel, by decide +kernel, wi_X11, aT_of (List.mem_of_getElem? (i := 737) (by decide +kernel)) (by decide +kernel)⟩
theorem okX11_countLetters : aOKi mX11_countLetters 1 := ⟨koX11_countLetters, aT_of (List.mem_of_getElem? (i := 736) (by decide +kernel)) (by decide +kernel), aT_of (List.mem_of_getElem? (i := 30) (by decide +kernel)) (by decide +kernel)⟩
theorem koX11_letters : aOK mX11_letters 1 := ⟨by decide +kernel, by decide +kernel, by decide +kernel, wi_X11, aT_of (List.mem_of_getElem? (i := 979) (by decide +kernel)) (by decide +kernel)⟩
theorem okX11_letters : aOKi mX11_letters 1 := ⟨koX11_letters, aT_of (List.mem_of_getElem? (i := 977) (by decide +kernel)) (by decide +kernel), aT_of (List.mem_of_getElem? (i := 978) (by decide +kernel)) (by decide +kernel)⟩
theorem koX11_checkLetter : aOK mX11_checkLetter 2 := ⟨by decide +kernel, by decide +kernel, by decide +kernel, wi_X11, aT_of (List.mem_of_getElem? (i := 728) (by decide +kernel)) (by decide +kernel)⟩
theorem okX11_checkLetter : aOKi mX11_checkLetter 2 := ⟨koX11_checkLetter, aT_of (List.mem_of_getElem? (i := 727) (by decide +kernel)) (by decide +kernel), aT_of (List.mem_of_getElem? (i := 28) (by decide +kernel)) (by decide +kernel)⟩
theorem koX11_compose : aOK mX11_compose 2 := ⟨by decide +kernel, by decide +kernel, by decide +kernel, wi_X11, aT_of (List.mem_of_getElem? (i := 760) (by decide +kernel)) (by decide +kernel)⟩
theorem okX11_compose : aOKi mX11_compose 2 := ⟨koX11_compose, aT_of (List.mem_of_getElem? (i := 759) (by decide +kernel)) (by decide +kernel), aT_of (List.mem_of_getElem? (i := 35) (by decide +kernel)) (by decide +kernel)⟩
theorem koX11_findLetter : aOK mX11_findLetter 2 := ⟨by decide +kernel, by decide +kernel, by decide +kernel, wi_X11, aT_of (List.mem_of_getElem? (i := 752) (by decide +kernel)) (by decide +kernel)⟩
theorem okX11_findLetter : aOKi mX11_findLetter 2 := ⟨koX11_findLetter, aT_of (List.mem_of_getElem? (i := 751) (by decide +kernel)) (by decide +kernel), aT_of (List.mem_of_getElem? (i := 33) (by decide +kernel)) (by decide +kernel)⟩
theorem koX11_letter : aOK mX11_letter 3 := ⟨by decide +kernel, by decide +kernel, by decide +kernel, wi_X11, aT_of (List.mem_of_getElem? (i := 724) (by decide +kernel)) (by decide +kernel)⟩
theorem okX11_letter : aOKi mX11_letter 3 := ⟨koX11_letter, aT_of (List.mem_of_getElem? (i := 722) (by decide +kernel)) (by decide +kernel), aT_of (List.mem_of_getElem? (i := 723) (by decide +kernel)) (by decide +kernel)⟩
theorem koX11_sign : aOK mX11_sign 3 := ⟨by decide +kernel, by decide +kernel, by decide +kernel, wi_X11, aT_of (List.mem_of_getElem? (i := 936) (by decide +kernel)) (by decide +kernel)⟩
theorem okX11_sign : aOKi mX11_sign 3 := ⟨koX11_sign, aT_of (List.mem_of_getElem? (i := 934) (by decide +kernel)) (by decide +kernel), aT_of (List.mem_of_getElem? (i := 935) (by decide +kernel)) (by decide +kernel)⟩
theorem koX11_anew : aOK mX11_anew 2 := ⟨by decide +kernel, by decide +kernel, by decide +kernel, wi_X11, aT_of (List.mem_of_getElem? (i := 957) (by decide +kernel)) (by decide +kernel)⟩
theorem okX11_anew : aOKi mX11_anew 2 := ⟨koX11_anew, aT_of (List.mem_of_getElem? (i := 955) (by decide +kernel)) (by decide +kernel), aT_of (List.mem_of_getElem? (i := 956) (by decide +kernel)) (by decide +kernel)⟩
theorem koX11_trouble : aOK mX11_trouble 4 := ⟨by decide +kernel, by decide +kernel, by decide +kernel, wi_X11, aT_of (List.mem_of_getElem? (i := 966) (by decide +kernel)) (by decide +kernel)⟩
theorem okX11_trouble : aOKi mX11_trouble 4 := ⟨koX11_trouble, aT_of (List.mem_of_getElem? (i := 964) (by decide +kernel)) (by decide +kernel), aT_of (List.mem_of_getElem? (i := 965) (by decide +kernel)) (by decide +kernel)⟩
theorem koX11_pay : aOK mX11_pay 1 := ⟨by decide +kernel, by decide +kernel, by decide +kernel, wi_X11, aT_of (List.mem_of_getElem? (i := 1005) (by decide +kernel)) (by decide +kernel)⟩
theorem okX11_pay : aOKi mX11_pay 1 := ⟨koX11_pay, aT_of (List.mem_of_getElem? (i := 1004) (by decide +kernel)) (by decide +kernel), aT_of (List.mem_of_getElem? (i := 59) (by decide +kernel)) (by decide +kernel)⟩
theorem koX11_post : aOK mX11_post 1 := ⟨by decide +kernel, by decide +kernel, by decide +kernel, wi_X11, aT_of (List.mem_of_getElem? (i := 983) (by decide +kernel)) (by decide +kernel)⟩
theorem okX11_post : aOKi mX11_post 1 := ⟨koX11_post, aT_of (List.mem_of_getElem? (i := 981) (by decide +kernel)) (by decide +kernel), aT_of (List.mem_of_getElem? (i := 982) (by decide +kernel)) (by decide +kernel)⟩
theorem koX11_spent : aOK mX11_spent 0 := ⟨by decide +kernel, by decide +kernel, by decide +kernel, wi_X11, aT_of (List.mem_of_getElem? (i := 552) (by decide +kernel)) (by decide +kernel)⟩
theorem okX11_spent : aOKi mX11_spent 0 := ⟨koX11_spent, aT_of (List.mem_of_getElem? (i := 550) (by decide +kernel)) (by decide +kernel), aT_of (List.mem_of_getElem? (i := 551) (by decide +kernel)) (by decide +kernel)⟩
theorem koX11_reasons : aOK mX11_reasons 1 := ⟨by decide +kernel, by decide +kernel, by decide +kernel, wi_X11, aT_of (List.mem_of_getElem? (i := 711) (by decide +kernel)) (by decide +kernel)⟩
theorem okX11_reasons : aOKi mX11_reasons 1 := ⟨koX11_reasons, aT_of (List.mem_of_getElem? (i := 709) (by decide +kernel)) (by decide +kernel), aT_of (List.mem_of_getElem? (i := 710) (by decide +kernel)) (by decide +kernel)⟩
theorem koJ9_max_7cf53 : aOK mJ9_max_7cf53 2 := ⟨by decide +kernel, by decide +kernel, by decide +kernel, wi_J9, aT_of (List.mem_of_getElem? (i := 590) (by decide +kernel)) (by decide +kernel)⟩
theorem okJ9_max_7cf53 : aOKs mJ9_max_7cf53 2 := ⟨koJ9_max_7cf53, aT_of (List.mem_of_getElem? (i := 589) (by decide +kernel)) (by decide +kernel)⟩
theorem koJ9_min_7cf53 : aOK mJ9_min_7cf53 2 := ⟨by decide +kernel, by decide +kernel, by decide +kernel, wi_J9, aT_of (List.mem_of_getElem? (i := 597) (by decide +kernel)) (by decide +kernel)⟩
theorem okJ9_min_7cf53 : aOKs mJ9_min_7cf53 2 := ⟨koJ9_min_7cf53, aT_of (List.mem_of_getElem? (i := 596) (by decide +kernel)) (by decide +kernel)⟩
theorem koL_cell : aOK mL_cell 2 := ⟨by decide +kernel, by decide +kernel, by decide +kernel, wi_L, aT_of (List.mem_of_getElem? (i := 555) (by decide +kernel)) (by decide +kernel)⟩
theorem okL_cell : aOKs mL_cell 2 := ⟨koL_cell, aT_of (List.mem_of_getElem? (i := 554) (by decide +kernel)) (by decide +kernel)⟩
theorem koL_low : aOK mL_low 2 := ⟨by decide +kernel, by decide +kernel, by decide +kernel, wi_L, aT_of (List.mem_of_getElem? (i := 560) (by decide +kernel)) (by decide +kernel)⟩
theorem okL_low : aOKs mL_low 2 := ⟨koL_low, aT_of (List.mem_of_getElem? (i := 559) (by decide +kernel)) (by decide +kernel)⟩
theorem koL_types : aOK mL_types 7 := ⟨by decide +kernel, by decide +kernel, by decide +kernel, wi_L, aT_of (List.mem_of_getElem? (i := 620) (by decide +kernel)) (by decide +kernel)⟩
theorem okL_types : aOKs mL_types 7 := ⟨koL_types, aT_of (List.mem_of_getElem? (i := 619) (by decide +kernel)) (by decide +kernel)⟩
theorem koL_adds : aOK mL_adds 4 := ⟨by decide +kernel, by decide +kernel, by decide +kernel, wi_L, aT_of (List.mem_of_getElem? (i := 617) (by decide +kernel)) (by decide +kernel)⟩
theorem okL_adds : aOKs mL_adds 4 := ⟨koL_adds, aT_of (List.mem_of_getElem? (i := 616) (by decide +kernel)) (by decide +kernel)⟩
theorem koL_groups : aOK mL_groups 3 := ⟨by decide +kernel, by decide +kernel, by decide +kernel, wi_L, aT_of (List.mem_of_getElem? (i := 714) (by decide +kernel)) (by decide +kernel)⟩
theorem okL_groups : aOKs mL_groups 3 := ⟨koL_groups, aT_of (List.mem_of_getElem? (i := 713) (by decide +kernel)) (by decide +kernel)⟩
theorem koL_says : aOK mL_says 5 := ⟨by decide +kernel, by decide +kernel, by decide +kernel, wi_L, aT_of (List.mem_of_getElem? (i := 932) (by decide +kernel)) (by decide +kernel)⟩
theorem okL_says : aOKs mL_says 5 := ⟨koL_says, aT_of (List.mem_of_getElem? (i := 931) (by decide +kernel)) (by decide +kernel)⟩
theorem koL_tells : aOK mL_tells 5 := ⟨by decide +kernel, by decide +kernel, by decide +kernel, wi_L, aT_of (List.mem_of_getElem? (i := 941) (by decide +kernel)) (by decide +kernel)⟩
theorem okL_tells : aOKs mL_tells 5 := ⟨koL_tells, aT_of (List.mem_of_getElem? (i := 940) (by decide +kernel)) (by decide +kernel)⟩
theorem koL_first : aOK mL_first 1 := ⟨by decide +kernel, by decide +kernel, by decide +kernel, wi_L, aT_of (List.mem_of_getElem? (i := 720) (by decide +kernel)) (by decide +kernel)⟩
theorem okL_first : aOKs mL_first 1 := ⟨koL_first, aT_of (List.mem_of_getElem? (i := 719) (by decide +kernel)) (by decide +kernel)⟩
theorem koL_many : aOK mL_many 1 := ⟨by decide +kernel, by decide +kernel, by decide +kernel, wi_L, aT_of (List.mem_of_getElem? (i := 947) (by decide +kernel)) (by decide +kernel)⟩
theorem okL_many : aOKs mL_many 1 := ⟨koL_many, aT_of (List.mem_of_getElem? (i := 946) (by decide +kernel)) (by decide +kernel)⟩
theorem koL_points : aOK mL_points 2 := ⟨by decide +kernel, by decide +kernel, by decide +kernel, wi_L, aT_of (List.mem_of_getElem? (i := 944) (by decide +kernel)) (by decide +kernel)⟩
theorem okL_points : aOKs mL_points 2 := ⟨koL_points, aT_of (List.mem_of_getElem? (i := 943) (by decide +kernel)) (by decide +kernel)⟩
theorem koL_all : aOK mL_all 6 := ⟨by decide +kernel, by decide +kernel, by decide +kernel, wi_L, aT_of (List.mem_of_getElem? (i := 929) (by decide +kernel)) (by decide +kernel)⟩
theorem okL_all : aOKs mL_all 6 := ⟨koL_all, aT_of (List.mem_of_getElem? (i := 928) (by decide +kernel)) (by decide +kernel)⟩
theorem koL_some : aOK mL_some 6 := ⟨by decide +kernel, by decide +kernel, by decide +kernel, wi_L, aT_of (List.mem_of_getElem? (i := 950) (by decide +kernel)) (by decide +kernel)⟩
theorem okL_some : aOKs mL_some 6 := ⟨koL_some, aT_of (List.mem_of_getElem? (i := 949) (by decide +kernel)) (by decide +kernel)⟩
theorem koL_text : aOK mL_text 7 := ⟨by decide +kernel, by decide +kernel, by decide +kernel, wi_L, aT_of (List.mem_of_getElem? (i := 926) (by decide +kernel)) (by decide +kernel)⟩
theorem okL_text : aOKs mL_text 7 := ⟨koL_text, aT_of (List.mem_of_getElem? (i := 925) (by decide +kernel)) (by decide +kernel)⟩
theorem koL_cost : aOK mL_cost 4 := ⟨by decide +kernel, by decide +kernel, by decide +kernel, wi_L, aT_of (List.mem_of_getElem? (i := 953) (by decide +kernel)) (by decide +kernel)⟩
theorem okL_cost : aOKs mL_cost 4 := ⟨koL_cost, aT_of (List.mem_of_getElem? (i := 952) (by decide +kernel)) (by decide +kernel)⟩
theorem koL_spread : aOK mL_spread 4 := ⟨by decide +kernel, by decide +kernel, by decide +kernel, wi_L, aT_of (List.mem_of_getElem? (i := 1009) (by decide +kernel)) (by decide +kernel)⟩
theorem okL_spread : aOKs mL_spread 4 := ⟨koL_spread, aT_of (List.mem_of_getElem? (i := 1008) (by decide +kernel)) (by decide +kernel)⟩
theorem koL_letters : aOK mL_letters 8 := ⟨by decide +kernel, by decide +kernel, by decide +kernel, wi_L, aT_of (List.mem_of_getElem? (i := 717) (by decide +kernel)) (by decide +kernel)⟩
theorem okL_letters : aOKs mL_letters 8 := ⟨koL_letters, aT_of (List.mem_of_getElem? (i := 716) (by decide +kernel)) (by decide +kernel)⟩
theorem koL_templates : aOK mL_templates 1 := ⟨by decide +kernel, by decide +kernel, by decide +kernel, wi_L, aT_of (List.mem_of_getElem? (i := 1012) (by decide +kernel)) (by decide +kernel)⟩
theorem okL_templates : aOKs mL_templates 1 := ⟨koL_templates, aT_of (List.mem_of_getElem? (i := 1011) (by decide +kernel)) (by decide +kernel)⟩
theorem mlX11_3 : Cond.methodLink RX11 3 ⟨"java/lang/Object", "<init>", "()V"⟩ ∈ aT := aT_of (List.mem_of_getElem? (i := 101) (by decide +kernel)) (by decide +kernel)
theorem mlX11_11 : Cond.methodLinkNest RX11 11 yX6_init "MergePost" ∈ aN := aN_of (List.mem_of_getElem? (i := 36) (by decide +kernel)) (by decide +kernel)
theorem mlX11_18 : Cond.methodLinkNest RX11 18 yX7_init "MergePost" ∈ aN := aN_of (List.mem_of_getElem? (i := 73) (by decide +kernel)) (by decide +kernel)
theorem mlX11_25 : Cond.methodLinkNest RX11 25 yX1_init "MergePost" ∈ aN := aN_of (List.mem_of_getElem? (i := 194) (by decide +kernel)) (by decide +kernel)
theorem mlX11_32 : Cond.methodLinkNest RX11 32 yX5_init "MergePost" ∈ aN := aN_of (List.mem_of_getElem? (i := 263) (by decide +kernel)) (by decide +kernel)
theorem mlX11_39 : Cond.methodLinkNest RX11 39 yX2_init "MergePost" ∈ aN := aN_of (List.mem_of_getElem? (i := 273) (by decide +kernel)) (by decide +kernel)
theorem mlX11_50 : Cond.methodLinkNest RX11 50 yX8_init "MergePost" ∈ aN := aN_of (List.mem_of_getElem? (i := 289) (by decide +kernel)) (by decide +kernel)
theorem mlX11_51 : Cond.methodLink RX11 51 yX11_countSigns ∈ aT := aT_of (List.mem_of_getElem? (i := 628) (by decide +kernel)) (by decide +kernel)
theorem mlX11_59 : Cond.methodLink RX11 59 ⟨"java/lang/IllegalArgumentException", "<init>", "(Ljava/lang/String;)V"⟩ ∈ aT := aT_of (List.mem_of_getElem? (i := 508) (by decide +kernel)) (by decide +kernel)
theorem mlX11_76 : Cond.methodLink RX11 76 ⟨"java/lang/IllegalStateException", "<init>", "(Ljava/lang/String;)V"⟩ ∈ aT := aT_of (List.mem_of_getElem? (i := 543) (by decide +kernel)) (by decide +kernel)
theorem mlX11_77 : Cond.methodLink RX11 77 yX11_signOf ∈ aT := aT_of (List.mem_of_getElem? (i := 631) (by decide +kernel)) (by decide +kernel)
theorem mlX11_81 : Cond.methodLinkNest RX11 81 yX9_add "MergePost" ∈ aN := aN_of (List.mem_of_getElem? (i := 567) (by decide +kernel)) (by decide +kernel)
theorem mlX11_85 : Cond.methodLink RX11 85 yX11_checkTemplate ∈ aT := aT_of (List.mem_of_getElem? (i := 527) (by decide +kernel)) (by decide +kernel)
theorem mlX11_89 : Cond.methodLinkNest RX11 89 yX7_readTemplate "MergePost" ∈ aN := aN_of (List.mem_of_getElem? (i := 950) (by decide +kernel)) (by decide +kernel)
theorem mlX11_96 : Cond.methodLinkNest RX11 96 yX6_clear "MergePost" ∈ aN := aN_of (List.mem_of_getElem? (i := 630) (by decide +kernel)) (by decide +kernel)
theorem mlX11_106 : Cond.methodLink RX11 106 ⟨"java/lang/IndexOutOfBoundsException", "<init>", "(Ljava/lang/String;)V"⟩ ∈ aT := aT_of (List.mem_of_getElem? (i := 459) (by decide +kernel)) (by decide +kernel)
theorem mlX11_107 : Cond.methodLinkNest RX11 107 yX1_hasMatch "MergePost" ∈ aN := aN_of (List.mem_of_getElem? (i := 575) (by decide +kernel)) (by decide +kernel)
theorem mlX11_113 : Cond.methodLinkNest RX11 113 yX1_readAddress "MergePost" ∈ aN := aN_of (List.mem_of_getElem? (i := 580) (by decide +kernel)) (by decide +kernel)
theorem mlX11_116 : Cond.methodLink RX11 116 yX11_checkAddress ∈ aT := aT_of (List.mem_of_getElem? (i := 413) (by decide +kernel)) (by decide +kernel)
theorem mlX11_131 : Cond.methodLinkNest RX11 131 yX9_signAt "MergePost" ∈ aN := aN_of (List.mem_of_getElem? (i := 868) (by decide +kernel)) (by decide +kernel)
theorem mlX11_139 : Cond.methodLinkNest RX11 139 yX5_likenessOf "MergePost" ∈ aN := aN_of (List.mem_of_getElem? (i := 509) (by decide +kernel)) (by decide +kernel)
theorem mlX11_150 : Cond.methodLinkNest RX11 150 yX1_areMatched "MergePost" ∈ aN := aN_of (List.mem_of_getElem? (i := 501) (by decide +kernel)) (by decide +kernel)
theorem mlX11_154 : Cond.methodLink RX11 154 yX11_canBeMatched ∈ aT := aT_of (List.mem_of_getElem? (i := 575) (by decide +kernel)) (by decide +kernel)
theorem mlX11_159 : Cond.methodLinkNest RX11 159 yX1_turnMatch "MergePost" ∈ aN := aN_of (List.mem_of_getElem? (i := 541) (by decide +kernel)) (by decide +kernel)
theorem mlX11_163 : Cond.methodLinkNest RX11 163 yX1_groupOf "MergePost" ∈ aN := aN_of (List.mem_of_getElem? (i := 415) (by decide +kernel)) (by decide +kernel)
theorem mlX11_176 : Cond.methodLinkNest RX11 176 yX2_weightOf "MergePost" ∈ aN := aN_of (List.mem_of_getElem? (i := 444) (by decide +kernel)) (by decide +kernel)
theorem mlX11_180 : Cond.methodLinkNest RX11 180 yX2_costOf "MergePost" ∈ aN := aN_of (List.mem_of_getElem? (i := 448) (by decide +kernel)) (by decide +kernel)
theorem mlX11_196 : Cond.methodLink RX11 196 yX11_checkRun ∈ aT := aT_of (List.mem_of_getElem? (i := 729) (by decide +kernel)) (by decide +kernel)
theorem mlX11_199 : Cond.methodLink RX11 199 yX11_countLetters ∈ aT := aT_of (List.mem_of_getElem? (i := 734) (by decide +kernel)) (by decide +kernel)
theorem mlX11_203 : Cond.methodLink RX11 203 yX11_checkLetter ∈ aT := aT_of (List.mem_of_getElem? (i := 725) (by decide +kernel)) (by decide +kernel)
theorem mlX11_208 : Cond.methodLink RX11 208 yX11_findLetter ∈ aT := aT_of (List.mem_of_getElem? (i := 749) (by decide +kernel)) (by decide +kernel)
theorem mlX11_229 : Cond.methodLink RX11 229 yX11_compose ∈ aT := aT_of (List.mem_of_getElem? (i := 757) (by decide +kernel)) (by decide +kernel)
theorem mlX11_233 : Cond.methodLinkNest RX11 233 yX9_unlikeSigns "MergePost" ∈ aN := aN_of (List.mem_of_getElem? (i := 888) (by decide +kernel)) (by decide +kernel)
theorem mlX11_239 : Cond.methodLinkNest RX11 239 yX7_placeAt "MergePost" ∈ aN := aN_of (List.mem_of_getElem? (i := 898) (by decide +kernel)) (by decide +kernel)
theorem mlX11_242 : Cond.methodLinkNest RX11 242 yX7_templateAt "MergePost" ∈ aN := aN_of (List.mem_of_getElem? (i := 902) (by decide +kernel)) (by decide +kernel)
theorem mlX11_251 : Cond.methodLinkNest RX11 251 yX1_listDue "MergePost" ∈ aN := aN_of (List.mem_of_getElem? (i := 668) (by decide +kernel)) (by decide +kernel)
theorem mlX11_254 : Cond.methodLinkNest RX11 254 yX1_dueAt "MergePost" ∈ aN := aN_of (List.mem_of_getElem? (i := 683) (by decide +kernel)) (by decide +kernel)
theorem mlX11_257 : Cond.methodLinkNest RX11 257 yX8_keep "MergePost" ∈ aN := aN_of (List.mem_of_getElem? (i := 915) (by decide +kernel)) (by decide +kernel)
theorem mlX11_261 : Cond.methodLinkNest RX11 261 yX1_notePosted "MergePost" ∈ aN := aN_of (List.mem_of_getElem? (i := 928) (by decide +kernel)) (by decide +kernel)
theorem mlX11_264 : Cond.methodLink RX11 264 yX11_pay ∈ aT := aT_of (List.mem_of_getElem? (i := 1002) (by decide +kernel)) (by decide +kernel)
theorem mlX11_288 : Cond.methodLinkNest RX11 288 yX3_gather "MergePost" ∈ aN := aN_of (List.mem_of_getElem? (i := 691) (by decide +kernel)) (by decide +kernel)
theorem mlX11_294 : Cond.methodLinkNest RX11 294 yX7_write "MergePost" ∈ aN := aN_of (List.mem_of_getElem? (i := 711) (by decide +kernel)) (by decide +kernel)
theorem mlX11_304 : Cond.methodLinkNest RX11 304 yX7_blameWhole "MergePost" ∈ aN := aN_of (List.mem_of_getElem? (i := 853) (by decide +kernel)) (by decide +kernel)
theorem mlX0_3 : Cond.methodLink RX0 3 ⟨"java/lang/Object", "<init>", "()V"⟩ ∈ aT := aT_of (List.mem_of_getElem? (i := 274) (by decide +kernel)) (by decide +kernel)
theorem mlX0_11 : Cond.methodLinkNest RX0 11 yX9_init "MergePost" ∈ aN := aN_of (List.mem_of_getElem? (i := 206) (by decide +kernel)) (by decide +kernel)
theorem mlX0_35 : Cond.methodLinkNest RX0 35 yX6_takeWord "MergePost" ∈ aN := aN_of (List.mem_of_getElem? (i := 588) (by decide +kernel)) (by decide +kernel)
theorem mlX0_39 : Cond.methodLinkNest RX0 39 yX6_take "MergePost" ∈ aN := aN_of (List.mem_of_getElem? (i := 602) (by decide +kernel)) (by decide +kernel)
theorem mlX0_43 : Cond.methodLink RX0 43 yX0_readNumbers ∈ aT := aT_of (List.mem_of_getElem? (i := 680) (by decide +kernel)) (by decide +kernel)
theorem mlX0_47 : Cond.methodLinkNest RX0 47 yX6_atEnd "MergePost" ∈ aN := aN_of (List.mem_of_getElem? (i := 621) (by decide +kernel)) (by decide +kernel)
theorem mlX0_51 : Cond.methodLinkNest RX0 51 yX9_becomeCleaned "MergePost" ∈ aN := aN_of (List.mem_of_getElem? (i := 622) (by decide +kernel)) (by decide +kernel)
theorem mlX0_55 : Cond.methodLinkNest RX0 55 yX6_takeNumber "MergePost" ∈ aN := aN_of (List.mem_of_getElem? (i := 614) (by decide +kernel)) (by decide +kernel)
theorem mlX1_3 : Cond.methodLink RX1 3 ⟨"java/lang/Object", "<init>", "()V"⟩ ∈ aT := aT_of (List.mem_of_getElem? (i := 267) (by decide +kernel)) (by decide +kernel)
theorem mlX1_17 : Cond.methodLinkNest RX1 17 yX0_init "MergePost" ∈ aN := aN_of (List.mem_of_getElem? (i := 201) (by decide +kernel)) (by decide +kernel)
theorem mlX1_32 : Cond.methodLinkNest RX1 32 yX0_read "MergePost" ∈ aN := aN_of (List.mem_of_getElem? (i := 584) (by decide +kernel)) (by decide +kernel)
theorem mlX1_40 : Cond.methodLink RX1 40 yJ9_max_7cf53 ∈ aT := aT_of (List.mem_of_getElem? (i := 699) (by decide +kernel)) (by decide +kernel)
theorem mlX1_46 : Cond.methodLink RX1 46 yX1_matchesOf ∈ aT := aT_of (List.mem_of_getElem? (i := 489) (by decide +kernel)) (by decide +kernel)
theorem mlX1_50 : Cond.methodLink RX1 50 yX1_groupOf ∈ aT := aT_of (List.mem_of_getElem? (i := 742) (by decide +kernel)) (by decide +kernel)
theorem mlX1_53 : Cond.methodLink RX1 53 yX1_wasPosted ∈ aT := aT_of (List.mem_of_getElem? (i := 743) (by decide +kernel)) (by decide +kernel)
theorem mlX2_3 : Cond.methodLink RX2 3 ⟨"java/lang/Object", "<init>", "()V"⟩ ∈ aT := aT_of (List.mem_of_getElem? (i := 346) (by decide +kernel)) (by decide +kernel)
theorem mlX3_3 : Cond.methodLink RX3 3 ⟨"java/lang/Object", "<init>", "()V"⟩ ∈ aT := aT_of (List.mem_of_getElem? (i := 180) (by decide +kernel)) (by decide +kernel)
theorem mlX3_21 : Cond.methodLinkNest RX3 21 yX9_init "MergePost" ∈ aN := aN_of (List.mem_of_getElem? (i := 113) (by decide +kernel)) (by decide +kernel)
theorem mlX3_28 : Cond.methodLinkNest RX3 28 yX9_add "MergePost" ∈ aN := aN_of (List.mem_of_getElem? (i := 114) (by decide +kernel)) (by decide +kernel)
theorem mlX3_42 : Cond.methodLink RX3 42 yX3_addMember ∈ aT := aT_of (List.mem_of_getElem? (i := 765) (by decide +kernel)) (by decide +kernel)
theorem mlX3_46 : Cond.methodLinkNest RX3 46 yX9_addNumber "MergePost" ∈ aN := aN_of (List.mem_of_getElem? (i := 707) (by decide +kernel)) (by decide +kernel)
theorem mlX3_54 : Cond.methodLinkNest RX3 54 yX9_addAll "MergePost" ∈ aN := aN_of (List.mem_of_getElem? (i := 699) (by decide +kernel)) (by decide +kernel)
theorem mlX4_3 : Cond.methodLink RX4 3 ⟨"java/lang/Object", "<init>", "()V"⟩ ∈ aT := aT_of (List.mem_of_getElem? (i := 206) (by decide +kernel)) (by decide +kernel)
theorem mlX4_11 : Cond.methodLinkNest RX4 11 yX9_init "MergePost" ∈ aN := aN_of (List.mem_of_getElem? (i := 138) (by decide +kernel)) (by decide +kernel)
theorem mlX4_20 : Cond.methodLinkNest RX4 20 yX9_become "MergePost" ∈ aN := aN_of (List.mem_of_getElem? (i := 923) (by decide +kernel)) (by decide +kernel)
theorem mlX5_3 : Cond.methodLink RX5 3 ⟨"java/lang/Object", "<init>", "()V"⟩ ∈ aT := aT_of (List.mem_of_getElem? (i := 336) (by decide +kernel)) (by decide +kernel)
theorem mlX5_21 : Cond.methodLink RX5 21 yJ9_min_7cf53 ∈ aT := aT_of (List.mem_of_getElem? (i := 595) (by decide +kernel)) (by decide +kernel)
theorem mlX5_27 : Cond.methodLinkNest RX5 27 yX9_signAt "MergePost" ∈ aN := aN_of (List.mem_of_getElem? (i := 528) (by decide +kernel)) (by decide +kernel)
theorem mlX5_31 : Cond.methodLink RX5 31 yX5_readSign ∈ aT := aT_of (List.mem_of_getElem? (i := 602) (by decide +kernel)) (by decide +kernel)
theorem mlX5_35 : Cond.methodLink RX5 35 yJ9_max_7cf53 ∈ aT := aT_of (List.mem_of_getElem? (i := 588) (by decide +kernel)) (by decide +kernel)
theorem mlX5_38 : Cond.methodLink RX5 38 yX5_distance ∈ aT := aT_of (List.mem_of_getElem? (i := 591) (by decide +kernel)) (by decide +kernel)
theorem mlX5_55 : Cond.methodLink RX5 55 yX5_wordLikeness ∈ aT := aT_of (List.mem_of_getElem? (i := 584) (by decide +kernel)) (by decide +kernel)
theorem mlX6_3 : Cond.methodLink RX6 3 ⟨"java/lang/Object", "<init>", "()V"⟩ ∈ aT := aT_of (List.mem_of_getElem? (i := 109) (by decide +kernel)) (by decide +kernel)
theorem mlX6_11 : Cond.methodLinkNest RX6 11 yX9_init "MergePost" ∈ aN := aN_of (List.mem_of_getElem? (i := 42) (by decide +kernel)) (by decide +kernel)
theorem mlX6_27 : Cond.methodLinkNest RX6 27 yX9_signAt "MergePost" ∈ aN := aN_of (List.mem_of_getElem? (i := 600) (by decide +kernel)) (by decide +kernel)
theorem mlX6_31 : Cond.methodLink RX6 31 yX6_atEnd ∈ aT := aT_of (List.mem_of_getElem? (i := 662) (by decide +kernel)) (by decide +kernel)
theorem mlX6_35 : Cond.methodLink RX6 35 yX6_here ∈ aT := aT_of (List.mem_of_getElem? (i := 666) (by decide +kernel)) (by decide +kernel)
theorem mlX6_39 : Cond.methodLink RX6 39 yX6_takeIf ∈ aT := aT_of (List.mem_of_getElem? (i := 676) (by decide +kernel)) (by decide +kernel)
theorem mlX6_43 : Cond.methodLinkNest RX6 43 yX11_isDigit "MergePost" ∈ aN := aN_of (List.mem_of_getElem? (i := 618) (by decide +kernel)) (by decide +kernel)
theorem mlX6_49 : Cond.methodLink RX6 49 yJ0_indexOf_0f7a4 ∈ aT := aT_of (List.mem_of_getElem? (i := 1040) (by decide +kernel)) (by decide +kernel)
theorem mlX6_55 : Cond.methodLinkNest RX6 55 yX9_add "MergePost" ∈ aN := aN_of (List.mem_of_getElem? (i := 601) (by decide +kernel)) (by decide +kernel)
theorem mlX7_3 : Cond.methodLink RX7 3 ⟨"java/lang/Object", "<init>", "()V"⟩ ∈ aT := aT_of (List.mem_of_getElem? (i := 146) (by decide +kernel)) (by decide +kernel)
theorem mlX7_17 : Cond.methodLinkNest RX7 17 yX10_init "MergePost" ∈ aN := aN_of (List.mem_of_getElem? (i := 80) (by decide +kernel)) (by decide +kernel)
theorem mlX7_24 : Cond.methodLinkNest RX7 24 yX3_init "MergePost" ∈ aN := aN_of (List.mem_of_getElem? (i := 107) (by decide +kernel)) (by decide +kernel)
theorem mlX7_31 : Cond.methodLinkNest RX7 31 yX4_init "MergePost" ∈ aN := aN_of (List.mem_of_getElem? (i := 133) (by decide +kernel)) (by decide +kernel)
theorem mlX7_46 : Cond.methodLinkNest RX7 46 yX10_read "MergePost" ∈ aN := aN_of (List.mem_of_getElem? (i := 954) (by decide +kernel)) (by decide +kernel)
theorem mlX7_70 : Cond.methodLink RX7 70 yX7_isTold ∈ aT := aT_of (List.mem_of_getElem? (i := 785) (by decide +kernel)) (by decide +kernel)
theorem mlX7_74 : Cond.methodLink RX7 74 yX7_blameWhole ∈ aT := aT_of (List.mem_of_getElem? (i := 789) (by decide +kernel)) (by decide +kernel)
theorem mlX7_78 : Cond.methodLink RX7 78 yX7_open ∈ aT := aT_of (List.mem_of_getElem? (i := 793) (by decide +kernel)) (by decide +kernel)
theorem mlX7_83 : Cond.methodLink RX7 83 yX7_writePart ∈ aT := aT_of (List.mem_of_getElem? (i := 798) (by decide +kernel)) (by decide +kernel)
theorem mlX7_93 : Cond.methodLinkNest RX7 93 yX9_signAt "MergePost" ∈ aN := aN_of (List.mem_of_getElem? (i := 732) (by decide +kernel)) (by decide +kernel)
theorem mlX7_97 : Cond.methodLink RX7 97 yX7_close ∈ aT := aT_of (List.mem_of_getElem? (i := 803) (by decide +kernel)) (by decide +kernel)
theorem mlX7_100 : Cond.methodLink RX7 100 yX7_enter ∈ aT := aT_of (List.mem_of_getElem? (i := 810) (by decide +kernel)) (by decide +kernel)
theorem mlX7_103 : Cond.methodLink RX7 103 yX7_writeField ∈ aT := aT_of (List.mem_of_getElem? (i := 814) (by decide +kernel)) (by decide +kernel)
theorem mlX7_107 : Cond.methodLink RX7 107 yX7_choose ∈ aT := aT_of (List.mem_of_getElem? (i := 906) (by decide +kernel)) (by decide +kernel)
theorem mlX7_111 : Cond.methodLinkNest RX7 111 yX10_jumpAt "MergePost" ∈ aN := aN_of (List.mem_of_getElem? (i := 844) (by decide +kernel)) (by decide +kernel)
theorem mlX7_115 : Cond.methodLink RX7 115 yX7_writeSign ∈ aT := aT_of (List.mem_of_getElem? (i := 918) (by decide +kernel)) (by decide +kernel)
theorem mlX7_118 : Cond.methodLink RX7 118 yX7_silentBit ∈ aT := aT_of (List.mem_of_getElem? (i := 807) (by decide +kernel)) (by decide +kernel)
theorem mlX7_124 : Cond.methodLink RX7 124 yJ0_indexOf_0f7a4 ∈ aT := aT_of (List.mem_of_getElem? (i := 819) (by decide +kernel)) (by decide +kernel)
theorem mlX7_129 : Cond.methodLinkNest RX7 129 yX11_isDigit "MergePost" ∈ aN := aN_of (List.mem_of_getElem? (i := 840) (by decide +kernel)) (by decide +kernel)
theorem mlX7_136 : Cond.methodLink RX7 136 yX7_holds ∈ aT := aT_of (List.mem_of_getElem? (i := 911) (by decide +kernel)) (by decide +kernel)
theorem mlX7_144 : Cond.methodLinkNest RX7 144 yX9_room "MergePost" ∈ aN := aN_of (List.mem_of_getElem? (i := 831) (by decide +kernel)) (by decide +kernel)
theorem mlX7_148 : Cond.methodLinkNest RX7 148 yX9_addAll "MergePost" ∈ aN := aN_of (List.mem_of_getElem? (i := 835) (by decide +kernel)) (by decide +kernel)
theorem mlX7_152 : Cond.methodLinkNest RX7 152 yX9_add "MergePost" ∈ aN := aN_of (List.mem_of_getElem? (i := 852) (by decide +kernel)) (by decide +kernel)
theorem mlX8_3 : Cond.methodLink RX8 3 ⟨"java/lang/Object", "<init>", "()V"⟩ ∈ aT := aT_of (List.mem_of_getElem? (i := 362) (by decide +kernel)) (by decide +kernel)
theorem mlX8_17 : Cond.methodLinkNest RX8 17 yX4_init "MergePost" ∈ aN := aN_of (List.mem_of_getElem? (i := 295) (by decide +kernel)) (by decide +kernel)
theorem mlX8_22 : Cond.methodLinkNest RX8 22 yX4_become "MergePost" ∈ aN := aN_of (List.mem_of_getElem? (i := 919) (by decide +kernel)) (by decide +kernel)
theorem mlX9_1 : Cond.methodLink RX9 1 ⟨"java/lang/Object", "<init>", "()V"⟩ ∈ aT := aT_of (List.mem_of_getElem? (i := 115) (by decide +kernel)) (by decide +kernel)
theorem mlX9_17 : Cond.methodLink RX9 17 yJ9_min_7cf53 ∈ aT := aT_of (List.mem_of_getElem? (i := 773) (by decide +kernel)) (by decide +kernel)
theorem mlX9_23 : Cond.methodLink RX9 23 ⟨"java/lang/System", "arraycopy", "(Ljava/lang/Object;ILjava/lang/Object;II)V"⟩ ∈ aT := aT_of (List.mem_of_getElem? (i := 774) (by decide +kernel)) (by decide +kernel)
theorem mlX9_29 : Cond.methodLink RX9 29 yX9_add ∈ aT := aT_of (List.mem_of_getElem? (i := 697) (by decide +kernel)) (by decide +kernel)
theorem mlX9_33 : Cond.methodLink RX9 33 yX9_addAll ∈ aT := aT_of (List.mem_of_getElem? (i := 997) (by decide +kernel)) (by decide +kernel)
theorem mlX9_37 : Cond.methodLink RX9 37 yX9_signAt ∈ aT := aT_of (List.mem_of_getElem? (i := 696) (by decide +kernel)) (by decide +kernel)
theorem mlX9_41 : Cond.methodLinkNest RX9 41 yX11_isDigit "MergePost" ∈ aN := aN_of (List.mem_of_getElem? (i := 628) (by decide +kernel)) (by decide +kernel)
theorem mlX9_47 : Cond.methodLink RX9 47 yJ9_max_7cf53 ∈ aT := aT_of (List.mem_of_getElem? (i := 962) (by decide +kernel)) (by decide +kernel)
theorem mlX10_3 : Cond.methodLink RX10 3 ⟨"java/lang/Object", "<init>", "()V"⟩ ∈ aT := aT_of (List.mem_of_getElem? (i := 153) (by decide +kernel)) (by decide +kernel)
theorem mlX10_11 : Cond.methodLinkNest RX10 11 yX9_init "MergePost" ∈ aN := aN_of (List.mem_of_getElem? (i := 85) (by decide +kernel)) (by decide +kernel)
theorem mlX10_36 : Cond.methodLinkNest RX10 36 yX6_atEnd "MergePost" ∈ aN := aN_of (List.mem_of_getElem? (i := 958) (by decide +kernel)) (by decide +kernel)
theorem mlX10_40 : Cond.methodLink RX10 40 yX10_readPart ∈ aT := aT_of (List.mem_of_getElem? (i := 1029) (by decide +kernel)) (by decide +kernel)
theorem mlX10_45 : Cond.methodLinkNest RX10 45 yX9_become "MergePost" ∈ aN := aN_of (List.mem_of_getElem? (i := 997) (by decide +kernel)) (by decide +kernel)
theorem mlX10_53 : Cond.methodLinkNest RX10 53 yX6_here "MergePost" ∈ aN := aN_of (List.mem_of_getElem? (i := 963) (by decide +kernel)) (by decide +kernel)
theorem mlX10_57 : Cond.methodLinkNest RX10 57 yX6_take "MergePost" ∈ aN := aN_of (List.mem_of_getElem? (i := 964) (by decide +kernel)) (by decide +kernel)
theorem mlX10_61 : Cond.methodLinkNest RX10 61 yX6_takeField "MergePost" ∈ aN := aN_of (List.mem_of_getElem? (i := 965) (by decide +kernel)) (by decide +kernel)
theorem mlX10_64 : Cond.methodLinkNest RX10 64 yX6_takeDigit "MergePost" ∈ aN := aN_of (List.mem_of_getElem? (i := 971) (by decide +kernel)) (by decide +kernel)
theorem mlX10_67 : Cond.methodLink RX10 67 yX10_openChoice ∈ aT := aT_of (List.mem_of_getElem? (i := 1045) (by decide +kernel)) (by decide +kernel)
theorem mlX10_70 : Cond.methodLink RX10 70 yX10_turnChoice ∈ aT := aT_of (List.mem_of_getElem? (i := 1054) (by decide +kernel)) (by decide +kernel)
theorem mlX10_73 : Cond.methodLink RX10 73 yX10_closeChoice ∈ aT := aT_of (List.mem_of_getElem? (i := 1063) (by decide +kernel)) (by decide +kernel)
theorem mlX10_76 : Cond.methodLinkNest RX10 76 yX6_takeRelation "MergePost" ∈ aN := aN_of (List.mem_of_getElem? (i := 979) (by decide +kernel)) (by decide +kernel)
theorem mlX10_79 : Cond.methodLinkNest RX10 79 yX6_takeNumber "MergePost" ∈ aN := aN_of (List.mem_of_getElem? (i := 983) (by decide +kernel)) (by decide +kernel)
theorem mlX10_83 : Cond.methodLink RX10 83 yX10_jumpFromMark ∈ aT := aT_of (List.mem_of_getElem? (i := 1058) (by decide +kernel)) (by decide +kernel)
theorem mlX10_87 : Cond.methodLinkNest RX10 87 yX9_signAt "MergePost" ∈ aN := aN_of (List.mem_of_getElem? (i := 992) (by decide +kernel)) (by decide +kernel)
theorem mlL_10 : Cond.methodLink RL 10 yX11_match ∈ aT := aT_of (List.mem_of_getElem? (i := 567) (by decide +kernel)) (by decide +kernel)
theorem mlL_26 : Cond.methodLink RL 26 yX11_type ∈ aT := aT_of (List.mem_of_getElem? (i := 624) (by decide +kernel)) (by decide +kernel)
theorem mlL_36 : Cond.methodLink RL 36 yL_low ∈ aT := aT_of (List.mem_of_getElem? (i := 558) (by decide +kernel)) (by decide +kernel)
theorem mlL_42 : Cond.methodLink RL 42 yL_types ∈ aT := aT_of (List.mem_of_getElem? (i := 618) (by decide +kernel)) (by decide +kernel)
theorem mlL_46 : Cond.methodLink RL 46 yX11_address ∈ aT := aT_of (List.mem_of_getElem? (i := 641) (by decide +kernel)) (by decide +kernel)
theorem mlL_50 : Cond.methodLink RL 50 yX11_addresses ∈ aT := aT_of (List.mem_of_getElem? (i := 704) (by decide +kernel)) (by decide +kernel)
theorem mlL_54 : Cond.methodLink RL 54 yX11_reasons ∈ aT := aT_of (List.mem_of_getElem? (i := 708) (by decide +kernel)) (by decide +kernel)
theorem mlL_57 : Cond.methodLink RL 57 yX11_sign ∈ aT := aT_of (List.mem_of_getElem? (i := 933) (by decide +kernel)) (by decide +kernel)
theorem mlL_61 : Cond.methodLink RL 61 yL_says ∈ aT := aT_of (List.mem_of_getElem? (i := 930) (by decide +kernel)) (by decide +kernel)
theorem mlL_65 : Cond.methodLink RL 65 yL_first ∈ aT := aT_of (List.mem_of_getElem? (i := 718) (by decide +kernel)) (by decide +kernel)
theorem mlL_68 : Cond.methodLink RL 68 yL_tells ∈ aT := aT_of (List.mem_of_getElem? (i := 939) (by decide +kernel)) (by decide +kernel)
theorem mlL_71 : Cond.methodLink RL 71 yL_points ∈ aT := aT_of (List.mem_of_getElem? (i := 942) (by decide +kernel)) (by decide +kernel)
theorem mlL_75 : Cond.methodLink RL 75 yL_many ∈ aT := aT_of (List.mem_of_getElem? (i := 945) (by decide +kernel)) (by decide +kernel)
theorem mlL_78 : Cond.methodLink RL 78 yL_all ∈ aT := aT_of (List.mem_of_getElem? (i := 927) (by decide +kernel)) (by decide +kernel)
theorem mlL_82 : Cond.methodLink RL 82 yL_some ∈ aT := aT_of (List.mem_of_getElem? (i := 948) (by decide +kernel)) (by decide +kernel)
theorem mlL_85 : Cond.methodLink RL 85 yX11_letter ∈ aT := aT_of (List.mem_of_getElem? (i := 721) (by decide +kernel)) (by decide +kernel)
theorem mlL_89 : Cond.methodLink RL 89 yL_text ∈ aT := aT_of (List.mem_of_getElem? (i := 924) (by decide +kernel)) (by decide +kernel)
theorem mlL_93 : Cond.methodLink RL 93 yL_cost ∈ aT := aT_of (List.mem_of_getElem? (i := 951) (by decide +kernel)) (by decide +kernel)
theorem mlL_97 : Cond.methodLink RL 97 yX11_anew ∈ aT := aT_of (List.mem_of_getElem? (i := 954) (by decide +kernel)) (by decide +kernel)
theorem mlL_100 : Cond.methodLink RL 100 yX11_trouble ∈ aT := aT_of (List.mem_of_getElem? (i := 963) (by decide +kernel)) (by decide +kernel)
theorem mlL_104 : Cond.methodLink RL 104 yX11_letters ∈ aT := aT_of (List.mem_of_getElem? (i := 976) (by decide +kernel)) (by decide +kernel)
theorem mlL_107 : Cond.methodLink RL 107 yX11_post ∈ aT := aT_of (List.mem_of_getElem? (i := 980) (by decide +kernel)) (by decide +kernel)
theorem mlL_110 : Cond.methodLink RL 110 yX11_spent ∈ aT := aT_of (List.mem_of_getElem? (i := 549) (by decide +kernel)) (by decide +kernel)
theorem mlL_113 : Cond.methodLink RL 113 yL_spread ∈ aT := aT_of (List.mem_of_getElem? (i := 1007) (by decide +kernel)) (by decide +kernel)
theorem mlL_123 : Cond.methodLink RL 123 yX11_template ∈ aT := aT_of (List.mem_of_getElem? (i := 1016) (by decide +kernel)) (by decide +kernel)
theorem mlL_136 : Cond.methodLink RL 136 yX11_init ∈ aT := aT_of (List.mem_of_getElem? (i := 98) (by decide +kernel)) (by decide +kernel)
theorem mlL_137 : Cond.methodLink RL 137 yL_templates ∈ aT := aT_of (List.mem_of_getElem? (i := 1010) (by decide +kernel)) (by decide +kernel)
theorem mlL_141 : Cond.methodLink RL 141 yL_cell ∈ aT := aT_of (List.mem_of_getElem? (i := 553) (by decide +kernel)) (by decide +kernel)
theorem mlL_144 : Cond.methodLink RL 144 yL_adds ∈ aT := aT_of (List.mem_of_getElem? (i := 615) (by decide +kernel)) (by decide +kernel)
theorem mlL_148 : Cond.methodLink RL 148 yX11_run ∈ aT := aT_of (List.mem_of_getElem? (i := 523) (by decide +kernel)) (by decide +kernel)
theorem mlL_151 : Cond.methodLink RL 151 yL_match ∈ aT := aT_of (List.mem_of_getElem? (i := 562) (by decide +kernel)) (by decide +kernel)
theorem mlL_154 : Cond.methodLink RL 154 yX11_franking ∈ aT := aT_of (List.mem_of_getElem? (i := 493) (by decide +kernel)) (by decide +kernel)
theorem mlL_157 : Cond.methodLink RL 157 yL_groups ∈ aT := aT_of (List.mem_of_getElem? (i := 712) (by decide +kernel)) (by decide +kernel)
theorem mlL_161 : Cond.methodLink RL 161 yX11_group ∈ aT := aT_of (List.mem_of_getElem? (i := 409) (by decide +kernel)) (by decide +kernel)
theorem mlL_164 : Cond.methodLink RL 164 yL_letters ∈ aT := aT_of (List.mem_of_getElem? (i := 715) (by decide +kernel)) (by decide +kernel)
theorem mlJ0_335 : Cond.methodLink RJ0 335 yJ0_coder_7d493 ∈ aT := aT_of (List.mem_of_getElem? (i := 837) (by decide +kernel)) (by decide +kernel)
theorem mlJ0_492 : Cond.methodLink RJ0 492 yJ0_isLatin1_aae02 ∈ aT := aT_of (List.mem_of_getElem? (i := 827) (by decide +kernel)) (by decide +kernel)
theorem mlJ0_505 : Cond.methodLink RJ0 505 yJ0_length_8abf5 ∈ aT := aT_of (List.mem_of_getElem? (i := 833) (by decide +kernel)) (by decide +kernel)
theorem mlJ0_633 : Cond.methodLink RJ0 633 yJ0_indexOf_7cf53 ∈ aT := aT_of (List.mem_of_getElem? (i := 823) (by decide +kernel)) (by decide +kernel)
theorem mlJ0_637 : Cond.methodLink RJ0 637 yJ1_indexOf_4cfef ∈ aT := aT_of (List.mem_of_getElem? (i := 841) (by decide +kernel)) (by decide +kernel)
theorem mlJ0_640 : Cond.methodLink RJ0 640 yJ2_indexOf_4cfef ∈ aT := aT_of (List.mem_of_getElem? (i := 852) (by decide +kernel)) (by decide +kernel)
theorem mlJ0_1062 : Cond.methodLink RJ0 1062 yJ3_checkFromToIndex_8c36e ∈ aT := aT_of (List.mem_of_getElem? (i := 872) (by decide +kernel)) (by decide +kernel)
theorem mlJ1_38 : Cond.methodLink RJ1 38 yJ9_min_7cf53 ∈ aT := aT_of (List.mem_of_getElem? (i := 848) (by decide +kernel)) (by decide +kernel)
theorem mlJ1_88 : Cond.methodLink RJ1 88 yJ1_canEncode_9a6ad ∈ aT := aT_of (List.mem_of_getElem? (i := 844) (by decide +kernel)) (by decide +kernel)
theorem mlJ1_92 : Cond.methodLink RJ1 92 yJ9_max_7cf53 ∈ aT := aT_of (List.mem_of_getElem? (i := 847) (by decide +kernel)) (by decide +kernel)
theorem mlJ1_95 : Cond.methodLink RJ1 95 yJ1_indexOfChar_4cfef ∈ aT := aT_of (List.mem_of_getElem? (i := 849) (by decide +kernel)) (by decide +kernel)
theorem mlJ2_48 : Cond.methodLink RJ2 48 yJ2_length_9d52b ∈ aT := aT_of (List.mem_of_getElem? (i := 864) (by decide +kernel)) (by decide +kernel)
theorem mlJ2_71 : Cond.methodLink RJ2 71 yJ2_getChar_3b067 ∈ aT := aT_of (List.mem_of_getElem? (i := 878) (by decide +kernel)) (by decide +kernel)
theorem mlJ2_96 : Cond.methodLink RJ2 96 yJ2_checkBoundsBeginEnd_d044e ∈ aT := aT_of (List.mem_of_getElem? (i := 861) (by decide +kernel)) (by decide +kernel)
theorem mlJ2_157 : Cond.methodLink RJ2 157 yJ11_highSurrogate_5068e ∈ aT := aT_of (List.mem_of_getElem? (i := 893) (by decide +kernel)) (by decide +kernel)
theorem mlJ2_161 : Cond.methodLink RJ2 161 yJ11_lowSurrogate_5068e ∈ aT := aT_of (List.mem_of_getElem? (i := 897) (by decide +kernel)) (by decide +kernel)
theorem mlJ2_164 : Cond.methodLink RJ2 164 yJ11_isValidCodePoint_9a6ad ∈ aT := aT_of (List.mem_of_getElem? (i := 890) (by decide +kernel)) (by decide +kernel)
theorem mlJ2_183 : Cond.methodLink RJ2 183 yJ9_min_7cf53 ∈ aT := aT_of (List.mem_of_getElem? (i := 856) (by decide +kernel)) (by decide +kernel)
theorem mlJ2_224 : Cond.methodLink RJ2 224 yJ9_max_7cf53 ∈ aT := aT_of (List.mem_of_getElem? (i := 855) (by decide +kernel)) (by decide +kernel)
theorem mlJ2_228 : Cond.methodLink RJ2 228 yJ2_indexOfChar_4cfef ∈ aT := aT_of (List.mem_of_getElem? (i := 858) (by decide +kernel)) (by decide +kernel)
theorem mlJ2_232 : Cond.methodLink RJ2 232 yJ2_indexOfSupplementary_4cfef ∈ aT := aT_of (List.mem_of_getElem? (i := 887) (by decide +kernel)) (by decide +kernel)
theorem mlJ2_241 : Cond.methodLink RJ2 241 yJ0_checkBoundsBeginEnd_23922 ∈ aT := aT_of (List.mem_of_getElem? (i := 867) (by decide +kernel)) (by decide +kernel)
theorem mlJ2_244 : Cond.methodLink RJ2 244 yJ2_indexOfCharUnsafe_4cfef ∈ aT := aT_of (List.mem_of_getElem? (i := 875) (by decide +kernel)) (by decide +kernel)
section AFIELDS
variable {T : aMt} {r mc ms : Nat} {Q : Option Value → aS → aV → Prop} {QX : String → aS → aV → Prop} {kc ks pc : Nat} {lv : List (Option Value)} {st : List Value} {S : aS} {V : aV}
theorem flX0_14 : Cond.fieldLink RX0 14 (TX0 0).1 (TX0 0).2.1 (TX0 0).2.2.1 ∈ aT := aT_of (List.mem_of_getElem? (i := 277) (by decide +kernel)) (by decide +kernel)
theorem gfX0_14 {a : Nat} {v : Value} (hT : T.1.cls = RX0) (d : decode T.2.1 pc = .ok (.getfield 14, 3)) (hs : (S.1 a).1 = 0) (hv : V a 0 = v) (kk : R T r mc ms Q QX kc ks (pc + 3) lv (v :: st) S V) : R T r mc ms Q QX kc ks pc lv (.ref a :: st) S V :=
  R_get (ci := 0) (k := 0) (T0 := TX0) (N := 7) rfl (by decide) (by decide) inX0 (by rw [hT]; exact flX0_14) d hs hv kk
theorem pfX0_14 {a : Nat} {x : Nat} (hT : T.1.cls = RX0) (hI : T.1.name = "<init>") (d : decode T.2.1 pc = .ok (.putfield 14, 3)) (hs : (S.1 a).1 = 0)  (kk : R T r mc ms Q QX kc ks (pc + 3) lv st S (a_up V a 0 (.ref x))) : R T r mc ms Q QX kc ks pc lv (.ref x :: .ref a :: st) S V :=
  R_putF (ci := 0) (k := 0) (T0 := TX0) (N := 7) (ty0 := tyX0) (ty := tyX0 0) rfl (by decide) (by decide) inX0 tyX0_ok nmX0 (by rw [hT]; exact flX0_14) rfl hI (by rw [hT]; rfl) (tyX0_ok 0 (by decide)) rfl rfl d hs kk
theorem flX0_20 : Cond.fieldLink RX0 20 (TX0 1).1 (TX0 1).2.1 (TX0 1).2.2.1 ∈ aT := aT_of (List.mem_of_getElem? (i := 279) (by decide +kernel)) (by decide +kernel)
theorem gfX0_20 {a : Nat} {v : Value} (hT : T.1.cls = RX0) (d : decode T.2.1 pc = .ok (.getfield 20, 3)) (hs : (S.1 a).1 = 0) (hv : V a 1 = v) (kk : R T r mc ms Q QX kc ks (pc + 3) lv (v :: st) S V) : R T r mc ms Q QX kc ks pc lv (.ref a :: st) S V :=
  R_get (ci := 0) (k := 1) (T0 := TX0) (N := 7) rfl (by decide) (by decide) inX0 (by rw [hT]; exact flX0_20) d hs hv kk
theorem pfX0_20 {a : Nat} {x : Nat} (hT : T.1.cls = RX0) (hI : T.1.name = "<init>") (d : decode T.2.1 pc = .ok (.putfield 20, 3)) (hs : (S.1 a).1 = 0)  (kk : R T r mc ms Q QX kc ks (pc + 3) lv st S (a_up V a 1 (.ref x))) : R T r mc ms Q QX kc ks pc lv (.ref x :: .ref a :: st) S V :=
  R_putF (ci := 0) (k := 1) (T0 := TX0) (N := 7) (ty0 := tyX0) (ty := tyX0 1) rfl (by decide) (by decide) inX0 tyX0_ok nmX0 (by rw [hT]; exact flX0_20) rfl hI (by rw [hT]; rfl) (tyX0_ok 1 (by decide)) rfl rfl d hs kk
theorem flX0_23 : Cond.fieldLink RX0 23 (TX0 2).1 (TX0 2).2.1 (TX0 2).2.2.1 ∈ aT := aT_of (List.mem_of_getElem? (i := 281) (by decide +kernel)) (by decide +kernel)
theorem gfX0_23 {a : Nat} {v : Value} (hT : T.1.cls = RX0) (d : decode T.2.1 pc = .ok (.getfield 23, 3)) (hs : (S.1 a).1 = 0) (hv : V a 2 = v) (kk : R T r mc ms Q QX kc ks (pc + 3) lv (v :: st) S V) : R T r mc ms Q QX kc ks pc lv (.ref a :: st) S V :=
  R_get (ci := 0) (k := 2) (T0 := TX0) (N := 7) rfl (by decide) (by decide) inX0 (by rw [hT]; exact flX0_23) d hs hv kk
theorem pfX0_23 {a : Nat} {x : Nat} (hT : T.1.cls = RX0) (hI : T.1.name = "<init>") (d : decode T.2.1 pc = .ok (.putfield 23, 3)) (hs : (S.1 a).1 = 0)  (kk : R T r mc ms Q QX kc ks (pc + 3) lv st S (a_up V a 2 (.ref x))) : R T r mc ms Q QX kc ks pc lv (.ref x :: .ref a :: st) S V :=
  R_putF (ci := 0) (k := 2) (T0 := TX0) (N := 7) (ty0 := tyX0) (ty := tyX0 2) rfl (by decide) (by decide) inX0 tyX0_ok nmX0 (by rw [hT]; exact flX0_23) rfl hI (by rw [hT]; rfl) (tyX0_ok 2 (by decide)) rfl rfl d hs kk
theorem flX0_26 : Cond.fieldLink RX0 26 (TX0 3).1 (TX0 3).2.1 (TX0 3).2.2.1 ∈ aT := aT_of (List.mem_of_getElem? (i := 283) (by decide +kernel)) (by decide +kernel)
theorem gfX0_26 {a : Nat} {v : Value} (hT : T.1.cls = RX0) (d : decode T.2.1 pc = .ok (.getfield 26, 3)) (hs : (S.1 a).1 = 0) (hv : V a 3 = v) (kk : R T r mc ms Q QX kc ks (pc + 3) lv (v :: st) S V) : R T r mc ms Q QX kc ks pc lv (.ref a :: st) S V :=
  R_get (ci := 0) (k := 3) (T0 := TX0) (N := 7) rfl (by decide) (by decide) inX0 (by rw [hT]; exact flX0_26) d hs hv kk
theorem pfX0_26 {a : Nat} {x : Nat} (hT : T.1.cls = RX0) (hI : T.1.name = "<init>") (d : decode T.2.1 pc = .ok (.putfield 26, 3)) (hs : (S.1 a).1 = 0)  (kk : R T r mc ms Q QX kc ks (pc + 3) lv st S (a_up V a 3 (.ref x))) : R T r mc ms Q QX kc ks pc lv (.ref x :: .ref a :: st) S V :=
  R_putF (ci := 0) (k := 3) (T0 := TX0) (N := 7) (ty0 := tyX0) (ty := tyX0 3) rfl (by decide) (by decide) inX0 tyX0_ok nmX0 (by rw [hT]; exact flX0_26) rfl hI (by rw [hT]; rfl) (tyX0_ok 3 (by decide)) rfl rfl d hs kk
theorem flX0_29 : Cond.fieldLinkNest RX0 29 (TX6 1).1 (TX6 1).2.1 (TX6 1).2.2.1 "MergePost" ∈ aN := aN_of (List.mem_of_getElem? (i := 63) (by decide +kernel)) (by decide +kernel)
theorem pfX0_29 {a : Nat} {x : Int32} (hT : T.1.cls = RX0) (d : decode T.2.1 pc = .ok (.putfield 29, 3)) (hs : (S.1 a).1 = 6)  (kk : R T r mc ms Q QX kc ks (pc + 3) lv st S (a_up V a 1 (.int x))) : R T r mc ms Q QX kc ks pc lv (.int x :: .ref a :: st) S V :=
  R_putN (ci := 6) (k := 1) (T0 := TX6) (N := 2) (ty0 := tyX6) (ty := tyX6 1) rfl (by decide) (by decide) inX6 tyX6_ok nmX6 (by rw [hT]; exact flX0_29) rfl (tyX6_ok 1 (by decide)) rfl rfl d hs kk
theorem flX0_59 : Cond.fieldLink RX0 59 (TX0 4).1 (TX0 4).2.1 (TX0 4).2.2.1 ∈ aT := aT_of (List.mem_of_getElem? (i := 286) (by decide +kernel)) (by decide +kernel)
theorem gfX0_59 {a : Nat} {v : Value} (hT : T.1.cls = RX0) (d : decode T.2.1 pc = .ok (.getfield 59, 3)) (hs : (S.1 a).1 = 0) (hv : V a 4 = v) (kk : R T r mc ms Q QX kc ks (pc + 3) lv (v :: st) S V) : R T r mc ms Q QX kc ks pc lv (.ref a :: st) S V :=
  R_get (ci := 0) (k := 4) (T0 := TX0) (N := 7) rfl (by decide) (by decide) inX0 (by rw [hT]; exact flX0_59) d hs hv kk
theorem pfX0_59 {a : Nat} {x : Int32} (hT : T.1.cls = RX0) (d : decode T.2.1 pc = .ok (.putfield 59, 3)) (hs : (S.1 a).1 = 0)  (kk : R T r mc ms Q QX kc ks (pc + 3) lv st S (a_up V a 4 (.int x))) : R T r mc ms Q QX kc ks pc lv (.int x :: .ref a :: st) S V :=
  R_put (ci := 0) (k := 4) (T0 := TX0) (N := 7) (ty0 := tyX0) (ty := tyX0 4) rfl (by decide) (by decide) inX0 tyX0_ok nmX0 (by rw [hT]; exact flX0_59) rfl (tyX0_ok 4 (by decide)) rfl rfl d hs kk
theorem flX0_62 : Cond.fieldLink RX0 62 (TX0 5).1 (TX0 5).2.1 (TX0 5).2.2.1 ∈ aT := aT_of (List.mem_of_getElem? (i := 289) (by decide +kernel)) (by decide +kernel)
theorem gfX0_62 {a : Nat} {v : Value} (hT : T.1.cls = RX0) (d : decode T.2.1 pc = .ok (.getfield 62, 3)) (hs : (S.1 a).1 = 0) (hv : V a 5 = v) (kk : R T r mc ms Q QX kc ks (pc + 3) lv (v :: st) S V) : R T r mc ms Q QX kc ks pc lv (.ref a :: st) S V :=
  R_get (ci := 0) (k := 5) (T0 := TX0) (N := 7) rfl (by decide) (by decide) inX0 (by rw [hT]; exact flX0_62) d hs hv kk
theorem pfX0_62 {a : Nat} {x : Int32} (hT : T.1.cls = RX0) (d : decode T.2.1 pc = .ok (.putfield 62, 3)) (hs : (S.1 a).1 = 0)  (kk : R T r mc ms Q QX kc ks (pc + 3) lv st S (a_up V a 5 (.int x))) : R T r mc ms Q QX kc ks pc lv (.int x :: .ref a :: st) S V :=
  R_put (ci := 0) (k := 5) (T0 := TX0) (N := 7) (ty0 := tyX0) (ty := tyX0 5) rfl (by decide) (by decide) inX0 tyX0_ok nmX0 (by rw [hT]; exact flX0_62) rfl (tyX0_ok 5 (by decide)) rfl rfl d hs kk
theorem flX0_65 : Cond.fieldLink RX0 65 (TX0 6).1 (TX0 6).2.1 (TX0 6).2.2.1 ∈ aT := aT_of (List.mem_of_getElem? (i := 292) (by decide +kernel)) (by decide +kernel)
theorem gfX0_65 {a : Nat} {v : Value} (hT : T.1.cls = RX0) (d : decode T.2.1 pc = .ok (.getfield 65, 3)) (hs : (S.1 a).1 = 0) (hv : V a 6 = v) (kk : R T r mc ms Q QX kc ks (pc + 3) lv (v :: st) S V) : R T r mc ms Q QX kc ks pc lv (.ref a :: st) S V :=
  R_get (ci := 0) (k := 6) (T0 := TX0) (N := 7) rfl (by decide) (by decide) inX0 (by rw [hT]; exact flX0_65) d hs hv kk
theorem pfX0_65 {a : Nat} {x : Int32} (hT : T.1.cls = RX0) (d : decode T.2.1 pc = .ok (.putfield 65, 3)) (hs : (S.1 a).1 = 0)  (kk : R T r mc ms Q QX kc ks (pc + 3) lv st S (a_up V a 6 (.int x))) : R T r mc ms Q QX kc ks pc lv (.int x :: .ref a :: st) S V :=
  R_put (ci := 0) (k := 6) (T0 := TX0) (N := 7) (ty0 := tyX0) (ty := tyX0 6) rfl (by decide) (by decide) inX0 tyX0_ok nmX0 (by rw [hT]; exact flX0_65) rfl (tyX0_ok 6 (by decide)) rfl rfl d hs kk
theorem flX1_11 : Cond.fieldLink RX1 11 (TX1 0).1 (TX1 0).2.1 (TX1 0).2.2.1 ∈ aT := aT_of (List.mem_of_getElem? (i := 308) (by decide +kernel)) (by decide +kernel)
theorem gfX1_11 {a : Nat} {v : Value} (hT : T.1.cls = RX1) (d : decode T.2.1 pc = .ok (.getfield 11, 3)) (hs : (S.1 a).1 = 1) (hv : V a 0 = v) (kk : R T r mc ms Q QX kc ks (pc + 3) lv (v :: st) S V) : R T r mc ms Q QX kc ks pc lv (.ref a :: st) S V :=
  R_get (ci := 1) (k := 0) (T0 := TX1) (N := 6) rfl (by decide) (by decide) inX1 (by rw [hT]; exact flX1_11) d hs hv kk
theorem pfX1_11 {a : Nat} {x : Nat} (hT : T.1.cls = RX1) (hI : T.1.name = "<init>") (d : decode T.2.1 pc = .ok (.putfield 11, 3)) (hs : (S.1 a).1 = 1)  (kk : R T r mc ms Q QX kc ks (pc + 3) lv st S (a_up V a 0 (.ref x))) : R T r mc ms Q QX kc ks pc lv (.ref x :: .ref a :: st) S V :=
  R_putF (ci := 1) (k := 0) (T0 := TX1) (N := 6) (ty0 := tyX1) (ty := tyX1 0) rfl (by decide) (by decide) inX1 tyX1_ok nmX1 (by rw [hT]; exact flX1_11) rfl hI (by rw [hT]; rfl) (tyX1_ok 0 (by decide)) rfl rfl d hs kk
theorem flX1_18 : Cond.fieldLink RX1 18 (TX1 1).1 (TX1 1).2.1 (TX1 1).2.2.1 ∈ aT := aT_of (List.mem_of_getElem? (i := 311) (by decide +kernel)) (by decide +kernel)
theorem gfX1_18 {a : Nat} {v : Value} (hT : T.1.cls = RX1) (d : decode T.2.1 pc = .ok (.getfield 18, 3)) (hs : (S.1 a).1 = 1) (hv : V a 1 = v) (kk : R T r mc ms Q QX kc ks (pc + 3) lv (v :: st) S V) : R T r mc ms Q QX kc ks pc lv (.ref a :: st) S V :=
  R_get (ci := 1) (k := 1) (T0 := TX1) (N := 6) rfl (by decide) (by decide) inX1 (by rw [hT]; exact flX1_18) d hs hv kk
theorem pfX1_18 {a : Nat} {x : Nat} (hT : T.1.cls = RX1) (d : decode T.2.1 pc = .ok (.putfield 18, 3)) (hs : (S.1 a).1 = 1)  (kk : R T r mc ms Q QX kc ks (pc + 3) lv st S (a_up V a 1 (.ref x))) : R T r mc ms Q QX kc ks pc lv (.ref x :: .ref a :: st) S V :=
  R_put (ci := 1) (k := 1) (T0 := TX1) (N := 6) (ty0 := tyX1) (ty := tyX1 1) rfl (by decide) (by decide) inX1 tyX1_ok nmX1 (by rw [hT]; exact flX1_18) rfl (tyX1_ok 1 (by decide)) rfl rfl d hs kk
theorem flX1_22 : Cond.fieldLink RX1 22 (TX1 2).1 (TX1 2).2.1 (TX1 2).2.2.1 ∈ aT := aT_of (List.mem_of_getElem? (i := 312) (by decide +kernel)) (by decide +kernel)
theorem gfX1_22 {a : Nat} {v : Value} (hT : T.1.cls = RX1) (d : decode T.2.1 pc = .ok (.getfield 22, 3)) (hs : (S.1 a).1 = 1) (hv : V a 2 = v) (kk : R T r mc ms Q QX kc ks (pc + 3) lv (v :: st) S V) : R T r mc ms Q QX kc ks pc lv (.ref a :: st) S V :=
  R_get (ci := 1) (k := 2) (T0 := TX1) (N := 6) rfl (by decide) (by decide) inX1 (by rw [hT]; exact flX1_22) d hs hv kk
theorem pfX1_22 {a : Nat} {x : Nat} (hT : T.1.cls = RX1) (hI : T.1.name = "<init>") (d : decode T.2.1 pc = .ok (.putfield 22, 3)) (hs : (S.1 a).1 = 1)  (kk : R T r mc ms Q QX kc ks (pc + 3) lv st S (a_up V a 2 (.ref x))) : R T r mc ms Q QX kc ks pc lv (.ref x :: .ref a :: st) S V :=
  R_putF (ci := 1) (k := 2) (T0 := TX1) (N := 6) (ty0 := tyX1) (ty := tyX1 2) rfl (by decide) (by decide) inX1 tyX1_ok nmX1 (by rw [hT]; exact flX1_22) rfl hI (by rw [hT]; rfl) (tyX1_ok 2 (by decide)) rfl rfl d hs kk
theorem flX1_26 : Cond.fieldLink RX1 26 (TX1 3).1 (TX1 3).2.1 (TX1 3).2.2.1 ∈ aT := aT_of (List.mem_of_getElem? (i := 313) (by decide +kernel)) (by decide +kernel)
theorem gfX1_26 {a : Nat} {v : Value} (hT : T.1.cls = RX1) (d : decode T.2.1 pc = .ok (.getfield 26, 3)) (hs : (S.1 a).1 = 1) (hv : V a 3 = v) (kk : R T r mc ms Q QX kc ks (pc + 3) lv (v :: st) S V) : R T r mc ms Q QX kc ks pc lv (.ref a :: st) S V :=
  R_get (ci := 1) (k := 3) (T0 := TX1) (N := 6) rfl (by decide) (by decide) inX1 (by rw [hT]; exact flX1_26) d hs hv kk
theorem pfX1_26 {a : Nat} {x : Nat} (hT : T.1.cls = RX1) (hI : T.1.name = "<init>") (d : decode T.2.1 pc = .ok (.putfield 26, 3)) (hs : (S.1 a).1 = 1)  (kk : R T r mc ms Q QX kc ks (pc + 3) lv st S (a_up V a 3 (.ref x))) : R T r mc ms Q QX kc ks pc lv (.ref x :: .ref a :: st) S V :=
  R_putF (ci := 1) (k := 3) (T0 := TX1) (N := 6) (ty0 := tyX1) (ty := tyX1 3) rfl (by decide) (by decide) inX1 tyX1_ok nmX1 (by rw [hT]; exact flX1_26) rfl hI (by rw [hT]; rfl) (tyX1_ok 3 (by decide)) rfl rfl d hs kk
theorem flX1_29 : Cond.fieldLink RX1 29 (TX1 4).1 (TX1 4).2.1 (TX1 4).2.2.1 ∈ aT := aT_of (List.mem_of_getElem? (i := 315) (by decide +kernel)) (by decide +kernel)
theorem gfX1_29 {a : Nat} {v : Value} (hT : T.1.cls = RX1) (d : decode T.2.1 pc = .ok (.getfield 29, 3)) (hs : (S.1 a).1 = 1) (hv : V a 4 = v) (kk : R T r mc ms Q QX kc ks (pc + 3) lv (v :: st) S V) : R T r mc ms Q QX kc ks pc lv (.ref a :: st) S V :=
  R_get (ci := 1) (k := 4) (T0 := TX1) (N := 6) rfl (by decide) (by decide) inX1 (by rw [hT]; exact flX1_29) d hs hv kk
theorem pfX1_29 {a : Nat} {x : Nat} (hT : T.1.cls = RX1) (hI : T.1.name = "<init>") (d : decode T.2.1 pc = .ok (.putfield 29, 3)) (hs : (S.1 a).1 = 1)  (kk : R T r mc ms Q QX kc ks (pc + 3) lv st S (a_up V a 4 (.ref x))) : R T r mc ms Q QX kc ks pc lv (.ref x :: .ref a :: st) S V :=
  R_putF (ci := 1) (k := 4) (T0 := TX1) (N := 6) (ty0 := tyX1) (ty := tyX1 4) rfl (by decide) (by decide) inX1 tyX1_ok nmX1 (by rw [hT]; exact flX1_29) rfl hI (by rw [hT]; rfl) (tyX1_ok 4 (by decide)) rfl rfl d hs kk
theorem flX1_36 : Cond.fieldLink RX1 36 (TX1 5).1 (TX1 5).2.1 (TX1 5).2.2.1 ∈ aT := aT_of (List.mem_of_getElem? (i := 316) (by decide +kernel)) (by decide +kernel)
theorem gfX1_36 {a : Nat} {v : Value} (hT : T.1.cls = RX1) (d : decode T.2.1 pc = .ok (.getfield 36, 3)) (hs : (S.1 a).1 = 1) (hv : V a 5 = v) (kk : R T r mc ms Q QX kc ks (pc + 3) lv (v :: st) S V) : R T r mc ms Q QX kc ks pc lv (.ref a :: st) S V :=
  R_get (ci := 1) (k := 5) (T0 := TX1) (N := 6) rfl (by decide) (by decide) inX1 (by rw [hT]; exact flX1_36) d hs hv kk
theorem pfX1_36 {a : Nat} {x : Int32} (hT : T.1.cls = RX1) (d : decode T.2.1 pc = .ok (.putfield 36, 3)) (hs : (S.1 a).1 = 1)  (kk : R T r mc ms Q QX kc ks (pc + 3) lv st S (a_up V a 5 (.int x))) : R T r mc ms Q QX kc ks pc lv (.int x :: .ref a :: st) S V :=
  R_put (ci := 1) (k := 5) (T0 := TX1) (N := 6) (ty0 := tyX1) (ty := tyX1 5) rfl (by decide) (by decide) inX1 tyX1_ok nmX1 (by rw [hT]; exact flX1_36) rfl (tyX1_ok 5 (by decide)) rfl rfl d hs kk
theorem flX10_14 : Cond.fieldLink RX10 14 (TX10 0).1 (TX10 0).2.1 (TX10 0).2.2.1 ∈ aT := aT_of (List.mem_of_getElem? (i := 156) (by decide +kernel)) (by decide +kernel)
theorem gfX10_14 {a : Nat} {v : Value} (hT : T.1.cls = RX10) (d : decode T.2.1 pc = .ok (.getfield 14, 3)) (hs : (S.1 a).1 = 10) (hv : V a 0 = v) (kk : R T r mc ms Q QX kc ks (pc + 3) lv (v :: st) S V) : R T r mc ms Q QX kc ks pc lv (.ref a :: st) S V :=
  R_get (ci := 10) (k := 0) (T0 := TX10) (N := 5) rfl (by decide) (by decide) inX10 (by rw [hT]; exact flX10_14) d hs hv kk
theorem pfX10_14 {a : Nat} {x : Nat} (hT : T.1.cls = RX10) (hI : T.1.name = "<init>") (d : decode T.2.1 pc = .ok (.putfield 14, 3)) (hs : (S.1 a).1 = 10)  (kk : R T r mc ms Q QX kc ks (pc + 3) lv st S (a_up V a 0 (.ref x))) : R T r mc ms Q QX kc ks pc lv (.ref x :: .ref a :: st) S V :=
  R_putF (ci := 10) (k := 0) (T0 := TX10) (N := 5) (ty0 := tyX10) (ty := tyX10 0) rfl (by decide) (by decide) inX10 tyX10_ok nmX10 (by rw [hT]; exact flX10_14) rfl hI (by rw [hT]; rfl) (tyX10_ok 0 (by decide)) rfl rfl d hs kk
theorem flX10_20 : Cond.fieldLink RX10 20 (TX10 1).1 (TX10 1).2.1 (TX10 1).2.2.1 ∈ aT := aT_of (List.mem_of_getElem? (i := 158) (by decide +kernel)) (by decide +kernel)
theorem gfX10_20 {a : Nat} {v : Value} (hT : T.1.cls = RX10) (d : decode T.2.1 pc = .ok (.getfield 20, 3)) (hs : (S.1 a).1 = 10) (hv : V a 1 = v) (kk : R T r mc ms Q QX kc ks (pc + 3) lv (v :: st) S V) : R T r mc ms Q QX kc ks pc lv (.ref a :: st) S V :=
  R_get (ci := 10) (k := 1) (T0 := TX10) (N := 5) rfl (by decide) (by decide) inX10 (by rw [hT]; exact flX10_20) d hs hv kk
theorem pfX10_20 {a : Nat} {x : Nat} (hT : T.1.cls = RX10) (hI : T.1.name = "<init>") (d : decode T.2.1 pc = .ok (.putfield 20, 3)) (hs : (S.1 a).1 = 10)  (kk : R T r mc ms Q QX kc ks (pc + 3) lv st S (a_up V a 1 (.ref x))) : R T r mc ms Q QX kc ks pc lv (.ref x :: .ref a :: st) S V :=
  R_putF (ci := 10) (k := 1) (T0 := TX10) (N := 5) (ty0 := tyX10) (ty := tyX10 1) rfl (by decide) (by decide) inX10 tyX10_ok nmX10 (by rw [hT]; exact flX10_20) rfl hI (by rw [hT]; rfl) (tyX10_ok 1 (by decide)) rfl rfl d hs kk
theorem flX10_24 : Cond.fieldLink RX10 24 (TX10 2).1 (TX10 2).2.1 (TX10 2).2.2.1 ∈ aT := aT_of (List.mem_of_getElem? (i := 159) (by decide +kernel)) (by decide +kernel)
theorem gfX10_24 {a : Nat} {v : Value} (hT : T.1.cls = RX10) (d : decode T.2.1 pc = .ok (.getfield 24, 3)) (hs : (S.1 a).1 = 10) (hv : V a 2 = v) (kk : R T r mc ms Q QX kc ks (pc + 3) lv (v :: st) S V) : R T r mc ms Q QX kc ks pc lv (.ref a :: st) S V :=
  R_get (ci := 10) (k := 2) (T0 := TX10) (N := 5) rfl (by decide) (by decide) inX10 (by rw [hT]; exact flX10_24) d hs hv kk
theorem pfX10_24 {a : Nat} {x : Nat} (hT : T.1.cls = RX10) (hI : T.1.name = "<init>") (d : decode T.2.1 pc = .ok (.putfield 24, 3)) (hs : (S.1 a).1 = 10)  (kk : R T r mc ms Q QX kc ks (pc + 3) lv st S (a_up V a 2 (.ref x))) : R T r mc ms Q QX kc ks pc lv (.ref x :: .ref a :: st) S V :=
  R_putF (ci := 10) (k := 2) (T0 := TX10) (N := 5) (ty0 := tyX10) (ty := tyX10 2) rfl (by decide) (by decide) inX10 tyX10_ok nmX10 (by rw [hT]; exact flX10_24) rfl hI (by rw [hT]; rfl) (tyX10_ok 2 (by decide)) rfl rfl d hs kk
theorem flX10_27 : Cond.fieldLinkNest RX10 27 (TX6 1).1 (TX6 1).2.1 (TX6 1).2.2.1 "MergePost" ∈ aN := aN_of (List.mem_of_getElem? (i := 62) (by decide +kernel)) (by decide +kernel)
theorem gfX10_27 {a : Nat} {v : Value} (hT : T.1.cls = RX10) (d : decode T.2.1 pc = .ok (.getfield 27, 3)) (hs : (S.1 a).1 = 6) (hv : V a 1 = v) (kk : R T r mc ms Q QX kc ks (pc + 3) lv (v :: st) S V) : R T r mc ms Q QX kc ks pc lv (.ref a :: st) S V :=
  R_getN (ci := 6) (k := 1) (T0 := TX6) (N := 2) rfl (by decide) (by decide) inX6 (by rw [hT]; exact flX10_27) d hs hv kk
theorem pfX10_27 {a : Nat} {x : Int32} (hT : T.1.cls = RX10) (d : decode T.2.1 pc = .ok (.putfield 27, 3)) (hs : (S.1 a).1 = 6)  (kk : R T r mc ms Q QX kc ks (pc + 3) lv st S (a_up V a 1 (.int x))) : R T r mc ms Q QX kc ks pc lv (.int x :: .ref a :: st) S V :=
  R_putN (ci := 6) (k := 1) (T0 := TX6) (N := 2) (ty0 := tyX6) (ty := tyX6 1) rfl (by decide) (by decide) inX6 tyX6_ok nmX6 (by rw [hT]; exact flX10_27) rfl (tyX6_ok 1 (by decide)) rfl rfl d hs kk
theorem flX10_33 : Cond.fieldLink RX10 33 (TX10 3).1 (TX10 3).2.1 (TX10 3).2.2.1 ∈ aT := aT_of (List.mem_of_getElem? (i := 160) (by decide +kernel)) (by decide +kernel)
theorem gfX10_33 {a : Nat} {v : Value} (hT : T.1.cls = RX10) (d : decode T.2.1 pc = .ok (.getfield 33, 3)) (hs : (S.1 a).1 = 10) (hv : V a 3 = v) (kk : R T r mc ms Q QX kc ks (pc + 3) lv (v :: st) S V) : R T r mc ms Q QX kc ks pc lv (.ref a :: st) S V :=
  R_get (ci := 10) (k := 3) (T0 := TX10) (N := 5) rfl (by decide) (by decide) inX10 (by rw [hT]; exact flX10_33) d hs hv kk
theorem pfX10_33 {a : Nat} {x : Int32} (hT : T.1.cls = RX10) (d : decode T.2.1 pc = .ok (.putfield 33, 3)) (hs : (S.1 a).1 = 10)  (kk : R T r mc ms Q QX kc ks (pc + 3) lv st S (a_up V a 3 (.int x))) : R T r mc ms Q QX kc ks pc lv (.int x :: .ref a :: st) S V :=
  R_put (ci := 10) (k := 3) (T0 := TX10) (N := 5) (ty0 := tyX10) (ty := tyX10 3) rfl (by decide) (by decide) inX10 tyX10_ok nmX10 (by rw [hT]; exact flX10_33) rfl (tyX10_ok 3 (by decide)) rfl rfl d hs kk
theorem flX10_44 : Cond.fieldLinkNest RX10 44 (TX6 0).1 (TX6 0).2.1 (TX6 0).2.2.1 "MergePost" ∈ aN := aN_of (List.mem_of_getElem? (i := 61) (by decide +kernel)) (by decide +kernel)
theorem gfX10_44 {a : Nat} {v : Value} (hT : T.1.cls = RX10) (d : decode T.2.1 pc = .ok (.getfield 44, 3)) (hs : (S.1 a).1 = 6) (hv : V a 0 = v) (kk : R T r mc ms Q QX kc ks (pc + 3) lv (v :: st) S V) : R T r mc ms Q QX kc ks pc lv (.ref a :: st) S V :=
  R_getN (ci := 6) (k := 0) (T0 := TX6) (N := 2) rfl (by decide) (by decide) inX6 (by rw [hT]; exact flX10_44) d hs hv kk
theorem flX10_49 : Cond.fieldLink RX10 49 (TX10 4).1 (TX10 4).2.1 (TX10 4).2.2.1 ∈ aT := aT_of (List.mem_of_getElem? (i := 161) (by decide +kernel)) (by decide +kernel)
theorem gfX10_49 {a : Nat} {v : Value} (hT : T.1.cls = RX10) (d : decode T.2.1 pc = .ok (.getfield 49, 3)) (hs : (S.1 a).1 = 10) (hv : V a 4 = v) (kk : R T r mc ms Q QX kc ks (pc + 3) lv (v :: st) S V) : R T r mc ms Q QX kc ks pc lv (.ref a :: st) S V :=
  R_get (ci := 10) (k := 4) (T0 := TX10) (N := 5) rfl (by decide) (by decide) inX10 (by rw [hT]; exact flX10_49) d hs hv kk
theorem pfX10_49 {a : Nat} {x : Int32} (hT : T.1.cls = RX10) (d : decode T.2.1 pc = .ok (.putfield 49, 3)) (hs : (S.1 a).1 = 10) (hn : narrow .boolean (.int x) = .int x) (hf : fits .boolean (.int x) = true) (kk : R T r mc ms Q QX kc ks (pc + 3) lv st S (a_up V a 4 (.int x))) : R T r mc ms Q QX kc ks pc lv (.int x :: .ref a :: st) S V :=
  R_put (ci := 10) (k := 4) (T0 := TX10) (N := 5) (ty0 := tyX10) (ty := tyX10 4) rfl (by decide) (by decide) inX10 tyX10_ok nmX10 (by rw [hT]; exact flX10_49) rfl (tyX10_ok 4 (by decide)) hn hf d hs kk
theorem flX11_12 : Cond.fieldLink RX11 12 (TX11 0).1 (TX11 0).2.1 (TX11 0).2.2.1 ∈ aT := aT_of (List.mem_of_getElem? (i := 384) (by decide +kernel)) (by decide +kernel)
theorem gfX11_12 {a : Nat} {v : Value} (hT : T.1.cls = RX11) (d : decode T.2.1 pc = .ok (.getfield 12, 3)) (hs : (S.1 a).1 = 11) (hv : V a 0 = v) (kk : R T r mc ms Q QX kc ks (pc + 3) lv (v :: st) S V) : R T r mc ms Q QX kc ks pc lv (.ref a :: st) S V :=
  R_get (ci := 11) (k := 0) (T0 := TX11) (N := 8) rfl (by decide) (by decide) inX11 (by rw [hT]; exact flX11_12) d hs hv kk
theorem pfX11_12 {a : Nat} {x : Nat} (hT : T.1.cls = RX11) (hI : T.1.name = "<init>") (d : decode T.2.1 pc = .ok (.putfield 12, 3)) (hs : (S.1 a).1 = 11)  (kk : R T r mc ms Q QX kc ks (pc + 3) lv st S (a_up V a 0 (.ref x))) : R T r mc ms Q QX kc ks pc lv (.ref x :: .ref a :: st) S V :=
  R_putF (ci := 11) (k := 0) (T0 := TX11) (N := 8) (ty0 := tyX11) (ty := tyX11 0) rfl (by decide) (by decide) inX11 tyX11_ok nmX11 (by rw [hT]; exact flX11_12) rfl hI (by rw [hT]; rfl) (tyX11_ok 0 (by decide)) rfl rfl d hs kk
theorem flX11_19 : Cond.fieldLink RX11 19 (TX11 1).1 (TX11 1).2.1 (TX11 1).2.2.1 ∈ aT := aT_of (List.mem_of_getElem? (i := 385) (by decide +kernel)) (by decide +kernel)
theorem gfX11_19 {a : Nat} {v : Value} (hT : T.1.cls = RX11) (d : decode T.2.1 pc = .ok (.getfield 19, 3)) (hs : (S.1 a).1 = 11) (hv : V a 1 = v) (kk : R T r mc ms Q QX kc ks (pc + 3) lv (v :: st) S V) : R T r mc ms Q QX kc ks pc lv (.ref a :: st) S V :=
  R_get (ci := 11) (k := 1) (T0 := TX11) (N := 8) rfl (by decide) (by decide) inX11 (by rw [hT]; exact flX11_19) d hs hv kk
theorem pfX11_19 {a : Nat} {x : Nat} (hT : T.1.cls = RX11) (hI : T.1.name = "<init>") (d : decode T.2.1 pc = .ok (.putfield 19, 3)) (hs : (S.1 a).1 = 11)  (kk : R T r mc ms Q QX kc ks (pc + 3) lv st S (a_up V a 1 (.ref x))) : R T r mc ms Q QX kc ks pc lv (.ref x :: .ref a :: st) S V :=
  R_putF (ci := 11) (k := 1) (T0 := TX11) (N := 8) (ty0 := tyX11) (ty := tyX11 1) rfl (by decide) (by decide) inX11 tyX11_ok nmX11 (by rw [hT]; exact flX11_19) rfl hI (by rw [hT]; rfl) (tyX11_ok 1 (by decide)) rfl rfl d hs kk
theorem flX11_26 : Cond.fieldLink RX11 26 (TX11 2).1 (TX11 2).2.1 (TX11 2).2.2.1 ∈ aT := aT_of (List.mem_of_getElem? (i := 386) (by decide +kernel)) (by decide +kernel)
theorem gfX11_26 {a : Nat} {v : Value} (hT : T.1.cls = RX11) (d : decode T.2.1 pc = .ok (.getfield 26, 3)) (hs : (S.1 a).1 = 11) (hv : V a 2 = v) (kk : R T r mc ms Q QX kc ks (pc + 3) lv (v :: st) S V) : R T r mc ms Q QX kc ks pc lv (.ref a :: st) S V :=
  R_get (ci := 11) (k := 2) (T0 := TX11) (N := 8) rfl (by decide) (by decide) inX11 (by rw [hT]; exact flX11_26) d hs hv kk
theorem pfX11_26 {a : Nat} {x : Nat} (hT : T.1.cls = RX11) (hI : T.1.name = "<init>") (d : decode T.2.1 pc = .ok (.putfield 26, 3)) (hs : (S.1 a).1 = 11)  (kk : R T r mc ms Q QX kc ks (pc + 3) lv st S (a_up V a 2 (.ref x))) : R T r mc ms Q QX kc ks pc lv (.ref x :: .ref a :: st) S V :=
  R_putF (ci := 11) (k := 2) (T0 := TX11) (N := 8) (ty0 := tyX11) (ty := tyX11 2) rfl (by decide) (by decide) inX11 tyX11_ok nmX11 (by rw [hT]; exact flX11_26) rfl hI (by rw [hT]; rfl) (tyX11_ok 2 (by decide)) rfl rfl d hs kk
theorem flX11_33 : Cond.fieldLink RX11 33 (TX11 3).1 (TX11 3).2.1 (TX11 3).2.2.1 ∈ aT := aT_of (List.mem_of_getElem? (i := 387) (by decide +kernel)) (by decide +kernel)
theorem gfX11_33 {a : Nat} {v : Value} (hT : T.1.cls = RX11) (d : decode T.2.1 pc = .ok (.getfield 33, 3)) (hs : (S.1 a).1 = 11) (hv : V a 3 = v) (kk : R T r mc ms Q QX kc ks (pc + 3) lv (v :: st) S V) : R T r mc ms Q QX kc ks pc lv (.ref a :: st) S V :=
  R_get (ci := 11) (k := 3) (T0 := TX11) (N := 8) rfl (by decide) (by decide) inX11 (by rw [hT]; exact flX11_33) d hs hv kk
theorem pfX11_33 {a : Nat} {x : Nat} (hT : T.1.cls = RX11) (hI : T.1.name = "<init>") (d : decode T.2.1 pc = .ok (.putfield 33, 3)) (hs : (S.1 a).1 = 11)  (kk : R T r mc ms Q QX kc ks (pc + 3) lv st S (a_up V a 3 (.ref x))) : R T r mc ms Q QX kc ks pc lv (.ref x :: .ref a :: st) S V :=
  R_putF (ci := 11) (k := 3) (T0 := TX11) (N := 8) (ty0 := tyX11) (ty := tyX11 3) rfl (by decide) (by decide) inX11 tyX11_ok nmX11 (by rw [hT]; exact flX11_33) rfl hI (by rw [hT]; rfl) (tyX11_ok 3 (by decide)) rfl rfl d hs kk
theorem flX11_40 : Cond.fieldLink RX11 40 (TX11 4).1 (TX11 4).2.1 (TX11 4).2.2.1 ∈ aT := aT_of (List.mem_of_getElem? (i := 388) (by decide +kernel)) (by decide +kernel)
theorem gfX11_40 {a : Nat} {v : Value} (hT : T.1.cls = RX11) (d : decode T.2.1 pc = .ok (.getfield 40, 3)) (hs : (S.1 a).1 = 11) (hv : V a 4 = v) (kk : R T r mc ms Q QX kc ks (pc + 3) lv (v :: st) S V) : R T r mc ms Q QX kc ks pc lv (.ref a :: st) S V :=
  R_get (ci := 11) (k := 4) (T0 := TX11) (N := 8) rfl (by decide) (by decide) inX11 (by rw [hT]; exact flX11_40) d hs hv kk
theorem pfX11_40 {a : Nat} {x : Nat} (hT : T.1.cls = RX11) (hI : T.1.name = "<init>") (d : decode T.2.1 pc = .ok (.putfield 40, 3)) (hs : (S.1 a).1 = 11)  (kk : R T r mc ms Q QX kc ks (pc + 3) lv st S (a_up V a 4 (.ref x))) : R T r mc ms Q QX kc ks pc lv (.ref x :: .ref a :: st) S V :=
  R_putF (ci := 11) (k := 4) (T0 := TX11) (N := 8) (ty0 := tyX11) (ty := tyX11 4) rfl (by decide) (by decide) inX11 tyX11_ok nmX11 (by rw [hT]; exact flX11_40) rfl hI (by rw [hT]; rfl) (tyX11_ok 4 (by decide)) rfl rfl d hs kk
theorem flX11_46 : Cond.fieldLink RX11 46 (TX11 5).1 (TX11 5).2.1 (TX11 5).2.2.1 ∈ aT := aT_of (List.mem_of_getElem? (i := 389) (by decide +kernel)) (by decide +kernel)
theorem gfX11_46 {a : Nat} {v : Value} (hT : T.1.cls = RX11) (d : decode T.2.1 pc = .ok (.getfield 46, 3)) (hs : (S.1 a).1 = 11) (hv : V a 5 = v) (kk : R T r mc ms Q QX kc ks (pc + 3) lv (v :: st) S V) : R T r mc ms Q QX kc ks pc lv (.ref a :: st) S V :=
  R_get (ci := 11) (k := 5) (T0 := TX11) (N := 8) rfl (by decide) (by decide) inX11 (by rw [hT]; exact flX11_46) d hs hv kk
theorem pfX11_46 {a : Nat} {x : Nat} (hT : T.1.cls = RX11) (hI : T.1.name = "<init>") (d : decode T.2.1 pc = .ok (.putfield 46, 3)) (hs : (S.1 a).1 = 11)  (kk : R T r mc ms Q QX kc ks (pc + 3) lv st S (a_up V a 5 (.ref x))) : R T r mc ms Q QX kc ks pc lv (.ref x :: .ref a :: st) S V :=
  R_putF (ci := 11) (k := 5) (T0 := TX11) (N := 8) (ty0 := tyX11) (ty := tyX11 5) rfl (by decide) (by decide) inX11 tyX11_ok nmX11 (by rw [hT]; exact flX11_46) rfl hI (by rw [hT]; rfl) (tyX11_ok 5 (by decide)) rfl rfl d hs kk
theorem flX11_62 : Cond.fieldLinkNest RX11 62 (TX6 0).1 (TX6 0).2.1 (TX6 0).2.2.1 "MergePost" ∈ aN := aN_of (List.mem_of_getElem? (i := 60) (by decide +kernel)) (by decide +kernel)
theorem gfX11_62 {a : Nat} {v : Value} (hT : T.1.cls = RX11) (d : decode T.2.1 pc = .ok (.getfield 62, 3)) (hs : (S.1 a).1 = 6) (hv : V a 0 = v) (kk : R T r mc ms Q QX kc ks (pc + 3) lv (v :: st) S V) : R T r mc ms Q QX kc ks pc lv (.ref a :: st) S V :=
  R_getN (ci := 6) (k := 0) (T0 := TX6) (N := 2) rfl (by decide) (by decide) inX6 (by rw [hT]; exact flX11_62) d hs hv kk
theorem flX11_66 : Cond.fieldLinkNest RX11 66 (TX9 1).1 (TX9 1).2.1 (TX9 1).2.2.1 "MergePost" ∈ aN := aN_of (List.mem_of_getElem? (i := 51) (by decide +kernel)) (by decide +kernel)
theorem gfX11_66 {a : Nat} {v : Value} (hT : T.1.cls = RX11) (d : decode T.2.1 pc = .ok (.getfield 66, 3)) (hs : (S.1 a).1 = 9) (hv : V a 1 = v) (kk : R T r mc ms Q QX kc ks (pc + 3) lv (v :: st) S V) : R T r mc ms Q QX kc ks pc lv (.ref a :: st) S V :=
  R_getN (ci := 9) (k := 1) (T0 := TX9) (N := 2) rfl (by decide) (by decide) inX9 (by rw [hT]; exact flX11_66) d hs hv kk
theorem flX11_93 : Cond.fieldLinkNest RX11 93 (TX6 1).1 (TX6 1).2.1 (TX6 1).2.2.1 "MergePost" ∈ aN := aN_of (List.mem_of_getElem? (i := 65) (by decide +kernel)) (by decide +kernel)
theorem gfX11_93 {a : Nat} {v : Value} (hT : T.1.cls = RX11) (d : decode T.2.1 pc = .ok (.getfield 93, 3)) (hs : (S.1 a).1 = 6) (hv : V a 1 = v) (kk : R T r mc ms Q QX kc ks (pc + 3) lv (v :: st) S V) : R T r mc ms Q QX kc ks pc lv (.ref a :: st) S V :=
  R_getN (ci := 6) (k := 1) (T0 := TX6) (N := 2) rfl (by decide) (by decide) inX6 (by rw [hT]; exact flX11_93) d hs hv kk
theorem flX11_99 : Cond.fieldLinkNest RX11 99 (TX1 5).1 (TX1 5).2.1 (TX1 5).2.2.1 "MergePost" ∈ aN := aN_of (List.mem_of_getElem? (i := 247) (by decide +kernel)) (by decide +kernel)
theorem gfX11_99 {a : Nat} {v : Value} (hT : T.1.cls = RX11) (d : decode T.2.1 pc = .ok (.getfield 99, 3)) (hs : (S.1 a).1 = 1) (hv : V a 5 = v) (kk : R T r mc ms Q QX kc ks (pc + 3) lv (v :: st) S V) : R T r mc ms Q QX kc ks pc lv (.ref a :: st) S V :=
  R_getN (ci := 1) (k := 5) (T0 := TX1) (N := 6) rfl (by decide) (by decide) inX1 (by rw [hT]; exact flX11_99) d hs hv kk
theorem flX11_121 : Cond.fieldLinkNest RX11 121 (TX1 0).1 (TX1 0).2.1 (TX1 0).2.2.1 "MergePost" ∈ aN := aN_of (List.mem_of_getElem? (i := 240) (by decide +kernel)) (by decide +kernel)
theorem gfX11_121 {a : Nat} {v : Value} (hT : T.1.cls = RX11) (d : decode T.2.1 pc = .ok (.getfield 121, 3)) (hs : (S.1 a).1 = 1) (hv : V a 0 = v) (kk : R T r mc ms Q QX kc ks (pc + 3) lv (v :: st) S V) : R T r mc ms Q QX kc ks pc lv (.ref a :: st) S V :=
  R_getN (ci := 1) (k := 0) (T0 := TX1) (N := 6) rfl (by decide) (by decide) inX1 (by rw [hT]; exact flX11_121) d hs hv kk
theorem flX11_170 : Cond.fieldLinkNest RX11 170 (TX2 0).1 (TX2 0).2.1 (TX2 0).2.2.1 "MergePost" ∈ aN := aN_of (List.mem_of_getElem? (i := 278) (by decide +kernel)) (by decide +kernel)
theorem pfX11_170 {a : Nat} {x : Int32} (hT : T.1.cls = RX11) (d : decode T.2.1 pc = .ok (.putfield 170, 3)) (hs : (S.1 a).1 = 2)  (kk : R T r mc ms Q QX kc ks (pc + 3) lv st S (a_up V a 0 (.int x))) : R T r mc ms Q QX kc ks pc lv (.int x :: .ref a :: st) S V :=
  R_putN (ci := 2) (k := 0) (T0 := TX2) (N := 2) (ty0 := tyX2) (ty := tyX2 0) rfl (by decide) (by decide) inX2 tyX2_ok nmX2 (by rw [hT]; exact flX11_170) rfl (tyX2_ok 0 (by decide)) rfl rfl d hs kk
theorem flX11_173 : Cond.fieldLinkNest RX11 173 (TX2 1).1 (TX2 1).2.1 (TX2 1).2.2.1 "MergePost" ∈ aN := aN_of (List.mem_of_getElem? (i := 280) (by decide +kernel)) (by decide +kernel)
theorem pfX11_173 {a : Nat} {x : Int32} (hT : T.1.cls = RX11) (d : decode T.2.1 pc = .ok (.putfield 173, 3)) (hs : (S.1 a).1 = 2)  (kk : R T r mc ms Q QX kc ks (pc + 3) lv st S (a_up V a 1 (.int x))) : R T r mc ms Q QX kc ks pc lv (.int x :: .ref a :: st) S V :=
  R_putN (ci := 2) (k := 1) (T0 := TX2) (N := 2) (ty0 := tyX2) (ty := tyX2 1) rfl (by decide) (by decide) inX2 tyX2_ok nmX2 (by rw [hT]; exact flX11_173) rfl (tyX2_ok 1 (by decide)) rfl rfl d hs kk
theorem flX11_185 : Cond.fieldLink RX11 185 (TX11 6).1 (TX11 6).2.1 (TX11 6).2.2.1 ∈ aT := aT_of (List.mem_of_getElem? (i := 390) (by decide +kernel)) (by decide +kernel)
theorem gfX11_185 {a : Nat} {v : Value} (hT : T.1.cls = RX11) (d : decode T.2.1 pc = .ok (.getfield 185, 3)) (hs : (S.1 a).1 = 11) (hv : V a 6 = v) (kk : R T r mc ms Q QX kc ks (pc + 3) lv (v :: st) S V) : R T r mc ms Q QX kc ks pc lv (.ref a :: st) S V :=
  R_get (ci := 11) (k := 6) (T0 := TX11) (N := 8) rfl (by decide) (by decide) inX11 (by rw [hT]; exact flX11_185) d hs hv kk
theorem pfX11_185 {a : Nat} {x : Int32} (hT : T.1.cls = RX11) (d : decode T.2.1 pc = .ok (.putfield 185, 3)) (hs : (S.1 a).1 = 11)  (kk : R T r mc ms Q QX kc ks (pc + 3) lv st S (a_up V a 6 (.int x))) : R T r mc ms Q QX kc ks pc lv (.int x :: .ref a :: st) S V :=
  R_put (ci := 11) (k := 6) (T0 := TX11) (N := 8) (ty0 := tyX11) (ty := tyX11 6) rfl (by decide) (by decide) inX11 tyX11_ok nmX11 (by rw [hT]; exact flX11_185) rfl (tyX11_ok 6 (by decide)) rfl rfl d hs kk
theorem flX11_190 : Cond.fieldLinkNest RX11 190 (TX8 2).1 (TX8 2).2.1 (TX8 2).2.2.1 "MergePost" ∈ aN := aN_of (List.mem_of_getElem? (i := 300) (by decide +kernel)) (by decide +kernel)
theorem gfX11_190 {a : Nat} {v : Value} (hT : T.1.cls = RX11) (d : decode T.2.1 pc = .ok (.getfield 190, 3)) (hs : (S.1 a).1 = 8) (hv : V a 2 = v) (kk : R T r mc ms Q QX kc ks (pc + 3) lv (v :: st) S V) : R T r mc ms Q QX kc ks pc lv (.ref a :: st) S V :=
  R_getN (ci := 8) (k := 2) (T0 := TX8) (N := 5) rfl (by decide) (by decide) inX8 (by rw [hT]; exact flX11_190) d hs hv kk
theorem pfX11_190 {a : Nat} {x : Int32} (hT : T.1.cls = RX11) (d : decode T.2.1 pc = .ok (.putfield 190, 3)) (hs : (S.1 a).1 = 8)  (kk : R T r mc ms Q QX kc ks (pc + 3) lv st S (a_up V a 2 (.int x))) : R T r mc ms Q QX kc ks pc lv (.int x :: .ref a :: st) S V :=
  R_putN (ci := 8) (k := 2) (T0 := TX8) (N := 5) (ty0 := tyX8) (ty := tyX8 2) rfl (by decide) (by decide) inX8 tyX8_ok nmX8 (by rw [hT]; exact flX11_190) rfl (tyX8_ok 2 (by decide)) rfl rfl d hs kk
theorem flX11_193 : Cond.fieldLinkNest RX11 193 (TX8 3).1 (TX8 3).2.1 (TX8 3).2.2.1 "MergePost" ∈ aN := aN_of (List.mem_of_getElem? (i := 301) (by decide +kernel)) (by decide +kernel)
theorem gfX11_193 {a : Nat} {v : Value} (hT : T.1.cls = RX11) (d : decode T.2.1 pc = .ok (.getfield 193, 3)) (hs : (S.1 a).1 = 8) (hv : V a 3 = v) (kk : R T r mc ms Q QX kc ks (pc + 3) lv (v :: st) S V) : R T r mc ms Q QX kc ks pc lv (.ref a :: st) S V :=
  R_getN (ci := 8) (k := 3) (T0 := TX8) (N := 5) rfl (by decide) (by decide) inX8 (by rw [hT]; exact flX11_193) d hs hv kk
theorem pfX11_193 {a : Nat} {x : Int32} (hT : T.1.cls = RX11) (d : decode T.2.1 pc = .ok (.putfield 193, 3)) (hs : (S.1 a).1 = 8)  (kk : R T r mc ms Q QX kc ks (pc + 3) lv st S (a_up V a 3 (.int x))) : R T r mc ms Q QX kc ks pc lv (.int x :: .ref a :: st) S V :=
  R_putN (ci := 8) (k := 3) (T0 := TX8) (N := 5) (ty0 := tyX8) (ty := tyX8 3) rfl (by decide) (by decide) inX8 tyX8_ok nmX8 (by rw [hT]; exact flX11_193) rfl (tyX8_ok 3 (by decide)) rfl rfl d hs kk
theorem flX11_212 : Cond.fieldLinkNest RX11 212 (TX4 1).1 (TX4 1).2.1 (TX4 1).2.2.1 "MergePost" ∈ aN := aN_of (List.mem_of_getElem? (i := 143) (by decide +kernel)) (by decide +kernel)
theorem gfX11_212 {a : Nat} {v : Value} (hT : T.1.cls = RX11) (d : decode T.2.1 pc = .ok (.getfield 212, 3)) (hs : (S.1 a).1 = 4) (hv : V a 1 = v) (kk : R T r mc ms Q QX kc ks (pc + 3) lv (v :: st) S V) : R T r mc ms Q QX kc ks pc lv (.ref a :: st) S V :=
  R_getN (ci := 4) (k := 1) (T0 := TX4) (N := 5) rfl (by decide) (by decide) inX4 (by rw [hT]; exact flX11_212) d hs hv kk
theorem pfX11_212 {a : Nat} {x : Int32} (hT : T.1.cls = RX11) (d : decode T.2.1 pc = .ok (.putfield 212, 3)) (hs : (S.1 a).1 = 4)  (kk : R T r mc ms Q QX kc ks (pc + 3) lv st S (a_up V a 1 (.int x))) : R T r mc ms Q QX kc ks pc lv (.int x :: .ref a :: st) S V :=
  R_putN (ci := 4) (k := 1) (T0 := TX4) (N := 5) (ty0 := tyX4) (ty := tyX4 1) rfl (by decide) (by decide) inX4 tyX4_ok nmX4 (by rw [hT]; exact flX11_212) rfl (tyX4_ok 1 (by decide)) rfl rfl d hs kk
theorem flX11_217 : Cond.fieldLinkNest RX11 217 (TX4 2).1 (TX4 2).2.1 (TX4 2).2.2.1 "MergePost" ∈ aN := aN_of (List.mem_of_getElem? (i := 146) (by decide +kernel)) (by decide +kernel)
theorem gfX11_217 {a : Nat} {v : Value} (hT : T.1.cls = RX11) (d : decode T.2.1 pc = .ok (.getfield 217, 3)) (hs : (S.1 a).1 = 4) (hv : V a 2 = v) (kk : R T r mc ms Q QX kc ks (pc + 3) lv (v :: st) S V) : R T r mc ms Q QX kc ks pc lv (.ref a :: st) S V :=
  R_getN (ci := 4) (k := 2) (T0 := TX4) (N := 5) rfl (by decide) (by decide) inX4 (by rw [hT]; exact flX11_217) d hs hv kk
theorem flX11_220 : Cond.fieldLinkNest RX11 220 (TX4 0).1 (TX4 0).2.1 (TX4 0).2.2.1 "MergePost" ∈ aN := aN_of (List.mem_of_getElem? (i := 141) (by decide +kernel)) (by decide +kernel)
theorem gfX11_220 {a : Nat} {v : Value} (hT : T.1.cls = RX11) (d : decode T.2.1 pc = .ok (.getfield 220, 3)) (hs : (S.1 a).1 = 4) (hv : V a 0 = v) (kk : R T r mc ms Q QX kc ks (pc + 3) lv (v :: st) S V) : R T r mc ms Q QX kc ks pc lv (.ref a :: st) S V :=
  R_getN (ci := 4) (k := 0) (T0 := TX4) (N := 5) rfl (by decide) (by decide) inX4 (by rw [hT]; exact flX11_220) d hs hv kk
theorem flX11_223 : Cond.fieldLinkNest RX11 223 (TX4 3).1 (TX4 3).2.1 (TX4 3).2.2.1 "MergePost" ∈ aN := aN_of (List.mem_of_getElem? (i := 148) (by decide +kernel)) (by decide +kernel)
theorem gfX11_223 {a : Nat} {v : Value} (hT : T.1.cls = RX11) (d : decode T.2.1 pc = .ok (.getfield 223, 3)) (hs : (S.1 a).1 = 4) (hv : V a 3 = v) (kk : R T r mc ms Q QX kc ks (pc + 3) lv (v :: st) S V) : R T r mc ms Q QX kc ks pc lv (.ref a :: st) S V :=
  R_getN (ci := 4) (k := 3) (T0 := TX4) (N := 5) rfl (by decide) (by decide) inX4 (by rw [hT]; exact flX11_223) d hs hv kk
theorem pfX11_223 {a : Nat} {x : Int32} (hT : T.1.cls = RX11) (d : decode T.2.1 pc = .ok (.putfield 223, 3)) (hs : (S.1 a).1 = 4)  (kk : R T r mc ms Q QX kc ks (pc + 3) lv st S (a_up V a 3 (.int x))) : R T r mc ms Q QX kc ks pc lv (.int x :: .ref a :: st) S V :=
  R_putN (ci := 4) (k := 3) (T0 := TX4) (N := 5) (ty0 := tyX4) (ty := tyX4 3) rfl (by decide) (by decide) inX4 tyX4_ok nmX4 (by rw [hT]; exact flX11_223) rfl (tyX4_ok 3 (by decide)) rfl rfl d hs kk
theorem flX11_226 : Cond.fieldLinkNest RX11 226 (TX4 4).1 (TX4 4).2.1 (TX4 4).2.2.1 "MergePost" ∈ aN := aN_of (List.mem_of_getElem? (i := 150) (by decide +kernel)) (by decide +kernel)
theorem gfX11_226 {a : Nat} {v : Value} (hT : T.1.cls = RX11) (d : decode T.2.1 pc = .ok (.getfield 226, 3)) (hs : (S.1 a).1 = 4) (hv : V a 4 = v) (kk : R T r mc ms Q QX kc ks (pc + 3) lv (v :: st) S V) : R T r mc ms Q QX kc ks pc lv (.ref a :: st) S V :=
  R_getN (ci := 4) (k := 4) (T0 := TX4) (N := 5) rfl (by decide) (by decide) inX4 (by rw [hT]; exact flX11_226) d hs hv kk
theorem pfX11_226 {a : Nat} {x : Int32} (hT : T.1.cls = RX11) (d : decode T.2.1 pc = .ok (.putfield 226, 3)) (hs : (S.1 a).1 = 4)  (kk : R T r mc ms Q QX kc ks (pc + 3) lv st S (a_up V a 4 (.int x))) : R T r mc ms Q QX kc ks pc lv (.int x :: .ref a :: st) S V :=
  R_putN (ci := 4) (k := 4) (T0 := TX4) (N := 5) (ty0 := tyX4) (ty := tyX4 4) rfl (by decide) (by decide) inX4 tyX4_ok nmX4 (by rw [hT]; exact flX11_226) rfl (tyX4_ok 4 (by decide)) rfl rfl d hs kk
theorem flX11_245 : Cond.fieldLinkNest RX11 245 (TX8 4).1 (TX8 4).2.1 (TX8 4).2.2.1 "MergePost" ∈ aN := aN_of (List.mem_of_getElem? (i := 302) (by decide +kernel)) (by decide +kernel)
theorem gfX11_245 {a : Nat} {v : Value} (hT : T.1.cls = RX11) (d : decode T.2.1 pc = .ok (.getfield 245, 3)) (hs : (S.1 a).1 = 8) (hv : V a 4 = v) (kk : R T r mc ms Q QX kc ks (pc + 3) lv (v :: st) S V) : R T r mc ms Q QX kc ks pc lv (.ref a :: st) S V :=
  R_getN (ci := 8) (k := 4) (T0 := TX8) (N := 5) rfl (by decide) (by decide) inX8 (by rw [hT]; exact flX11_245) d hs hv kk
theorem pfX11_245 {a : Nat} {x : Int32} (hT : T.1.cls = RX11) (d : decode T.2.1 pc = .ok (.putfield 245, 3)) (hs : (S.1 a).1 = 8) (hn : narrow .boolean (.int x) = .int x) (hf : fits .boolean (.int x) = true) (kk : R T r mc ms Q QX kc ks (pc + 3) lv st S (a_up V a 4 (.int x))) : R T r mc ms Q QX kc ks pc lv (.int x :: .ref a :: st) S V :=
  R_putN (ci := 8) (k := 4) (T0 := TX8) (N := 5) (ty0 := tyX8) (ty := tyX8 4) rfl (by decide) (by decide) inX8 tyX8_ok nmX8 (by rw [hT]; exact flX11_245) rfl (tyX8_ok 4 (by decide)) hn hf d hs kk
theorem flX11_267 : Cond.fieldLinkNest RX11 267 (TX8 1).1 (TX8 1).2.1 (TX8 1).2.2.1 "MergePost" ∈ aN := aN_of (List.mem_of_getElem? (i := 299) (by decide +kernel)) (by decide +kernel)
theorem gfX11_267 {a : Nat} {v : Value} (hT : T.1.cls = RX11) (d : decode T.2.1 pc = .ok (.getfield 267, 3)) (hs : (S.1 a).1 = 8) (hv : V a 1 = v) (kk : R T r mc ms Q QX kc ks (pc + 3) lv (v :: st) S V) : R T r mc ms Q QX kc ks pc lv (.ref a :: st) S V :=
  R_getN (ci := 8) (k := 1) (T0 := TX8) (N := 5) rfl (by decide) (by decide) inX8 (by rw [hT]; exact flX11_267) d hs hv kk
theorem flX11_268 : Cond.fieldLink RX11 268 (TX11 7).1 (TX11 7).2.1 (TX11 7).2.2.1 ∈ aT := aT_of (List.mem_of_getElem? (i := 391) (by decide +kernel)) (by decide +kernel)
theorem gfX11_268 {a : Nat} {v : Value} (hT : T.1.cls = RX11) (d : decode T.2.1 pc = .ok (.getfield 268, 3)) (hs : (S.1 a).1 = 11) (hv : V a 7 = v) (kk : R T r mc ms Q QX kc ks (pc + 3) lv (v :: st) S V) : R T r mc ms Q QX kc ks pc lv (.ref a :: st) S V :=
  R_get (ci := 11) (k := 7) (T0 := TX11) (N := 8) rfl (by decide) (by decide) inX11 (by rw [hT]; exact flX11_268) d hs hv kk
theorem pfX11_268 {a : Nat} {x : Int32} (hT : T.1.cls = RX11) (d : decode T.2.1 pc = .ok (.putfield 268, 3)) (hs : (S.1 a).1 = 11)  (kk : R T r mc ms Q QX kc ks (pc + 3) lv st S (a_up V a 7 (.int x))) : R T r mc ms Q QX kc ks pc lv (.int x :: .ref a :: st) S V :=
  R_put (ci := 11) (k := 7) (T0 := TX11) (N := 8) (ty0 := tyX11) (ty := tyX11 7) rfl (by decide) (by decide) inX11 tyX11_ok nmX11 (by rw [hT]; exact flX11_268) rfl (tyX11_ok 7 (by decide)) rfl rfl d hs kk
theorem flX11_271 : Cond.fieldLinkNest RX11 271 (TX1 3).1 (TX1 3).2.1 (TX1 3).2.2.1 "MergePost" ∈ aN := aN_of (List.mem_of_getElem? (i := 244) (by decide +kernel)) (by decide +kernel)
theorem gfX11_271 {a : Nat} {v : Value} (hT : T.1.cls = RX11) (d : decode T.2.1 pc = .ok (.getfield 271, 3)) (hs : (S.1 a).1 = 1) (hv : V a 3 = v) (kk : R T r mc ms Q QX kc ks (pc + 3) lv (v :: st) S V) : R T r mc ms Q QX kc ks pc lv (.ref a :: st) S V :=
  R_getN (ci := 1) (k := 3) (T0 := TX1) (N := 6) rfl (by decide) (by decide) inX1 (by rw [hT]; exact flX11_271) d hs hv kk
theorem flX11_280 : Cond.fieldLinkNest RX11 280 (TX8 0).1 (TX8 0).2.1 (TX8 0).2.2.1 "MergePost" ∈ aN := aN_of (List.mem_of_getElem? (i := 297) (by decide +kernel)) (by decide +kernel)
theorem gfX11_280 {a : Nat} {v : Value} (hT : T.1.cls = RX11) (d : decode T.2.1 pc = .ok (.getfield 280, 3)) (hs : (S.1 a).1 = 8) (hv : V a 0 = v) (kk : R T r mc ms Q QX kc ks (pc + 3) lv (v :: st) S V) : R T r mc ms Q QX kc ks pc lv (.ref a :: st) S V :=
  R_getN (ci := 8) (k := 0) (T0 := TX8) (N := 5) rfl (by decide) (by decide) inX8 (by rw [hT]; exact flX11_280) d hs hv kk
theorem flX11_284 : Cond.fieldLinkNest RX11 284 (TX7 2).1 (TX7 2).2.1 (TX7 2).2.2.1 "MergePost" ∈ aN := aN_of (List.mem_of_getElem? (i := 165) (by decide +kernel)) (by decide +kernel)
theorem gfX11_284 {a : Nat} {v : Value} (hT : T.1.cls = RX11) (d : decode T.2.1 pc = .ok (.getfield 284, 3)) (hs : (S.1 a).1 = 7) (hv : V a 2 = v) (kk : R T r mc ms Q QX kc ks (pc + 3) lv (v :: st) S V) : R T r mc ms Q QX kc ks pc lv (.ref a :: st) S V :=
  R_getN (ci := 7) (k := 2) (T0 := TX7) (N := 9) rfl (by decide) (by decide) inX7 (by rw [hT]; exact flX11_284) d hs hv kk
theorem flX11_297 : Cond.fieldLinkNest RX11 297 (TX7 3).1 (TX7 3).2.1 (TX7 3).2.2.1 "MergePost" ∈ aN := aN_of (List.mem_of_getElem? (i := 167) (by decide +kernel)) (by decide +kernel)
theorem gfX11_297 {a : Nat} {v : Value} (hT : T.1.cls = RX11) (d : decode T.2.1 pc = .ok (.getfield 297, 3)) (hs : (S.1 a).1 = 7) (hv : V a 3 = v) (kk : R T r mc ms Q QX kc ks (pc + 3) lv (v :: st) S V) : R T r mc ms Q QX kc ks pc lv (.ref a :: st) S V :=
  R_getN (ci := 7) (k := 3) (T0 := TX7) (N := 9) rfl (by decide) (by decide) inX7 (by rw [hT]; exact flX11_297) d hs hv kk
theorem flX11_301 : Cond.fieldLinkNest RX11 301 (TX3 1).1 (TX3 1).2.1 (TX3 1).2.2.1 "MergePost" ∈ aN := aN_of (List.mem_of_getElem? (i := 122) (by decide +kernel)) (by decide +kernel)
theorem gfX11_301 {a : Nat} {v : Value} (hT : T.1.cls = RX11) (d : decode T.2.1 pc = .ok (.getfield 301, 3)) (hs : (S.1 a).1 = 3) (hv : V a 1 = v) (kk : R T r mc ms Q QX kc ks (pc + 3) lv (v :: st) S V) : R T r mc ms Q QX kc ks pc lv (.ref a :: st) S V :=
  R_getN (ci := 3) (k := 1) (T0 := TX3) (N := 3) rfl (by decide) (by decide) inX3 (by rw [hT]; exact flX11_301) d hs hv kk
theorem flX2_9 : Cond.fieldLink RX2 9 (TX2 0).1 (TX2 0).2.1 (TX2 0).2.2.1 ∈ aT := aT_of (List.mem_of_getElem? (i := 347) (by decide +kernel)) (by decide +kernel)
theorem gfX2_9 {a : Nat} {v : Value} (hT : T.1.cls = RX2) (d : decode T.2.1 pc = .ok (.getfield 9, 3)) (hs : (S.1 a).1 = 2) (hv : V a 0 = v) (kk : R T r mc ms Q QX kc ks (pc + 3) lv (v :: st) S V) : R T r mc ms Q QX kc ks pc lv (.ref a :: st) S V :=
  R_get (ci := 2) (k := 0) (T0 := TX2) (N := 2) rfl (by decide) (by decide) inX2 (by rw [hT]; exact flX2_9) d hs hv kk
theorem pfX2_9 {a : Nat} {x : Int32} (hT : T.1.cls = RX2) (d : decode T.2.1 pc = .ok (.putfield 9, 3)) (hs : (S.1 a).1 = 2)  (kk : R T r mc ms Q QX kc ks (pc + 3) lv st S (a_up V a 0 (.int x))) : R T r mc ms Q QX kc ks pc lv (.int x :: .ref a :: st) S V :=
  R_put (ci := 2) (k := 0) (T0 := TX2) (N := 2) (ty0 := tyX2) (ty := tyX2 0) rfl (by decide) (by decide) inX2 tyX2_ok nmX2 (by rw [hT]; exact flX2_9) rfl (tyX2_ok 0 (by decide)) rfl rfl d hs kk
theorem flX2_15 : Cond.fieldLink RX2 15 (TX2 1).1 (TX2 1).2.1 (TX2 1).2.2.1 ∈ aT := aT_of (List.mem_of_getElem? (i := 349) (by decide +kernel)) (by decide +kernel)
theorem gfX2_15 {a : Nat} {v : Value} (hT : T.1.cls = RX2) (d : decode T.2.1 pc = .ok (.getfield 15, 3)) (hs : (S.1 a).1 = 2) (hv : V a 1 = v) (kk : R T r mc ms Q QX kc ks (pc + 3) lv (v :: st) S V) : R T r mc ms Q QX kc ks pc lv (.ref a :: st) S V :=
  R_get (ci := 2) (k := 1) (T0 := TX2) (N := 2) rfl (by decide) (by decide) inX2 (by rw [hT]; exact flX2_15) d hs hv kk
theorem pfX2_15 {a : Nat} {x : Int32} (hT : T.1.cls = RX2) (d : decode T.2.1 pc = .ok (.putfield 15, 3)) (hs : (S.1 a).1 = 2)  (kk : R T r mc ms Q QX kc ks (pc + 3) lv st S (a_up V a 1 (.int x))) : R T r mc ms Q QX kc ks pc lv (.int x :: .ref a :: st) S V :=
  R_put (ci := 2) (k := 1) (T0 := TX2) (N := 2) (ty0 := tyX2) (ty := tyX2 1) rfl (by decide) (by decide) inX2 tyX2_ok nmX2 (by rw [hT]; exact flX2_15) rfl (tyX2_ok 1 (by decide)) rfl rfl d hs kk
theorem flX3_11 : Cond.fieldLink RX3 11 (TX3 0).1 (TX3 0).2.1 (TX3 0).2.2.1 ∈ aT := aT_of (List.mem_of_getElem? (i := 188) (by decide +kernel)) (by decide +kernel)
theorem gfX3_11 {a : Nat} {v : Value} (hT : T.1.cls = RX3) (d : decode T.2.1 pc = .ok (.getfield 11, 3)) (hs : (S.1 a).1 = 3) (hv : V a 0 = v) (kk : R T r mc ms Q QX kc ks (pc + 3) lv (v :: st) S V) : R T r mc ms Q QX kc ks pc lv (.ref a :: st) S V :=
  R_get (ci := 3) (k := 0) (T0 := TX3) (N := 3) rfl (by decide) (by decide) inX3 (by rw [hT]; exact flX3_11) d hs hv kk
theorem pfX3_11 {a : Nat} {x : Nat} (hT : T.1.cls = RX3) (hI : T.1.name = "<init>") (d : decode T.2.1 pc = .ok (.putfield 11, 3)) (hs : (S.1 a).1 = 3)  (kk : R T r mc ms Q QX kc ks (pc + 3) lv st S (a_up V a 0 (.ref x))) : R T r mc ms Q QX kc ks pc lv (.ref x :: .ref a :: st) S V :=
  R_putF (ci := 3) (k := 0) (T0 := TX3) (N := 3) (ty0 := tyX3) (ty := tyX3 0) rfl (by decide) (by decide) inX3 tyX3_ok nmX3 (by rw [hT]; exact flX3_11) rfl hI (by rw [hT]; rfl) (tyX3_ok 0 (by decide)) rfl rfl d hs kk
theorem flX3_17 : Cond.fieldLink RX3 17 (TX3 1).1 (TX3 1).2.1 (TX3 1).2.2.1 ∈ aT := aT_of (List.mem_of_getElem? (i := 190) (by decide +kernel)) (by decide +kernel)
theorem gfX3_17 {a : Nat} {v : Value} (hT : T.1.cls = RX3) (d : decode T.2.1 pc = .ok (.getfield 17, 3)) (hs : (S.1 a).1 = 3) (hv : V a 1 = v) (kk : R T r mc ms Q QX kc ks (pc + 3) lv (v :: st) S V) : R T r mc ms Q QX kc ks pc lv (.ref a :: st) S V :=
  R_get (ci := 3) (k := 1) (T0 := TX3) (N := 3) rfl (by decide) (by decide) inX3 (by rw [hT]; exact flX3_17) d hs hv kk
theorem pfX3_17 {a : Nat} {x : Nat} (hT : T.1.cls = RX3) (hI : T.1.name = "<init>") (d : decode T.2.1 pc = .ok (.putfield 17, 3)) (hs : (S.1 a).1 = 3)  (kk : R T r mc ms Q QX kc ks (pc + 3) lv st S (a_up V a 1 (.ref x))) : R T r mc ms Q QX kc ks pc lv (.ref x :: .ref a :: st) S V :=
  R_putF (ci := 3) (k := 1) (T0 := TX3) (N := 3) (ty0 := tyX3) (ty := tyX3 1) rfl (by decide) (by decide) inX3 tyX3_ok nmX3 (by rw [hT]; exact flX3_17) rfl hI (by rw [hT]; rfl) (tyX3_ok 1 (by decide)) rfl rfl d hs kk
theorem flX3_24 : Cond.fieldLink RX3 24 (TX3 2).1 (TX3 2).2.1 (TX3 2).2.2.1 ∈ aT := aT_of (List.mem_of_getElem? (i := 193) (by decide +kernel)) (by decide +kernel)
theorem gfX3_24 {a : Nat} {v : Value} (hT : T.1.cls = RX3) (d : decode T.2.1 pc = .ok (.getfield 24, 3)) (hs : (S.1 a).1 = 3) (hv : V a 2 = v) (kk : R T r mc ms Q QX kc ks (pc + 3) lv (v :: st) S V) : R T r mc ms Q QX kc ks pc lv (.ref a :: st) S V :=
  R_get (ci := 3) (k := 2) (T0 := TX3) (N := 3) rfl (by decide) (by decide) inX3 (by rw [hT]; exact flX3_24) d hs hv kk
theorem pfX3_24 {a : Nat} {x : Nat} (hT : T.1.cls = RX3) (hI : T.1.name = "<init>") (d : decode T.2.1 pc = .ok (.putfield 24, 3)) (hs : (S.1 a).1 = 3)  (kk : R T r mc ms Q QX kc ks (pc + 3) lv st S (a_up V a 2 (.ref x))) : R T r mc ms Q QX kc ks pc lv (.ref x :: .ref a :: st) S V :=
  R_putF (ci := 3) (k := 2) (T0 := TX3) (N := 3) (ty0 := tyX3) (ty := tyX3 2) rfl (by decide) (by decide) inX3 tyX3_ok nmX3 (by rw [hT]; exact flX3_24) rfl hI (by rw [hT]; rfl) (tyX3_ok 2 (by decide)) rfl rfl d hs kk
theorem flX3_32 : Cond.fieldLinkNest RX3 32 (TX9 1).1 (TX9 1).2.1 (TX9 1).2.2.1 "MergePost" ∈ aN := aN_of (List.mem_of_getElem? (i := 50) (by decide +kernel)) (by decide +kernel)
theorem gfX3_32 {a : Nat} {v : Value} (hT : T.1.cls = RX3) (d : decode T.2.1 pc = .ok (.getfield 32, 3)) (hs : (S.1 a).1 = 9) (hv : V a 1 = v) (kk : R T r mc ms Q QX kc ks (pc + 3) lv (v :: st) S V) : R T r mc ms Q QX kc ks pc lv (.ref a :: st) S V :=
  R_getN (ci := 9) (k := 1) (T0 := TX9) (N := 2) rfl (by decide) (by decide) inX9 (by rw [hT]; exact flX3_32) d hs hv kk
theorem pfX3_32 {a : Nat} {x : Int32} (hT : T.1.cls = RX3) (d : decode T.2.1 pc = .ok (.putfield 32, 3)) (hs : (S.1 a).1 = 9)  (kk : R T r mc ms Q QX kc ks (pc + 3) lv st S (a_up V a 1 (.int x))) : R T r mc ms Q QX kc ks pc lv (.int x :: .ref a :: st) S V :=
  R_putN (ci := 9) (k := 1) (T0 := TX9) (N := 2) (ty0 := tyX9) (ty := tyX9 1) rfl (by decide) (by decide) inX9 tyX9_ok nmX9 (by rw [hT]; exact flX3_32) rfl (tyX9_ok 1 (by decide)) rfl rfl d hs kk
theorem flX3_36 : Cond.fieldLinkNest RX3 36 (TX1 0).1 (TX1 0).2.1 (TX1 0).2.2.1 "MergePost" ∈ aN := aN_of (List.mem_of_getElem? (i := 239) (by decide +kernel)) (by decide +kernel)
theorem gfX3_36 {a : Nat} {v : Value} (hT : T.1.cls = RX3) (d : decode T.2.1 pc = .ok (.getfield 36, 3)) (hs : (S.1 a).1 = 1) (hv : V a 0 = v) (kk : R T r mc ms Q QX kc ks (pc + 3) lv (v :: st) S V) : R T r mc ms Q QX kc ks pc lv (.ref a :: st) S V :=
  R_getN (ci := 1) (k := 0) (T0 := TX1) (N := 6) rfl (by decide) (by decide) inX1 (by rw [hT]; exact flX3_36) d hs hv kk
theorem flX3_49 : Cond.fieldLinkNest RX3 49 (TX0 1).1 (TX0 1).2.1 (TX0 1).2.2.1 "MergePost" ∈ aN := aN_of (List.mem_of_getElem? (i := 210) (by decide +kernel)) (by decide +kernel)
theorem gfX3_49 {a : Nat} {v : Value} (hT : T.1.cls = RX3) (d : decode T.2.1 pc = .ok (.getfield 49, 3)) (hs : (S.1 a).1 = 0) (hv : V a 1 = v) (kk : R T r mc ms Q QX kc ks (pc + 3) lv (v :: st) S V) : R T r mc ms Q QX kc ks pc lv (.ref a :: st) S V :=
  R_getN (ci := 0) (k := 1) (T0 := TX0) (N := 7) rfl (by decide) (by decide) inX0 (by rw [hT]; exact flX3_49) d hs hv kk
theorem flX3_58 : Cond.fieldLinkNest RX3 58 (TX0 4).1 (TX0 4).2.1 (TX0 4).2.2.1 "MergePost" ∈ aN := aN_of (List.mem_of_getElem? (i := 215) (by decide +kernel)) (by decide +kernel)
theorem gfX3_58 {a : Nat} {v : Value} (hT : T.1.cls = RX3) (d : decode T.2.1 pc = .ok (.getfield 58, 3)) (hs : (S.1 a).1 = 0) (hv : V a 4 = v) (kk : R T r mc ms Q QX kc ks (pc + 3) lv (v :: st) S V) : R T r mc ms Q QX kc ks pc lv (.ref a :: st) S V :=
  R_getN (ci := 0) (k := 4) (T0 := TX0) (N := 7) rfl (by decide) (by decide) inX0 (by rw [hT]; exact flX3_58) d hs hv kk
theorem flX3_61 : Cond.fieldLinkNest RX3 61 (TX0 5).1 (TX0 5).2.1 (TX0 5).2.2.1 "MergePost" ∈ aN := aN_of (List.mem_of_getElem? (i := 218) (by decide +kernel)) (by decide +kernel)
theorem gfX3_61 {a : Nat} {v : Value} (hT : T.1.cls = RX3) (d : decode T.2.1 pc = .ok (.getfield 61, 3)) (hs : (S.1 a).1 = 0) (hv : V a 5 = v) (kk : R T r mc ms Q QX kc ks (pc + 3) lv (v :: st) S V) : R T r mc ms Q QX kc ks pc lv (.ref a :: st) S V :=
  R_getN (ci := 0) (k := 5) (T0 := TX0) (N := 7) rfl (by decide) (by decide) inX0 (by rw [hT]; exact flX3_61) d hs hv kk
theorem flX3_64 : Cond.fieldLinkNest RX3 64 (TX0 0).1 (TX0 0).2.1 (TX0 0).2.2.1 "MergePost" ∈ aN := aN_of (List.mem_of_getElem? (i := 208) (by decide +kernel)) (by decide +kernel)
theorem gfX3_64 {a : Nat} {v : Value} (hT : T.1.cls = RX3) (d : decode T.2.1 pc = .ok (.getfield 64, 3)) (hs : (S.1 a).1 = 0) (hv : V a 0 = v) (kk : R T r mc ms Q QX kc ks (pc + 3) lv (v :: st) S V) : R T r mc ms Q QX kc ks pc lv (.ref a :: st) S V :=
  R_getN (ci := 0) (k := 0) (T0 := TX0) (N := 7) rfl (by decide) (by decide) inX0 (by rw [hT]; exact flX3_64) d hs hv kk
theorem flX3_67 : Cond.fieldLinkNest RX3 67 (TX0 6).1 (TX0 6).2.1 (TX0 6).2.2.1 "MergePost" ∈ aN := aN_of (List.mem_of_getElem? (i := 221) (by decide +kernel)) (by decide +kernel)
theorem gfX3_67 {a : Nat} {v : Value} (hT : T.1.cls = RX3) (d : decode T.2.1 pc = .ok (.getfield 67, 3)) (hs : (S.1 a).1 = 0) (hv : V a 6 = v) (kk : R T r mc ms Q QX kc ks (pc + 3) lv (v :: st) S V) : R T r mc ms Q QX kc ks pc lv (.ref a :: st) S V :=
  R_getN (ci := 0) (k := 6) (T0 := TX0) (N := 7) rfl (by decide) (by decide) inX0 (by rw [hT]; exact flX3_67) d hs hv kk
theorem flX4_14 : Cond.fieldLink RX4 14 (TX4 0).1 (TX4 0).2.1 (TX4 0).2.2.1 ∈ aT := aT_of (List.mem_of_getElem? (i := 209) (by decide +kernel)) (by decide +kernel)
theorem gfX4_14 {a : Nat} {v : Value} (hT : T.1.cls = RX4) (d : decode T.2.1 pc = .ok (.getfield 14, 3)) (hs : (S.1 a).1 = 4) (hv : V a 0 = v) (kk : R T r mc ms Q QX kc ks (pc + 3) lv (v :: st) S V) : R T r mc ms Q QX kc ks pc lv (.ref a :: st) S V :=
  R_get (ci := 4) (k := 0) (T0 := TX4) (N := 5) rfl (by decide) (by decide) inX4 (by rw [hT]; exact flX4_14) d hs hv kk
theorem pfX4_14 {a : Nat} {x : Nat} (hT : T.1.cls = RX4) (hI : T.1.name = "<init>") (d : decode T.2.1 pc = .ok (.putfield 14, 3)) (hs : (S.1 a).1 = 4)  (kk : R T r mc ms Q QX kc ks (pc + 3) lv st S (a_up V a 0 (.ref x))) : R T r mc ms Q QX kc ks pc lv (.ref x :: .ref a :: st) S V :=
  R_putF (ci := 4) (k := 0) (T0 := TX4) (N := 5) (ty0 := tyX4) (ty := tyX4 0) rfl (by decide) (by decide) inX4 tyX4_ok nmX4 (by rw [hT]; exact flX4_14) rfl hI (by rw [hT]; rfl) (tyX4_ok 0 (by decide)) rfl rfl d hs kk
theorem flX4_24 : Cond.fieldLink RX4 24 (TX4 1).1 (TX4 1).2.1 (TX4 1).2.2.1 ∈ aT := aT_of (List.mem_of_getElem? (i := 212) (by decide +kernel)) (by decide +kernel)
theorem gfX4_24 {a : Nat} {v : Value} (hT : T.1.cls = RX4) (d : decode T.2.1 pc = .ok (.getfield 24, 3)) (hs : (S.1 a).1 = 4) (hv : V a 1 = v) (kk : R T r mc ms Q QX kc ks (pc + 3) lv (v :: st) S V) : R T r mc ms Q QX kc ks pc lv (.ref a :: st) S V :=
  R_get (ci := 4) (k := 1) (T0 := TX4) (N := 5) rfl (by decide) (by decide) inX4 (by rw [hT]; exact flX4_24) d hs hv kk
theorem pfX4_24 {a : Nat} {x : Int32} (hT : T.1.cls = RX4) (d : decode T.2.1 pc = .ok (.putfield 24, 3)) (hs : (S.1 a).1 = 4)  (kk : R T r mc ms Q QX kc ks (pc + 3) lv st S (a_up V a 1 (.int x))) : R T r mc ms Q QX kc ks pc lv (.int x :: .ref a :: st) S V :=
  R_put (ci := 4) (k := 1) (T0 := TX4) (N := 5) (ty0 := tyX4) (ty := tyX4 1) rfl (by decide) (by decide) inX4 tyX4_ok nmX4 (by rw [hT]; exact flX4_24) rfl (tyX4_ok 1 (by decide)) rfl rfl d hs kk
theorem flX4_28 : Cond.fieldLink RX4 28 (TX4 2).1 (TX4 2).2.1 (TX4 2).2.2.1 ∈ aT := aT_of (List.mem_of_getElem? (i := 214) (by decide +kernel)) (by decide +kernel)
theorem gfX4_28 {a : Nat} {v : Value} (hT : T.1.cls = RX4) (d : decode T.2.1 pc = .ok (.getfield 28, 3)) (hs : (S.1 a).1 = 4) (hv : V a 2 = v) (kk : R T r mc ms Q QX kc ks (pc + 3) lv (v :: st) S V) : R T r mc ms Q QX kc ks pc lv (.ref a :: st) S V :=
  R_get (ci := 4) (k := 2) (T0 := TX4) (N := 5) rfl (by decide) (by decide) inX4 (by rw [hT]; exact flX4_28) d hs hv kk
theorem pfX4_28 {a : Nat} {x : Int32} (hT : T.1.cls = RX4) (d : decode T.2.1 pc = .ok (.putfield 28, 3)) (hs : (S.1 a).1 = 4)  (kk : R T r mc ms Q QX kc ks (pc + 3) lv st S (a_up V a 2 (.int x))) : R T r mc ms Q QX kc ks pc lv (.int x :: .ref a :: st) S V :=
  R_put (ci := 4) (k := 2) (T0 := TX4) (N := 5) (ty0 := tyX4) (ty := tyX4 2) rfl (by decide) (by decide) inX4 tyX4_ok nmX4 (by rw [hT]; exact flX4_28) rfl (tyX4_ok 2 (by decide)) rfl rfl d hs kk
theorem flX4_31 : Cond.fieldLink RX4 31 (TX4 3).1 (TX4 3).2.1 (TX4 3).2.2.1 ∈ aT := aT_of (List.mem_of_getElem? (i := 217) (by decide +kernel)) (by decide +kernel)
theorem gfX4_31 {a : Nat} {v : Value} (hT : T.1.cls = RX4) (d : decode T.2.1 pc = .ok (.getfield 31, 3)) (hs : (S.1 a).1 = 4) (hv : V a 3 = v) (kk : R T r mc ms Q QX kc ks (pc + 3) lv (v :: st) S V) : R T r mc ms Q QX kc ks pc lv (.ref a :: st) S V :=
  R_get (ci := 4) (k := 3) (T0 := TX4) (N := 5) rfl (by decide) (by decide) inX4 (by rw [hT]; exact flX4_31) d hs hv kk
theorem pfX4_31 {a : Nat} {x : Int32} (hT : T.1.cls = RX4) (d : decode T.2.1 pc = .ok (.putfield 31, 3)) (hs : (S.1 a).1 = 4)  (kk : R T r mc ms Q QX kc ks (pc + 3) lv st S (a_up V a 3 (.int x))) : R T r mc ms Q QX kc ks pc lv (.int x :: .ref a :: st) S V :=
  R_put (ci := 4) (k := 3) (T0 := TX4) (N := 5) (ty0 := tyX4) (ty := tyX4 3) rfl (by decide) (by decide) inX4 tyX4_ok nmX4 (by rw [hT]; exact flX4_31) rfl (tyX4_ok 3 (by decide)) rfl rfl d hs kk
theorem flX4_34 : Cond.fieldLink RX4 34 (TX4 4).1 (TX4 4).2.1 (TX4 4).2.2.1 ∈ aT := aT_of (List.mem_of_getElem? (i := 219) (by decide +kernel)) (by decide +kernel)
theorem gfX4_34 {a : Nat} {v : Value} (hT : T.1.cls = RX4) (d : decode T.2.1 pc = .ok (.getfield 34, 3)) (hs : (S.1 a).1 = 4) (hv : V a 4 = v) (kk : R T r mc ms Q QX kc ks (pc + 3) lv (v :: st) S V) : R T r mc ms Q QX kc ks pc lv (.ref a :: st) S V :=
  R_get (ci := 4) (k := 4) (T0 := TX4) (N := 5) rfl (by decide) (by decide) inX4 (by rw [hT]; exact flX4_34) d hs hv kk
theorem pfX4_34 {a : Nat} {x : Int32} (hT : T.1.cls = RX4) (d : decode T.2.1 pc = .ok (.putfield 34, 3)) (hs : (S.1 a).1 = 4)  (kk : R T r mc ms Q QX kc ks (pc + 3) lv st S (a_up V a 4 (.int x))) : R T r mc ms Q QX kc ks pc lv (.int x :: .ref a :: st) S V :=
  R_put (ci := 4) (k := 4) (T0 := TX4) (N := 5) (ty0 := tyX4) (ty := tyX4 4) rfl (by decide) (by decide) inX4 tyX4_ok nmX4 (by rw [hT]; exact flX4_34) rfl (tyX4_ok 4 (by decide)) rfl rfl d hs kk
theorem flX5_9 : Cond.fieldLink RX5 9 (TX5 0).1 (TX5 0).2.1 (TX5 0).2.2.1 ∈ aT := aT_of (List.mem_of_getElem? (i := 337) (by decide +kernel)) (by decide +kernel)
theorem gfX5_9 {a : Nat} {v : Value} (hT : T.1.cls = RX5) (d : decode T.2.1 pc = .ok (.getfield 9, 3)) (hs : (S.1 a).1 = 5) (hv : V a 0 = v) (kk : R T r mc ms Q QX kc ks (pc + 3) lv (v :: st) S V) : R T r mc ms Q QX kc ks pc lv (.ref a :: st) S V :=
  R_get (ci := 5) (k := 0) (T0 := TX5) (N := 1) rfl (by decide) (by decide) inX5 (by rw [hT]; exact flX5_9) d hs hv kk
theorem pfX5_9 {a : Nat} {x : Nat} (hT : T.1.cls = RX5) (hI : T.1.name = "<init>") (d : decode T.2.1 pc = .ok (.putfield 9, 3)) (hs : (S.1 a).1 = 5)  (kk : R T r mc ms Q QX kc ks (pc + 3) lv st S (a_up V a 0 (.ref x))) : R T r mc ms Q QX kc ks pc lv (.ref x :: .ref a :: st) S V :=
  R_putF (ci := 5) (k := 0) (T0 := TX5) (N := 1) (ty0 := tyX5) (ty := tyX5 0) rfl (by decide) (by decide) inX5 tyX5_ok nmX5 (by rw [hT]; exact flX5_9) rfl hI (by rw [hT]; rfl) (tyX5_ok 0 (by decide)) rfl rfl d hs kk
theorem flX5_15 : Cond.fieldLinkNest RX5 15 (TX9 1).1 (TX9 1).2.1 (TX9 1).2.2.1 "MergePost" ∈ aN := aN_of (List.mem_of_getElem? (i := 47) (by decide +kernel)) (by decide +kernel)
theorem gfX5_15 {a : Nat} {v : Value} (hT : T.1.cls = RX5) (d : decode T.2.1 pc = .ok (.getfield 15, 3)) (hs : (S.1 a).1 = 9) (hv : V a 1 = v) (kk : R T r mc ms Q QX kc ks (pc + 3) lv (v :: st) S V) : R T r mc ms Q QX kc ks pc lv (.ref a :: st) S V :=
  R_getN (ci := 9) (k := 1) (T0 := TX9) (N := 2) rfl (by decide) (by decide) inX9 (by rw [hT]; exact flX5_15) d hs hv kk
theorem flX5_42 : Cond.fieldLinkNest RX5 42 (TX0 4).1 (TX0 4).2.1 (TX0 4).2.2.1 "MergePost" ∈ aN := aN_of (List.mem_of_getElem? (i := 217) (by decide +kernel)) (by decide +kernel)
theorem gfX5_42 {a : Nat} {v : Value} (hT : T.1.cls = RX5) (d : decode T.2.1 pc = .ok (.getfield 42, 3)) (hs : (S.1 a).1 = 0) (hv : V a 4 = v) (kk : R T r mc ms Q QX kc ks (pc + 3) lv (v :: st) S V) : R T r mc ms Q QX kc ks pc lv (.ref a :: st) S V :=
  R_getN (ci := 0) (k := 4) (T0 := TX0) (N := 7) rfl (by decide) (by decide) inX0 (by rw [hT]; exact flX5_42) d hs hv kk
theorem flX5_47 : Cond.fieldLinkNest RX5 47 (TX0 5).1 (TX0 5).2.1 (TX0 5).2.2.1 "MergePost" ∈ aN := aN_of (List.mem_of_getElem? (i := 220) (by decide +kernel)) (by decide +kernel)
theorem gfX5_47 {a : Nat} {v : Value} (hT : T.1.cls = RX5) (d : decode T.2.1 pc = .ok (.getfield 47, 3)) (hs : (S.1 a).1 = 0) (hv : V a 5 = v) (kk : R T r mc ms Q QX kc ks (pc + 3) lv (v :: st) S V) : R T r mc ms Q QX kc ks pc lv (.ref a :: st) S V :=
  R_getN (ci := 0) (k := 5) (T0 := TX0) (N := 7) rfl (by decide) (by decide) inX0 (by rw [hT]; exact flX5_47) d hs hv kk
theorem flX5_51 : Cond.fieldLinkNest RX5 51 (TX0 2).1 (TX0 2).2.1 (TX0 2).2.2.1 "MergePost" ∈ aN := aN_of (List.mem_of_getElem? (i := 212) (by decide +kernel)) (by decide +kernel)
theorem gfX5_51 {a : Nat} {v : Value} (hT : T.1.cls = RX5) (d : decode T.2.1 pc = .ok (.getfield 51, 3)) (hs : (S.1 a).1 = 0) (hv : V a 2 = v) (kk : R T r mc ms Q QX kc ks (pc + 3) lv (v :: st) S V) : R T r mc ms Q QX kc ks pc lv (.ref a :: st) S V :=
  R_getN (ci := 0) (k := 2) (T0 := TX0) (N := 7) rfl (by decide) (by decide) inX0 (by rw [hT]; exact flX5_51) d hs hv kk
theorem flX5_60 : Cond.fieldLinkNest RX5 60 (TX0 3).1 (TX0 3).2.1 (TX0 3).2.2.1 "MergePost" ∈ aN := aN_of (List.mem_of_getElem? (i := 214) (by decide +kernel)) (by decide +kernel)
theorem gfX5_60 {a : Nat} {v : Value} (hT : T.1.cls = RX5) (d : decode T.2.1 pc = .ok (.getfield 60, 3)) (hs : (S.1 a).1 = 0) (hv : V a 3 = v) (kk : R T r mc ms Q QX kc ks (pc + 3) lv (v :: st) S V) : R T r mc ms Q QX kc ks pc lv (.ref a :: st) S V :=
  R_getN (ci := 0) (k := 3) (T0 := TX0) (N := 7) rfl (by decide) (by decide) inX0 (by rw [hT]; exact flX5_60) d hs hv kk
theorem flX6_14 : Cond.fieldLink RX6 14 (TX6 0).1 (TX6 0).2.1 (TX6 0).2.2.1 ∈ aT := aT_of (List.mem_of_getElem? (i := 129) (by decide +kernel)) (by decide +kernel)
theorem gfX6_14 {a : Nat} {v : Value} (hT : T.1.cls = RX6) (d : decode T.2.1 pc = .ok (.getfield 14, 3)) (hs : (S.1 a).1 = 6) (hv : V a 0 = v) (kk : R T r mc ms Q QX kc ks (pc + 3) lv (v :: st) S V) : R T r mc ms Q QX kc ks pc lv (.ref a :: st) S V :=
  R_get (ci := 6) (k := 0) (T0 := TX6) (N := 2) rfl (by decide) (by decide) inX6 (by rw [hT]; exact flX6_14) d hs hv kk
theorem pfX6_14 {a : Nat} {x : Nat} (hT : T.1.cls = RX6) (hI : T.1.name = "<init>") (d : decode T.2.1 pc = .ok (.putfield 14, 3)) (hs : (S.1 a).1 = 6)  (kk : R T r mc ms Q QX kc ks (pc + 3) lv st S (a_up V a 0 (.ref x))) : R T r mc ms Q QX kc ks pc lv (.ref x :: .ref a :: st) S V :=
  R_putF (ci := 6) (k := 0) (T0 := TX6) (N := 2) (ty0 := tyX6) (ty := tyX6 0) rfl (by decide) (by decide) inX6 tyX6_ok nmX6 (by rw [hT]; exact flX6_14) rfl hI (by rw [hT]; rfl) (tyX6_ok 0 (by decide)) rfl rfl d hs kk
theorem flX6_20 : Cond.fieldLinkNest RX6 20 (TX9 1).1 (TX9 1).2.1 (TX9 1).2.2.1 "MergePost" ∈ aN := aN_of (List.mem_of_getElem? (i := 48) (by decide +kernel)) (by decide +kernel)
theorem gfX6_20 {a : Nat} {v : Value} (hT : T.1.cls = RX6) (d : decode T.2.1 pc = .ok (.getfield 20, 3)) (hs : (S.1 a).1 = 9) (hv : V a 1 = v) (kk : R T r mc ms Q QX kc ks (pc + 3) lv (v :: st) S V) : R T r mc ms Q QX kc ks pc lv (.ref a :: st) S V :=
  R_getN (ci := 9) (k := 1) (T0 := TX9) (N := 2) rfl (by decide) (by decide) inX9 (by rw [hT]; exact flX6_20) d hs hv kk
theorem pfX6_20 {a : Nat} {x : Int32} (hT : T.1.cls = RX6) (d : decode T.2.1 pc = .ok (.putfield 20, 3)) (hs : (S.1 a).1 = 9)  (kk : R T r mc ms Q QX kc ks (pc + 3) lv st S (a_up V a 1 (.int x))) : R T r mc ms Q QX kc ks pc lv (.int x :: .ref a :: st) S V :=
  R_putN (ci := 9) (k := 1) (T0 := TX9) (N := 2) (ty0 := tyX9) (ty := tyX9 1) rfl (by decide) (by decide) inX9 tyX9_ok nmX9 (by rw [hT]; exact flX6_20) rfl (tyX9_ok 1 (by decide)) rfl rfl d hs kk
theorem flX6_24 : Cond.fieldLink RX6 24 (TX6 1).1 (TX6 1).2.1 (TX6 1).2.2.1 ∈ aT := aT_of (List.mem_of_getElem? (i := 134) (by decide +kernel)) (by decide +kernel)
theorem gfX6_24 {a : Nat} {v : Value} (hT : T.1.cls = RX6) (d : decode T.2.1 pc = .ok (.getfield 24, 3)) (hs : (S.1 a).1 = 6) (hv : V a 1 = v) (kk : R T r mc ms Q QX kc ks (pc + 3) lv (v :: st) S V) : R T r mc ms Q QX kc ks pc lv (.ref a :: st) S V :=
  R_get (ci := 6) (k := 1) (T0 := TX6) (N := 2) rfl (by decide) (by decide) inX6 (by rw [hT]; exact flX6_24) d hs hv kk
theorem pfX6_24 {a : Nat} {x : Int32} (hT : T.1.cls = RX6) (d : decode T.2.1 pc = .ok (.putfield 24, 3)) (hs : (S.1 a).1 = 6)  (kk : R T r mc ms Q QX kc ks (pc + 3) lv st S (a_up V a 1 (.int x))) : R T r mc ms Q QX kc ks pc lv (.int x :: .ref a :: st) S V :=
  R_put (ci := 6) (k := 1) (T0 := TX6) (N := 2) (ty0 := tyX6) (ty := tyX6 1) rfl (by decide) (by decide) inX6 tyX6_ok nmX6 (by rw [hT]; exact flX6_24) rfl (tyX6_ok 1 (by decide)) rfl rfl d hs kk
theorem flX7_11 : Cond.fieldLink RX7 11 (TX7 0).1 (TX7 0).2.1 (TX7 0).2.2.1 ∈ aT := aT_of (List.mem_of_getElem? (i := 232) (by decide +kernel)) (by decide +kernel)
theorem gfX7_11 {a : Nat} {v : Value} (hT : T.1.cls = RX7) (d : decode T.2.1 pc = .ok (.getfield 11, 3)) (hs : (S.1 a).1 = 7) (hv : V a 0 = v) (kk : R T r mc ms Q QX kc ks (pc + 3) lv (v :: st) S V) : R T r mc ms Q QX kc ks pc lv (.ref a :: st) S V :=
  R_get (ci := 7) (k := 0) (T0 := TX7) (N := 9) rfl (by decide) (by decide) inX7 (by rw [hT]; exact flX7_11) d hs hv kk
theorem pfX7_11 {a : Nat} {x : Nat} (hT : T.1.cls = RX7) (hI : T.1.name = "<init>") (d : decode T.2.1 pc = .ok (.putfield 11, 3)) (hs : (S.1 a).1 = 7)  (kk : R T r mc ms Q QX kc ks (pc + 3) lv st S (a_up V a 0 (.ref x))) : R T r mc ms Q QX kc ks pc lv (.ref x :: .ref a :: st) S V :=
  R_putF (ci := 7) (k := 0) (T0 := TX7) (N := 9) (ty0 := tyX7) (ty := tyX7 0) rfl (by decide) (by decide) inX7 tyX7_ok nmX7 (by rw [hT]; exact flX7_11) rfl hI (by rw [hT]; rfl) (tyX7_ok 0 (by decide)) rfl rfl d hs kk
theorem flX7_18 : Cond.fieldLink RX7 18 (TX7 1).1 (TX7 1).2.1 (TX7 1).2.2.1 ∈ aT := aT_of (List.mem_of_getElem? (i := 233) (by decide +kernel)) (by decide +kernel)
theorem gfX7_18 {a : Nat} {v : Value} (hT : T.1.cls = RX7) (d : decode T.2.1 pc = .ok (.getfield 18, 3)) (hs : (S.1 a).1 = 7) (hv : V a 1 = v) (kk : R T r mc ms Q QX kc ks (pc + 3) lv (v :: st) S V) : R T r mc ms Q QX kc ks pc lv (.ref a :: st) S V :=
  R_get (ci := 7) (k := 1) (T0 := TX7) (N := 9) rfl (by decide) (by decide) inX7 (by rw [hT]; exact flX7_18) d hs hv kk
theorem pfX7_18 {a : Nat} {x : Nat} (hT : T.1.cls = RX7) (d : decode T.2.1 pc = .ok (.putfield 18, 3)) (hs : (S.1 a).1 = 7)  (kk : R T r mc ms Q QX kc ks (pc + 3) lv st S (a_up V a 1 (.ref x))) : R T r mc ms Q QX kc ks pc lv (.ref x :: .ref a :: st) S V :=
  R_put (ci := 7) (k := 1) (T0 := TX7) (N := 9) (ty0 := tyX7) (ty := tyX7 1) rfl (by decide) (by decide) inX7 tyX7_ok nmX7 (by rw [hT]; exact flX7_18) rfl (tyX7_ok 1 (by decide)) rfl rfl d hs kk
theorem flX7_25 : Cond.fieldLink RX7 25 (TX7 2).1 (TX7 2).2.1 (TX7 2).2.2.1 ∈ aT := aT_of (List.mem_of_getElem? (i := 234) (by decide +kernel)) (by decide +kernel)
theorem gfX7_25 {a : Nat} {v : Value} (hT : T.1.cls = RX7) (d : decode T.2.1 pc = .ok (.getfield 25, 3)) (hs : (S.1 a).1 = 7) (hv : V a 2 = v) (kk : R T r mc ms Q QX kc ks (pc + 3) lv (v :: st) S V) : R T r mc ms Q QX kc ks pc lv (.ref a :: st) S V :=
  R_get (ci := 7) (k := 2) (T0 := TX7) (N := 9) rfl (by decide) (by decide) inX7 (by rw [hT]; exact flX7_25) d hs hv kk
theorem pfX7_25 {a : Nat} {x : Nat} (hT : T.1.cls = RX7) (hI : T.1.name = "<init>") (d : decode T.2.1 pc = .ok (.putfield 25, 3)) (hs : (S.1 a).1 = 7)  (kk : R T r mc ms Q QX kc ks (pc + 3) lv st S (a_up V a 2 (.ref x))) : R T r mc ms Q QX kc ks pc lv (.ref x :: .ref a :: st) S V :=
  R_putF (ci := 7) (k := 2) (T0 := TX7) (N := 9) (ty0 := tyX7) (ty := tyX7 2) rfl (by decide) (by decide) inX7 tyX7_ok nmX7 (by rw [hT]; exact flX7_25) rfl hI (by rw [hT]; rfl) (tyX7_ok 2 (by decide)) rfl rfl d hs kk
theorem flX7_32 : Cond.fieldLink RX7 32 (TX7 3).1 (TX7 3).2.1 (TX7 3).2.2.1 ∈ aT := aT_of (List.mem_of_getElem? (i := 236) (by decide +kernel)) (by decide +kernel)
theorem gfX7_32 {a : Nat} {v : Value} (hT : T.1.cls = RX7) (d : decode T.2.1 pc = .ok (.getfield 32, 3)) (hs : (S.1 a).1 = 7) (hv : V a 3 = v) (kk : R T r mc ms Q QX kc ks (pc + 3) lv (v :: st) S V) : R T r mc ms Q QX kc ks pc lv (.ref a :: st) S V :=
  R_get (ci := 7) (k := 3) (T0 := TX7) (N := 9) rfl (by decide) (by decide) inX7 (by rw [hT]; exact flX7_32) d hs hv kk
theorem pfX7_32 {a : Nat} {x : Nat} (hT : T.1.cls = RX7) (hI : T.1.name = "<init>") (d : decode T.2.1 pc = .ok (.putfield 32, 3)) (hs : (S.1 a).1 = 7)  (kk : R T r mc ms Q QX kc ks (pc + 3) lv st S (a_up V a 3 (.ref x))) : R T r mc ms Q QX kc ks pc lv (.ref x :: .ref a :: st) S V :=
  R_putF (ci := 7) (k := 3) (T0 := TX7) (N := 9) (ty0 := tyX7) (ty := tyX7 3) rfl (by decide) (by decide) inX7 tyX7_ok nmX7 (by rw [hT]; exact flX7_32) rfl hI (by rw [hT]; rfl) (tyX7_ok 3 (by decide)) rfl rfl d hs kk
theorem flX7_36 : Cond.fieldLink RX7 36 (TX7 4).1 (TX7 4).2.1 (TX7 4).2.2.1 ∈ aT := aT_of (List.mem_of_getElem? (i := 238) (by decide +kernel)) (by decide +kernel)
theorem gfX7_36 {a : Nat} {v : Value} (hT : T.1.cls = RX7) (d : decode T.2.1 pc = .ok (.getfield 36, 3)) (hs : (S.1 a).1 = 7) (hv : V a 4 = v) (kk : R T r mc ms Q QX kc ks (pc + 3) lv (v :: st) S V) : R T r mc ms Q QX kc ks pc lv (.ref a :: st) S V :=
  R_get (ci := 7) (k := 4) (T0 := TX7) (N := 9) rfl (by decide) (by decide) inX7 (by rw [hT]; exact flX7_36) d hs hv kk
theorem pfX7_36 {a : Nat} {x : Nat} (hT : T.1.cls = RX7) (hI : T.1.name = "<init>") (d : decode T.2.1 pc = .ok (.putfield 36, 3)) (hs : (S.1 a).1 = 7)  (kk : R T r mc ms Q QX kc ks (pc + 3) lv st S (a_up V a 4 (.ref x))) : R T r mc ms Q QX kc ks pc lv (.ref x :: .ref a :: st) S V :=
  R_putF (ci := 7) (k := 4) (T0 := TX7) (N := 9) (ty0 := tyX7) (ty := tyX7 4) rfl (by decide) (by decide) inX7 tyX7_ok nmX7 (by rw [hT]; exact flX7_36) rfl hI (by rw [hT]; rfl) (tyX7_ok 4 (by decide)) rfl rfl d hs kk
theorem flX7_40 : Cond.fieldLink RX7 40 (TX7 5).1 (TX7 5).2.1 (TX7 5).2.2.1 ∈ aT := aT_of (List.mem_of_getElem? (i := 239) (by decide +kernel)) (by decide +kernel)
theorem gfX7_40 {a : Nat} {v : Value} (hT : T.1.cls = RX7) (d : decode T.2.1 pc = .ok (.getfield 40, 3)) (hs : (S.1 a).1 = 7) (hv : V a 5 = v) (kk : R T r mc ms Q QX kc ks (pc + 3) lv (v :: st) S V) : R T r mc ms Q QX kc ks pc lv (.ref a :: st) S V :=
  R_get (ci := 7) (k := 5) (T0 := TX7) (N := 9) rfl (by decide) (by decide) inX7 (by rw [hT]; exact flX7_40) d hs hv kk
theorem pfX7_40 {a : Nat} {x : Nat} (hT : T.1.cls = RX7) (hI : T.1.name = "<init>") (d : decode T.2.1 pc = .ok (.putfield 40, 3)) (hs : (S.1 a).1 = 7)  (kk : R T r mc ms Q QX kc ks (pc + 3) lv st S (a_up V a 5 (.ref x))) : R T r mc ms Q QX kc ks pc lv (.ref x :: .ref a :: st) S V :=
  R_putF (ci := 7) (k := 5) (T0 := TX7) (N := 9) (ty0 := tyX7) (ty := tyX7 5) rfl (by decide) (by decide) inX7 tyX7_ok nmX7 (by rw [hT]; exact flX7_40) rfl hI (by rw [hT]; rfl) (tyX7_ok 5 (by decide)) rfl rfl d hs kk
theorem flX7_43 : Cond.fieldLink RX7 43 (TX7 6).1 (TX7 6).2.1 (TX7 6).2.2.1 ∈ aT := aT_of (List.mem_of_getElem? (i := 240) (by decide +kernel)) (by decide +kernel)
theorem gfX7_43 {a : Nat} {v : Value} (hT : T.1.cls = RX7) (d : decode T.2.1 pc = .ok (.getfield 43, 3)) (hs : (S.1 a).1 = 7) (hv : V a 6 = v) (kk : R T r mc ms Q QX kc ks (pc + 3) lv (v :: st) S V) : R T r mc ms Q QX kc ks pc lv (.ref a :: st) S V :=
  R_get (ci := 7) (k := 6) (T0 := TX7) (N := 9) rfl (by decide) (by decide) inX7 (by rw [hT]; exact flX7_43) d hs hv kk
theorem pfX7_43 {a : Nat} {x : Nat} (hT : T.1.cls = RX7) (hI : T.1.name = "<init>") (d : decode T.2.1 pc = .ok (.putfield 43, 3)) (hs : (S.1 a).1 = 7)  (kk : R T r mc ms Q QX kc ks (pc + 3) lv st S (a_up V a 6 (.ref x))) : R T r mc ms Q QX kc ks pc lv (.ref x :: .ref a :: st) S V :=
  R_putF (ci := 7) (k := 6) (T0 := TX7) (N := 9) (ty0 := tyX7) (ty := tyX7 6) rfl (by decide) (by decide) inX7 tyX7_ok nmX7 (by rw [hT]; exact flX7_43) rfl hI (by rw [hT]; rfl) (tyX7_ok 6 (by decide)) rfl rfl d hs kk
theorem flX7_50 : Cond.fieldLink RX7 50 (TX7 7).1 (TX7 7).2.1 (TX7 7).2.2.1 ∈ aT := aT_of (List.mem_of_getElem? (i := 241) (by decide +kernel)) (by decide +kernel)
theorem gfX7_50 {a : Nat} {v : Value} (hT : T.1.cls = RX7) (d : decode T.2.1 pc = .ok (.getfield 50, 3)) (hs : (S.1 a).1 = 7) (hv : V a 7 = v) (kk : R T r mc ms Q QX kc ks (pc + 3) lv (v :: st) S V) : R T r mc ms Q QX kc ks pc lv (.ref a :: st) S V :=
  R_get (ci := 7) (k := 7) (T0 := TX7) (N := 9) rfl (by decide) (by decide) inX7 (by rw [hT]; exact flX7_50) d hs hv kk
theorem pfX7_50 {a : Nat} {x : Int32} (hT : T.1.cls = RX7) (d : decode T.2.1 pc = .ok (.putfield 50, 3)) (hs : (S.1 a).1 = 7)  (kk : R T r mc ms Q QX kc ks (pc + 3) lv st S (a_up V a 7 (.int x))) : R T r mc ms Q QX kc ks pc lv (.int x :: .ref a :: st) S V :=
  R_put (ci := 7) (k := 7) (T0 := TX7) (N := 9) (ty0 := tyX7) (ty := tyX7 7) rfl (by decide) (by decide) inX7 tyX7_ok nmX7 (by rw [hT]; exact flX7_50) rfl (tyX7_ok 7 (by decide)) rfl rfl d hs kk
theorem flX7_54 : Cond.fieldLinkNest RX7 54 (TX4 0).1 (TX4 0).2.1 (TX4 0).2.2.1 "MergePost" ∈ aN := aN_of (List.mem_of_getElem? (i := 140) (by decide +kernel)) (by decide +kernel)
theorem gfX7_54 {a : Nat} {v : Value} (hT : T.1.cls = RX7) (d : decode T.2.1 pc = .ok (.getfield 54, 3)) (hs : (S.1 a).1 = 4) (hv : V a 0 = v) (kk : R T r mc ms Q QX kc ks (pc + 3) lv (v :: st) S V) : R T r mc ms Q QX kc ks pc lv (.ref a :: st) S V :=
  R_getN (ci := 4) (k := 0) (T0 := TX4) (N := 5) rfl (by decide) (by decide) inX4 (by rw [hT]; exact flX7_54) d hs hv kk
theorem flX7_58 : Cond.fieldLinkNest RX7 58 (TX9 1).1 (TX9 1).2.1 (TX9 1).2.2.1 "MergePost" ∈ aN := aN_of (List.mem_of_getElem? (i := 52) (by decide +kernel)) (by decide +kernel)
theorem gfX7_58 {a : Nat} {v : Value} (hT : T.1.cls = RX7) (d : decode T.2.1 pc = .ok (.getfield 58, 3)) (hs : (S.1 a).1 = 9) (hv : V a 1 = v) (kk : R T r mc ms Q QX kc ks (pc + 3) lv (v :: st) S V) : R T r mc ms Q QX kc ks pc lv (.ref a :: st) S V :=
  R_getN (ci := 9) (k := 1) (T0 := TX9) (N := 2) rfl (by decide) (by decide) inX9 (by rw [hT]; exact flX7_58) d hs hv kk
theorem pfX7_58 {a : Nat} {x : Int32} (hT : T.1.cls = RX7) (d : decode T.2.1 pc = .ok (.putfield 58, 3)) (hs : (S.1 a).1 = 9)  (kk : R T r mc ms Q QX kc ks (pc + 3) lv st S (a_up V a 1 (.int x))) : R T r mc ms Q QX kc ks pc lv (.int x :: .ref a :: st) S V :=
  R_putN (ci := 9) (k := 1) (T0 := TX9) (N := 2) (ty0 := tyX9) (ty := tyX9 1) rfl (by decide) (by decide) inX9 tyX9_ok nmX9 (by rw [hT]; exact flX7_58) rfl (tyX9_ok 1 (by decide)) rfl rfl d hs kk
theorem flX7_63 : Cond.fieldLinkNest RX7 63 (TX4 2).1 (TX4 2).2.1 (TX4 2).2.2.1 "MergePost" ∈ aN := aN_of (List.mem_of_getElem? (i := 145) (by decide +kernel)) (by decide +kernel)
theorem gfX7_63 {a : Nat} {v : Value} (hT : T.1.cls = RX7) (d : decode T.2.1 pc = .ok (.getfield 63, 3)) (hs : (S.1 a).1 = 4) (hv : V a 2 = v) (kk : R T r mc ms Q QX kc ks (pc + 3) lv (v :: st) S V) : R T r mc ms Q QX kc ks pc lv (.ref a :: st) S V :=
  R_getN (ci := 4) (k := 2) (T0 := TX4) (N := 5) rfl (by decide) (by decide) inX4 (by rw [hT]; exact flX7_63) d hs hv kk
theorem pfX7_63 {a : Nat} {x : Int32} (hT : T.1.cls = RX7) (d : decode T.2.1 pc = .ok (.putfield 63, 3)) (hs : (S.1 a).1 = 4)  (kk : R T r mc ms Q QX kc ks (pc + 3) lv st S (a_up V a 2 (.int x))) : R T r mc ms Q QX kc ks pc lv (.int x :: .ref a :: st) S V :=
  R_putN (ci := 4) (k := 2) (T0 := TX4) (N := 5) (ty0 := tyX4) (ty := tyX4 2) rfl (by decide) (by decide) inX4 tyX4_ok nmX4 (by rw [hT]; exact flX7_63) rfl (tyX4_ok 2 (by decide)) rfl rfl d hs kk
theorem flX7_66 : Cond.fieldLink RX7 66 (TX7 8).1 (TX7 8).2.1 (TX7 8).2.2.1 ∈ aT := aT_of (List.mem_of_getElem? (i := 242) (by decide +kernel)) (by decide +kernel)
theorem gfX7_66 {a : Nat} {v : Value} (hT : T.1.cls = RX7) (d : decode T.2.1 pc = .ok (.getfield 66, 3)) (hs : (S.1 a).1 = 7) (hv : V a 8 = v) (kk : R T r mc ms Q QX kc ks (pc + 3) lv (v :: st) S V) : R T r mc ms Q QX kc ks pc lv (.ref a :: st) S V :=
  R_get (ci := 7) (k := 8) (T0 := TX7) (N := 9) rfl (by decide) (by decide) inX7 (by rw [hT]; exact flX7_66) d hs hv kk
theorem pfX7_66 {a : Nat} {x : Int64} (hT : T.1.cls = RX7) (d : decode T.2.1 pc = .ok (.putfield 66, 3)) (hs : (S.1 a).1 = 7)  (kk : R T r mc ms Q QX kc ks (pc + 3) lv st S (a_up V a 8 (.long x))) : R T r mc ms Q QX kc ks pc lv (.long x :: .ref a :: st) S V :=
  R_put (ci := 7) (k := 8) (T0 := TX7) (N := 9) (ty0 := tyX7) (ty := tyX7 8) rfl (by decide) (by decide) inX7 tyX7_ok nmX7 (by rw [hT]; exact flX7_66) rfl (tyX7_ok 8 (by decide)) rfl rfl d hs kk
theorem flX7_86 : Cond.fieldLinkNest RX7 86 (TX10 4).1 (TX10 4).2.1 (TX10 4).2.2.1 "MergePost" ∈ aN := aN_of (List.mem_of_getElem? (i := 92) (by decide +kernel)) (by decide +kernel)
theorem gfX7_86 {a : Nat} {v : Value} (hT : T.1.cls = RX7) (d : decode T.2.1 pc = .ok (.getfield 86, 3)) (hs : (S.1 a).1 = 10) (hv : V a 4 = v) (kk : R T r mc ms Q QX kc ks (pc + 3) lv (v :: st) S V) : R T r mc ms Q QX kc ks pc lv (.ref a :: st) S V :=
  R_getN (ci := 10) (k := 4) (T0 := TX10) (N := 5) rfl (by decide) (by decide) inX10 (by rw [hT]; exact flX7_86) d hs hv kk
theorem flX7_90 : Cond.fieldLinkNest RX7 90 (TX10 0).1 (TX10 0).2.1 (TX10 0).2.2.1 "MergePost" ∈ aN := aN_of (List.mem_of_getElem? (i := 87) (by decide +kernel)) (by decide +kernel)
theorem gfX7_90 {a : Nat} {v : Value} (hT : T.1.cls = RX7) (d : decode T.2.1 pc = .ok (.getfield 90, 3)) (hs : (S.1 a).1 = 10) (hv : V a 0 = v) (kk : R T r mc ms Q QX kc ks (pc + 3) lv (v :: st) S V) : R T r mc ms Q QX kc ks pc lv (.ref a :: st) S V :=
  R_getN (ci := 10) (k := 0) (T0 := TX10) (N := 5) rfl (by decide) (by decide) inX10 (by rw [hT]; exact flX7_90) d hs hv kk
theorem flX7_133 : Cond.fieldLinkNest RX7 133 (TX3 1).1 (TX3 1).2.1 (TX3 1).2.2.1 "MergePost" ∈ aN := aN_of (List.mem_of_getElem? (i := 121) (by decide +kernel)) (by decide +kernel)
theorem gfX7_133 {a : Nat} {v : Value} (hT : T.1.cls = RX7) (d : decode T.2.1 pc = .ok (.getfield 133, 3)) (hs : (S.1 a).1 = 3) (hv : V a 1 = v) (kk : R T r mc ms Q QX kc ks (pc + 3) lv (v :: st) S V) : R T r mc ms Q QX kc ks pc lv (.ref a :: st) S V :=
  R_getN (ci := 3) (k := 1) (T0 := TX3) (N := 3) rfl (by decide) (by decide) inX3 (by rw [hT]; exact flX7_133) d hs hv kk
theorem flX7_140 : Cond.fieldLinkNest RX7 140 (TX3 0).1 (TX3 0).2.1 (TX3 0).2.2.1 "MergePost" ∈ aN := aN_of (List.mem_of_getElem? (i := 119) (by decide +kernel)) (by decide +kernel)
theorem gfX7_140 {a : Nat} {v : Value} (hT : T.1.cls = RX7) (d : decode T.2.1 pc = .ok (.getfield 140, 3)) (hs : (S.1 a).1 = 3) (hv : V a 0 = v) (kk : R T r mc ms Q QX kc ks (pc + 3) lv (v :: st) S V) : R T r mc ms Q QX kc ks pc lv (.ref a :: st) S V :=
  R_getN (ci := 3) (k := 0) (T0 := TX3) (N := 3) rfl (by decide) (by decide) inX3 (by rw [hT]; exact flX7_140) d hs hv kk
theorem flX8_11 : Cond.fieldLink RX8 11 (TX8 0).1 (TX8 0).2.1 (TX8 0).2.2.1 ∈ aT := aT_of (List.mem_of_getElem? (i := 366) (by decide +kernel)) (by decide +kernel)
theorem gfX8_11 {a : Nat} {v : Value} (hT : T.1.cls = RX8) (d : decode T.2.1 pc = .ok (.getfield 11, 3)) (hs : (S.1 a).1 = 8) (hv : V a 0 = v) (kk : R T r mc ms Q QX kc ks (pc + 3) lv (v :: st) S V) : R T r mc ms Q QX kc ks pc lv (.ref a :: st) S V :=
  R_get (ci := 8) (k := 0) (T0 := TX8) (N := 5) rfl (by decide) (by decide) inX8 (by rw [hT]; exact flX8_11) d hs hv kk
theorem pfX8_11 {a : Nat} {x : Nat} (hT : T.1.cls = RX8) (hI : T.1.name = "<init>") (d : decode T.2.1 pc = .ok (.putfield 11, 3)) (hs : (S.1 a).1 = 8)  (kk : R T r mc ms Q QX kc ks (pc + 3) lv st S (a_up V a 0 (.ref x))) : R T r mc ms Q QX kc ks pc lv (.ref x :: .ref a :: st) S V :=
  R_putF (ci := 8) (k := 0) (T0 := TX8) (N := 5) (ty0 := tyX8) (ty := tyX8 0) rfl (by decide) (by decide) inX8 tyX8_ok nmX8 (by rw [hT]; exact flX8_11) rfl hI (by rw [hT]; rfl) (tyX8_ok 0 (by decide)) rfl rfl d hs kk
theorem flX8_18 : Cond.fieldLink RX8 18 (TX8 1).1 (TX8 1).2.1 (TX8 1).2.2.1 ∈ aT := aT_of (List.mem_of_getElem? (i := 368) (by decide +kernel)) (by decide +kernel)
theorem gfX8_18 {a : Nat} {v : Value} (hT : T.1.cls = RX8) (d : decode T.2.1 pc = .ok (.getfield 18, 3)) (hs : (S.1 a).1 = 8) (hv : V a 1 = v) (kk : R T r mc ms Q QX kc ks (pc + 3) lv (v :: st) S V) : R T r mc ms Q QX kc ks pc lv (.ref a :: st) S V :=
  R_get (ci := 8) (k := 1) (T0 := TX8) (N := 5) rfl (by decide) (by decide) inX8 (by rw [hT]; exact flX8_18) d hs hv kk
theorem pfX8_18 {a : Nat} {x : Int32} (hT : T.1.cls = RX8) (d : decode T.2.1 pc = .ok (.putfield 18, 3)) (hs : (S.1 a).1 = 8)  (kk : R T r mc ms Q QX kc ks (pc + 3) lv st S (a_up V a 1 (.int x))) : R T r mc ms Q QX kc ks pc lv (.int x :: .ref a :: st) S V :=
  R_put (ci := 8) (k := 1) (T0 := TX8) (N := 5) (ty0 := tyX8) (ty := tyX8 1) rfl (by decide) (by decide) inX8 tyX8_ok nmX8 (by rw [hT]; exact flX8_18) rfl (tyX8_ok 1 (by decide)) rfl rfl d hs kk
theorem flX9_7 : Cond.fieldLink RX9 7 (TX9 0).1 (TX9 0).2.1 (TX9 0).2.2.1 ∈ aT := aT_of (List.mem_of_getElem? (i := 116) (by decide +kernel)) (by decide +kernel)
theorem gfX9_7 {a : Nat} {v : Value} (hT : T.1.cls = RX9) (d : decode T.2.1 pc = .ok (.getfield 7, 3)) (hs : (S.1 a).1 = 9) (hv : V a 0 = v) (kk : R T r mc ms Q QX kc ks (pc + 3) lv (v :: st) S V) : R T r mc ms Q QX kc ks pc lv (.ref a :: st) S V :=
  R_get (ci := 9) (k := 0) (T0 := TX9) (N := 2) rfl (by decide) (by decide) inX9 (by rw [hT]; exact flX9_7) d hs hv kk
theorem pfX9_7 {a : Nat} {x : Nat} (hT : T.1.cls = RX9) (hI : T.1.name = "<init>") (d : decode T.2.1 pc = .ok (.putfield 7, 3)) (hs : (S.1 a).1 = 9)  (kk : R T r mc ms Q QX kc ks (pc + 3) lv st S (a_up V a 0 (.ref x))) : R T r mc ms Q QX kc ks pc lv (.ref x :: .ref a :: st) S V :=
  R_putF (ci := 9) (k := 0) (T0 := TX9) (N := 2) (ty0 := tyX9) (ty := tyX9 0) rfl (by decide) (by decide) inX9 tyX9_ok nmX9 (by rw [hT]; exact flX9_7) rfl hI (by rw [hT]; rfl) (tyX9_ok 0 (by decide)) rfl rfl d hs kk
theorem flX9_13 : Cond.fieldLink RX9 13 (TX9 1).1 (TX9 1).2.1 (TX9 1).2.2.1 ∈ aT := aT_of (List.mem_of_getElem? (i := 119) (by decide +kernel)) (by decide +kernel)
theorem gfX9_13 {a : Nat} {v : Value} (hT : T.1.cls = RX9) (d : decode T.2.1 pc = .ok (.getfield 13, 3)) (hs : (S.1 a).1 = 9) (hv : V a 1 = v) (kk : R T r mc ms Q QX kc ks (pc + 3) lv (v :: st) S V) : R T r mc ms Q QX kc ks pc lv (.ref a :: st) S V :=
  R_get (ci := 9) (k := 1) (T0 := TX9) (N := 2) rfl (by decide) (by decide) inX9 (by rw [hT]; exact flX9_13) d hs hv kk
theorem pfX9_13 {a : Nat} {x : Int32} (hT : T.1.cls = RX9) (d : decode T.2.1 pc = .ok (.putfield 13, 3)) (hs : (S.1 a).1 = 9)  (kk : R T r mc ms Q QX kc ks (pc + 3) lv st S (a_up V a 1 (.int x))) : R T r mc ms Q QX kc ks pc lv (.int x :: .ref a :: st) S V :=
  R_put (ci := 9) (k := 1) (T0 := TX9) (N := 2) (ty0 := tyX9) (ty := tyX9 1) rfl (by decide) (by decide) inX9 tyX9_ok nmX9 (by rw [hT]; exact flX9_13) rfl (tyX9_ok 1 (by decide)) rfl rfl d hs kk
end AFIELDS
theorem cwX11_167 : Cond.constant RX11 167 (1000000000 : Int32) ∈ aT := aT_of (List.mem_of_getElem? (i := 497) (by decide +kernel)) (by decide +kernel)
theorem cwL_7 : Cond.constant RL 7 (35317 : Int32) ∈ aT := aT_of (List.mem_of_getElem? (i := 556) (by decide +kernel)) (by decide +kernel)
theorem cwL_8 : Cond.constant RL 8 (4955431 : Int32) ∈ aT := aT_of (List.mem_of_getElem? (i := 557) (by decide +kernel)) (by decide +kernel)
theorem cwL_9 : Cond.constant RL 9 (2147483647 : Int32) ∈ aT := aT_of (List.mem_of_getElem? (i := 561) (by decide +kernel)) (by decide +kernel)
theorem cwX7_82 : Cond.constant RX7 82 (1000000 : Int32) ∈ aT := aT_of (List.mem_of_getElem? (i := 797) (by decide +kernel)) (by decide +kernel)
theorem cwJ2_227 : Cond.constant RJ2 227 (65536 : Int32) ∈ aT := aT_of (List.mem_of_getElem? (i := 857) (by decide +kernel)) (by decide +kernel)
theorem cwJ11_110 : Cond.constant RJ11 110 (55232 : Int32) ∈ aT := aT_of (List.mem_of_getElem? (i := 896) (by decide +kernel)) (by decide +kernel)
theorem cwJ11_76 : Cond.constant RJ11 76 (56320 : Int32) ∈ aT := aT_of (List.mem_of_getElem? (i := 900) (by decide +kernel)) (by decide +kernel)
theorem cwX11_307 : Cond.constant RX11 307 (2147483647 : Int32) ∈ aT := aT_of (List.mem_of_getElem? (i := 1006) (by decide +kernel)) (by decide +kernel)
theorem cwX2_18 : Cond.constantLong RX2 18 (2147483647 : Int64) ∈ aT := aT_of (List.mem_of_getElem? (i := 522) (by decide +kernel)) (by decide +kernel)
theorem cwL_20 : Cond.constantLong RL 20 (2883584 : Int64) ∈ aT := aT_of (List.mem_of_getElem? (i := 621) (by decide +kernel)) (by decide +kernel)
theorem cwL_22 : Cond.constantLong RL 22 (97 : Int64) ∈ aT := aT_of (List.mem_of_getElem? (i := 622) (by decide +kernel)) (by decide +kernel)
theorem cwL_24 : Cond.constantLong RL 24 (188978561024 : Int64) ∈ aT := aT_of (List.mem_of_getElem? (i := 623) (by decide +kernel)) (by decide +kernel)
theorem cwX11_309 : Cond.constantLong RX11 309 (255 : Int64) ∈ aT := aT_of (List.mem_of_getElem? (i := 634) (by decide +kernel)) (by decide +kernel)
theorem cwL_30 : Cond.constantLong RL 30 (48 : Int64) ∈ aT := aT_of (List.mem_of_getElem? (i := 638) (by decide +kernel)) (by decide +kernel)
theorem cwL_32 : Cond.constantLong RL 32 (738197504 : Int64) ∈ aT := aT_of (List.mem_of_getElem? (i := 639) (by decide +kernel)) (by decide +kernel)
theorem cwL_34 : Cond.constantLong RL 34 (48378511622144 : Int64) ∈ aT := aT_of (List.mem_of_getElem? (i := 640) (by decide +kernel)) (by decide +kernel)
theorem cwL_117 : Cond.constantLong RL 117 (4196918605268282940 : Int64) ∈ aT := aT_of (List.mem_of_getElem? (i := 1013) (by decide +kernel)) (by decide +kernel)
theorem cwL_119 : Cond.constantLong RL 119 (4196926301849675836 : Int64) ∈ aT := aT_of (List.mem_of_getElem? (i := 1014) (by decide +kernel)) (by decide +kernel)
theorem cwL_121 : Cond.constantLong RL 121 (17571553998696508 : Int64) ∈ aT := aT_of (List.mem_of_getElem? (i := 1015) (by decide +kernel)) (by decide +kernel)
theorem cwL_126 : Cond.constantLong RL 126 (8948723099738402139 : Int64) ∈ aT := aT_of (List.mem_of_getElem? (i := 1068) (by decide +kernel)) (by decide +kernel)
theorem cwL_128 : Cond.constantLong RL 128 (4346043116763902043 : Int64) ∈ aT := aT_of (List.mem_of_getElem? (i := 1069) (by decide +kernel)) (by decide +kernel)
theorem cwL_130 : Cond.constantLong RL 130 (6718922302206787184 : Int64) ∈ aT := aT_of (List.mem_of_getElem? (i := 1070) (by decide +kernel)) (by decide +kernel)
theorem cwL_132 : Cond.constantLong RL 132 (11869 : Int64) ∈ aT := aT_of (List.mem_of_getElem? (i := 1071) (by decide +kernel)) (by decide +kernel)
theorem cwL_134 : Cond.constantLong RL 134 (826290496 : Int64) ∈ aT := aT_of (List.mem_of_getElem? (i := 1072) (by decide +kernel)) (by decide +kernel)
theorem cwX5_50 : Cond.constantFloat RX5 50 (1053609165 : UInt32) ∈ aT := aT_of (List.mem_of_getElem? (i := 583) (by decide +kernel)) (by decide +kernel)
theorem cwX5_59 : Cond.constantFloat RX5 59 (1050253722 : UInt32) ∈ aT := aT_of (List.mem_of_getElem? (i := 606) (by decide +kernel)) (by decide +kernel)
theorem cwX5_63 : Cond.constantFloat RX5 63 (1045220557 : UInt32) ∈ aT := aT_of (List.mem_of_getElem? (i := 607) (by decide +kernel)) (by decide +kernel)
theorem cwX5_64 : Cond.constantFloat RX5 64 (1036831949 : UInt32) ∈ aT := aT_of (List.mem_of_getElem? (i := 608) (by decide +kernel)) (by decide +kernel)
theorem cwX11_308 : Cond.constantFloat RX11 308 (1056964608 : UInt32) ∈ aT := aT_of (List.mem_of_getElem? (i := 609) (by decide +kernel)) (by decide +kernel)
theorem clL_11 : Cond.classLink RL 11 "MergePost" ∈ aT := aT_of (List.mem_of_getElem? (i := 96) (by decide +kernel)) (by decide +kernel)
theorem clX11_9 : Cond.classLink RX11 9 "MergePost$Line" ∈ aT := aT_of (List.mem_of_getElem? (i := 104) (by decide +kernel)) (by decide +kernel)
theorem clX6_9 : Cond.classLink RX6 9 "MergePost$Signs" ∈ aT := aT_of (List.mem_of_getElem? (i := 110) (by decide +kernel)) (by decide +kernel)
theorem clX11_16 : Cond.classLink RX11 16 "MergePost$Press" ∈ aT := aT_of (List.mem_of_getElem? (i := 141) (by decide +kernel)) (by decide +kernel)
theorem clX7_9 : Cond.classLink RX7 9 "MergePost$Template" ∈ aT := aT_of (List.mem_of_getElem? (i := 147) (by decide +kernel)) (by decide +kernel)
theorem clX10_9 : Cond.classLink RX10 9 "MergePost$Signs" ∈ aT := aT_of (List.mem_of_getElem? (i := 154) (by decide +kernel)) (by decide +kernel)
theorem clX7_22 : Cond.classLink RX7 22 "MergePost$Household" ∈ aT := aT_of (List.mem_of_getElem? (i := 175) (by decide +kernel)) (by decide +kernel)
theorem clX3_9 : Cond.classLink RX3 9 "MergePost$Signs" ∈ aT := aT_of (List.mem_of_getElem? (i := 181) (by decide +kernel)) (by decide +kernel)
theorem clX7_29 : Cond.classLink RX7 29 "MergePost$Letter" ∈ aT := aT_of (List.mem_of_getElem? (i := 201) (by decide +kernel)) (by decide +kernel)
theorem clX4_9 : Cond.classLink RX4 9 "MergePost$Signs" ∈ aT := aT_of (List.mem_of_getElem? (i := 207) (by decide +kernel)) (by decide +kernel)
theorem clX11_23 : Cond.classLink RX11 23 "MergePost$Book" ∈ aT := aT_of (List.mem_of_getElem? (i := 262) (by decide +kernel)) (by decide +kernel)
theorem clX1_9 : Cond.classLink RX1 9 "MergePost$Address" ∈ aT := aT_of (List.mem_of_getElem? (i := 268) (by decide +kernel)) (by decide +kernel)
theorem clX0_9 : Cond.classLink RX0 9 "MergePost$Signs" ∈ aT := aT_of (List.mem_of_getElem? (i := 275) (by decide +kernel)) (by decide +kernel)
theorem clX11_30 : Cond.classLink RX11 30 "MergePost$Likener" ∈ aT := aT_of (List.mem_of_getElem? (i := 331) (by decide +kernel)) (by decide +kernel)
theorem clX11_37 : Cond.classLink RX11 37 "MergePost$Franking" ∈ aT := aT_of (List.mem_of_getElem? (i := 341) (by decide +kernel)) (by decide +kernel)
theorem clX11_44 : Cond.classLink RX11 44 "MergePost$Run" ∈ aT := aT_of (List.mem_of_getElem? (i := 356) (by decide +kernel)) (by decide +kernel)
theorem clX8_9 : Cond.classLink RX8 9 "MergePost$Letter" ∈ aT := aT_of (List.mem_of_getElem? (i := 363) (by decide +kernel)) (by decide +kernel)
theorem clX11_102 : Cond.classLink RX11 102 "java/lang/IndexOutOfBoundsException" ∈ aT := aT_of (List.mem_of_getElem? (i := 417) (by decide +kernel)) (by decide +kernel)
theorem clX11_55 : Cond.classLink RX11 55 "java/lang/IllegalArgumentException" ∈ aT := aT_of (List.mem_of_getElem? (i := 498) (by decide +kernel)) (by decide +kernel)
theorem clX11_72 : Cond.classLink RX11 72 "java/lang/IllegalStateException" ∈ aT := aT_of (List.mem_of_getElem? (i := 533) (by decide +kernel)) (by decide +kernel)
theorem clL_16 : Cond.classLink RL 16 "java/lang/IndexOutOfBoundsException" ∈ aT := aT_of (List.mem_of_getElem? (i := 565) (by decide +kernel)) (by decide +kernel)
theorem clL_18 : Cond.classLink RL 18 "java/lang/IllegalStateException" ∈ aT := aT_of (List.mem_of_getElem? (i := 566) (by decide +kernel)) (by decide +kernel)
theorem wn_X11 : Cond.instantiable RX11 8 ∈ aT := aT_of (List.mem_of_getElem? (i := 97) (by decide +kernel)) (by decide +kernel)
theorem wn_X6 : Cond.instantiable RX6 2 ∈ aT := aT_of (List.mem_of_getElem? (i := 105) (by decide +kernel)) (by decide +kernel)
theorem wn_X9 : Cond.instantiable RX9 2 ∈ aT := aT_of (List.mem_of_getElem? (i := 111) (by decide +kernel)) (by decide +kernel)
theorem wn_X7 : Cond.instantiable RX7 9 ∈ aT := aT_of (List.mem_of_getElem? (i := 142) (by decide +kernel)) (by decide +kernel)
theorem wn_X10 : Cond.instantiable RX10 5 ∈ aT := aT_of (List.mem_of_getElem? (i := 149) (by decide +kernel)) (by decide +kernel)
theorem wn_X3 : Cond.instantiable RX3 3 ∈ aT := aT_of (List.mem_of_getElem? (i := 176) (by decide +kernel)) (by decide +kernel)
theorem wn_X4 : Cond.instantiable RX4 5 ∈ aT := aT_of (List.mem_of_getElem? (i := 202) (by decide +kernel)) (by decide +kernel)
theorem wn_X1 : Cond.instantiable RX1 6 ∈ aT := aT_of (List.mem_of_getElem? (i := 263) (by decide +kernel)) (by decide +kernel)
theorem wn_X0 : Cond.instantiable RX0 7 ∈ aT := aT_of (List.mem_of_getElem? (i := 270) (by decide +kernel)) (by decide +kernel)
theorem wn_X5 : Cond.instantiable RX5 1 ∈ aT := aT_of (List.mem_of_getElem? (i := 332) (by decide +kernel)) (by decide +kernel)
theorem wn_X2 : Cond.instantiable RX2 2 ∈ aT := aT_of (List.mem_of_getElem? (i := 342) (by decide +kernel)) (by decide +kernel)
theorem wn_X8 : Cond.instantiable RX8 5 ∈ aT := aT_of (List.mem_of_getElem? (i := 358) (by decide +kernel)) (by decide +kernel)
theorem srX11_104 : Cond.stringRef RX11 104 "no such address" ∈ aR := aR_of (List.mem_of_getElem? (i := 388) (by decide +kernel)) (by decide +kernel)
theorem srX11_168 : Cond.stringRef RX11 168 "base or step out of range" ∈ aR := aR_of (List.mem_of_getElem? (i := 437) (by decide +kernel)) (by decide +kernel)
theorem srX11_274 : Cond.stringRef RX11 274 "no such template" ∈ aR := aR_of (List.mem_of_getElem? (i := 461) (by decide +kernel)) (by decide +kernel)
theorem srX11_183 : Cond.stringRef RX11 183 "reason out of range" ∈ aR := aR_of (List.mem_of_getElem? (i := 462) (by decide +kernel)) (by decide +kernel)
theorem srX11_188 : Cond.stringRef RX11 188 "no room for another run" ∈ aR := aR_of (List.mem_of_getElem? (i := 472) (by decide +kernel)) (by decide +kernel)
theorem srX11_157 : Cond.stringRef RX11 157 "these can't be matched" ∈ aR := aR_of (List.mem_of_getElem? (i := 540) (by decide +kernel)) (by decide +kernel)
theorem srX11_57 : Cond.stringRef RX11 57 "no signs of a line" ∈ aR := aR_of (List.mem_of_getElem? (i := 565) (by decide +kernel)) (by decide +kernel)
theorem srX11_74 : Cond.stringRef RX11 74 "the line is full" ∈ aR := aR_of (List.mem_of_getElem? (i := 566) (by decide +kernel)) (by decide +kernel)
theorem srX11_111 : Cond.stringRef RX11 111 "no room for another address, or it has a match" ∈ aR := aR_of (List.mem_of_getElem? (i := 579) (by decide +kernel)) (by decide +kernel)
theorem srX11_276 : Cond.stringRef RX11 276 "no such run" ∈ aR := aR_of (List.mem_of_getElem? (i := 663) (by decide +kernel)) (by decide +kernel)
theorem srX11_278 : Cond.stringRef RX11 278 "no such letter" ∈ aR := aR_of (List.mem_of_getElem? (i := 677) (by decide +kernel)) (by decide +kernel)
theorem srX11_206 : Cond.stringRef RX11 206 "what out of range" ∈ aR := aR_of (List.mem_of_getElem? (i := 678) (by decide +kernel)) (by decide +kernel)
theorem srX7_122 : Cond.stringRef RX7 122 "nshzpm" ∈ aR := aR_of (List.mem_of_getElem? (i := 748) (by decide +kernel)) (by decide +kernel)
theorem srX11_119 : Cond.stringRef RX11 119 "no such place" ∈ aR := aR_of (List.mem_of_getElem? (i := 867) (by decide +kernel)) (by decide +kernel)
theorem srX11_237 : Cond.stringRef RX11 237 "no such level" ∈ aR := aR_of (List.mem_of_getElem? (i := 897) (by decide +kernel)) (by decide +kernel)
theorem srX11_249 : Cond.stringRef RX11 249 "the run was posted" ∈ aR := aR_of (List.mem_of_getElem? (i := 914) (by decide +kernel)) (by decide +kernel)
theorem srX6_47 : Cond.stringRef RX6 47 "nshzpm" ∈ aR := aR_of (List.mem_of_getElem? (i := 969) (by decide +kernel)) (by decide +kernel)
theorem wa_char : Cond.arrayClass .char ∈ aT := aT_of (List.mem_of_getElem? (i := 128) (by decide +kernel)) (by decide +kernel)
theorem wa_int : Cond.arrayClass .int ∈ aT := aT_of (List.mem_of_getElem? (i := 174) (by decide +kernel)) (by decide +kernel)
theorem wa_byte : Cond.arrayClass .byte ∈ aT := aT_of (List.mem_of_getElem? (i := 484) (by decide +kernel)) (by decide +kernel)
theorem wo_X10 : Cond.arrayOver (.object "MergePost$Template") ∈ aN := aN_of (List.mem_of_getElem? (i := 78) (by decide +kernel)) (by decide +kernel)
theorem wo_X9 : Cond.arrayOver (.object "MergePost$Signs") ∈ aN := aN_of (List.mem_of_getElem? (i := 112) (by decide +kernel)) (by decide +kernel)
theorem wo_X0 : Cond.arrayOver (.object "MergePost$Address") ∈ aN := aN_of (List.mem_of_getElem? (i := 199) (by decide +kernel)) (by decide +kernel)
theorem wo_X8 : Cond.arrayOver (.object "MergePost$Run") ∈ aN := aN_of (List.mem_of_getElem? (i := 287) (by decide +kernel)) (by decide +kernel)
theorem wo_X4 : Cond.arrayOver (.object "MergePost$Letter") ∈ aN := aN_of (List.mem_of_getElem? (i := 294) (by decide +kernel)) (by decide +kernel)
-- native 457: ({ cls := "java/lang/Throwable", name := "fillInStackTrace", desc := "(I)Ljava/lang/Throwable;" } : Jvm.MethodName)
-- native 776: ({ cls := "java/lang/System", name := "arraycopy", desc := "(Ljava/lang/Object;ILjava/lang/Object;II)V" } : Jvm.MethodName)
-- static 775: ({ cls := "java/lang/System", name := "arraycopy", desc := "(Ljava/lang/Object;ILjava/lang/Object;II)V" } : Jvm.MethodName)
-- code 103: ({ cls := "java/lang/Object", name := "<init>", desc := "()V" } : Jvm.MethodName) object_method_1_code (1 : Nat) (Option.none : Option Jvm.ClassFile.FieldType)
-- code 441: ({ cls := "java/lang/Throwable", name := "<init>", desc := "()V" } : Jvm.MethodName) prog_26_method_1_code (1 : Nat) (Option.none : Option Jvm.ClassFile.FieldTy
-- code 461: ({ cls := "java/lang/IndexOutOfBoundsException", name := "<init>", desc := "(Ljava/lang/String;)V" } : Jvm.MethodName) prog_19_method_2_code (2 : Nat) (Option.n
-- code 464: ({ cls := "java/lang/RuntimeException", name := "<init>", desc := "(Ljava/lang/String;)V" } : Jvm.MethodName) prog_21_method_2_code (2 : Nat) (Option.none : Opt
-- code 467: ({ cls := "java/lang/Exception", name := "<init>", desc := "(Ljava/lang/String;)V" } : Jvm.MethodName) prog_16_method_2_code (2 : Nat) (Option.none : Option Jvm
-- code 470: ({ cls := "java/lang/Throwable", name := "<init>", desc := "(Ljava/lang/String;)V" } : Jvm.MethodName) prog_26_method_2_code (2 : Nat) (Option.none : Option Jvm
-- code 510: ({ cls := "java/lang/IllegalArgumentException", name := "<init>", desc := "(Ljava/lang/String;)V" } : Jvm.MethodName) prog_17_method_2_code (2 : Nat) (Option.no
-- code 545: ({ cls := "java/lang/IllegalStateException", name := "<init>", desc := "(Ljava/lang/String;)V" } : Jvm.MethodName) prog_18_method_2_code (2 : Nat) (Option.none 
-- instanceMethod 102: ({ cls := "java/lang/Object", name := "<init>", desc := "()V" } : Jvm.MethodName)
-- instanceMethod 440: ({ cls := "java/lang/Throwable", name := "<init>", desc := "()V" } : Jvm.MethodName)
-- instanceMethod 448: ({ cls := "java/lang/Throwable", name := "fillInStackTrace", desc := "()Ljava/lang/Throwable;" } : Jvm.MethodName)
-- instanceMethod 455: ({ cls := "java/lang/Throwable", name := "fillInStackTrace", desc := "(I)Ljava/lang/Throwable;" } : Jvm.MethodName)
-- instanceMethod 460: ({ cls := "java/lang/IndexOutOfBoundsException", name := "<init>", desc := "(Ljava/lang/String;)V" } : Jvm.MethodName)
-- instanceMethod 463: ({ cls := "java/lang/RuntimeException", name := "<init>", desc := "(Ljava/lang/String;)V" } : Jvm.MethodName)
-- instanceMethod 466: ({ cls := "java/lang/Exception", name := "<init>", desc := "(Ljava/lang/String;)V" } : Jvm.MethodName)
-- instanceMethod 469: ({ cls := "java/lang/Throwable", name := "<init>", desc := "(Ljava/lang/String;)V" } : Jvm.MethodName)
-- instanceMethod 509: ({ cls := "java/lang/IllegalArgumentException", name := "<init>", desc := "(Ljava/lang/String;)V" } : Jvm.MethodName)
-- instanceMethod 544: ({ cls := "java/lang/IllegalStateException", name := "<init>", desc := "(Ljava/lang/String;)V" } : Jvm.MethodName)
