/-! ===== the words by their places; the methods; a row for each field ===== -/
theorem aT_all {ws : List Cond} (ps : List Nat) (hp : ws = ps.filterMap (fun i => lw_tbl[i]?)) (g : ws.all goodWord = true) : ∀ w ∈ ws, w ∈ aT := by
  intro w hw
  have h1 := List.all_eq_true.mp g w hw
  rw [hp] at hw
  obtain ⟨i, -, hi⟩ := List.mem_filterMap.mp hw
  exact aT_of (List.mem_of_getElem? hi) h1
theorem inX0 : ∀ w ∈ u_ws RX0 TX0 7, w ∈ aT := aT_all [334, 336, 338, 340, 342, 344, 346] (by decide +kernel) (by decide +kernel)
theorem inX1 : ∀ w ∈ u_ws RX1 TX1 6, w ∈ aT := aT_all [359, 361, 363, 365, 367, 369] (by decide +kernel) (by decide +kernel)
theorem inX2 : ∀ w ∈ u_ws RX2 TX2 2, w ∈ aT := aT_all [392, 394] (by decide +kernel) (by decide +kernel)
theorem inX3 : ∀ w ∈ u_ws RX3 TX3 3, w ∈ aT := aT_all [235, 237, 239] (by decide +kernel) (by decide +kernel)
theorem inX4 : ∀ w ∈ u_ws RX4 TX4 5, w ∈ aT := aT_all [262, 264, 266, 268, 270] (by decide +kernel) (by decide +kernel)
theorem inX5 : ∀ w ∈ u_ws RX5 TX5 1, w ∈ aT := aT_all [379] (by decide +kernel) (by decide +kernel)
theorem inX6 : ∀ w ∈ u_ws RX6 TX6 2, w ∈ aT := aT_all [177, 179] (by decide +kernel) (by decide +kernel)
theorem inX7 : ∀ w ∈ u_ws RX7 TX7 9, w ∈ aT := aT_all [284, 286, 288, 290, 292, 294, 296, 298, 300] (by decide +kernel) (by decide +kernel)
theorem inX8 : ∀ w ∈ u_ws RX8 TX8 5, w ∈ aT := aT_all [414, 416, 418, 420, 422] (by decide +kernel) (by decide +kernel)
theorem inX9 : ∀ w ∈ u_ws RX9 TX9 2, w ∈ aT := aT_all [164, 166] (by decide +kernel) (by decide +kernel)
theorem inX10 : ∀ w ∈ u_ws RX10 TX10 5, w ∈ aT := aT_all [204, 206, 208, 210, 212] (by decide +kernel) (by decide +kernel)
theorem inX11 : ∀ w ∈ u_ws RX11 TX11 8, w ∈ aT := aT_all [433, 435, 437, 439, 441, 443, 445, 447] (by decide +kernel) (by decide +kernel)
theorem inX12 : ∀ w ∈ u_ws RX12 TX12 46, w ∈ aT := aT_all [1177, 1179, 1181, 1183, 1185, 1187, 1189, 1191, 1193, 1195, 1197, 1199, 1201, 1203, 1205, 1207, 1209, 1211, 1213, 1215, 1217, 1219, 1221, 1223, 1225, 1227, 1229, 1231, 1233, 1235, 1237, 1239, 1241, 1243, 1245, 1247, 1249, 1251, 1253, 1255, 1257, 1259, 1261, 1263, 1265, 1267] (by decide +kernel) (by decide +kernel)
abbrev mX9_init : aMt := (yX9_init, cX9_init, 2, none)
abbrev mX0_init : aMt := (yX0_init, cX0_init, 1, none)
abbrev mX0_cleanedWord : aMt := (yX0_cleanedWord, cX0_cleanedWord, 2, (some (.object "MergePost$Signs")))
abbrev mX6_atEnd : aMt := (yX6_atEnd, cX6_atEnd, 1, (some .boolean))
abbrev mX9_signAt : aMt := (yX9_signAt, cX9_signAt, 2, (some .char))
abbrev mX6_here : aMt := (yX6_here, cX6_here, 1, (some .char))
abbrev mX9_add : aMt := (yX9_add, cX9_add, 2, none)
abbrev mX6_takeWord : aMt := (yX6_takeWord, cX6_takeWord, 3, (some .boolean))
abbrev mX6_takeIf : aMt := (yX6_takeIf, cX6_takeIf, 2, (some .boolean))
abbrev mX6_take : aMt := (yX6_take, cX6_take, 2, (some .boolean))
abbrev mX11_isDigit : aMt := (yX11_isDigit, cX11_isDigit, 2, (some .boolean))
abbrev mX6_takeNumber : aMt := (yX6_takeNumber, cX6_takeNumber, 5, (some .int))
abbrev mX0_readNumbers : aMt := (yX0_readNumbers, cX0_readNumbers, 2, (some .boolean))
abbrev mX9_becomeCleaned : aMt := (yX9_becomeCleaned, cX9_becomeCleaned, 4, none)
abbrev mX0_read : aMt := (yX0_read, cX0_read, 3, (some .boolean))
abbrev mX1_init : aMt := (yX1_init, cX1_init, 2, none)
abbrev mX1_readAddress : aMt := (yX1_readAddress, cX1_readAddress, 5, (some .boolean))
abbrev mX1_hasMatch : aMt := (yX1_hasMatch, cX1_hasMatch, 2, (some .boolean))
abbrev mX1_areMatched : aMt := (yX1_areMatched, cX1_areMatched, 3, (some .boolean))
abbrev mX1_turnMatch : aMt := (yX1_turnMatch, cX1_turnMatch, 3, none)
abbrev mX1_matchesOf : aMt := (yX1_matchesOf, cX1_matchesOf, 4, (some .int))
abbrev mX1_groupOf : aMt := (yX1_groupOf, cX1_groupOf, 5, (some .int))
abbrev mX1_wasPosted : aMt := (yX1_wasPosted, cX1_wasPosted, 4, (some .boolean))
abbrev mX1_listDue : aMt := (yX1_listDue, cX1_listDue, 6, (some .int))
abbrev mX1_dueAt : aMt := (yX1_dueAt, cX1_dueAt, 2, (some .int))
abbrev mX1_notePosted : aMt := (yX1_notePosted, cX1_notePosted, 4, none)
abbrev mX2_init : aMt := (yX2_init, cX2_init, 1, none)
abbrev mX2_weightOf : aMt := (yX2_weightOf, cX2_weightOf, 3, (some .int))
abbrev mX2_costOf : aMt := (yX2_costOf, cX2_costOf, 7, (some .int))
abbrev mX3_init : aMt := (yX3_init, cX3_init, 2, none)
abbrev mX9_addAll : aMt := (yX9_addAll, cX9_addAll, 3, none)
abbrev mX3_addMember : aMt := (yX3_addMember, cX3_addMember, 2, none)
abbrev mX9_addNumber : aMt := (yX9_addNumber, cX9_addNumber, 3, none)
abbrev mX3_gather : aMt := (yX3_gather, cX3_gather, 4, none)
abbrev mX4_init : aMt := (yX4_init, cX4_init, 1, none)
abbrev mX9_become : aMt := (yX9_become, cX9_become, 2, none)
abbrev mX4_become : aMt := (yX4_become, cX4_become, 2, none)
abbrev mX5_init : aMt := (yX5_init, cX5_init, 1, none)
abbrev mX5_readSign : aMt := (yX5_readSign, cX5_readSign, 7, none)
abbrev mX5_distance : aMt := (yX5_distance, cX5_distance, 5, (some .int))
abbrev mX5_wordLikeness : aMt := (yX5_wordLikeness, cX5_wordLikeness, 4, (some .float))
abbrev mX5_likenessOf : aMt := (yX5_likenessOf, cX5_likenessOf, 6, (some .float))
abbrev mX6_init : aMt := (yX6_init, cX6_init, 1, none)
abbrev mX6_clear : aMt := (yX6_clear, cX6_clear, 1, none)
abbrev mX6_takeDigit : aMt := (yX6_takeDigit, cX6_takeDigit, 2, (some .boolean))
abbrev mJ0_isLatin1_aae02 : aMt := (yJ0_isLatin1_aae02, cJ0_isLatin1_aae02, 1, (some .boolean))
abbrev mJ0_coder_7d493 : aMt := (yJ0_coder_7d493, cJ0_coder_7d493, 1, (some .byte))
abbrev mJ0_length_8abf5 : aMt := (yJ0_length_8abf5, cJ0_length_8abf5, 1, (some .int))
abbrev mJ1_canEncode_9a6ad : aMt := (yJ1_canEncode_9a6ad, cJ1_canEncode_9a6ad, 1, (some .boolean))
abbrev mJ1_indexOfChar_4cfef : aMt := (yJ1_indexOfChar_4cfef, cJ1_indexOfChar_4cfef, 6, (some .int))
abbrev mJ1_indexOf_4cfef : aMt := (yJ1_indexOf_4cfef, cJ1_indexOf_4cfef, 4, (some .int))
abbrev mJ2_length_9d52b : aMt := (yJ2_length_9d52b, cJ2_length_9d52b, 1, (some .int))
abbrev mJ3_checkFromToIndex_8c36e : aMt := (yJ3_checkFromToIndex_8c36e, cJ3_checkFromToIndex_8c36e, 4, (some .int))
abbrev mJ0_checkBoundsBeginEnd_23922 : aMt := (yJ0_checkBoundsBeginEnd_23922, cJ0_checkBoundsBeginEnd_23922, 3, none)
abbrev mJ2_checkBoundsBeginEnd_d044e : aMt := (yJ2_checkBoundsBeginEnd_d044e, cJ2_checkBoundsBeginEnd_d044e, 3, none)
abbrev mJ2_getChar_3b067 : aMt := (yJ2_getChar_3b067, cJ2_getChar_3b067, 2, (some .char))
abbrev mJ2_indexOfCharUnsafe_4cfef : aMt := (yJ2_indexOfCharUnsafe_4cfef, cJ2_indexOfCharUnsafe_4cfef, 5, (some .int))
abbrev mJ2_indexOfChar_4cfef : aMt := (yJ2_indexOfChar_4cfef, cJ2_indexOfChar_4cfef, 4, (some .int))
abbrev mJ11_isValidCodePoint_9a6ad : aMt := (yJ11_isValidCodePoint_9a6ad, cJ11_isValidCodePoint_9a6ad, 2, (some .boolean))
abbrev mJ11_highSurrogate_5068e : aMt := (yJ11_highSurrogate_5068e, cJ11_highSurrogate_5068e, 1, (some .char))
abbrev mJ11_lowSurrogate_5068e : aMt := (yJ11_lowSurrogate_5068e, cJ11_lowSurrogate_5068e, 1, (some .char))
abbrev mJ2_indexOfSupplementary_4cfef : aMt := (yJ2_indexOfSupplementary_4cfef, cJ2_indexOfSupplementary_4cfef, 7, (some .int))
abbrev mJ2_indexOf_4cfef : aMt := (yJ2_indexOf_4cfef, cJ2_indexOf_4cfef, 4, (some .int))
abbrev mJ0_indexOf_7cf53 : aMt := (yJ0_indexOf_7cf53, cJ0_indexOf_7cf53, 3, (some .int))
abbrev mJ0_indexOf_0f7a4 : aMt := (yJ0_indexOf_0f7a4, cJ0_indexOf_0f7a4, 2, (some .int))
abbrev mX6_takeField : aMt := (yX6_takeField, cX6_takeField, 1, (some .boolean))
abbrev mX6_takeRelation : aMt := (yX6_takeRelation, cX6_takeRelation, 1, (some .boolean))
abbrev mX10_init : aMt := (yX10_init, cX10_init, 1, none)
abbrev mX7_init : aMt := (yX7_init, cX7_init, 2, none)
abbrev mX10_openChoice : aMt := (yX10_openChoice, cX10_openChoice, 2, (some .boolean))
abbrev mX10_jumpFromMark : aMt := (yX10_jumpFromMark, cX10_jumpFromMark, 4, (some .boolean))
abbrev mX10_turnChoice : aMt := (yX10_turnChoice, cX10_turnChoice, 2, (some .boolean))
abbrev mX10_closeChoice : aMt := (yX10_closeChoice, cX10_closeChoice, 2, (some .boolean))
abbrev mX10_readPart : aMt := (yX10_readPart, cX10_readPart, 3, (some .boolean))
abbrev mX10_read : aMt := (yX10_read, cX10_read, 3, (some .boolean))
abbrev mX7_readTemplate : aMt := (yX7_readTemplate, cX7_readTemplate, 5, (some .boolean))
abbrev mX7_templateAt : aMt := (yX7_templateAt, cX7_templateAt, 2, (some .int))
abbrev mX7_placeAt : aMt := (yX7_placeAt, cX7_placeAt, 2, (some .int))
abbrev mX7_isTold : aMt := (yX7_isTold, cX7_isTold, 2, (some .boolean))
abbrev mX7_open : aMt := (yX7_open, cX7_open, 2, none)
abbrev mX7_blameWhole : aMt := (yX7_blameWhole, cX7_blameWhole, 3, none)
abbrev mX7_silentBit : aMt := (yX7_silentBit, cX7_silentBit, 2, (some .long))
abbrev mX7_close : aMt := (yX7_close, cX7_close, 2, none)
abbrev mX7_enter : aMt := (yX7_enter, cX7_enter, 3, none)
abbrev mX9_room : aMt := (yX9_room, cX9_room, 1, (some .int))
abbrev mX7_writeField : aMt := (yX7_writeField, cX7_writeField, 4, none)
abbrev mX7_holds : aMt := (yX7_holds, cX7_holds, 3, (some .boolean))
abbrev mX10_jumpAt : aMt := (yX10_jumpAt, cX10_jumpAt, 2, (some .int))
abbrev mX7_choose : aMt := (yX7_choose, cX7_choose, 9, none)
abbrev mX7_writeSign : aMt := (yX7_writeSign, cX7_writeSign, 3, none)
abbrev mX7_writePart : aMt := (yX7_writePart, cX7_writePart, 5, none)
abbrev mX7_write : aMt := (yX7_write, cX7_write, 3, none)
abbrev mX8_init : aMt := (yX8_init, cX8_init, 2, none)
abbrev mX8_keep : aMt := (yX8_keep, cX8_keep, 2, none)
abbrev mX9_unlikeSigns : aMt := (yX9_unlikeSigns, cX9_unlikeSigns, 4, (some .int))
abbrev mX11_init : aMt := (yX11_init, cX11_init, 2, none)
abbrev mX11_signOf : aMt := (yX11_signOf, cX11_signOf, 3, (some .char))
abbrev mX11_countSigns : aMt := (yX11_countSigns, cX11_countSigns, 5, (some .int))
abbrev mX11_type : aMt := (yX11_type, cX11_type, 5, (some .int))
abbrev mX11_checkTemplate : aMt := (yX11_checkTemplate, cX11_checkTemplate, 2, none)
abbrev mX11_template : aMt := (yX11_template, cX11_template, 4, (some .int))
abbrev mX11_address : aMt := (yX11_address, cX11_address, 4, (some .int))
abbrev mX11_addresses : aMt := (yX11_addresses, cX11_addresses, 1, (some .int))
abbrev mX11_checkAddress : aMt := (yX11_checkAddress, cX11_checkAddress, 2, none)
abbrev mX11_cleaned : aMt := (yX11_cleaned, cX11_cleaned, 5, (some .char))
abbrev mX11_apart : aMt := (yX11_apart, cX11_apart, 4, (some .int))
abbrev mX11_bitsOf : aMt := (yX11_bitsOf, cX11_bitsOf, 3, (some .int))
abbrev mX11_likeness : aMt := (yX11_likeness, cX11_likeness, 3, (some .int))
abbrev mX11_pairs : aMt := (yX11_pairs, cX11_pairs, 6, (some .int))
abbrev mX11_canBeMatched : aMt := (yX11_canBeMatched, cX11_canBeMatched, 3, (some .boolean))
abbrev mX11_match : aMt := (yX11_match, cX11_match, 4, (some .boolean))
abbrev mX11_group : aMt := (yX11_group, cX11_group, 2, (some .int))
abbrev mX11_franking : aMt := (yX11_franking, cX11_franking, 3, (some .int))
abbrev mX11_run : aMt := (yX11_run, cX11_run, 3, (some .int))
abbrev mX11_checkRun : aMt := (yX11_checkRun, cX11_checkRun, 2, none)
abbrev mX11_countLetters : aMt := (yX11_countLetters, cX11_countLetters, 2, (some .int))
abbrev mX11_letters : aMt := (yX11_letters, cX11_letters, 2, (some .int))
abbrev mX11_checkLetter : aMt := (yX11_checkLetter, cX11_checkLetter, 3, none)
abbrev mX11_compose : aMt := (yX11_compose, cX11_compose, 4, (some (.object "MergePost$Letter")))
abbrev mX11_findLetter : aMt := (yX11_findLetter, cX11_findLetter, 3, (some (.object "MergePost$Letter")))
abbrev mX11_letter : aMt := (yX11_letter, cX11_letter, 5, (some .int))
abbrev mX11_sign : aMt := (yX11_sign, cX11_sign, 5, (some .char))
abbrev mX11_anew : aMt := (yX11_anew, cX11_anew, 5, (some .int))
abbrev mX11_trouble : aMt := (yX11_trouble, cX11_trouble, 5, (some .int))
abbrev mX11_pay : aMt := (yX11_pay, cX11_pay, 2, none)
abbrev mX11_post : aMt := (yX11_post, cX11_post, 6, (some .int))
abbrev mX11_spent : aMt := (yX11_spent, cX11_spent, 1, (some .int))
abbrev mX11_reasons : aMt := (yX11_reasons, cX11_reasons, 2, (some .int))
abbrev mX12_init : aMt := (yX12_init, cX12_init, 1, none)
abbrev mX12_thrown : aMt := (yX12_thrown, cX12_thrown, 1, (some .int))
abbrev mX12_fails : aMt := (yX12_fails, cX12_fails, 2, (some .boolean))
abbrev mX12_type : aMt := (yX12_type, cX12_type, 8, (some .int))
abbrev mX12_signAt : aMt := (yX12_signAt, cX12_signAt, 2, (some .int))
abbrev mX12_isDigit : aMt := (yX12_isDigit, cX12_isDigit, 1, (some .boolean))
abbrev mX12_isField : aMt := (yX12_isField, cX12_isField, 1, (some .boolean))
abbrev mX12_headEnd : aMt := (yX12_headEnd, cX12_headEnd, 4, (some .int))
abbrev mX12_wrongInTemplate : aMt := (yX12_wrongInTemplate, cX12_wrongInTemplate, 6, (some .int))
abbrev mX12_template : aMt := (yX12_template, cX12_template, 5, (some .int))
abbrev mX12_wordEnd : aMt := (yX12_wordEnd, cX12_wordEnd, 3, (some .int))
abbrev mX12_digitsEnd : aMt := (yX12_digitsEnd, cX12_digitsEnd, 4, (some .int))
abbrev mX12_number : aMt := (yX12_number, cX12_number, 5, (some .int))
abbrev mX12_clean : aMt := (yX12_clean, cX12_clean, 1, (some .int))
abbrev mX12_lay : aMt := (yX12_lay, cX12_lay, 9, (some .int))
abbrev mX12_readAddress : aMt := (yX12_readAddress, cX12_readAddress, 6, (some .int))
abbrev mX12_isMatched : aMt := (yX12_isMatched, cX12_isMatched, 4, (some .boolean))
abbrev mX12_address : aMt := (yX12_address, cX12_address, 4, (some .int))
abbrev mX12_addresses : aMt := (yX12_addresses, cX12_addresses, 1, (some .int))
abbrev mX12_isOne : aMt := (yX12_isOne, cX12_isOne, 2, (some .boolean))
abbrev mX12_cleaned : aMt := (yX12_cleaned, cX12_cleaned, 6, (some .char))
abbrev mX12_changes : aMt := (yX12_changes, cX12_changes, 10, (some .int))
abbrev mX12_apartOf : aMt := (yX12_apartOf, cX12_apartOf, 4, (some .int))
abbrev mX12_apart : aMt := (yX12_apart, cX12_apart, 4, (some .int))
abbrev mX12_alike : aMt := (yX12_alike, cX12_alike, 8, (some .float))
abbrev mX12_likenessOf : aMt := (yX12_likenessOf, cX12_likenessOf, 4, (some .float))
abbrev mJxf58ca_isNaN_12338 : aMt := (yJxf58ca_isNaN_12338, cJxf58ca_isNaN_12338, 1, (some .boolean))
abbrev mJxf58ca_floatToIntBits_5c35a : aMt := (yJxf58ca_floatToIntBits_5c35a, cJxf58ca_floatToIntBits_5c35a, 1, (some .int))
abbrev mX12_likeness : aMt := (yX12_likeness, cX12_likeness, 3, (some .int))
abbrev mX12_pairs : aMt := (yX12_pairs, cX12_pairs, 6, (some .int))
abbrev mX12_canMatch : aMt := (yX12_canMatch, cX12_canMatch, 3, (some .boolean))
abbrev mX12_match : aMt := (yX12_match, cX12_match, 5, (some .boolean))
abbrev mX12_groupOf : aMt := (yX12_groupOf, cX12_groupOf, 6, (some .int))
abbrev mX12_group : aMt := (yX12_group, cX12_group, 2, (some .int))
abbrev mX12_lowest : aMt := (yX12_lowest, cX12_lowest, 2, (some .int))
abbrev mX12_many : aMt := (yX12_many, cX12_many, 3, (some .int))
abbrev mX12_giveRow : aMt := (yX12_giveRow, cX12_giveRow, 5, none)
abbrev mX12_giveNumber : aMt := (yX12_giveNumber, cX12_giveNumber, 3, none)
abbrev mX12_pointsOf : aMt := (yX12_pointsOf, cX12_pointsOf, 4, (some .int))
abbrev mX12_give : aMt := (yX12_give, cX12_give, 5, (some .int))
abbrev mX12_inTrouble : aMt := (yX12_inTrouble, cX12_inTrouble, 5, none)
abbrev mX12_add : aMt := (yX12_add, cX12_add, 5, none)
abbrev mX12_begin : aMt := (yX12_begin, cX12_begin, 3, none)
abbrev mX12_open : aMt := (yX12_open, cX12_open, 11, none)
abbrev mX12_goDown : aMt := (yX12_goDown, cX12_goDown, 5, (some .int))
abbrev mX12_giveSign : aMt := (yX12_giveSign, cX12_giveSign, 5, none)
abbrev mX12_goOn : aMt := (yX12_goOn, cX12_goOn, 8, (some .int))
abbrev mX12_make : aMt := (yX12_make, cX12_make, 5, none)
abbrev mX12_weightOf : aMt := (yX12_weightOf, cX12_weightOf, 2, (some .int))
abbrev mX12_franked : aMt := (yX12_franked, cX12_franked, 7, (some .int))
abbrev mX12_letterOf : aMt := (yX12_letterOf, cX12_letterOf, 3, none)
abbrev mX12_franking : aMt := (yX12_franking, cX12_franking, 3, (some .int))
abbrev mX12_run : aMt := (yX12_run, cX12_run, 3, (some .int))
abbrev mX12_openMembers : aMt := (yX12_openMembers, cX12_openMembers, 8, (some .int))
abbrev mX12_isRun : aMt := (yX12_isRun, cX12_isRun, 2, (some .boolean))
abbrev mX12_lettersOf : aMt := (yX12_lettersOf, cX12_lettersOf, 3, (some .int))
abbrev mX12_letters : aMt := (yX12_letters, cX12_letters, 2, (some .int))
abbrev mX12_isLetter : aMt := (yX12_isLetter, cX12_isLetter, 3, (some .boolean))
abbrev mX12_membersOf : aMt := (yX12_membersOf, cX12_membersOf, 3, (some .int))
abbrev mX12_layLetter : aMt := (yX12_layLetter, cX12_layLetter, 4, none)
abbrev mX12_letter : aMt := (yX12_letter, cX12_letter, 5, (some .int))
abbrev mX12_sign : aMt := (yX12_sign, cX12_sign, 5, (some .char))
abbrev mX12_anew : aMt := (yX12_anew, cX12_anew, 8, (some .int))
abbrev mX12_trouble : aMt := (yX12_trouble, cX12_trouble, 5, (some .int))
abbrev mX12_keep : aMt := (yX12_keep, cX12_keep, 5, none)
abbrev mX12_post : aMt := (yX12_post, cX12_post, 5, (some .int))
abbrev mX12_spent : aMt := (yX12_spent, cX12_spent, 1, (some .int))
abbrev mX12_reasons : aMt := (yX12_reasons, cX12_reasons, 2, (some .int))
abbrev mJ9_max_7cf53 : aMt := (yJ9_max_7cf53, cJ9_max_7cf53, 2, (some .int))
abbrev mJ9_min_7cf53 : aMt := (yJ9_min_7cf53, cJ9_min_7cf53, 2, (some .int))
theorem wi_J0 : Cond.initialized RJ0 ∈ aT := aT_of (List.mem_of_getElem? (i := 129) (by decide +kernel)) (by decide +kernel)
theorem wi_J1 : Cond.initialized RJ1 ∈ aT := aT_of (List.mem_of_getElem? (i := 130) (by decide +kernel)) (by decide +kernel)
theorem wi_J10 : Cond.initialized RJ10 ∈ aT := aT_of (List.mem_of_getElem? (i := 135) (by decide +kernel)) (by decide +kernel)
theorem wi_J11 : Cond.initialized RJ11 ∈ aT := aT_of (List.mem_of_getElem? (i := 134) (by decide +kernel)) (by decide +kernel)
theorem wi_J2 : Cond.initialized RJ2 ∈ aT := aT_of (List.mem_of_getElem? (i := 132) (by decide +kernel)) (by decide +kernel)
theorem wi_J3 : Cond.initialized RJ3 ∈ aT := aT_of (List.mem_of_getElem? (i := 133) (by decide +kernel)) (by decide +kernel)
theorem wi_J9 : Cond.initialized RJ9 ∈ aT := aT_of (List.mem_of_getElem? (i := 131) (by decide +kernel)) (by decide +kernel)
theorem wi_Jxf58ca : Cond.initialized RJxf58ca ∈ aT := aT_of (List.mem_of_getElem? (i := 136) (by decide +kernel)) (by decide +kernel)
theorem wi_L : Cond.initialized RL ∈ aT := aT_of (List.mem_of_getElem? (i := 109) (by decide +kernel)) (by decide +kernel)
theorem wi_X0 : Cond.initialized RX0 ∈ aT := aT_of (List.mem_of_getElem? (i := 118) (by decide +kernel)) (by decide +kernel)
theorem wi_X1 : Cond.initialized RX1 ∈ aT := aT_of (List.mem_of_getElem? (i := 117) (by decide +kernel)) (by decide +kernel)
theorem wi_X10 : Cond.initialized RX10 ∈ aT := aT_of (List.mem_of_getElem? (i := 114) (by decide +kernel)) (by decide +kernel)
theorem wi_X11 : Cond.initialized RX11 ∈ aT := aT_of (List.mem_of_getElem? (i := 110) (by decide +kernel)) (by decide +kernel)
theorem wi_X12 : Cond.initialized RX12 ∈ aT := aT_of (List.mem_of_getElem? (i := 122) (by decide +kernel)) (by decide +kernel)
theorem wi_X2 : Cond.initialized RX2 ∈ aT := aT_of (List.mem_of_getElem? (i := 120) (by decide +kernel)) (by decide +kernel)
theorem wi_X3 : Cond.initialized RX3 ∈ aT := aT_of (List.mem_of_getElem? (i := 115) (by decide +kernel)) (by decide +kernel)
theorem wi_X4 : Cond.initialized RX4 ∈ aT := aT_of (List.mem_of_getElem? (i := 116) (by decide +kernel)) (by decide +kernel)
theorem wi_X5 : Cond.initialized RX5 ∈ aT := aT_of (List.mem_of_getElem? (i := 119) (by decide +kernel)) (by decide +kernel)
theorem wi_X6 : Cond.initialized RX6 ∈ aT := aT_of (List.mem_of_getElem? (i := 111) (by decide +kernel)) (by decide +kernel)
theorem wi_X7 : Cond.initialized RX7 ∈ aT := aT_of (List.mem_of_getElem? (i := 113) (by decide +kernel)) (by decide +kernel)
theorem wi_X8 : Cond.initialized RX8 ∈ aT := aT_of (List.mem_of_getElem? (i := 121) (by decide +kernel)) (by decide +kernel)
theorem wi_X9 : Cond.initialized RX9 ∈ aT := aT_of (List.mem_of_getElem? (i := 112) (by decide +kernel)) (by decide +kernel)
theorem koX9_init : aOK mX9_init 1 := ⟨by decide +kernel, by decide +kernel, by decide +kernel, wi_X9, aT_of (List.mem_of_getElem? (i := 155) (by decide +kernel)) (by decide +kernel)⟩
theorem okX9_init : aOKc mX9_init 1 := ⟨koX9_init, rfl, rfl, aT_of (List.mem_of_getElem? (i := 154) (by decide +kernel)) (by decide +kernel)⟩
theorem koX0_init : aOK mX0_init 0 := ⟨by decide +kernel, by decide +kernel, by decide +kernel, wi_X0, aT_of (List.mem_of_getElem? (i := 314) (by decide +kernel)) (by decide +kernel)⟩
theorem okX0_init : aOKc mX0_init 0 := ⟨koX0_init, rfl, rfl, aT_of (List.mem_of_getElem? (i := 313) (by decide +kernel)) (by decide +kernel)⟩
theorem koX0_cleanedWord : aOK mX0_cleanedWord 1 := ⟨by decide +kernel, by decide +kernel, by decide +kernel, wi_X0, aT_of (List.mem_of_getElem? (i := 816) (by decide +kernel)) (by decide +kernel)⟩
theorem okX0_cleanedWord : aOKi mX0_cleanedWord 1 := ⟨koX0_cleanedWord, aT_of (List.mem_of_getElem? (i := 815) (by decide +kernel)) (by decide +kernel), aT_of (List.mem_of_getElem? (i := 29) (by decide +kernel)) (by decide +kernel)⟩
theorem koX6_atEnd : aOK mX6_atEnd 0 := ⟨by decide +kernel, by decide +kernel, by decide +kernel, wi_X6, aT_of (List.mem_of_getElem? (i := 598) (by decide +kernel)) (by decide +kernel)⟩
theorem okX6_atEnd : aOKi mX6_atEnd 0 := ⟨koX6_atEnd, aT_of (List.mem_of_getElem? (i := 597) (by decide +kernel)) (by decide +kernel), aT_of (List.mem_of_getElem? (i := 5) (by decide +kernel)) (by decide +kernel)⟩
theorem koX9_signAt : aOK mX9_signAt 1 := ⟨by decide +kernel, by decide +kernel, by decide +kernel, wi_X9, aT_of (List.mem_of_getElem? (i := 610) (by decide +kernel)) (by decide +kernel)⟩
theorem okX9_signAt : aOKi mX9_signAt 1 := ⟨koX9_signAt, aT_of (List.mem_of_getElem? (i := 609) (by decide +kernel)) (by decide +kernel), aT_of (List.mem_of_getElem? (i := 8) (by decide +kernel)) (by decide +kernel)⟩
theorem koX6_here : aOK mX6_here 0 := ⟨by decide +kernel, by decide +kernel, by decide +kernel, wi_X6, aT_of (List.mem_of_getElem? (i := 606) (by decide +kernel)) (by decide +kernel)⟩
theorem okX6_here : aOKi mX6_here 0 := ⟨koX6_here, aT_of (List.mem_of_getElem? (i := 605) (by decide +kernel)) (by decide +kernel), aT_of (List.mem_of_getElem? (i := 7) (by decide +kernel)) (by decide +kernel)⟩
theorem koX9_add : aOK mX9_add 1 := ⟨by decide +kernel, by decide +kernel, by decide +kernel, wi_X9, aT_of (List.mem_of_getElem? (i := 228) (by decide +kernel)) (by decide +kernel)⟩
theorem okX9_add : aOKi mX9_add 1 := ⟨koX9_add, aT_of (List.mem_of_getElem? (i := 227) (by decide +kernel)) (by decide +kernel), aT_of (List.mem_of_getElem? (i := 0) (by decide +kernel)) (by decide +kernel)⟩
theorem koX6_takeWord : aOK mX6_takeWord 1 := ⟨by decide +kernel, by decide +kernel, by decide +kernel, wi_X6, aT_of (List.mem_of_getElem? (i := 784) (by decide +kernel)) (by decide +kernel)⟩
theorem okX6_takeWord : aOKi mX6_takeWord 1 := ⟨koX6_takeWord, aT_of (List.mem_of_getElem? (i := 783) (by decide +kernel)) (by decide +kernel), aT_of (List.mem_of_getElem? (i := 25) (by decide +kernel)) (by decide +kernel)⟩
theorem koX6_takeIf : aOK mX6_takeIf 1 := ⟨by decide +kernel, by decide +kernel, by decide +kernel, wi_X6, aT_of (List.mem_of_getElem? (i := 620) (by decide +kernel)) (by decide +kernel)⟩
theorem okX6_takeIf : aOKi mX6_takeIf 1 := ⟨koX6_takeIf, aT_of (List.mem_of_getElem? (i := 619) (by decide +kernel)) (by decide +kernel), aT_of (List.mem_of_getElem? (i := 10) (by decide +kernel)) (by decide +kernel)⟩
theorem koX6_take : aOK mX6_take 1 := ⟨by decide +kernel, by decide +kernel, by decide +kernel, wi_X6, aT_of (List.mem_of_getElem? (i := 614) (by decide +kernel)) (by decide +kernel)⟩
theorem okX6_take : aOKi mX6_take 1 := ⟨koX6_take, aT_of (List.mem_of_getElem? (i := 613) (by decide +kernel)) (by decide +kernel), aT_of (List.mem_of_getElem? (i := 9) (by decide +kernel)) (by decide +kernel)⟩
theorem koX11_isDigit : aOK mX11_isDigit 2 := ⟨by decide +kernel, by decide +kernel, by decide +kernel, wi_X11, aT_of (List.mem_of_getElem? (i := 718) (by decide +kernel)) (by decide +kernel)⟩
theorem okX11_isDigit : aOKs mX11_isDigit 2 := ⟨koX11_isDigit, aT_of (List.mem_of_getElem? (i := 717) (by decide +kernel)) (by decide +kernel)⟩
theorem koX6_takeNumber : aOK mX6_takeNumber 2 := ⟨by decide +kernel, by decide +kernel, by decide +kernel, wi_X6, aT_of (List.mem_of_getElem? (i := 730) (by decide +kernel)) (by decide +kernel)⟩
theorem okX6_takeNumber : aOKi mX6_takeNumber 2 := ⟨koX6_takeNumber, aT_of (List.mem_of_getElem? (i := 729) (by decide +kernel)) (by decide +kernel), aT_of (List.mem_of_getElem? (i := 15) (by decide +kernel)) (by decide +kernel)⟩
theorem koX0_readNumbers : aOK mX0_readNumbers 1 := ⟨by decide +kernel, by decide +kernel, by decide +kernel, wi_X0, aT_of (List.mem_of_getElem? (i := 790) (by decide +kernel)) (by decide +kernel)⟩
theorem okX0_readNumbers : aOKi mX0_readNumbers 1 := ⟨koX0_readNumbers, aT_of (List.mem_of_getElem? (i := 789) (by decide +kernel)) (by decide +kernel), aT_of (List.mem_of_getElem? (i := 26) (by decide +kernel)) (by decide +kernel)⟩
theorem koX9_becomeCleaned : aOK mX9_becomeCleaned 1 := ⟨by decide +kernel, by decide +kernel, by decide +kernel, wi_X9, aT_of (List.mem_of_getElem? (i := 796) (by decide +kernel)) (by decide +kernel)⟩
theorem okX9_becomeCleaned : aOKi mX9_becomeCleaned 1 := ⟨koX9_becomeCleaned, aT_of (List.mem_of_getElem? (i := 795) (by decide +kernel)) (by decide +kernel), aT_of (List.mem_of_getElem? (i := 27) (by decide +kernel)) (by decide +kernel)⟩
theorem koX0_read : aOK mX0_read 1 := ⟨by decide +kernel, by decide +kernel, by decide +kernel, wi_X0, aT_of (List.mem_of_getElem? (i := 780) (by decide +kernel)) (by decide +kernel)⟩
theorem okX0_read : aOKi mX0_read 1 := ⟨koX0_read, aT_of (List.mem_of_getElem? (i := 779) (by decide +kernel)) (by decide +kernel), aT_of (List.mem_of_getElem? (i := 24) (by decide +kernel)) (by decide +kernel)⟩
theorem koX1_init : aOK mX1_init 0 := ⟨by decide +kernel, by decide +kernel, by decide +kernel, wi_X1, aT_of (List.mem_of_getElem? (i := 307) (by decide +kernel)) (by decide +kernel)⟩
theorem okX1_init : aOKc mX1_init 0 := ⟨koX1_init, rfl, rfl, aT_of (List.mem_of_getElem? (i := 306) (by decide +kernel)) (by decide +kernel)⟩
theorem koX1_readAddress : aOK mX1_readAddress 2 := ⟨by decide +kernel, by decide +kernel, by decide +kernel, wi_X1, aT_of (List.mem_of_getElem? (i := 776) (by decide +kernel)) (by decide +kernel)⟩
theorem okX1_readAddress : aOKi mX1_readAddress 2 := ⟨koX1_readAddress, aT_of (List.mem_of_getElem? (i := 775) (by decide +kernel)) (by decide +kernel), aT_of (List.mem_of_getElem? (i := 23) (by decide +kernel)) (by decide +kernel)⟩
theorem koX1_hasMatch : aOK mX1_hasMatch 1 := ⟨by decide +kernel, by decide +kernel, by decide +kernel, wi_X1, aT_of (List.mem_of_getElem? (i := 771) (by decide +kernel)) (by decide +kernel)⟩
theorem okX1_hasMatch : aOKi mX1_hasMatch 1 := ⟨koX1_hasMatch, aT_of (List.mem_of_getElem? (i := 770) (by decide +kernel)) (by decide +kernel), aT_of (List.mem_of_getElem? (i := 22) (by decide +kernel)) (by decide +kernel)⟩
theorem koX1_areMatched : aOK mX1_areMatched 2 := ⟨by decide +kernel, by decide +kernel, by decide +kernel, wi_X1, aT_of (List.mem_of_getElem? (i := 879) (by decide +kernel)) (by decide +kernel)⟩
theorem okX1_areMatched : aOKi mX1_areMatched 2 := ⟨koX1_areMatched, aT_of (List.mem_of_getElem? (i := 878) (by decide +kernel)) (by decide +kernel), aT_of (List.mem_of_getElem? (i := 34) (by decide +kernel)) (by decide +kernel)⟩
theorem koX1_turnMatch : aOK mX1_turnMatch 2 := ⟨by decide +kernel, by decide +kernel, by decide +kernel, wi_X1, aT_of (List.mem_of_getElem? (i := 889) (by decide +kernel)) (by decide +kernel)⟩
theorem okX1_turnMatch : aOKi mX1_turnMatch 2 := ⟨koX1_turnMatch, aT_of (List.mem_of_getElem? (i := 888) (by decide +kernel)) (by decide +kernel), aT_of (List.mem_of_getElem? (i := 36) (by decide +kernel)) (by decide +kernel)⟩
theorem koX1_matchesOf : aOK mX1_matchesOf 1 := ⟨by decide +kernel, by decide +kernel, by decide +kernel, wi_X1, aT_of (List.mem_of_getElem? (i := 904) (by decide +kernel)) (by decide +kernel)⟩
theorem okX1_matchesOf : aOKi mX1_matchesOf 1 := ⟨koX1_matchesOf, aT_of (List.mem_of_getElem? (i := 903) (by decide +kernel)) (by decide +kernel), aT_of (List.mem_of_getElem? (i := 38) (by decide +kernel)) (by decide +kernel)⟩
theorem koX1_groupOf : aOK mX1_groupOf 1 := ⟨by decide +kernel, by decide +kernel, by decide +kernel, wi_X1, aT_of (List.mem_of_getElem? (i := 900) (by decide +kernel)) (by decide +kernel)⟩
theorem okX1_groupOf : aOKi mX1_groupOf 1 := ⟨koX1_groupOf, aT_of (List.mem_of_getElem? (i := 899) (by decide +kernel)) (by decide +kernel), aT_of (List.mem_of_getElem? (i := 37) (by decide +kernel)) (by decide +kernel)⟩
theorem koX1_wasPosted : aOK mX1_wasPosted 2 := ⟨by decide +kernel, by decide +kernel, by decide +kernel, wi_X1, aT_of (List.mem_of_getElem? (i := 956) (by decide +kernel)) (by decide +kernel)⟩
theorem okX1_wasPosted : aOKi mX1_wasPosted 2 := ⟨koX1_wasPosted, aT_of (List.mem_of_getElem? (i := 955) (by decide +kernel)) (by decide +kernel), aT_of (List.mem_of_getElem? (i := 44) (by decide +kernel)) (by decide +kernel)⟩
theorem koX1_listDue : aOK mX1_listDue 1 := ⟨by decide +kernel, by decide +kernel, by decide +kernel, wi_X1, aT_of (List.mem_of_getElem? (i := 951) (by decide +kernel)) (by decide +kernel)⟩
theorem okX1_listDue : aOKi mX1_listDue 1 := ⟨koX1_listDue, aT_of (List.mem_of_getElem? (i := 950) (by decide +kernel)) (by decide +kernel), aT_of (List.mem_of_getElem? (i := 43) (by decide +kernel)) (by decide +kernel)⟩
theorem koX1_dueAt : aOK mX1_dueAt 1 := ⟨by decide +kernel, by decide +kernel, by decide +kernel, wi_X1, aT_of (List.mem_of_getElem? (i := 977) (by decide +kernel)) (by decide +kernel)⟩
theorem okX1_dueAt : aOKi mX1_dueAt 1 := ⟨koX1_dueAt, aT_of (List.mem_of_getElem? (i := 976) (by decide +kernel)) (by decide +kernel), aT_of (List.mem_of_getElem? (i := 47) (by decide +kernel)) (by decide +kernel)⟩
theorem koX1_notePosted : aOK mX1_notePosted 2 := ⟨by decide +kernel, by decide +kernel, by decide +kernel, wi_X1, aT_of (List.mem_of_getElem? (i := 1112) (by decide +kernel)) (by decide +kernel)⟩
theorem okX1_notePosted : aOKi mX1_notePosted 2 := ⟨koX1_notePosted, aT_of (List.mem_of_getElem? (i := 1111) (by decide +kernel)) (by decide +kernel), aT_of (List.mem_of_getElem? (i := 69) (by decide +kernel)) (by decide +kernel)⟩
theorem koX2_init : aOK mX2_init 0 := ⟨by decide +kernel, by decide +kernel, by decide +kernel, wi_X2, aT_of (List.mem_of_getElem? (i := 386) (by decide +kernel)) (by decide +kernel)⟩
theorem okX2_init : aOKc mX2_init 0 := ⟨koX2_init, rfl, rfl, aT_of (List.mem_of_getElem? (i := 385) (by decide +kernel)) (by decide +kernel)⟩
theorem koX2_weightOf : aOK mX2_weightOf 2 := ⟨by decide +kernel, by decide +kernel, by decide +kernel, wi_X2, aT_of (List.mem_of_getElem? (i := 917) (by decide +kernel)) (by decide +kernel)⟩
theorem okX2_weightOf : aOKi mX2_weightOf 2 := ⟨koX2_weightOf, aT_of (List.mem_of_getElem? (i := 916) (by decide +kernel)) (by decide +kernel), aT_of (List.mem_of_getElem? (i := 39) (by decide +kernel)) (by decide +kernel)⟩
theorem koX2_costOf : aOK mX2_costOf 2 := ⟨by decide +kernel, by decide +kernel, by decide +kernel, wi_X2, aT_of (List.mem_of_getElem? (i := 921) (by decide +kernel)) (by decide +kernel)⟩
theorem okX2_costOf : aOKi mX2_costOf 2 := ⟨koX2_costOf, aT_of (List.mem_of_getElem? (i := 920) (by decide +kernel)) (by decide +kernel), aT_of (List.mem_of_getElem? (i := 40) (by decide +kernel)) (by decide +kernel)⟩
theorem koX3_init : aOK mX3_init 0 := ⟨by decide +kernel, by decide +kernel, by decide +kernel, wi_X3, aT_of (List.mem_of_getElem? (i := 220) (by decide +kernel)) (by decide +kernel)⟩
theorem okX3_init : aOKc mX3_init 0 := ⟨koX3_init, rfl, rfl, aT_of (List.mem_of_getElem? (i := 219) (by decide +kernel)) (by decide +kernel)⟩
theorem koX9_addAll : aOK mX9_addAll 1 := ⟨by decide +kernel, by decide +kernel, by decide +kernel, wi_X9, aT_of (List.mem_of_getElem? (i := 751) (by decide +kernel)) (by decide +kernel)⟩
theorem okX9_addAll : aOKi mX9_addAll 1 := ⟨koX9_addAll, aT_of (List.mem_of_getElem? (i := 750) (by decide +kernel)) (by decide +kernel), aT_of (List.mem_of_getElem? (i := 20) (by decide +kernel)) (by decide +kernel)⟩
theorem koX3_addMember : aOK mX3_addMember 1 := ⟨by decide +kernel, by decide +kernel, by decide +kernel, wi_X3, aT_of (List.mem_of_getElem? (i := 989) (by decide +kernel)) (by decide +kernel)⟩
theorem okX3_addMember : aOKi mX3_addMember 1 := ⟨koX3_addMember, aT_of (List.mem_of_getElem? (i := 988) (by decide +kernel)) (by decide +kernel), aT_of (List.mem_of_getElem? (i := 50) (by decide +kernel)) (by decide +kernel)⟩
theorem koX9_addNumber : aOK mX9_addNumber 1 := ⟨by decide +kernel, by decide +kernel, by decide +kernel, wi_X9, aT_of (List.mem_of_getElem? (i := 994) (by decide +kernel)) (by decide +kernel)⟩
theorem okX9_addNumber : aOKi mX9_addNumber 1 := ⟨koX9_addNumber, aT_of (List.mem_of_getElem? (i := 993) (by decide +kernel)) (by decide +kernel), aT_of (List.mem_of_getElem? (i := 51) (by decide +kernel)) (by decide +kernel)⟩
theorem koX3_gather : aOK mX3_gather 2 := ⟨by decide +kernel, by decide +kernel, by decide +kernel, wi_X3, aT_of (List.mem_of_getElem? (i := 985) (by decide +kernel)) (by decide +kernel)⟩
theorem okX3_gather : aOKi mX3_gather 2 := ⟨koX3_gather, aT_of (List.mem_of_getElem? (i := 984) (by decide +kernel)) (by decide +kernel), aT_of (List.mem_of_getElem? (i := 49) (by decide +kernel)) (by decide +kernel)⟩
theorem koX4_init : aOK mX4_init 0 := ⟨by decide +kernel, by decide +kernel, by decide +kernel, wi_X4, aT_of (List.mem_of_getElem? (i := 246) (by decide +kernel)) (by decide +kernel)⟩
theorem okX4_init : aOKc mX4_init 0 := ⟨koX4_init, rfl, rfl, aT_of (List.mem_of_getElem? (i := 245) (by decide +kernel)) (by decide +kernel)⟩
theorem koX9_become : aOK mX9_become 1 := ⟨by decide +kernel, by decide +kernel, by decide +kernel, wi_X9, aT_of (List.mem_of_getElem? (i := 747) (by decide +kernel)) (by decide +kernel)⟩
theorem okX9_become : aOKi mX9_become 1 := ⟨koX9_become, aT_of (List.mem_of_getElem? (i := 746) (by decide +kernel)) (by decide +kernel), aT_of (List.mem_of_getElem? (i := 19) (by decide +kernel)) (by decide +kernel)⟩
theorem koX4_become : aOK mX4_become 1 := ⟨by decide +kernel, by decide +kernel, by decide +kernel, wi_X4, aT_of (List.mem_of_getElem? (i := 1107) (by decide +kernel)) (by decide +kernel)⟩
theorem okX4_become : aOKi mX4_become 1 := ⟨koX4_become, aT_of (List.mem_of_getElem? (i := 1106) (by decide +kernel)) (by decide +kernel), aT_of (List.mem_of_getElem? (i := 68) (by decide +kernel)) (by decide +kernel)⟩
theorem koX5_init : aOK mX5_init 0 := ⟨by decide +kernel, by decide +kernel, by decide +kernel, wi_X5, aT_of (List.mem_of_getElem? (i := 376) (by decide +kernel)) (by decide +kernel)⟩
theorem okX5_init : aOKc mX5_init 0 := ⟨koX5_init, rfl, rfl, aT_of (List.mem_of_getElem? (i := 375) (by decide +kernel)) (by decide +kernel)⟩
theorem koX5_readSign : aOK mX5_readSign 3 := ⟨by decide +kernel, by decide +kernel, by decide +kernel, wi_X5, aT_of (List.mem_of_getElem? (i := 834) (by decide +kernel)) (by decide +kernel)⟩
theorem okX5_readSign : aOKi mX5_readSign 3 := ⟨koX5_readSign, aT_of (List.mem_of_getElem? (i := 833) (by decide +kernel)) (by decide +kernel), aT_of (List.mem_of_getElem? (i := 31) (by decide +kernel)) (by decide +kernel)⟩
theorem koX5_distance : aOK mX5_distance 2 := ⟨by decide +kernel, by decide +kernel, by decide +kernel, wi_X5, aT_of (List.mem_of_getElem? (i := 828) (by decide +kernel)) (by decide +kernel)⟩
theorem okX5_distance : aOKi mX5_distance 2 := ⟨koX5_distance, aT_of (List.mem_of_getElem? (i := 827) (by decide +kernel)) (by decide +kernel), aT_of (List.mem_of_getElem? (i := 30) (by decide +kernel)) (by decide +kernel)⟩
theorem koX5_wordLikeness : aOK mX5_wordLikeness 2 := ⟨by decide +kernel, by decide +kernel, by decide +kernel, wi_X5, aT_of (List.mem_of_getElem? (i := 850) (by decide +kernel)) (by decide +kernel)⟩
theorem okX5_wordLikeness : aOKi mX5_wordLikeness 2 := ⟨koX5_wordLikeness, aT_of (List.mem_of_getElem? (i := 849) (by decide +kernel)) (by decide +kernel), aT_of (List.mem_of_getElem? (i := 33) (by decide +kernel)) (by decide +kernel)⟩
theorem koX5_likenessOf : aOK mX5_likenessOf 2 := ⟨by decide +kernel, by decide +kernel, by decide +kernel, wi_X5, aT_of (List.mem_of_getElem? (i := 845) (by decide +kernel)) (by decide +kernel)⟩
theorem okX5_likenessOf : aOKi mX5_likenessOf 2 := ⟨koX5_likenessOf, aT_of (List.mem_of_getElem? (i := 844) (by decide +kernel)) (by decide +kernel), aT_of (List.mem_of_getElem? (i := 32) (by decide +kernel)) (by decide +kernel)⟩
theorem koX6_init : aOK mX6_init 0 := ⟨by decide +kernel, by decide +kernel, by decide +kernel, wi_X6, aT_of (List.mem_of_getElem? (i := 149) (by decide +kernel)) (by decide +kernel)⟩
theorem okX6_init : aOKc mX6_init 0 := ⟨koX6_init, rfl, rfl, aT_of (List.mem_of_getElem? (i := 148) (by decide +kernel)) (by decide +kernel)⟩
theorem koX6_clear : aOK mX6_clear 0 := ⟨by decide +kernel, by decide +kernel, by decide +kernel, wi_X6, aT_of (List.mem_of_getElem? (i := 759) (by decide +kernel)) (by decide +kernel)⟩
theorem okX6_clear : aOKi mX6_clear 0 := ⟨koX6_clear, aT_of (List.mem_of_getElem? (i := 758) (by decide +kernel)) (by decide +kernel), aT_of (List.mem_of_getElem? (i := 21) (by decide +kernel)) (by decide +kernel)⟩
theorem koX6_takeDigit : aOK mX6_takeDigit 1 := ⟨by decide +kernel, by decide +kernel, by decide +kernel, wi_X6, aT_of (List.mem_of_getElem? (i := 715) (by decide +kernel)) (by decide +kernel)⟩
theorem okX6_takeDigit : aOKi mX6_takeDigit 1 := ⟨koX6_takeDigit, aT_of (List.mem_of_getElem? (i := 714) (by decide +kernel)) (by decide +kernel), aT_of (List.mem_of_getElem? (i := 12) (by decide +kernel)) (by decide +kernel)⟩
theorem koJ0_isLatin1_aae02 : aOK mJ0_isLatin1_aae02 0 := ⟨by decide +kernel, by decide +kernel, by decide +kernel, wi_J0, aT_of (List.mem_of_getElem? (i := 637) (by decide +kernel)) (by decide +kernel)⟩
theorem okJ0_isLatin1_aae02 : aOKi mJ0_isLatin1_aae02 0 := ⟨koJ0_isLatin1_aae02, aT_of (List.mem_of_getElem? (i := 635) (by decide +kernel)) (by decide +kernel), aT_of (List.mem_of_getElem? (i := 636) (by decide +kernel)) (by decide +kernel)⟩
theorem koJ0_coder_7d493 : aOK mJ0_coder_7d493 0 := ⟨by decide +kernel, by decide +kernel, by decide +kernel, wi_J0, aT_of (List.mem_of_getElem? (i := 647) (by decide +kernel)) (by decide +kernel)⟩
theorem okJ0_coder_7d493 : aOKi mJ0_coder_7d493 0 := ⟨koJ0_coder_7d493, aT_of (List.mem_of_getElem? (i := 645) (by decide +kernel)) (by decide +kernel), aT_of (List.mem_of_getElem? (i := 646) (by decide +kernel)) (by decide +kernel)⟩
theorem koJ0_length_8abf5 : aOK mJ0_length_8abf5 0 := ⟨by decide +kernel, by decide +kernel, by decide +kernel, wi_J0, aT_of (List.mem_of_getElem? (i := 643) (by decide +kernel)) (by decide +kernel)⟩
theorem okJ0_length_8abf5 : aOKi mJ0_length_8abf5 0 := ⟨koJ0_length_8abf5, aT_of (List.mem_of_getElem? (i := 641) (by decide +kernel)) (by decide +kernel), aT_of (List.mem_of_getElem? (i := 642) (by decide +kernel)) (by decide +kernel)⟩
theorem koJ1_canEncode_9a6ad : aOK mJ1_canEncode_9a6ad 1 := ⟨by decide +kernel, by decide +kernel, by decide +kernel, wi_J1, aT_of (List.mem_of_getElem? (i := 653) (by decide +kernel)) (by decide +kernel)⟩
theorem okJ1_canEncode_9a6ad : aOKs mJ1_canEncode_9a6ad 1 := ⟨koJ1_canEncode_9a6ad, aT_of (List.mem_of_getElem? (i := 652) (by decide +kernel)) (by decide +kernel)⟩
theorem koJ1_indexOfChar_4cfef : aOK mJ1_indexOfChar_4cfef 4 := ⟨by decide +kernel, by decide +kernel, by decide +kernel, wi_J1, aT_of (List.mem_of_getElem? (i := 662) (by decide +kernel)) (by decide +kernel)⟩
theorem okJ1_indexOfChar_4cfef : aOKs mJ1_indexOfChar_4cfef 4 := ⟨koJ1_indexOfChar_4cfef, aT_of (List.mem_of_getElem? (i := 661) (by decide +kernel)) (by decide +kernel)⟩
theorem koJ1_indexOf_4cfef : aOK mJ1_indexOf_4cfef 4 := ⟨by decide +kernel, by decide +kernel, by decide +kernel, wi_J1, aT_of (List.mem_of_getElem? (i := 650) (by decide +kernel)) (by decide +kernel)⟩
theorem okJ1_indexOf_4cfef : aOKs mJ1_indexOf_4cfef 4 := ⟨koJ1_indexOf_4cfef, aT_of (List.mem_of_getElem? (i := 649) (by decide +kernel)) (by decide +kernel)⟩
theorem koJ2_length_9d52b : aOK mJ2_length_9d52b 1 := ⟨by decide +kernel, by decide +kernel, by decide +kernel, wi_J2, aT_of (List.mem_of_getElem? (i := 677) (by decide +kernel)) (by decide +kernel)⟩
theorem okJ2_length_9d52b : aOKs mJ2_length_9d52b 1 := ⟨koJ2_length_9d52b, aT_of (List.mem_of_getElem? (i := 676) (by decide +kernel)) (by decide +kernel)⟩
theorem koJ3_checkFromToIndex_8c36e : aOK mJ3_checkFromToIndex_8c36e 4 := ⟨by decide +kernel, by decide +kernel, by decide +kernel, wi_J3, aT_of (List.mem_of_getElem? (i := 685) (by decide +kernel)) (by decide +kernel)⟩
theorem okJ3_checkFromToIndex_8c36e : aOKs mJ3_checkFromToIndex_8c36e 4 := ⟨koJ3_checkFromToIndex_8c36e, aT_of (List.mem_of_getElem? (i := 684) (by decide +kernel)) (by decide +kernel)⟩
theorem koJ0_checkBoundsBeginEnd_23922 : aOK mJ0_checkBoundsBeginEnd_23922 3 := ⟨by decide +kernel, by decide +kernel, by decide +kernel, wi_J0, aT_of (List.mem_of_getElem? (i := 680) (by decide +kernel)) (by decide +kernel)⟩
theorem okJ0_checkBoundsBeginEnd_23922 : aOKs mJ0_checkBoundsBeginEnd_23922 3 := ⟨koJ0_checkBoundsBeginEnd_23922, aT_of (List.mem_of_getElem? (i := 679) (by decide +kernel)) (by decide +kernel)⟩
theorem koJ2_checkBoundsBeginEnd_d044e : aOK mJ2_checkBoundsBeginEnd_d044e 3 := ⟨by decide +kernel, by decide +kernel, by decide +kernel, wi_J2, aT_of (List.mem_of_getElem? (i := 674) (by decide +kernel)) (by decide +kernel)⟩
theorem okJ2_checkBoundsBeginEnd_d044e : aOKs mJ2_checkBoundsBeginEnd_d044e 3 := ⟨koJ2_checkBoundsBeginEnd_d044e, aT_of (List.mem_of_getElem? (i := 673) (by decide +kernel)) (by decide +kernel)⟩
theorem koJ2_getChar_3b067 : aOK mJ2_getChar_3b067 2 := ⟨by decide +kernel, by decide +kernel, by decide +kernel, wi_J2, aT_of (List.mem_of_getElem? (i := 691) (by decide +kernel)) (by decide +kernel)⟩
theorem okJ2_getChar_3b067 : aOKs mJ2_getChar_3b067 2 := ⟨koJ2_getChar_3b067, aT_of (List.mem_of_getElem? (i := 690) (by decide +kernel)) (by decide +kernel)⟩
theorem koJ2_indexOfCharUnsafe_4cfef : aOK mJ2_indexOfCharUnsafe_4cfef 4 := ⟨by decide +kernel, by decide +kernel, by decide +kernel, wi_J2, aT_of (List.mem_of_getElem? (i := 688) (by decide +kernel)) (by decide +kernel)⟩
theorem okJ2_indexOfCharUnsafe_4cfef : aOKs mJ2_indexOfCharUnsafe_4cfef 4 := ⟨koJ2_indexOfCharUnsafe_4cfef, aT_of (List.mem_of_getElem? (i := 687) (by decide +kernel)) (by decide +kernel)⟩
theorem koJ2_indexOfChar_4cfef : aOK mJ2_indexOfChar_4cfef 4 := ⟨by decide +kernel, by decide +kernel, by decide +kernel, wi_J2, aT_of (List.mem_of_getElem? (i := 671) (by decide +kernel)) (by decide +kernel)⟩
theorem okJ2_indexOfChar_4cfef : aOKs mJ2_indexOfChar_4cfef 4 := ⟨koJ2_indexOfChar_4cfef, aT_of (List.mem_of_getElem? (i := 670) (by decide +kernel)) (by decide +kernel)⟩
theorem koJ11_isValidCodePoint_9a6ad : aOK mJ11_isValidCodePoint_9a6ad 1 := ⟨by decide +kernel, by decide +kernel, by decide +kernel, wi_J11, aT_of (List.mem_of_getElem? (i := 703) (by decide +kernel)) (by decide +kernel)⟩
theorem okJ11_isValidCodePoint_9a6ad : aOKs mJ11_isValidCodePoint_9a6ad 1 := ⟨koJ11_isValidCodePoint_9a6ad, aT_of (List.mem_of_getElem? (i := 702) (by decide +kernel)) (by decide +kernel)⟩
theorem koJ11_highSurrogate_5068e : aOK mJ11_highSurrogate_5068e 1 := ⟨by decide +kernel, by decide +kernel, by decide +kernel, wi_J11, aT_of (List.mem_of_getElem? (i := 706) (by decide +kernel)) (by decide +kernel)⟩
theorem okJ11_highSurrogate_5068e : aOKs mJ11_highSurrogate_5068e 1 := ⟨koJ11_highSurrogate_5068e, aT_of (List.mem_of_getElem? (i := 705) (by decide +kernel)) (by decide +kernel)⟩
theorem koJ11_lowSurrogate_5068e : aOK mJ11_lowSurrogate_5068e 1 := ⟨by decide +kernel, by decide +kernel, by decide +kernel, wi_J11, aT_of (List.mem_of_getElem? (i := 710) (by decide +kernel)) (by decide +kernel)⟩
theorem okJ11_lowSurrogate_5068e : aOKs mJ11_lowSurrogate_5068e 1 := ⟨koJ11_lowSurrogate_5068e, aT_of (List.mem_of_getElem? (i := 709) (by decide +kernel)) (by decide +kernel)⟩
theorem koJ2_indexOfSupplementary_4cfef : aOK mJ2_indexOfSupplementary_4cfef 4 := ⟨by decide +kernel, by decide +kernel, by decide +kernel, wi_J2, aT_of (List.mem_of_getElem? (i := 700) (by decide +kernel)) (by decide +kernel)⟩
theorem okJ2_indexOfSupplementary_4cfef : aOKs mJ2_indexOfSupplementary_4cfef 4 := ⟨koJ2_indexOfSupplementary_4cfef, aT_of (List.mem_of_getElem? (i := 699) (by decide +kernel)) (by decide +kernel)⟩
theorem koJ2_indexOf_4cfef : aOK mJ2_indexOf_4cfef 4 := ⟨by decide +kernel, by decide +kernel, by decide +kernel, wi_J2, aT_of (List.mem_of_getElem? (i := 665) (by decide +kernel)) (by decide +kernel)⟩
theorem okJ2_indexOf_4cfef : aOKs mJ2_indexOf_4cfef 4 := ⟨koJ2_indexOf_4cfef, aT_of (List.mem_of_getElem? (i := 664) (by decide +kernel)) (by decide +kernel)⟩
theorem koJ0_indexOf_7cf53 : aOK mJ0_indexOf_7cf53 2 := ⟨by decide +kernel, by decide +kernel, by decide +kernel, wi_J0, aT_of (List.mem_of_getElem? (i := 633) (by decide +kernel)) (by decide +kernel)⟩
theorem okJ0_indexOf_7cf53 : aOKi mJ0_indexOf_7cf53 2 := ⟨koJ0_indexOf_7cf53, aT_of (List.mem_of_getElem? (i := 631) (by decide +kernel)) (by decide +kernel), aT_of (List.mem_of_getElem? (i := 632) (by decide +kernel)) (by decide +kernel)⟩
theorem koJ0_indexOf_0f7a4 : aOK mJ0_indexOf_0f7a4 1 := ⟨by decide +kernel, by decide +kernel, by decide +kernel, wi_J0, aT_of (List.mem_of_getElem? (i := 629) (by decide +kernel)) (by decide +kernel)⟩
theorem okJ0_indexOf_0f7a4 : aOKi mJ0_indexOf_0f7a4 1 := ⟨koJ0_indexOf_0f7a4, aT_of (List.mem_of_getElem? (i := 627) (by decide +kernel)) (by decide +kernel), aT_of (List.mem_of_getElem? (i := 628) (by decide +kernel)) (by decide +kernel)⟩
theorem koX6_takeField : aOK mX6_takeField 0 := ⟨by decide +kernel, by decide +kernel, by decide +kernel, wi_X6, aT_of (List.mem_of_getElem? (i := 624) (by decide +kernel)) (by decide +kernel)⟩
theorem okX6_takeField : aOKi mX6_takeField 0 := ⟨koX6_takeField, aT_of (List.mem_of_getElem? (i := 623) (by decide +kernel)) (by decide +kernel), aT_of (List.mem_of_getElem? (i := 11) (by decide +kernel)) (by decide +kernel)⟩
theorem koX6_takeRelation : aOK mX6_takeRelation 0 := ⟨by decide +kernel, by decide +kernel, by decide +kernel, wi_X6, aT_of (List.mem_of_getElem? (i := 726) (by decide +kernel)) (by decide +kernel)⟩
theorem okX6_takeRelation : aOKi mX6_takeRelation 0 := ⟨koX6_takeRelation, aT_of (List.mem_of_getElem? (i := 725) (by decide +kernel)) (by decide +kernel), aT_of (List.mem_of_getElem? (i := 14) (by decide +kernel)) (by decide +kernel)⟩
theorem koX10_init : aOK mX10_init 0 := ⟨by decide +kernel, by decide +kernel, by decide +kernel, wi_X10, aT_of (List.mem_of_getElem? (i := 193) (by decide +kernel)) (by decide +kernel)⟩
theorem okX10_init : aOKc mX10_init 0 := ⟨koX10_init, rfl, rfl, aT_of (List.mem_of_getElem? (i := 192) (by decide +kernel)) (by decide +kernel)⟩
theorem koX7_init : aOK mX7_init 0 := ⟨by decide +kernel, by decide +kernel, by decide +kernel, wi_X7, aT_of (List.mem_of_getElem? (i := 186) (by decide +kernel)) (by decide +kernel)⟩
theorem okX7_init : aOKc mX7_init 0 := ⟨koX7_init, rfl, rfl, aT_of (List.mem_of_getElem? (i := 185) (by decide +kernel)) (by decide +kernel)⟩
theorem koX10_openChoice : aOK mX10_openChoice 1 := ⟨by decide +kernel, by decide +kernel, by decide +kernel, wi_X10, aT_of (List.mem_of_getElem? (i := 722) (by decide +kernel)) (by decide +kernel)⟩
theorem okX10_openChoice : aOKi mX10_openChoice 1 := ⟨koX10_openChoice, aT_of (List.mem_of_getElem? (i := 721) (by decide +kernel)) (by decide +kernel), aT_of (List.mem_of_getElem? (i := 13) (by decide +kernel)) (by decide +kernel)⟩
theorem koX10_jumpFromMark : aOK mX10_jumpFromMark 2 := ⟨by decide +kernel, by decide +kernel, by decide +kernel, wi_X10, aT_of (List.mem_of_getElem? (i := 738) (by decide +kernel)) (by decide +kernel)⟩
theorem okX10_jumpFromMark : aOKi mX10_jumpFromMark 2 := ⟨koX10_jumpFromMark, aT_of (List.mem_of_getElem? (i := 737) (by decide +kernel)) (by decide +kernel), aT_of (List.mem_of_getElem? (i := 17) (by decide +kernel)) (by decide +kernel)⟩
theorem koX10_turnChoice : aOK mX10_turnChoice 1 := ⟨by decide +kernel, by decide +kernel, by decide +kernel, wi_X10, aT_of (List.mem_of_getElem? (i := 734) (by decide +kernel)) (by decide +kernel)⟩
theorem okX10_turnChoice : aOKi mX10_turnChoice 1 := ⟨koX10_turnChoice, aT_of (List.mem_of_getElem? (i := 733) (by decide +kernel)) (by decide +kernel), aT_of (List.mem_of_getElem? (i := 16) (by decide +kernel)) (by decide +kernel)⟩
theorem koX10_closeChoice : aOK mX10_closeChoice 1 := ⟨by decide +kernel, by decide +kernel, by decide +kernel, wi_X10, aT_of (List.mem_of_getElem? (i := 743) (by decide +kernel)) (by decide +kernel)⟩
theorem okX10_closeChoice : aOKi mX10_closeChoice 1 := ⟨koX10_closeChoice, aT_of (List.mem_of_getElem? (i := 742) (by decide +kernel)) (by decide +kernel), aT_of (List.mem_of_getElem? (i := 18) (by decide +kernel)) (by decide +kernel)⟩
theorem koX10_readPart : aOK mX10_readPart 1 := ⟨by decide +kernel, by decide +kernel, by decide +kernel, wi_X10, aT_of (List.mem_of_getElem? (i := 602) (by decide +kernel)) (by decide +kernel)⟩
theorem okX10_readPart : aOKi mX10_readPart 1 := ⟨koX10_readPart, aT_of (List.mem_of_getElem? (i := 601) (by decide +kernel)) (by decide +kernel), aT_of (List.mem_of_getElem? (i := 6) (by decide +kernel)) (by decide +kernel)⟩
theorem koX10_read : aOK mX10_read 1 := ⟨by decide +kernel, by decide +kernel, by decide +kernel, wi_X10, aT_of (List.mem_of_getElem? (i := 594) (by decide +kernel)) (by decide +kernel)⟩
theorem okX10_read : aOKi mX10_read 1 := ⟨koX10_read, aT_of (List.mem_of_getElem? (i := 593) (by decide +kernel)) (by decide +kernel), aT_of (List.mem_of_getElem? (i := 4) (by decide +kernel)) (by decide +kernel)⟩
theorem koX7_readTemplate : aOK mX7_readTemplate 2 := ⟨by decide +kernel, by decide +kernel, by decide +kernel, wi_X7, aT_of (List.mem_of_getElem? (i := 590) (by decide +kernel)) (by decide +kernel)⟩
theorem okX7_readTemplate : aOKi mX7_readTemplate 2 := ⟨koX7_readTemplate, aT_of (List.mem_of_getElem? (i := 589) (by decide +kernel)) (by decide +kernel), aT_of (List.mem_of_getElem? (i := 3) (by decide +kernel)) (by decide +kernel)⟩
theorem koX7_templateAt : aOK mX7_templateAt 1 := ⟨by decide +kernel, by decide +kernel, by decide +kernel, wi_X7, aT_of (List.mem_of_getElem? (i := 1091) (by decide +kernel)) (by decide +kernel)⟩
theorem okX7_templateAt : aOKi mX7_templateAt 1 := ⟨koX7_templateAt, aT_of (List.mem_of_getElem? (i := 1090) (by decide +kernel)) (by decide +kernel), aT_of (List.mem_of_getElem? (i := 66) (by decide +kernel)) (by decide +kernel)⟩
theorem koX7_placeAt : aOK mX7_placeAt 1 := ⟨by decide +kernel, by decide +kernel, by decide +kernel, wi_X7, aT_of (List.mem_of_getElem? (i := 1087) (by decide +kernel)) (by decide +kernel)⟩
theorem okX7_placeAt : aOKi mX7_placeAt 1 := ⟨koX7_placeAt, aT_of (List.mem_of_getElem? (i := 1086) (by decide +kernel)) (by decide +kernel), aT_of (List.mem_of_getElem? (i := 65) (by decide +kernel)) (by decide +kernel)⟩
theorem koX7_isTold : aOK mX7_isTold 1 := ⟨by decide +kernel, by decide +kernel, by decide +kernel, wi_X7, aT_of (List.mem_of_getElem? (i := 1002) (by decide +kernel)) (by decide +kernel)⟩
theorem okX7_isTold : aOKi mX7_isTold 1 := ⟨koX7_isTold, aT_of (List.mem_of_getElem? (i := 1001) (by decide +kernel)) (by decide +kernel), aT_of (List.mem_of_getElem? (i := 53) (by decide +kernel)) (by decide +kernel)⟩
theorem koX7_open : aOK mX7_open 1 := ⟨by decide +kernel, by decide +kernel, by decide +kernel, wi_X7, aT_of (List.mem_of_getElem? (i := 1010) (by decide +kernel)) (by decide +kernel)⟩
theorem okX7_open : aOKi mX7_open 1 := ⟨koX7_open, aT_of (List.mem_of_getElem? (i := 1009) (by decide +kernel)) (by decide +kernel), aT_of (List.mem_of_getElem? (i := 55) (by decide +kernel)) (by decide +kernel)⟩
theorem koX7_blameWhole : aOK mX7_blameWhole 2 := ⟨by decide +kernel, by decide +kernel, by decide +kernel, wi_X7, aT_of (List.mem_of_getElem? (i := 1006) (by decide +kernel)) (by decide +kernel)⟩
theorem okX7_blameWhole : aOKi mX7_blameWhole 2 := ⟨koX7_blameWhole, aT_of (List.mem_of_getElem? (i := 1005) (by decide +kernel)) (by decide +kernel), aT_of (List.mem_of_getElem? (i := 54) (by decide +kernel)) (by decide +kernel)⟩
theorem koX7_silentBit : aOK mX7_silentBit 2 := ⟨by decide +kernel, by decide +kernel, by decide +kernel, wi_X7, aT_of (List.mem_of_getElem? (i := 1023) (by decide +kernel)) (by decide +kernel)⟩
theorem okX7_silentBit : aOKs mX7_silentBit 2 := ⟨koX7_silentBit, aT_of (List.mem_of_getElem? (i := 1022) (by decide +kernel)) (by decide +kernel)⟩
theorem koX7_close : aOK mX7_close 1 := ⟨by decide +kernel, by decide +kernel, by decide +kernel, wi_X7, aT_of (List.mem_of_getElem? (i := 1020) (by decide +kernel)) (by decide +kernel)⟩
theorem okX7_close : aOKi mX7_close 1 := ⟨koX7_close, aT_of (List.mem_of_getElem? (i := 1019) (by decide +kernel)) (by decide +kernel), aT_of (List.mem_of_getElem? (i := 57) (by decide +kernel)) (by decide +kernel)⟩
theorem koX7_enter : aOK mX7_enter 2 := ⟨by decide +kernel, by decide +kernel, by decide +kernel, wi_X7, aT_of (List.mem_of_getElem? (i := 1027) (by decide +kernel)) (by decide +kernel)⟩
theorem okX7_enter : aOKi mX7_enter 2 := ⟨koX7_enter, aT_of (List.mem_of_getElem? (i := 1026) (by decide +kernel)) (by decide +kernel), aT_of (List.mem_of_getElem? (i := 58) (by decide +kernel)) (by decide +kernel)⟩
theorem koX9_room : aOK mX9_room 0 := ⟨by decide +kernel, by decide +kernel, by decide +kernel, wi_X9, aT_of (List.mem_of_getElem? (i := 1037) (by decide +kernel)) (by decide +kernel)⟩
theorem okX9_room : aOKi mX9_room 0 := ⟨koX9_room, aT_of (List.mem_of_getElem? (i := 1036) (by decide +kernel)) (by decide +kernel), aT_of (List.mem_of_getElem? (i := 60) (by decide +kernel)) (by decide +kernel)⟩
theorem koX7_writeField : aOK mX7_writeField 2 := ⟨by decide +kernel, by decide +kernel, by decide +kernel, wi_X7, aT_of (List.mem_of_getElem? (i := 1031) (by decide +kernel)) (by decide +kernel)⟩
theorem okX7_writeField : aOKi mX7_writeField 2 := ⟨koX7_writeField, aT_of (List.mem_of_getElem? (i := 1030) (by decide +kernel)) (by decide +kernel), aT_of (List.mem_of_getElem? (i := 59) (by decide +kernel)) (by decide +kernel)⟩
theorem koX7_holds : aOK mX7_holds 3 := ⟨by decide +kernel, by decide +kernel, by decide +kernel, wi_X7, aT_of (List.mem_of_getElem? (i := 1046) (by decide +kernel)) (by decide +kernel)⟩
theorem okX7_holds : aOKs mX7_holds 3 := ⟨koX7_holds, aT_of (List.mem_of_getElem? (i := 1045) (by decide +kernel)) (by decide +kernel)⟩
theorem koX10_jumpAt : aOK mX10_jumpAt 1 := ⟨by decide +kernel, by decide +kernel, by decide +kernel, wi_X10, aT_of (List.mem_of_getElem? (i := 1050) (by decide +kernel)) (by decide +kernel)⟩
theorem okX10_jumpAt : aOKi mX10_jumpAt 1 := ⟨koX10_jumpAt, aT_of (List.mem_of_getElem? (i := 1049) (by decide +kernel)) (by decide +kernel), aT_of (List.mem_of_getElem? (i := 62) (by decide +kernel)) (by decide +kernel)⟩
theorem koX7_choose : aOK mX7_choose 2 := ⟨by decide +kernel, by decide +kernel, by decide +kernel, wi_X7, aT_of (List.mem_of_getElem? (i := 1042) (by decide +kernel)) (by decide +kernel)⟩
theorem okX7_choose : aOKi mX7_choose 2 := ⟨koX7_choose, aT_of (List.mem_of_getElem? (i := 1041) (by decide +kernel)) (by decide +kernel), aT_of (List.mem_of_getElem? (i := 61) (by decide +kernel)) (by decide +kernel)⟩
theorem koX7_writeSign : aOK mX7_writeSign 2 := ⟨by decide +kernel, by decide +kernel, by decide +kernel, wi_X7, aT_of (List.mem_of_getElem? (i := 1054) (by decide +kernel)) (by decide +kernel)⟩
theorem okX7_writeSign : aOKi mX7_writeSign 2 := ⟨koX7_writeSign, aT_of (List.mem_of_getElem? (i := 1053) (by decide +kernel)) (by decide +kernel), aT_of (List.mem_of_getElem? (i := 63) (by decide +kernel)) (by decide +kernel)⟩
theorem koX7_writePart : aOK mX7_writePart 1 := ⟨by decide +kernel, by decide +kernel, by decide +kernel, wi_X7, aT_of (List.mem_of_getElem? (i := 1015) (by decide +kernel)) (by decide +kernel)⟩
theorem okX7_writePart : aOKi mX7_writePart 1 := ⟨koX7_writePart, aT_of (List.mem_of_getElem? (i := 1014) (by decide +kernel)) (by decide +kernel), aT_of (List.mem_of_getElem? (i := 56) (by decide +kernel)) (by decide +kernel)⟩
theorem koX7_write : aOK mX7_write 1 := ⟨by decide +kernel, by decide +kernel, by decide +kernel, wi_X7, aT_of (List.mem_of_getElem? (i := 998) (by decide +kernel)) (by decide +kernel)⟩
theorem okX7_write : aOKi mX7_write 1 := ⟨koX7_write, aT_of (List.mem_of_getElem? (i := 997) (by decide +kernel)) (by decide +kernel), aT_of (List.mem_of_getElem? (i := 52) (by decide +kernel)) (by decide +kernel)⟩
theorem koX8_init : aOK mX8_init 0 := ⟨by decide +kernel, by decide +kernel, by decide +kernel, wi_X8, aT_of (List.mem_of_getElem? (i := 402) (by decide +kernel)) (by decide +kernel)⟩
theorem okX8_init : aOKc mX8_init 0 := ⟨koX8_init, rfl, rfl, aT_of (List.mem_of_getElem? (i := 401) (by decide +kernel)) (by decide +kernel)⟩
theorem koX8_keep : aOK mX8_keep 1 := ⟨by decide +kernel, by decide +kernel, by decide +kernel, wi_X8, aT_of (List.mem_of_getElem? (i := 1103) (by decide +kernel)) (by decide +kernel)⟩
theorem okX8_keep : aOKi mX8_keep 1 := ⟨koX8_keep, aT_of (List.mem_of_getElem? (i := 1102) (by decide +kernel)) (by decide +kernel), aT_of (List.mem_of_getElem? (i := 67) (by decide +kernel)) (by decide +kernel)⟩
theorem koX9_unlikeSigns : aOK mX9_unlikeSigns 1 := ⟨by decide +kernel, by decide +kernel, by decide +kernel, wi_X9, aT_of (List.mem_of_getElem? (i := 1074) (by decide +kernel)) (by decide +kernel)⟩
theorem okX9_unlikeSigns : aOKi mX9_unlikeSigns 1 := ⟨koX9_unlikeSigns, aT_of (List.mem_of_getElem? (i := 1073) (by decide +kernel)) (by decide +kernel), aT_of (List.mem_of_getElem? (i := 64) (by decide +kernel)) (by decide +kernel)⟩
theorem koX11_init : aOK mX11_init 0 := ⟨by decide +kernel, by decide +kernel, by decide +kernel, wi_X11, aT_of (List.mem_of_getElem? (i := 141) (by decide +kernel)) (by decide +kernel)⟩
theorem okX11_init : aOKc mX11_init 0 := ⟨koX11_init, rfl, rfl, aT_of (List.mem_of_getElem? (i := 140) (by decide +kernel)) (by decide +kernel)⟩
theorem koX11_signOf : aOK mX11_signOf 2 := ⟨by decide +kernel, by decide +kernel, by decide +kernel, wi_X11, aT_of (List.mem_of_getElem? (i := 472) (by decide +kernel)) (by decide +kernel)⟩
theorem okX11_signOf : aOKs mX11_signOf 2 := ⟨koX11_signOf, aT_of (List.mem_of_getElem? (i := 471) (by decide +kernel)) (by decide +kernel)⟩
theorem koX11_countSigns : aOK mX11_countSigns 1 := ⟨by decide +kernel, by decide +kernel, by decide +kernel, wi_X11, aT_of (List.mem_of_getElem? (i := 469) (by decide +kernel)) (by decide +kernel)⟩
theorem okX11_countSigns : aOKs mX11_countSigns 1 := ⟨koX11_countSigns, aT_of (List.mem_of_getElem? (i := 468) (by decide +kernel)) (by decide +kernel)⟩
theorem koX11_type : aOK mX11_type 1 := ⟨by decide +kernel, by decide +kernel, by decide +kernel, wi_X11, aT_of (List.mem_of_getElem? (i := 466) (by decide +kernel)) (by decide +kernel)⟩
theorem okX11_type : aOKi mX11_type 1 := ⟨koX11_type, aT_of (List.mem_of_getElem? (i := 464) (by decide +kernel)) (by decide +kernel), aT_of (List.mem_of_getElem? (i := 465) (by decide +kernel)) (by decide +kernel)⟩
theorem koX11_checkTemplate : aOK mX11_checkTemplate 1 := ⟨by decide +kernel, by decide +kernel, by decide +kernel, wi_X11, aT_of (List.mem_of_getElem? (i := 570) (by decide +kernel)) (by decide +kernel)⟩
theorem okX11_checkTemplate : aOKi mX11_checkTemplate 1 := ⟨koX11_checkTemplate, aT_of (List.mem_of_getElem? (i := 569) (by decide +kernel)) (by decide +kernel), aT_of (List.mem_of_getElem? (i := 2) (by decide +kernel)) (by decide +kernel)⟩
theorem koX11_template : aOK mX11_template 1 := ⟨by decide +kernel, by decide +kernel, by decide +kernel, wi_X11, aT_of (List.mem_of_getElem? (i := 566) (by decide +kernel)) (by decide +kernel)⟩
theorem okX11_template : aOKi mX11_template 1 := ⟨koX11_template, aT_of (List.mem_of_getElem? (i := 564) (by decide +kernel)) (by decide +kernel), aT_of (List.mem_of_getElem? (i := 565) (by decide +kernel)) (by decide +kernel)⟩
theorem koX11_address : aOK mX11_address 1 := ⟨by decide +kernel, by decide +kernel, by decide +kernel, wi_X11, aT_of (List.mem_of_getElem? (i := 766) (by decide +kernel)) (by decide +kernel)⟩
theorem okX11_address : aOKi mX11_address 1 := ⟨koX11_address, aT_of (List.mem_of_getElem? (i := 764) (by decide +kernel)) (by decide +kernel), aT_of (List.mem_of_getElem? (i := 765) (by decide +kernel)) (by decide +kernel)⟩
theorem koX11_addresses : aOK mX11_addresses 0 := ⟨by decide +kernel, by decide +kernel, by decide +kernel, wi_X11, aT_of (List.mem_of_getElem? (i := 453) (by decide +kernel)) (by decide +kernel)⟩
theorem okX11_addresses : aOKi mX11_addresses 0 := ⟨koX11_addresses, aT_of (List.mem_of_getElem? (i := 451) (by decide +kernel)) (by decide +kernel), aT_of (List.mem_of_getElem? (i := 452) (by decide +kernel)) (by decide +kernel)⟩
theorem koX11_checkAddress : aOK mX11_checkAddress 1 := ⟨by decide +kernel, by decide +kernel, by decide +kernel, wi_X11, aT_of (List.mem_of_getElem? (i := 811) (by decide +kernel)) (by decide +kernel)⟩
theorem okX11_checkAddress : aOKi mX11_checkAddress 1 := ⟨koX11_checkAddress, aT_of (List.mem_of_getElem? (i := 810) (by decide +kernel)) (by decide +kernel), aT_of (List.mem_of_getElem? (i := 28) (by decide +kernel)) (by decide +kernel)⟩
theorem koX11_cleaned : aOK mX11_cleaned 3 := ⟨by decide +kernel, by decide +kernel, by decide +kernel, wi_X11, aT_of (List.mem_of_getElem? (i := 807) (by decide +kernel)) (by decide +kernel)⟩
theorem okX11_cleaned : aOKi mX11_cleaned 3 := ⟨koX11_cleaned, aT_of (List.mem_of_getElem? (i := 805) (by decide +kernel)) (by decide +kernel), aT_of (List.mem_of_getElem? (i := 806) (by decide +kernel)) (by decide +kernel)⟩
theorem koX11_apart : aOK mX11_apart 3 := ⟨by decide +kernel, by decide +kernel, by decide +kernel, wi_X11, aT_of (List.mem_of_getElem? (i := 824) (by decide +kernel)) (by decide +kernel)⟩
theorem okX11_apart : aOKi mX11_apart 3 := ⟨koX11_apart, aT_of (List.mem_of_getElem? (i := 822) (by decide +kernel)) (by decide +kernel), aT_of (List.mem_of_getElem? (i := 823) (by decide +kernel)) (by decide +kernel)⟩
theorem koX11_bitsOf : aOK mX11_bitsOf 1 := ⟨by decide +kernel, by decide +kernel, by decide +kernel, wi_X11, aT_of (List.mem_of_getElem? (i := 858) (by decide +kernel)) (by decide +kernel)⟩
theorem okX11_bitsOf : aOKs mX11_bitsOf 1 := ⟨koX11_bitsOf, aT_of (List.mem_of_getElem? (i := 857) (by decide +kernel)) (by decide +kernel)⟩
theorem koX11_likeness : aOK mX11_likeness 2 := ⟨by decide +kernel, by decide +kernel, by decide +kernel, wi_X11, aT_of (List.mem_of_getElem? (i := 841) (by decide +kernel)) (by decide +kernel)⟩
theorem okX11_likeness : aOKi mX11_likeness 2 := ⟨koX11_likeness, aT_of (List.mem_of_getElem? (i := 839) (by decide +kernel)) (by decide +kernel), aT_of (List.mem_of_getElem? (i := 840) (by decide +kernel)) (by decide +kernel)⟩
theorem koX11_pairs : aOK mX11_pairs 1 := ⟨by decide +kernel, by decide +kernel, by decide +kernel, wi_X11, aT_of (List.mem_of_getElem? (i := 866) (by decide +kernel)) (by decide +kernel)⟩
theorem okX11_pairs : aOKi mX11_pairs 1 := ⟨koX11_pairs, aT_of (List.mem_of_getElem? (i := 864) (by decide +kernel)) (by decide +kernel), aT_of (List.mem_of_getElem? (i := 865) (by decide +kernel)) (by decide +kernel)⟩
theorem koX11_canBeMatched : aOK mX11_canBeMatched 2 := ⟨by decide +kernel, by decide +kernel, by decide +kernel, wi_X11, aT_of (List.mem_of_getElem? (i := 883) (by decide +kernel)) (by decide +kernel)⟩
theorem okX11_canBeMatched : aOKi mX11_canBeMatched 2 := ⟨koX11_canBeMatched, aT_of (List.mem_of_getElem? (i := 882) (by decide +kernel)) (by decide +kernel), aT_of (List.mem_of_getElem? (i := 35) (by decide +kernel)) (by decide +kernel)⟩
theorem koX11_match : aOK mX11_match 2 := ⟨by decide +kernel, by decide +kernel, by decide +kernel, wi_X11, aT_of (List.mem_of_getElem? (i := 875) (by decide +kernel)) (by decide +kernel)⟩
theorem okX11_match : aOKi mX11_match 2 := ⟨koX11_match, aT_of (List.mem_of_getElem? (i := 873) (by decide +kernel)) (by decide +kernel), aT_of (List.mem_of_getElem? (i := 874) (by decide +kernel)) (by decide +kernel)⟩
theorem koX11_group : aOK mX11_group 1 := ⟨by decide +kernel, by decide +kernel, by decide +kernel, wi_X11, aT_of (List.mem_of_getElem? (i := 896) (by decide +kernel)) (by decide +kernel)⟩
theorem okX11_group : aOKi mX11_group 1 := ⟨koX11_group, aT_of (List.mem_of_getElem? (i := 894) (by decide +kernel)) (by decide +kernel), aT_of (List.mem_of_getElem? (i := 895) (by decide +kernel)) (by decide +kernel)⟩
theorem koX11_franking : aOK mX11_franking 2 := ⟨by decide +kernel, by decide +kernel, by decide +kernel, wi_X11, aT_of (List.mem_of_getElem? (i := 911) (by decide +kernel)) (by decide +kernel)⟩
theorem okX11_franking : aOKi mX11_franking 2 := ⟨koX11_franking, aT_of (List.mem_of_getElem? (i := 909) (by decide +kernel)) (by decide +kernel), aT_of (List.mem_of_getElem? (i := 910) (by decide +kernel)) (by decide +kernel)⟩
theorem koX11_run : aOK mX11_run 2 := ⟨by decide +kernel, by decide +kernel, by decide +kernel, wi_X11, aT_of (List.mem_of_getElem? (i := 929) (by decide +kernel)) (by decide +kernel)⟩
theorem okX11_run : aOKi mX11_run 2 := ⟨koX11_run, aT_of (List.mem_of_getElem? (i := 927) (by decide +kernel)) (by decide +kernel), aT_of (List.mem_of_getElem? (i := 928) (by decide +kernel)) (by decide +kernel)⟩
theorem koX11_checkRun : aOK mX11_checkRun 1 := ⟨by decide +kernel, by decide +kernel, by decide +kernel, wi_X11, aT_of (List.mem_of_getElem? (i := 942) (by decide +kernel)) (by decide +kernel)⟩
theorem okX11_checkRun : aOKi mX11_checkRun 1 := ⟨koX11_checkRun, aT_of (List.mem_of_getElem? (i := 941) (by decide +kernel)) (by decide +kernel), aT_of (List.mem_of_getElem? (i := 41) (by decide +kernel)) (by decide +kernel)⟩
theorem koX11_countLetters : aOK mX11_countLetters 1 := ⟨by decide +kernel, by decide +kernel, by decide +kernel, wi_X11, aT_of (List.mem_of_getElem? (i := 947) (by decide +kernel)) (by decide +kernel)⟩
theorem okX11_countLetters : aOKi mX11_countLetters 1 := ⟨koX11_countLetters, aT_of (List.mem_of_getElem? (i := 946) (by decide +kernel)) (by decide +kernel), aT_of (List.mem_of_getElem? (i := 42) (by decide +kernel)) (by decide +kernel)⟩
theorem koX11_letters : aOK mX11_letters 1 := ⟨by decide +kernel, by decide +kernel, by decide +kernel, wi_X11, aT_of (List.mem_of_getElem? (i := 938) (by decide +kernel)) (by decide +kernel)⟩
theorem okX11_letters : aOKi mX11_letters 1 := ⟨koX11_letters, aT_of (List.mem_of_getElem? (i := 936) (by decide +kernel)) (by decide +kernel), aT_of (List.mem_of_getElem? (i := 937) (by decide +kernel)) (by decide +kernel)⟩
theorem koX11_checkLetter : aOK mX11_checkLetter 2 := ⟨by decide +kernel, by decide +kernel, by decide +kernel, wi_X11, aT_of (List.mem_of_getElem? (i := 967) (by decide +kernel)) (by decide +kernel)⟩
theorem okX11_checkLetter : aOKi mX11_checkLetter 2 := ⟨koX11_checkLetter, aT_of (List.mem_of_getElem? (i := 966) (by decide +kernel)) (by decide +kernel), aT_of (List.mem_of_getElem? (i := 45) (by decide +kernel)) (by decide +kernel)⟩
theorem koX11_compose : aOK mX11_compose 2 := ⟨by decide +kernel, by decide +kernel, by decide +kernel, wi_X11, aT_of (List.mem_of_getElem? (i := 981) (by decide +kernel)) (by decide +kernel)⟩
theorem okX11_compose : aOKi mX11_compose 2 := ⟨koX11_compose, aT_of (List.mem_of_getElem? (i := 980) (by decide +kernel)) (by decide +kernel), aT_of (List.mem_of_getElem? (i := 48) (by decide +kernel)) (by decide +kernel)⟩
theorem koX11_findLetter : aOK mX11_findLetter 2 := ⟨by decide +kernel, by decide +kernel, by decide +kernel, wi_X11, aT_of (List.mem_of_getElem? (i := 973) (by decide +kernel)) (by decide +kernel)⟩
theorem okX11_findLetter : aOKi mX11_findLetter 2 := ⟨koX11_findLetter, aT_of (List.mem_of_getElem? (i := 972) (by decide +kernel)) (by decide +kernel), aT_of (List.mem_of_getElem? (i := 46) (by decide +kernel)) (by decide +kernel)⟩
theorem koX11_letter : aOK mX11_letter 3 := ⟨by decide +kernel, by decide +kernel, by decide +kernel, wi_X11, aT_of (List.mem_of_getElem? (i := 963) (by decide +kernel)) (by decide +kernel)⟩
theorem okX11_letter : aOKi mX11_letter 3 := ⟨koX11_letter, aT_of (List.mem_of_getElem? (i := 961) (by decide +kernel)) (by decide +kernel), aT_of (List.mem_of_getElem? (i := 962) (by decide +kernel)) (by decide +kernel)⟩
theorem koX11_sign : aOK mX11_sign 3 := ⟨by decide +kernel, by decide +kernel, by decide +kernel, wi_X11, aT_of (List.mem_of_getElem? (i := 1063) (by decide +kernel)) (by decide +kernel)⟩
theorem okX11_sign : aOKi mX11_sign 3 := ⟨koX11_sign, aT_of (List.mem_of_getElem? (i := 1061) (by decide +kernel)) (by decide +kernel), aT_of (List.mem_of_getElem? (i := 1062) (by decide +kernel)) (by decide +kernel)⟩
theorem koX11_anew : aOK mX11_anew 2 := ⟨by decide +kernel, by decide +kernel, by decide +kernel, wi_X11, aT_of (List.mem_of_getElem? (i := 1070) (by decide +kernel)) (by decide +kernel)⟩
theorem okX11_anew : aOKi mX11_anew 2 := ⟨koX11_anew, aT_of (List.mem_of_getElem? (i := 1068) (by decide +kernel)) (by decide +kernel), aT_of (List.mem_of_getElem? (i := 1069) (by decide +kernel)) (by decide +kernel)⟩
theorem koX11_trouble : aOK mX11_trouble 4 := ⟨by decide +kernel, by decide +kernel, by decide +kernel, wi_X11, aT_of (List.mem_of_getElem? (i := 1082) (by decide +kernel)) (by decide +kernel)⟩
theorem okX11_trouble : aOKi mX11_trouble 4 := ⟨koX11_trouble, aT_of (List.mem_of_getElem? (i := 1080) (by decide +kernel)) (by decide +kernel), aT_of (List.mem_of_getElem? (i := 1081) (by decide +kernel)) (by decide +kernel)⟩
theorem koX11_pay : aOK mX11_pay 1 := ⟨by decide +kernel, by decide +kernel, by decide +kernel, wi_X11, aT_of (List.mem_of_getElem? (i := 1116) (by decide +kernel)) (by decide +kernel)⟩
theorem okX11_pay : aOKi mX11_pay 1 := ⟨koX11_pay, aT_of (List.mem_of_getElem? (i := 1115) (by decide +kernel)) (by decide +kernel), aT_of (List.mem_of_getElem? (i := 70) (by decide +kernel)) (by decide +kernel)⟩
theorem koX11_post : aOK mX11_post 1 := ⟨by decide +kernel, by decide +kernel, by decide +kernel, wi_X11, aT_of (List.mem_of_getElem? (i := 1098) (by decide +kernel)) (by decide +kernel)⟩
theorem okX11_post : aOKi mX11_post 1 := ⟨koX11_post, aT_of (List.mem_of_getElem? (i := 1096) (by decide +kernel)) (by decide +kernel), aT_of (List.mem_of_getElem? (i := 1097) (by decide +kernel)) (by decide +kernel)⟩
theorem koX11_spent : aOK mX11_spent 0 := ⟨by decide +kernel, by decide +kernel, by decide +kernel, wi_X11, aT_of (List.mem_of_getElem? (i := 457) (by decide +kernel)) (by decide +kernel)⟩
theorem okX11_spent : aOKi mX11_spent 0 := ⟨koX11_spent, aT_of (List.mem_of_getElem? (i := 455) (by decide +kernel)) (by decide +kernel), aT_of (List.mem_of_getElem? (i := 456) (by decide +kernel)) (by decide +kernel)⟩
theorem koX11_reasons : aOK mX11_reasons 1 := ⟨by decide +kernel, by decide +kernel, by decide +kernel, wi_X11, aT_of (List.mem_of_getElem? (i := 1124) (by decide +kernel)) (by decide +kernel)⟩
theorem okX11_reasons : aOKi mX11_reasons 1 := ⟨koX11_reasons, aT_of (List.mem_of_getElem? (i := 1122) (by decide +kernel)) (by decide +kernel), aT_of (List.mem_of_getElem? (i := 1123) (by decide +kernel)) (by decide +kernel)⟩
theorem koX12_init : aOK mX12_init 0 := ⟨by decide +kernel, by decide +kernel, by decide +kernel, wi_X12, aT_of (List.mem_of_getElem? (i := 1129) (by decide +kernel)) (by decide +kernel)⟩
theorem okX12_init : aOKc mX12_init 0 := ⟨koX12_init, rfl, rfl, aT_of (List.mem_of_getElem? (i := 1128) (by decide +kernel)) (by decide +kernel)⟩
theorem koX12_thrown : aOK mX12_thrown 0 := ⟨by decide +kernel, by decide +kernel, by decide +kernel, wi_X12, aT_of (List.mem_of_getElem? (i := 1274) (by decide +kernel)) (by decide +kernel)⟩
theorem okX12_thrown : aOKi mX12_thrown 0 := ⟨koX12_thrown, aT_of (List.mem_of_getElem? (i := 1272) (by decide +kernel)) (by decide +kernel), aT_of (List.mem_of_getElem? (i := 1273) (by decide +kernel)) (by decide +kernel)⟩
theorem koX12_fails : aOK mX12_fails 1 := ⟨by decide +kernel, by decide +kernel, by decide +kernel, wi_X12, aT_of (List.mem_of_getElem? (i := 1283) (by decide +kernel)) (by decide +kernel)⟩
theorem okX12_fails : aOKi mX12_fails 1 := ⟨koX12_fails, aT_of (List.mem_of_getElem? (i := 1282) (by decide +kernel)) (by decide +kernel), aT_of (List.mem_of_getElem? (i := 71) (by decide +kernel)) (by decide +kernel)⟩
theorem koX12_type : aOK mX12_type 1 := ⟨by decide +kernel, by decide +kernel, by decide +kernel, wi_X12, aT_of (List.mem_of_getElem? (i := 1278) (by decide +kernel)) (by decide +kernel)⟩
theorem okX12_type : aOKi mX12_type 1 := ⟨koX12_type, aT_of (List.mem_of_getElem? (i := 1276) (by decide +kernel)) (by decide +kernel), aT_of (List.mem_of_getElem? (i := 1277) (by decide +kernel)) (by decide +kernel)⟩
theorem koX12_signAt : aOK mX12_signAt 1 := ⟨by decide +kernel, by decide +kernel, by decide +kernel, wi_X12, aT_of (List.mem_of_getElem? (i := 1295) (by decide +kernel)) (by decide +kernel)⟩
theorem okX12_signAt : aOKi mX12_signAt 1 := ⟨koX12_signAt, aT_of (List.mem_of_getElem? (i := 1294) (by decide +kernel)) (by decide +kernel), aT_of (List.mem_of_getElem? (i := 73) (by decide +kernel)) (by decide +kernel)⟩
theorem koX12_isDigit : aOK mX12_isDigit 1 := ⟨by decide +kernel, by decide +kernel, by decide +kernel, wi_X12, aT_of (List.mem_of_getElem? (i := 1305) (by decide +kernel)) (by decide +kernel)⟩
theorem okX12_isDigit : aOKs mX12_isDigit 1 := ⟨koX12_isDigit, aT_of (List.mem_of_getElem? (i := 1304) (by decide +kernel)) (by decide +kernel)⟩
theorem koX12_isField : aOK mX12_isField 1 := ⟨by decide +kernel, by decide +kernel, by decide +kernel, wi_X12, aT_of (List.mem_of_getElem? (i := 1298) (by decide +kernel)) (by decide +kernel)⟩
theorem okX12_isField : aOKs mX12_isField 1 := ⟨koX12_isField, aT_of (List.mem_of_getElem? (i := 1297) (by decide +kernel)) (by decide +kernel)⟩
theorem koX12_headEnd : aOK mX12_headEnd 1 := ⟨by decide +kernel, by decide +kernel, by decide +kernel, wi_X12, aT_of (List.mem_of_getElem? (i := 1302) (by decide +kernel)) (by decide +kernel)⟩
theorem okX12_headEnd : aOKi mX12_headEnd 1 := ⟨koX12_headEnd, aT_of (List.mem_of_getElem? (i := 1301) (by decide +kernel)) (by decide +kernel), aT_of (List.mem_of_getElem? (i := 74) (by decide +kernel)) (by decide +kernel)⟩
theorem koX12_wrongInTemplate : aOK mX12_wrongInTemplate 0 := ⟨by decide +kernel, by decide +kernel, by decide +kernel, wi_X12, aT_of (List.mem_of_getElem? (i := 1291) (by decide +kernel)) (by decide +kernel)⟩
theorem okX12_wrongInTemplate : aOKi mX12_wrongInTemplate 0 := ⟨koX12_wrongInTemplate, aT_of (List.mem_of_getElem? (i := 1290) (by decide +kernel)) (by decide +kernel), aT_of (List.mem_of_getElem? (i := 72) (by decide +kernel)) (by decide +kernel)⟩
theorem koX12_template : aOK mX12_template 1 := ⟨by decide +kernel, by decide +kernel, by decide +kernel, wi_X12, aT_of (List.mem_of_getElem? (i := 1287) (by decide +kernel)) (by decide +kernel)⟩
theorem okX12_template : aOKi mX12_template 1 := ⟨koX12_template, aT_of (List.mem_of_getElem? (i := 1285) (by decide +kernel)) (by decide +kernel), aT_of (List.mem_of_getElem? (i := 1286) (by decide +kernel)) (by decide +kernel)⟩
theorem koX12_wordEnd : aOK mX12_wordEnd 1 := ⟨by decide +kernel, by decide +kernel, by decide +kernel, wi_X12, aT_of (List.mem_of_getElem? (i := 1321) (by decide +kernel)) (by decide +kernel)⟩
theorem okX12_wordEnd : aOKi mX12_wordEnd 1 := ⟨koX12_wordEnd, aT_of (List.mem_of_getElem? (i := 1320) (by decide +kernel)) (by decide +kernel), aT_of (List.mem_of_getElem? (i := 77) (by decide +kernel)) (by decide +kernel)⟩
theorem koX12_digitsEnd : aOK mX12_digitsEnd 2 := ⟨by decide +kernel, by decide +kernel, by decide +kernel, wi_X12, aT_of (List.mem_of_getElem? (i := 1325) (by decide +kernel)) (by decide +kernel)⟩
theorem okX12_digitsEnd : aOKi mX12_digitsEnd 2 := ⟨koX12_digitsEnd, aT_of (List.mem_of_getElem? (i := 1324) (by decide +kernel)) (by decide +kernel), aT_of (List.mem_of_getElem? (i := 78) (by decide +kernel)) (by decide +kernel)⟩
theorem koX12_number : aOK mX12_number 2 := ⟨by decide +kernel, by decide +kernel, by decide +kernel, wi_X12, aT_of (List.mem_of_getElem? (i := 1336) (by decide +kernel)) (by decide +kernel)⟩
theorem okX12_number : aOKi mX12_number 2 := ⟨koX12_number, aT_of (List.mem_of_getElem? (i := 1335) (by decide +kernel)) (by decide +kernel), aT_of (List.mem_of_getElem? (i := 80) (by decide +kernel)) (by decide +kernel)⟩
theorem koX12_clean : aOK mX12_clean 1 := ⟨by decide +kernel, by decide +kernel, by decide +kernel, wi_X12, aT_of (List.mem_of_getElem? (i := 1332) (by decide +kernel)) (by decide +kernel)⟩
theorem okX12_clean : aOKs mX12_clean 1 := ⟨koX12_clean, aT_of (List.mem_of_getElem? (i := 1331) (by decide +kernel)) (by decide +kernel)⟩
theorem koX12_lay : aOK mX12_lay 5 := ⟨by decide +kernel, by decide +kernel, by decide +kernel, wi_X12, aT_of (List.mem_of_getElem? (i := 1329) (by decide +kernel)) (by decide +kernel)⟩
theorem okX12_lay : aOKi mX12_lay 5 := ⟨koX12_lay, aT_of (List.mem_of_getElem? (i := 1328) (by decide +kernel)) (by decide +kernel), aT_of (List.mem_of_getElem? (i := 79) (by decide +kernel)) (by decide +kernel)⟩
theorem koX12_readAddress : aOK mX12_readAddress 1 := ⟨by decide +kernel, by decide +kernel, by decide +kernel, wi_X12, aT_of (List.mem_of_getElem? (i := 1317) (by decide +kernel)) (by decide +kernel)⟩
theorem okX12_readAddress : aOKi mX12_readAddress 1 := ⟨koX12_readAddress, aT_of (List.mem_of_getElem? (i := 1316) (by decide +kernel)) (by decide +kernel), aT_of (List.mem_of_getElem? (i := 76) (by decide +kernel)) (by decide +kernel)⟩
theorem koX12_isMatched : aOK mX12_isMatched 1 := ⟨by decide +kernel, by decide +kernel, by decide +kernel, wi_X12, aT_of (List.mem_of_getElem? (i := 1313) (by decide +kernel)) (by decide +kernel)⟩
theorem okX12_isMatched : aOKi mX12_isMatched 1 := ⟨koX12_isMatched, aT_of (List.mem_of_getElem? (i := 1312) (by decide +kernel)) (by decide +kernel), aT_of (List.mem_of_getElem? (i := 75) (by decide +kernel)) (by decide +kernel)⟩
theorem koX12_address : aOK mX12_address 1 := ⟨by decide +kernel, by decide +kernel, by decide +kernel, wi_X12, aT_of (List.mem_of_getElem? (i := 1309) (by decide +kernel)) (by decide +kernel)⟩
theorem okX12_address : aOKi mX12_address 1 := ⟨koX12_address, aT_of (List.mem_of_getElem? (i := 1307) (by decide +kernel)) (by decide +kernel), aT_of (List.mem_of_getElem? (i := 1308) (by decide +kernel)) (by decide +kernel)⟩
theorem koX12_addresses : aOK mX12_addresses 0 := ⟨by decide +kernel, by decide +kernel, by decide +kernel, wi_X12, aT_of (List.mem_of_getElem? (i := 1340) (by decide +kernel)) (by decide +kernel)⟩
theorem okX12_addresses : aOKi mX12_addresses 0 := ⟨koX12_addresses, aT_of (List.mem_of_getElem? (i := 1338) (by decide +kernel)) (by decide +kernel), aT_of (List.mem_of_getElem? (i := 1339) (by decide +kernel)) (by decide +kernel)⟩
theorem koX12_isOne : aOK mX12_isOne 1 := ⟨by decide +kernel, by decide +kernel, by decide +kernel, wi_X12, aT_of (List.mem_of_getElem? (i := 1348) (by decide +kernel)) (by decide +kernel)⟩
theorem okX12_isOne : aOKi mX12_isOne 1 := ⟨koX12_isOne, aT_of (List.mem_of_getElem? (i := 1347) (by decide +kernel)) (by decide +kernel), aT_of (List.mem_of_getElem? (i := 81) (by decide +kernel)) (by decide +kernel)⟩
theorem koX12_cleaned : aOK mX12_cleaned 3 := ⟨by decide +kernel, by decide +kernel, by decide +kernel, wi_X12, aT_of (List.mem_of_getElem? (i := 1344) (by decide +kernel)) (by decide +kernel)⟩
theorem okX12_cleaned : aOKi mX12_cleaned 3 := ⟨koX12_cleaned, aT_of (List.mem_of_getElem? (i := 1342) (by decide +kernel)) (by decide +kernel), aT_of (List.mem_of_getElem? (i := 1343) (by decide +kernel)) (by decide +kernel)⟩
theorem koX12_changes : aOK mX12_changes 5 := ⟨by decide +kernel, by decide +kernel, by decide +kernel, wi_X12, aT_of (List.mem_of_getElem? (i := 1360) (by decide +kernel)) (by decide +kernel)⟩
theorem okX12_changes : aOKi mX12_changes 5 := ⟨koX12_changes, aT_of (List.mem_of_getElem? (i := 1359) (by decide +kernel)) (by decide +kernel), aT_of (List.mem_of_getElem? (i := 83) (by decide +kernel)) (by decide +kernel)⟩
theorem koX12_apartOf : aOK mX12_apartOf 3 := ⟨by decide +kernel, by decide +kernel, by decide +kernel, wi_X12, aT_of (List.mem_of_getElem? (i := 1356) (by decide +kernel)) (by decide +kernel)⟩
theorem okX12_apartOf : aOKi mX12_apartOf 3 := ⟨koX12_apartOf, aT_of (List.mem_of_getElem? (i := 1355) (by decide +kernel)) (by decide +kernel), aT_of (List.mem_of_getElem? (i := 82) (by decide +kernel)) (by decide +kernel)⟩
theorem koX12_apart : aOK mX12_apart 3 := ⟨by decide +kernel, by decide +kernel, by decide +kernel, wi_X12, aT_of (List.mem_of_getElem? (i := 1352) (by decide +kernel)) (by decide +kernel)⟩
theorem okX12_apart : aOKi mX12_apart 3 := ⟨koX12_apart, aT_of (List.mem_of_getElem? (i := 1350) (by decide +kernel)) (by decide +kernel), aT_of (List.mem_of_getElem? (i := 1351) (by decide +kernel)) (by decide +kernel)⟩
theorem koX12_alike : aOK mX12_alike 3 := ⟨by decide +kernel, by decide +kernel, by decide +kernel, wi_X12, aT_of (List.mem_of_getElem? (i := 1373) (by decide +kernel)) (by decide +kernel)⟩
theorem okX12_alike : aOKi mX12_alike 3 := ⟨koX12_alike, aT_of (List.mem_of_getElem? (i := 1372) (by decide +kernel)) (by decide +kernel), aT_of (List.mem_of_getElem? (i := 85) (by decide +kernel)) (by decide +kernel)⟩
theorem koX12_likenessOf : aOK mX12_likenessOf 2 := ⟨by decide +kernel, by decide +kernel, by decide +kernel, wi_X12, aT_of (List.mem_of_getElem? (i := 1368) (by decide +kernel)) (by decide +kernel)⟩
theorem okX12_likenessOf : aOKi mX12_likenessOf 2 := ⟨koX12_likenessOf, aT_of (List.mem_of_getElem? (i := 1367) (by decide +kernel)) (by decide +kernel), aT_of (List.mem_of_getElem? (i := 84) (by decide +kernel)) (by decide +kernel)⟩
theorem koJxf58ca_isNaN_12338 : aOK mJxf58ca_isNaN_12338 1 := ⟨by decide +kernel, by decide +kernel, by decide +kernel, wi_Jxf58ca, aT_of (List.mem_of_getElem? (i := 1382) (by decide +kernel)) (by decide +kernel)⟩
theorem okJxf58ca_isNaN_12338 : aOKs mJxf58ca_isNaN_12338 1 := ⟨koJxf58ca_isNaN_12338, aT_of (List.mem_of_getElem? (i := 1381) (by decide +kernel)) (by decide +kernel)⟩
theorem koJxf58ca_floatToIntBits_5c35a : aOK mJxf58ca_floatToIntBits_5c35a 1 := ⟨by decide +kernel, by decide +kernel, by decide +kernel, wi_Jxf58ca, aT_of (List.mem_of_getElem? (i := 1379) (by decide +kernel)) (by decide +kernel)⟩
theorem okJxf58ca_floatToIntBits_5c35a : aOKs mJxf58ca_floatToIntBits_5c35a 1 := ⟨koJxf58ca_floatToIntBits_5c35a, aT_of (List.mem_of_getElem? (i := 1378) (by decide +kernel)) (by decide +kernel)⟩
theorem koX12_likeness : aOK mX12_likeness 2 := ⟨by decide +kernel, by decide +kernel, by decide +kernel, wi_X12, aT_of (List.mem_of_getElem? (i := 1364) (by decide +kernel)) (by decide +kernel)⟩
theorem okX12_likeness : aOKi mX12_likeness 2 := ⟨koX12_likeness, aT_of (List.mem_of_getElem? (i := 1362) (by decide +kernel)) (by decide +kernel), aT_of (List.mem_of_getElem? (i := 1363) (by decide +kernel)) (by decide +kernel)⟩
theorem koX12_pairs : aOK mX12_pairs 1 := ⟨by decide +kernel, by decide +kernel, by decide +kernel, wi_X12, aT_of (List.mem_of_getElem? (i := 1390) (by decide +kernel)) (by decide +kernel)⟩
theorem okX12_pairs : aOKi mX12_pairs 1 := ⟨koX12_pairs, aT_of (List.mem_of_getElem? (i := 1388) (by decide +kernel)) (by decide +kernel), aT_of (List.mem_of_getElem? (i := 1389) (by decide +kernel)) (by decide +kernel)⟩
theorem koX12_canMatch : aOK mX12_canMatch 2 := ⟨by decide +kernel, by decide +kernel, by decide +kernel, wi_X12, aT_of (List.mem_of_getElem? (i := 1399) (by decide +kernel)) (by decide +kernel)⟩
theorem okX12_canMatch : aOKi mX12_canMatch 2 := ⟨koX12_canMatch, aT_of (List.mem_of_getElem? (i := 1398) (by decide +kernel)) (by decide +kernel), aT_of (List.mem_of_getElem? (i := 86) (by decide +kernel)) (by decide +kernel)⟩
theorem koX12_match : aOK mX12_match 2 := ⟨by decide +kernel, by decide +kernel, by decide +kernel, wi_X12, aT_of (List.mem_of_getElem? (i := 1395) (by decide +kernel)) (by decide +kernel)⟩
theorem okX12_match : aOKi mX12_match 2 := ⟨koX12_match, aT_of (List.mem_of_getElem? (i := 1393) (by decide +kernel)) (by decide +kernel), aT_of (List.mem_of_getElem? (i := 1394) (by decide +kernel)) (by decide +kernel)⟩
theorem koX12_groupOf : aOK mX12_groupOf 1 := ⟨by decide +kernel, by decide +kernel, by decide +kernel, wi_X12, aT_of (List.mem_of_getElem? (i := 1408) (by decide +kernel)) (by decide +kernel)⟩
theorem okX12_groupOf : aOKi mX12_groupOf 1 := ⟨koX12_groupOf, aT_of (List.mem_of_getElem? (i := 1407) (by decide +kernel)) (by decide +kernel), aT_of (List.mem_of_getElem? (i := 87) (by decide +kernel)) (by decide +kernel)⟩
theorem koX12_group : aOK mX12_group 1 := ⟨by decide +kernel, by decide +kernel, by decide +kernel, wi_X12, aT_of (List.mem_of_getElem? (i := 1404) (by decide +kernel)) (by decide +kernel)⟩
theorem okX12_group : aOKi mX12_group 1 := ⟨koX12_group, aT_of (List.mem_of_getElem? (i := 1402) (by decide +kernel)) (by decide +kernel), aT_of (List.mem_of_getElem? (i := 1403) (by decide +kernel)) (by decide +kernel)⟩
theorem koX12_lowest : aOK mX12_lowest 1 := ⟨by decide +kernel, by decide +kernel, by decide +kernel, wi_X12, aT_of (List.mem_of_getElem? (i := 1441) (by decide +kernel)) (by decide +kernel)⟩
theorem okX12_lowest : aOKs mX12_lowest 1 := ⟨koX12_lowest, aT_of (List.mem_of_getElem? (i := 1440) (by decide +kernel)) (by decide +kernel)⟩
theorem koX12_many : aOK mX12_many 1 := ⟨by decide +kernel, by decide +kernel, by decide +kernel, wi_X12, aT_of (List.mem_of_getElem? (i := 1496) (by decide +kernel)) (by decide +kernel)⟩
theorem okX12_many : aOKs mX12_many 1 := ⟨koX12_many, aT_of (List.mem_of_getElem? (i := 1495) (by decide +kernel)) (by decide +kernel)⟩
theorem koX12_giveRow : aOK mX12_giveRow 3 := ⟨by decide +kernel, by decide +kernel, by decide +kernel, wi_X12, aT_of (List.mem_of_getElem? (i := 1489) (by decide +kernel)) (by decide +kernel)⟩
theorem okX12_giveRow : aOKi mX12_giveRow 3 := ⟨koX12_giveRow, aT_of (List.mem_of_getElem? (i := 1488) (by decide +kernel)) (by decide +kernel), aT_of (List.mem_of_getElem? (i := 102) (by decide +kernel)) (by decide +kernel)⟩
theorem koX12_giveNumber : aOK mX12_giveNumber 1 := ⟨by decide +kernel, by decide +kernel, by decide +kernel, wi_X12, aT_of (List.mem_of_getElem? (i := 1500) (by decide +kernel)) (by decide +kernel)⟩
theorem okX12_giveNumber : aOKi mX12_giveNumber 1 := ⟨koX12_giveNumber, aT_of (List.mem_of_getElem? (i := 1499) (by decide +kernel)) (by decide +kernel), aT_of (List.mem_of_getElem? (i := 104) (by decide +kernel)) (by decide +kernel)⟩
theorem koX12_pointsOf : aOK mX12_pointsOf 1 := ⟨by decide +kernel, by decide +kernel, by decide +kernel, wi_X12, aT_of (List.mem_of_getElem? (i := 1493) (by decide +kernel)) (by decide +kernel)⟩
theorem okX12_pointsOf : aOKi mX12_pointsOf 1 := ⟨koX12_pointsOf, aT_of (List.mem_of_getElem? (i := 1492) (by decide +kernel)) (by decide +kernel), aT_of (List.mem_of_getElem? (i := 103) (by decide +kernel)) (by decide +kernel)⟩
theorem koX12_give : aOK mX12_give 2 := ⟨by decide +kernel, by decide +kernel, by decide +kernel, wi_X12, aT_of (List.mem_of_getElem? (i := 1485) (by decide +kernel)) (by decide +kernel)⟩
theorem okX12_give : aOKi mX12_give 2 := ⟨koX12_give, aT_of (List.mem_of_getElem? (i := 1484) (by decide +kernel)) (by decide +kernel), aT_of (List.mem_of_getElem? (i := 101) (by decide +kernel)) (by decide +kernel)⟩
theorem koX12_inTrouble : aOK mX12_inTrouble 4 := ⟨by decide +kernel, by decide +kernel, by decide +kernel, wi_X12, aT_of (List.mem_of_getElem? (i := 1465) (by decide +kernel)) (by decide +kernel)⟩
theorem okX12_inTrouble : aOKi mX12_inTrouble 4 := ⟨koX12_inTrouble, aT_of (List.mem_of_getElem? (i := 1464) (by decide +kernel)) (by decide +kernel), aT_of (List.mem_of_getElem? (i := 96) (by decide +kernel)) (by decide +kernel)⟩
theorem koX12_add : aOK mX12_add 3 := ⟨by decide +kernel, by decide +kernel, by decide +kernel, wi_X12, aT_of (List.mem_of_getElem? (i := 1512) (by decide +kernel)) (by decide +kernel)⟩
theorem okX12_add : aOKi mX12_add 3 := ⟨koX12_add, aT_of (List.mem_of_getElem? (i := 1511) (by decide +kernel)) (by decide +kernel), aT_of (List.mem_of_getElem? (i := 107) (by decide +kernel)) (by decide +kernel)⟩
theorem koX12_begin : aOK mX12_begin 2 := ⟨by decide +kernel, by decide +kernel, by decide +kernel, wi_X12, aT_of (List.mem_of_getElem? (i := 1473) (by decide +kernel)) (by decide +kernel)⟩
theorem okX12_begin : aOKi mX12_begin 2 := ⟨koX12_begin, aT_of (List.mem_of_getElem? (i := 1472) (by decide +kernel)) (by decide +kernel), aT_of (List.mem_of_getElem? (i := 98) (by decide +kernel)) (by decide +kernel)⟩
theorem koX12_open : aOK mX12_open 3 := ⟨by decide +kernel, by decide +kernel, by decide +kernel, wi_X12, aT_of (List.mem_of_getElem? (i := 1481) (by decide +kernel)) (by decide +kernel)⟩
theorem okX12_open : aOKi mX12_open 3 := ⟨koX12_open, aT_of (List.mem_of_getElem? (i := 1480) (by decide +kernel)) (by decide +kernel), aT_of (List.mem_of_getElem? (i := 100) (by decide +kernel)) (by decide +kernel)⟩
theorem koX12_goDown : aOK mX12_goDown 4 := ⟨by decide +kernel, by decide +kernel, by decide +kernel, wi_X12, aT_of (List.mem_of_getElem? (i := 1504) (by decide +kernel)) (by decide +kernel)⟩
theorem okX12_goDown : aOKi mX12_goDown 4 := ⟨koX12_goDown, aT_of (List.mem_of_getElem? (i := 1503) (by decide +kernel)) (by decide +kernel), aT_of (List.mem_of_getElem? (i := 105) (by decide +kernel)) (by decide +kernel)⟩
theorem koX12_giveSign : aOK mX12_giveSign 4 := ⟨by decide +kernel, by decide +kernel, by decide +kernel, wi_X12, aT_of (List.mem_of_getElem? (i := 1508) (by decide +kernel)) (by decide +kernel)⟩
theorem okX12_giveSign : aOKi mX12_giveSign 4 := ⟨koX12_giveSign, aT_of (List.mem_of_getElem? (i := 1507) (by decide +kernel)) (by decide +kernel), aT_of (List.mem_of_getElem? (i := 106) (by decide +kernel)) (by decide +kernel)⟩
theorem koX12_goOn : aOK mX12_goOn 3 := ⟨by decide +kernel, by decide +kernel, by decide +kernel, wi_X12, aT_of (List.mem_of_getElem? (i := 1477) (by decide +kernel)) (by decide +kernel)⟩
theorem okX12_goOn : aOKi mX12_goOn 3 := ⟨koX12_goOn, aT_of (List.mem_of_getElem? (i := 1476) (by decide +kernel)) (by decide +kernel), aT_of (List.mem_of_getElem? (i := 99) (by decide +kernel)) (by decide +kernel)⟩
theorem koX12_make : aOK mX12_make 2 := ⟨by decide +kernel, by decide +kernel, by decide +kernel, wi_X12, aT_of (List.mem_of_getElem? (i := 1469) (by decide +kernel)) (by decide +kernel)⟩
theorem okX12_make : aOKi mX12_make 2 := ⟨koX12_make, aT_of (List.mem_of_getElem? (i := 1468) (by decide +kernel)) (by decide +kernel), aT_of (List.mem_of_getElem? (i := 97) (by decide +kernel)) (by decide +kernel)⟩
theorem koX12_weightOf : aOK mX12_weightOf 2 := ⟨by decide +kernel, by decide +kernel, by decide +kernel, wi_X12, aT_of (List.mem_of_getElem? (i := 1515) (by decide +kernel)) (by decide +kernel)⟩
theorem okX12_weightOf : aOKs mX12_weightOf 2 := ⟨koX12_weightOf, aT_of (List.mem_of_getElem? (i := 1514) (by decide +kernel)) (by decide +kernel)⟩
theorem koX12_franked : aOK mX12_franked 2 := ⟨by decide +kernel, by decide +kernel, by decide +kernel, wi_X12, aT_of (List.mem_of_getElem? (i := 1417) (by decide +kernel)) (by decide +kernel)⟩
theorem okX12_franked : aOKi mX12_franked 2 := ⟨koX12_franked, aT_of (List.mem_of_getElem? (i := 1416) (by decide +kernel)) (by decide +kernel), aT_of (List.mem_of_getElem? (i := 88) (by decide +kernel)) (by decide +kernel)⟩
theorem koX12_letterOf : aOK mX12_letterOf 2 := ⟨by decide +kernel, by decide +kernel, by decide +kernel, wi_X12, aT_of (List.mem_of_getElem? (i := 1461) (by decide +kernel)) (by decide +kernel)⟩
theorem okX12_letterOf : aOKi mX12_letterOf 2 := ⟨koX12_letterOf, aT_of (List.mem_of_getElem? (i := 1460) (by decide +kernel)) (by decide +kernel), aT_of (List.mem_of_getElem? (i := 95) (by decide +kernel)) (by decide +kernel)⟩
theorem koX12_franking : aOK mX12_franking 2 := ⟨by decide +kernel, by decide +kernel, by decide +kernel, wi_X12, aT_of (List.mem_of_getElem? (i := 1412) (by decide +kernel)) (by decide +kernel)⟩
theorem okX12_franking : aOKi mX12_franking 2 := ⟨koX12_franking, aT_of (List.mem_of_getElem? (i := 1410) (by decide +kernel)) (by decide +kernel), aT_of (List.mem_of_getElem? (i := 1411) (by decide +kernel)) (by decide +kernel)⟩
theorem koX12_run : aOK mX12_run 2 := ⟨by decide +kernel, by decide +kernel, by decide +kernel, wi_X12, aT_of (List.mem_of_getElem? (i := 1422) (by decide +kernel)) (by decide +kernel)⟩
theorem okX12_run : aOKi mX12_run 2 := ⟨koX12_run, aT_of (List.mem_of_getElem? (i := 1420) (by decide +kernel)) (by decide +kernel), aT_of (List.mem_of_getElem? (i := 1421) (by decide +kernel)) (by decide +kernel)⟩
theorem koX12_openMembers : aOK mX12_openMembers 2 := ⟨by decide +kernel, by decide +kernel, by decide +kernel, wi_X12, aT_of (List.mem_of_getElem? (i := 1438) (by decide +kernel)) (by decide +kernel)⟩
theorem okX12_openMembers : aOKi mX12_openMembers 2 := ⟨koX12_openMembers, aT_of (List.mem_of_getElem? (i := 1437) (by decide +kernel)) (by decide +kernel), aT_of (List.mem_of_getElem? (i := 91) (by decide +kernel)) (by decide +kernel)⟩
theorem koX12_isRun : aOK mX12_isRun 1 := ⟨by decide +kernel, by decide +kernel, by decide +kernel, wi_X12, aT_of (List.mem_of_getElem? (i := 1430) (by decide +kernel)) (by decide +kernel)⟩
theorem okX12_isRun : aOKi mX12_isRun 1 := ⟨koX12_isRun, aT_of (List.mem_of_getElem? (i := 1429) (by decide +kernel)) (by decide +kernel), aT_of (List.mem_of_getElem? (i := 89) (by decide +kernel)) (by decide +kernel)⟩
theorem koX12_lettersOf : aOK mX12_lettersOf 1 := ⟨by decide +kernel, by decide +kernel, by decide +kernel, wi_X12, aT_of (List.mem_of_getElem? (i := 1434) (by decide +kernel)) (by decide +kernel)⟩
theorem okX12_lettersOf : aOKi mX12_lettersOf 1 := ⟨koX12_lettersOf, aT_of (List.mem_of_getElem? (i := 1433) (by decide +kernel)) (by decide +kernel), aT_of (List.mem_of_getElem? (i := 90) (by decide +kernel)) (by decide +kernel)⟩
theorem koX12_letters : aOK mX12_letters 1 := ⟨by decide +kernel, by decide +kernel, by decide +kernel, wi_X12, aT_of (List.mem_of_getElem? (i := 1426) (by decide +kernel)) (by decide +kernel)⟩
theorem okX12_letters : aOKi mX12_letters 1 := ⟨koX12_letters, aT_of (List.mem_of_getElem? (i := 1424) (by decide +kernel)) (by decide +kernel), aT_of (List.mem_of_getElem? (i := 1425) (by decide +kernel)) (by decide +kernel)⟩
theorem koX12_isLetter : aOK mX12_isLetter 2 := ⟨by decide +kernel, by decide +kernel, by decide +kernel, wi_X12, aT_of (List.mem_of_getElem? (i := 1449) (by decide +kernel)) (by decide +kernel)⟩
theorem okX12_isLetter : aOKi mX12_isLetter 2 := ⟨koX12_isLetter, aT_of (List.mem_of_getElem? (i := 1448) (by decide +kernel)) (by decide +kernel), aT_of (List.mem_of_getElem? (i := 92) (by decide +kernel)) (by decide +kernel)⟩
theorem koX12_membersOf : aOK mX12_membersOf 2 := ⟨by decide +kernel, by decide +kernel, by decide +kernel, wi_X12, aT_of (List.mem_of_getElem? (i := 1453) (by decide +kernel)) (by decide +kernel)⟩
theorem okX12_membersOf : aOKi mX12_membersOf 2 := ⟨koX12_membersOf, aT_of (List.mem_of_getElem? (i := 1452) (by decide +kernel)) (by decide +kernel), aT_of (List.mem_of_getElem? (i := 93) (by decide +kernel)) (by decide +kernel)⟩
theorem koX12_layLetter : aOK mX12_layLetter 2 := ⟨by decide +kernel, by decide +kernel, by decide +kernel, wi_X12, aT_of (List.mem_of_getElem? (i := 1457) (by decide +kernel)) (by decide +kernel)⟩
theorem okX12_layLetter : aOKi mX12_layLetter 2 := ⟨koX12_layLetter, aT_of (List.mem_of_getElem? (i := 1456) (by decide +kernel)) (by decide +kernel), aT_of (List.mem_of_getElem? (i := 94) (by decide +kernel)) (by decide +kernel)⟩
theorem koX12_letter : aOK mX12_letter 3 := ⟨by decide +kernel, by decide +kernel, by decide +kernel, wi_X12, aT_of (List.mem_of_getElem? (i := 1445) (by decide +kernel)) (by decide +kernel)⟩
theorem okX12_letter : aOKi mX12_letter 3 := ⟨koX12_letter, aT_of (List.mem_of_getElem? (i := 1443) (by decide +kernel)) (by decide +kernel), aT_of (List.mem_of_getElem? (i := 1444) (by decide +kernel)) (by decide +kernel)⟩
theorem koX12_sign : aOK mX12_sign 3 := ⟨by decide +kernel, by decide +kernel, by decide +kernel, wi_X12, aT_of (List.mem_of_getElem? (i := 1519) (by decide +kernel)) (by decide +kernel)⟩
theorem okX12_sign : aOKi mX12_sign 3 := ⟨koX12_sign, aT_of (List.mem_of_getElem? (i := 1517) (by decide +kernel)) (by decide +kernel), aT_of (List.mem_of_getElem? (i := 1518) (by decide +kernel)) (by decide +kernel)⟩
theorem koX12_anew : aOK mX12_anew 2 := ⟨by decide +kernel, by decide +kernel, by decide +kernel, wi_X12, aT_of (List.mem_of_getElem? (i := 1523) (by decide +kernel)) (by decide +kernel)⟩
theorem okX12_anew : aOKi mX12_anew 2 := ⟨koX12_anew, aT_of (List.mem_of_getElem? (i := 1521) (by decide +kernel)) (by decide +kernel), aT_of (List.mem_of_getElem? (i := 1522) (by decide +kernel)) (by decide +kernel)⟩
theorem koX12_trouble : aOK mX12_trouble 4 := ⟨by decide +kernel, by decide +kernel, by decide +kernel, wi_X12, aT_of (List.mem_of_getElem? (i := 1527) (by decide +kernel)) (by decide +kernel)⟩
theorem okX12_trouble : aOKi mX12_trouble 4 := ⟨koX12_trouble, aT_of (List.mem_of_getElem? (i := 1525) (by decide +kernel)) (by decide +kernel), aT_of (List.mem_of_getElem? (i := 1526) (by decide +kernel)) (by decide +kernel)⟩
theorem koX12_keep : aOK mX12_keep 2 := ⟨by decide +kernel, by decide +kernel, by decide +kernel, wi_X12, aT_of (List.mem_of_getElem? (i := 1535) (by decide +kernel)) (by decide +kernel)⟩
theorem okX12_keep : aOKi mX12_keep 2 := ⟨koX12_keep, aT_of (List.mem_of_getElem? (i := 1534) (by decide +kernel)) (by decide +kernel), aT_of (List.mem_of_getElem? (i := 108) (by decide +kernel)) (by decide +kernel)⟩
theorem koX12_post : aOK mX12_post 1 := ⟨by decide +kernel, by decide +kernel, by decide +kernel, wi_X12, aT_of (List.mem_of_getElem? (i := 1531) (by decide +kernel)) (by decide +kernel)⟩
theorem okX12_post : aOKi mX12_post 1 := ⟨koX12_post, aT_of (List.mem_of_getElem? (i := 1529) (by decide +kernel)) (by decide +kernel), aT_of (List.mem_of_getElem? (i := 1530) (by decide +kernel)) (by decide +kernel)⟩
theorem koX12_spent : aOK mX12_spent 0 := ⟨by decide +kernel, by decide +kernel, by decide +kernel, wi_X12, aT_of (List.mem_of_getElem? (i := 1540) (by decide +kernel)) (by decide +kernel)⟩
theorem okX12_spent : aOKi mX12_spent 0 := ⟨koX12_spent, aT_of (List.mem_of_getElem? (i := 1538) (by decide +kernel)) (by decide +kernel), aT_of (List.mem_of_getElem? (i := 1539) (by decide +kernel)) (by decide +kernel)⟩
theorem koX12_reasons : aOK mX12_reasons 1 := ⟨by decide +kernel, by decide +kernel, by decide +kernel, wi_X12, aT_of (List.mem_of_getElem? (i := 1544) (by decide +kernel)) (by decide +kernel)⟩
theorem okX12_reasons : aOKi mX12_reasons 1 := ⟨koX12_reasons, aT_of (List.mem_of_getElem? (i := 1542) (by decide +kernel)) (by decide +kernel), aT_of (List.mem_of_getElem? (i := 1543) (by decide +kernel)) (by decide +kernel)⟩
theorem koJ9_max_7cf53 : aOK mJ9_max_7cf53 2 := ⟨by decide +kernel, by decide +kernel, by decide +kernel, wi_J9, aT_of (List.mem_of_getElem? (i := 656) (by decide +kernel)) (by decide +kernel)⟩
theorem okJ9_max_7cf53 : aOKs mJ9_max_7cf53 2 := ⟨koJ9_max_7cf53, aT_of (List.mem_of_getElem? (i := 655) (by decide +kernel)) (by decide +kernel)⟩
theorem koJ9_min_7cf53 : aOK mJ9_min_7cf53 2 := ⟨by decide +kernel, by decide +kernel, by decide +kernel, wi_J9, aT_of (List.mem_of_getElem? (i := 659) (by decide +kernel)) (by decide +kernel)⟩
theorem okJ9_min_7cf53 : aOKs mJ9_min_7cf53 2 := ⟨koJ9_min_7cf53, aT_of (List.mem_of_getElem? (i := 658) (by decide +kernel)) (by decide +kernel)⟩
theorem mlX11_3 : Cond.methodLink RX11 3 ⟨"java/lang/Object", "<init>", "()V"⟩ ∈ aT := aT_of (List.mem_of_getElem? (i := 142) (by decide +kernel)) (by decide +kernel)
theorem mlX11_11 : Cond.methodLinkNest RX11 11 yX6_init "MergePost" ∈ aN := aN_of (List.mem_of_getElem? (i := 38) (by decide +kernel)) (by decide +kernel)
theorem mlX11_18 : Cond.methodLinkNest RX11 18 yX7_init "MergePost" ∈ aN := aN_of (List.mem_of_getElem? (i := 75) (by decide +kernel)) (by decide +kernel)
theorem mlX11_25 : Cond.methodLinkNest RX11 25 yX1_init "MergePost" ∈ aN := aN_of (List.mem_of_getElem? (i := 196) (by decide +kernel)) (by decide +kernel)
theorem mlX11_32 : Cond.methodLinkNest RX11 32 yX5_init "MergePost" ∈ aN := aN_of (List.mem_of_getElem? (i := 265) (by decide +kernel)) (by decide +kernel)
theorem mlX11_39 : Cond.methodLinkNest RX11 39 yX2_init "MergePost" ∈ aN := aN_of (List.mem_of_getElem? (i := 275) (by decide +kernel)) (by decide +kernel)
theorem mlX11_50 : Cond.methodLinkNest RX11 50 yX8_init "MergePost" ∈ aN := aN_of (List.mem_of_getElem? (i := 291) (by decide +kernel)) (by decide +kernel)
theorem mlX11_51 : Cond.methodLink RX11 51 yX11_countSigns ∈ aT := aT_of (List.mem_of_getElem? (i := 467) (by decide +kernel)) (by decide +kernel)
theorem mlX11_59 : Cond.methodLink RX11 59 ⟨"java/lang/IllegalArgumentException", "<init>", "(Ljava/lang/String;)V"⟩ ∈ aT := aT_of (List.mem_of_getElem? (i := 516) (by decide +kernel)) (by decide +kernel)
theorem mlX11_76 : Cond.methodLink RX11 76 ⟨"java/lang/IllegalStateException", "<init>", "(Ljava/lang/String;)V"⟩ ∈ aT := aT_of (List.mem_of_getElem? (i := 552) (by decide +kernel)) (by decide +kernel)
theorem mlX11_77 : Cond.methodLink RX11 77 yX11_signOf ∈ aT := aT_of (List.mem_of_getElem? (i := 470) (by decide +kernel)) (by decide +kernel)
theorem mlX11_81 : Cond.methodLinkNest RX11 81 yX9_add "MergePost" ∈ aN := aN_of (List.mem_of_getElem? (i := 449) (by decide +kernel)) (by decide +kernel)
theorem mlX11_85 : Cond.methodLink RX11 85 yX11_checkTemplate ∈ aT := aT_of (List.mem_of_getElem? (i := 567) (by decide +kernel)) (by decide +kernel)
theorem mlX11_89 : Cond.methodLinkNest RX11 89 yX7_readTemplate "MergePost" ∈ aN := aN_of (List.mem_of_getElem? (i := 478) (by decide +kernel)) (by decide +kernel)
theorem mlX11_96 : Cond.methodLinkNest RX11 96 yX6_clear "MergePost" ∈ aN := aN_of (List.mem_of_getElem? (i := 647) (by decide +kernel)) (by decide +kernel)
theorem mlX11_106 : Cond.methodLink RX11 106 ⟨"java/lang/IndexOutOfBoundsException", "<init>", "(Ljava/lang/String;)V"⟩ ∈ aT := aT_of (List.mem_of_getElem? (i := 581) (by decide +kernel)) (by decide +kernel)
theorem mlX11_107 : Cond.methodLinkNest RX11 107 yX1_hasMatch "MergePost" ∈ aN := aN_of (List.mem_of_getElem? (i := 659) (by decide +kernel)) (by decide +kernel)
theorem mlX11_113 : Cond.methodLinkNest RX11 113 yX1_readAddress "MergePost" ∈ aN := aN_of (List.mem_of_getElem? (i := 664) (by decide +kernel)) (by decide +kernel)
theorem mlX11_116 : Cond.methodLink RX11 116 yX11_checkAddress ∈ aT := aT_of (List.mem_of_getElem? (i := 808) (by decide +kernel)) (by decide +kernel)
theorem mlX11_125 : Cond.methodLinkNest RX11 125 yX0_cleanedWord "MergePost" ∈ aN := aN_of (List.mem_of_getElem? (i := 704) (by decide +kernel)) (by decide +kernel)
theorem mlX11_131 : Cond.methodLinkNest RX11 131 yX9_signAt "MergePost" ∈ aN := aN_of (List.mem_of_getElem? (i := 708) (by decide +kernel)) (by decide +kernel)
theorem mlX11_135 : Cond.methodLinkNest RX11 135 yX5_distance "MergePost" ∈ aN := aN_of (List.mem_of_getElem? (i := 716) (by decide +kernel)) (by decide +kernel)
theorem mlX11_139 : Cond.methodLinkNest RX11 139 yX5_likenessOf "MergePost" ∈ aN := aN_of (List.mem_of_getElem? (i := 733) (by decide +kernel)) (by decide +kernel)
theorem mlX11_143 : Cond.methodLink RX11 143 yX11_bitsOf ∈ aT := aT_of (List.mem_of_getElem? (i := 856) (by decide +kernel)) (by decide +kernel)
theorem mlX11_150 : Cond.methodLinkNest RX11 150 yX1_areMatched "MergePost" ∈ aN := aN_of (List.mem_of_getElem? (i := 767) (by decide +kernel)) (by decide +kernel)
theorem mlX11_154 : Cond.methodLink RX11 154 yX11_canBeMatched ∈ aT := aT_of (List.mem_of_getElem? (i := 880) (by decide +kernel)) (by decide +kernel)
theorem mlX11_159 : Cond.methodLinkNest RX11 159 yX1_turnMatch "MergePost" ∈ aN := aN_of (List.mem_of_getElem? (i := 777) (by decide +kernel)) (by decide +kernel)
theorem mlX11_163 : Cond.methodLinkNest RX11 163 yX1_groupOf "MergePost" ∈ aN := aN_of (List.mem_of_getElem? (i := 788) (by decide +kernel)) (by decide +kernel)
theorem mlX11_176 : Cond.methodLinkNest RX11 176 yX2_weightOf "MergePost" ∈ aN := aN_of (List.mem_of_getElem? (i := 805) (by decide +kernel)) (by decide +kernel)
theorem mlX11_180 : Cond.methodLinkNest RX11 180 yX2_costOf "MergePost" ∈ aN := aN_of (List.mem_of_getElem? (i := 809) (by decide +kernel)) (by decide +kernel)
theorem mlX11_196 : Cond.methodLink RX11 196 yX11_checkRun ∈ aT := aT_of (List.mem_of_getElem? (i := 939) (by decide +kernel)) (by decide +kernel)
theorem mlX11_199 : Cond.methodLink RX11 199 yX11_countLetters ∈ aT := aT_of (List.mem_of_getElem? (i := 944) (by decide +kernel)) (by decide +kernel)
theorem mlX11_203 : Cond.methodLink RX11 203 yX11_checkLetter ∈ aT := aT_of (List.mem_of_getElem? (i := 964) (by decide +kernel)) (by decide +kernel)
theorem mlX11_208 : Cond.methodLink RX11 208 yX11_findLetter ∈ aT := aT_of (List.mem_of_getElem? (i := 970) (by decide +kernel)) (by decide +kernel)
theorem mlX11_229 : Cond.methodLink RX11 229 yX11_compose ∈ aT := aT_of (List.mem_of_getElem? (i := 978) (by decide +kernel)) (by decide +kernel)
theorem mlX11_233 : Cond.methodLinkNest RX11 233 yX9_unlikeSigns "MergePost" ∈ aN := aN_of (List.mem_of_getElem? (i := 962) (by decide +kernel)) (by decide +kernel)
theorem mlX11_239 : Cond.methodLinkNest RX11 239 yX7_placeAt "MergePost" ∈ aN := aN_of (List.mem_of_getElem? (i := 975) (by decide +kernel)) (by decide +kernel)
theorem mlX11_242 : Cond.methodLinkNest RX11 242 yX7_templateAt "MergePost" ∈ aN := aN_of (List.mem_of_getElem? (i := 979) (by decide +kernel)) (by decide +kernel)
theorem mlX11_251 : Cond.methodLinkNest RX11 251 yX1_listDue "MergePost" ∈ aN := aN_of (List.mem_of_getElem? (i := 839) (by decide +kernel)) (by decide +kernel)
theorem mlX11_254 : Cond.methodLinkNest RX11 254 yX1_dueAt "MergePost" ∈ aN := aN_of (List.mem_of_getElem? (i := 865) (by decide +kernel)) (by decide +kernel)
theorem mlX11_257 : Cond.methodLinkNest RX11 257 yX8_keep "MergePost" ∈ aN := aN_of (List.mem_of_getElem? (i := 991) (by decide +kernel)) (by decide +kernel)
theorem mlX11_261 : Cond.methodLinkNest RX11 261 yX1_notePosted "MergePost" ∈ aN := aN_of (List.mem_of_getElem? (i := 1000) (by decide +kernel)) (by decide +kernel)
theorem mlX11_264 : Cond.methodLink RX11 264 yX11_pay ∈ aT := aT_of (List.mem_of_getElem? (i := 1113) (by decide +kernel)) (by decide +kernel)
theorem mlX11_288 : Cond.methodLinkNest RX11 288 yX3_gather "MergePost" ∈ aN := aN_of (List.mem_of_getElem? (i := 873) (by decide +kernel)) (by decide +kernel)
theorem mlX11_294 : Cond.methodLinkNest RX11 294 yX7_write "MergePost" ∈ aN := aN_of (List.mem_of_getElem? (i := 886) (by decide +kernel)) (by decide +kernel)
theorem mlX11_304 : Cond.methodLinkNest RX11 304 yX7_blameWhole "MergePost" ∈ aN := aN_of (List.mem_of_getElem? (i := 947) (by decide +kernel)) (by decide +kernel)
theorem mlX0_3 : Cond.methodLink RX0 3 ⟨"java/lang/Object", "<init>", "()V"⟩ ∈ aT := aT_of (List.mem_of_getElem? (i := 315) (by decide +kernel)) (by decide +kernel)
theorem mlX0_11 : Cond.methodLinkNest RX0 11 yX9_init "MergePost" ∈ aN := aN_of (List.mem_of_getElem? (i := 208) (by decide +kernel)) (by decide +kernel)
theorem mlX0_35 : Cond.methodLinkNest RX0 35 yX6_takeWord "MergePost" ∈ aN := aN_of (List.mem_of_getElem? (i := 672) (by decide +kernel)) (by decide +kernel)
theorem mlX0_39 : Cond.methodLinkNest RX0 39 yX6_take "MergePost" ∈ aN := aN_of (List.mem_of_getElem? (i := 677) (by decide +kernel)) (by decide +kernel)
theorem mlX0_43 : Cond.methodLink RX0 43 yX0_readNumbers ∈ aT := aT_of (List.mem_of_getElem? (i := 787) (by decide +kernel)) (by decide +kernel)
theorem mlX0_47 : Cond.methodLinkNest RX0 47 yX6_atEnd "MergePost" ∈ aN := aN_of (List.mem_of_getElem? (i := 683) (by decide +kernel)) (by decide +kernel)
theorem mlX0_51 : Cond.methodLinkNest RX0 51 yX9_becomeCleaned "MergePost" ∈ aN := aN_of (List.mem_of_getElem? (i := 684) (by decide +kernel)) (by decide +kernel)
theorem mlX0_55 : Cond.methodLinkNest RX0 55 yX6_takeNumber "MergePost" ∈ aN := aN_of (List.mem_of_getElem? (i := 682) (by decide +kernel)) (by decide +kernel)
theorem mlX1_3 : Cond.methodLink RX1 3 ⟨"java/lang/Object", "<init>", "()V"⟩ ∈ aT := aT_of (List.mem_of_getElem? (i := 308) (by decide +kernel)) (by decide +kernel)
theorem mlX1_17 : Cond.methodLinkNest RX1 17 yX0_init "MergePost" ∈ aN := aN_of (List.mem_of_getElem? (i := 203) (by decide +kernel)) (by decide +kernel)
theorem mlX1_32 : Cond.methodLinkNest RX1 32 yX0_read "MergePost" ∈ aN := aN_of (List.mem_of_getElem? (i := 668) (by decide +kernel)) (by decide +kernel)
theorem mlX1_40 : Cond.methodLink RX1 40 yJ9_max_7cf53 ∈ aT := aT_of (List.mem_of_getElem? (i := 800) (by decide +kernel)) (by decide +kernel)
theorem mlX1_46 : Cond.methodLink RX1 46 yX1_matchesOf ∈ aT := aT_of (List.mem_of_getElem? (i := 901) (by decide +kernel)) (by decide +kernel)
theorem mlX1_50 : Cond.methodLink RX1 50 yX1_groupOf ∈ aT := aT_of (List.mem_of_getElem? (i := 952) (by decide +kernel)) (by decide +kernel)
theorem mlX1_53 : Cond.methodLink RX1 53 yX1_wasPosted ∈ aT := aT_of (List.mem_of_getElem? (i := 953) (by decide +kernel)) (by decide +kernel)
theorem mlX2_3 : Cond.methodLink RX2 3 ⟨"java/lang/Object", "<init>", "()V"⟩ ∈ aT := aT_of (List.mem_of_getElem? (i := 387) (by decide +kernel)) (by decide +kernel)
theorem mlX3_3 : Cond.methodLink RX3 3 ⟨"java/lang/Object", "<init>", "()V"⟩ ∈ aT := aT_of (List.mem_of_getElem? (i := 221) (by decide +kernel)) (by decide +kernel)
theorem mlX3_21 : Cond.methodLinkNest RX3 21 yX9_init "MergePost" ∈ aN := aN_of (List.mem_of_getElem? (i := 115) (by decide +kernel)) (by decide +kernel)
theorem mlX3_28 : Cond.methodLinkNest RX3 28 yX9_add "MergePost" ∈ aN := aN_of (List.mem_of_getElem? (i := 116) (by decide +kernel)) (by decide +kernel)
theorem mlX3_42 : Cond.methodLink RX3 42 yX3_addMember ∈ aT := aT_of (List.mem_of_getElem? (i := 986) (by decide +kernel)) (by decide +kernel)
theorem mlX3_46 : Cond.methodLinkNest RX3 46 yX9_addNumber "MergePost" ∈ aN := aN_of (List.mem_of_getElem? (i := 882) (by decide +kernel)) (by decide +kernel)
theorem mlX3_54 : Cond.methodLinkNest RX3 54 yX9_addAll "MergePost" ∈ aN := aN_of (List.mem_of_getElem? (i := 881) (by decide +kernel)) (by decide +kernel)
theorem mlX4_3 : Cond.methodLink RX4 3 ⟨"java/lang/Object", "<init>", "()V"⟩ ∈ aT := aT_of (List.mem_of_getElem? (i := 247) (by decide +kernel)) (by decide +kernel)
theorem mlX4_11 : Cond.methodLinkNest RX4 11 yX9_init "MergePost" ∈ aN := aN_of (List.mem_of_getElem? (i := 140) (by decide +kernel)) (by decide +kernel)
theorem mlX4_20 : Cond.methodLinkNest RX4 20 yX9_become "MergePost" ∈ aN := aN_of (List.mem_of_getElem? (i := 999) (by decide +kernel)) (by decide +kernel)
theorem mlX5_3 : Cond.methodLink RX5 3 ⟨"java/lang/Object", "<init>", "()V"⟩ ∈ aT := aT_of (List.mem_of_getElem? (i := 377) (by decide +kernel)) (by decide +kernel)
theorem mlX5_21 : Cond.methodLink RX5 21 yJ9_min_7cf53 ∈ aT := aT_of (List.mem_of_getElem? (i := 829) (by decide +kernel)) (by decide +kernel)
theorem mlX5_27 : Cond.methodLinkNest RX5 27 yX9_signAt "MergePost" ∈ aN := aN_of (List.mem_of_getElem? (i := 721) (by decide +kernel)) (by decide +kernel)
theorem mlX5_31 : Cond.methodLink RX5 31 yX5_readSign ∈ aT := aT_of (List.mem_of_getElem? (i := 831) (by decide +kernel)) (by decide +kernel)
theorem mlX5_35 : Cond.methodLink RX5 35 yJ9_max_7cf53 ∈ aT := aT_of (List.mem_of_getElem? (i := 851) (by decide +kernel)) (by decide +kernel)
theorem mlX5_38 : Cond.methodLink RX5 38 yX5_distance ∈ aT := aT_of (List.mem_of_getElem? (i := 852) (by decide +kernel)) (by decide +kernel)
theorem mlX5_55 : Cond.methodLink RX5 55 yX5_wordLikeness ∈ aT := aT_of (List.mem_of_getElem? (i := 847) (by decide +kernel)) (by decide +kernel)
theorem mlX6_3 : Cond.methodLink RX6 3 ⟨"java/lang/Object", "<init>", "()V"⟩ ∈ aT := aT_of (List.mem_of_getElem? (i := 150) (by decide +kernel)) (by decide +kernel)
theorem mlX6_11 : Cond.methodLinkNest RX6 11 yX9_init "MergePost" ∈ aN := aN_of (List.mem_of_getElem? (i := 44) (by decide +kernel)) (by decide +kernel)
theorem mlX6_27 : Cond.methodLinkNest RX6 27 yX9_signAt "MergePost" ∈ aN := aN_of (List.mem_of_getElem? (i := 498) (by decide +kernel)) (by decide +kernel)
theorem mlX6_31 : Cond.methodLink RX6 31 yX6_atEnd ∈ aT := aT_of (List.mem_of_getElem? (i := 615) (by decide +kernel)) (by decide +kernel)
theorem mlX6_35 : Cond.methodLink RX6 35 yX6_here ∈ aT := aT_of (List.mem_of_getElem? (i := 616) (by decide +kernel)) (by decide +kernel)
theorem mlX6_39 : Cond.methodLink RX6 39 yX6_takeIf ∈ aT := aT_of (List.mem_of_getElem? (i := 617) (by decide +kernel)) (by decide +kernel)
theorem mlX6_43 : Cond.methodLinkNest RX6 43 yX11_isDigit "MergePost" ∈ aN := aN_of (List.mem_of_getElem? (i := 607) (by decide +kernel)) (by decide +kernel)
theorem mlX6_49 : Cond.methodLink RX6 49 yJ0_indexOf_0f7a4 ∈ aT := aT_of (List.mem_of_getElem? (i := 626) (by decide +kernel)) (by decide +kernel)
theorem mlX6_55 : Cond.methodLinkNest RX6 55 yX9_add "MergePost" ∈ aN := aN_of (List.mem_of_getElem? (i := 676) (by decide +kernel)) (by decide +kernel)
theorem mlX7_3 : Cond.methodLink RX7 3 ⟨"java/lang/Object", "<init>", "()V"⟩ ∈ aT := aT_of (List.mem_of_getElem? (i := 187) (by decide +kernel)) (by decide +kernel)
theorem mlX7_17 : Cond.methodLinkNest RX7 17 yX10_init "MergePost" ∈ aN := aN_of (List.mem_of_getElem? (i := 82) (by decide +kernel)) (by decide +kernel)
theorem mlX7_24 : Cond.methodLinkNest RX7 24 yX3_init "MergePost" ∈ aN := aN_of (List.mem_of_getElem? (i := 109) (by decide +kernel)) (by decide +kernel)
theorem mlX7_31 : Cond.methodLinkNest RX7 31 yX4_init "MergePost" ∈ aN := aN_of (List.mem_of_getElem? (i := 135) (by decide +kernel)) (by decide +kernel)
theorem mlX7_46 : Cond.methodLinkNest RX7 46 yX10_read "MergePost" ∈ aN := aN_of (List.mem_of_getElem? (i := 482) (by decide +kernel)) (by decide +kernel)
theorem mlX7_70 : Cond.methodLink RX7 70 yX7_isTold ∈ aT := aT_of (List.mem_of_getElem? (i := 999) (by decide +kernel)) (by decide +kernel)
theorem mlX7_74 : Cond.methodLink RX7 74 yX7_blameWhole ∈ aT := aT_of (List.mem_of_getElem? (i := 1003) (by decide +kernel)) (by decide +kernel)
theorem mlX7_78 : Cond.methodLink RX7 78 yX7_open ∈ aT := aT_of (List.mem_of_getElem? (i := 1007) (by decide +kernel)) (by decide +kernel)
theorem mlX7_83 : Cond.methodLink RX7 83 yX7_writePart ∈ aT := aT_of (List.mem_of_getElem? (i := 1012) (by decide +kernel)) (by decide +kernel)
theorem mlX7_93 : Cond.methodLinkNest RX7 93 yX9_signAt "MergePost" ∈ aN := aN_of (List.mem_of_getElem? (i := 907) (by decide +kernel)) (by decide +kernel)
theorem mlX7_97 : Cond.methodLink RX7 97 yX7_close ∈ aT := aT_of (List.mem_of_getElem? (i := 1017) (by decide +kernel)) (by decide +kernel)
theorem mlX7_100 : Cond.methodLink RX7 100 yX7_enter ∈ aT := aT_of (List.mem_of_getElem? (i := 1024) (by decide +kernel)) (by decide +kernel)
theorem mlX7_103 : Cond.methodLink RX7 103 yX7_writeField ∈ aT := aT_of (List.mem_of_getElem? (i := 1028) (by decide +kernel)) (by decide +kernel)
theorem mlX7_107 : Cond.methodLink RX7 107 yX7_choose ∈ aT := aT_of (List.mem_of_getElem? (i := 1039) (by decide +kernel)) (by decide +kernel)
theorem mlX7_111 : Cond.methodLinkNest RX7 111 yX10_jumpAt "MergePost" ∈ aN := aN_of (List.mem_of_getElem? (i := 938) (by decide +kernel)) (by decide +kernel)
theorem mlX7_115 : Cond.methodLink RX7 115 yX7_writeSign ∈ aT := aT_of (List.mem_of_getElem? (i := 1051) (by decide +kernel)) (by decide +kernel)
theorem mlX7_118 : Cond.methodLink RX7 118 yX7_silentBit ∈ aT := aT_of (List.mem_of_getElem? (i := 1021) (by decide +kernel)) (by decide +kernel)
theorem mlX7_124 : Cond.methodLink RX7 124 yJ0_indexOf_0f7a4 ∈ aT := aT_of (List.mem_of_getElem? (i := 1033) (by decide +kernel)) (by decide +kernel)
theorem mlX7_129 : Cond.methodLinkNest RX7 129 yX11_isDigit "MergePost" ∈ aN := aN_of (List.mem_of_getElem? (i := 934) (by decide +kernel)) (by decide +kernel)
theorem mlX7_136 : Cond.methodLink RX7 136 yX7_holds ∈ aT := aT_of (List.mem_of_getElem? (i := 1044) (by decide +kernel)) (by decide +kernel)
theorem mlX7_144 : Cond.methodLinkNest RX7 144 yX9_room "MergePost" ∈ aN := aN_of (List.mem_of_getElem? (i := 925) (by decide +kernel)) (by decide +kernel)
theorem mlX7_148 : Cond.methodLinkNest RX7 148 yX9_addAll "MergePost" ∈ aN := aN_of (List.mem_of_getElem? (i := 929) (by decide +kernel)) (by decide +kernel)
theorem mlX7_152 : Cond.methodLinkNest RX7 152 yX9_add "MergePost" ∈ aN := aN_of (List.mem_of_getElem? (i := 946) (by decide +kernel)) (by decide +kernel)
theorem mlX8_3 : Cond.methodLink RX8 3 ⟨"java/lang/Object", "<init>", "()V"⟩ ∈ aT := aT_of (List.mem_of_getElem? (i := 403) (by decide +kernel)) (by decide +kernel)
theorem mlX8_17 : Cond.methodLinkNest RX8 17 yX4_init "MergePost" ∈ aN := aN_of (List.mem_of_getElem? (i := 297) (by decide +kernel)) (by decide +kernel)
theorem mlX8_22 : Cond.methodLinkNest RX8 22 yX4_become "MergePost" ∈ aN := aN_of (List.mem_of_getElem? (i := 995) (by decide +kernel)) (by decide +kernel)
theorem mlX9_1 : Cond.methodLink RX9 1 ⟨"java/lang/Object", "<init>", "()V"⟩ ∈ aT := aT_of (List.mem_of_getElem? (i := 156) (by decide +kernel)) (by decide +kernel)
theorem mlX9_17 : Cond.methodLink RX9 17 yJ9_min_7cf53 ∈ aT := aT_of (List.mem_of_getElem? (i := 752) (by decide +kernel)) (by decide +kernel)
theorem mlX9_23 : Cond.methodLink RX9 23 ⟨"java/lang/System", "arraycopy", "(Ljava/lang/Object;ILjava/lang/Object;II)V"⟩ ∈ aT := aT_of (List.mem_of_getElem? (i := 753) (by decide +kernel)) (by decide +kernel)
theorem mlX9_29 : Cond.methodLink RX9 29 yX9_add ∈ aT := aT_of (List.mem_of_getElem? (i := 798) (by decide +kernel)) (by decide +kernel)
theorem mlX9_33 : Cond.methodLink RX9 33 yX9_addAll ∈ aT := aT_of (List.mem_of_getElem? (i := 748) (by decide +kernel)) (by decide +kernel)
theorem mlX9_37 : Cond.methodLink RX9 37 yX9_signAt ∈ aT := aT_of (List.mem_of_getElem? (i := 797) (by decide +kernel)) (by decide +kernel)
theorem mlX9_41 : Cond.methodLinkNest RX9 41 yX11_isDigit "MergePost" ∈ aN := aN_of (List.mem_of_getElem? (i := 690) (by decide +kernel)) (by decide +kernel)
theorem mlX9_47 : Cond.methodLink RX9 47 yJ9_max_7cf53 ∈ aT := aT_of (List.mem_of_getElem? (i := 1075) (by decide +kernel)) (by decide +kernel)
theorem mlX10_3 : Cond.methodLink RX10 3 ⟨"java/lang/Object", "<init>", "()V"⟩ ∈ aT := aT_of (List.mem_of_getElem? (i := 194) (by decide +kernel)) (by decide +kernel)
theorem mlX10_11 : Cond.methodLinkNest RX10 11 yX9_init "MergePost" ∈ aN := aN_of (List.mem_of_getElem? (i := 87) (by decide +kernel)) (by decide +kernel)
theorem mlX10_36 : Cond.methodLinkNest RX10 36 yX6_atEnd "MergePost" ∈ aN := aN_of (List.mem_of_getElem? (i := 486) (by decide +kernel)) (by decide +kernel)
theorem mlX10_40 : Cond.methodLink RX10 40 yX10_readPart ∈ aT := aT_of (List.mem_of_getElem? (i := 599) (by decide +kernel)) (by decide +kernel)
theorem mlX10_45 : Cond.methodLinkNest RX10 45 yX9_become "MergePost" ∈ aN := aN_of (List.mem_of_getElem? (i := 635) (by decide +kernel)) (by decide +kernel)
theorem mlX10_53 : Cond.methodLinkNest RX10 53 yX6_here "MergePost" ∈ aN := aN_of (List.mem_of_getElem? (i := 494) (by decide +kernel)) (by decide +kernel)
theorem mlX10_57 : Cond.methodLinkNest RX10 57 yX6_take "MergePost" ∈ aN := aN_of (List.mem_of_getElem? (i := 502) (by decide +kernel)) (by decide +kernel)
theorem mlX10_61 : Cond.methodLinkNest RX10 61 yX6_takeField "MergePost" ∈ aN := aN_of (List.mem_of_getElem? (i := 512) (by decide +kernel)) (by decide +kernel)
theorem mlX10_64 : Cond.methodLinkNest RX10 64 yX6_takeDigit "MergePost" ∈ aN := aN_of (List.mem_of_getElem? (i := 603) (by decide +kernel)) (by decide +kernel)
theorem mlX10_67 : Cond.methodLink RX10 67 yX10_openChoice ∈ aT := aT_of (List.mem_of_getElem? (i := 719) (by decide +kernel)) (by decide +kernel)
theorem mlX10_70 : Cond.methodLink RX10 70 yX10_turnChoice ∈ aT := aT_of (List.mem_of_getElem? (i := 731) (by decide +kernel)) (by decide +kernel)
theorem mlX10_73 : Cond.methodLink RX10 73 yX10_closeChoice ∈ aT := aT_of (List.mem_of_getElem? (i := 740) (by decide +kernel)) (by decide +kernel)
theorem mlX10_76 : Cond.methodLinkNest RX10 76 yX6_takeRelation "MergePost" ∈ aN := aN_of (List.mem_of_getElem? (i := 614) (by decide +kernel)) (by decide +kernel)
theorem mlX10_79 : Cond.methodLinkNest RX10 79 yX6_takeNumber "MergePost" ∈ aN := aN_of (List.mem_of_getElem? (i := 618) (by decide +kernel)) (by decide +kernel)
theorem mlX10_83 : Cond.methodLink RX10 83 yX10_jumpFromMark ∈ aT := aT_of (List.mem_of_getElem? (i := 735) (by decide +kernel)) (by decide +kernel)
theorem mlX10_87 : Cond.methodLinkNest RX10 87 yX9_signAt "MergePost" ∈ aN := aN_of (List.mem_of_getElem? (i := 630) (by decide +kernel)) (by decide +kernel)
theorem mlL_7 : Cond.methodLink RL 7 yX11_type ∈ aT := aT_of (List.mem_of_getElem? (i := 463) (by decide +kernel)) (by decide +kernel)
theorem mlL_17 : Cond.methodLink RL 17 yX11_template ∈ aT := aT_of (List.mem_of_getElem? (i := 563) (by decide +kernel)) (by decide +kernel)
theorem mlL_23 : Cond.methodLink RL 23 yX11_address ∈ aT := aT_of (List.mem_of_getElem? (i := 763) (by decide +kernel)) (by decide +kernel)
theorem mlL_26 : Cond.methodLink RL 26 yX11_cleaned ∈ aT := aT_of (List.mem_of_getElem? (i := 804) (by decide +kernel)) (by decide +kernel)
theorem mlL_30 : Cond.methodLink RL 30 yX11_apart ∈ aT := aT_of (List.mem_of_getElem? (i := 821) (by decide +kernel)) (by decide +kernel)
theorem mlL_34 : Cond.methodLink RL 34 yX11_likeness ∈ aT := aT_of (List.mem_of_getElem? (i := 838) (by decide +kernel)) (by decide +kernel)
theorem mlL_38 : Cond.methodLink RL 38 yX11_pairs ∈ aT := aT_of (List.mem_of_getElem? (i := 863) (by decide +kernel)) (by decide +kernel)
theorem mlL_41 : Cond.methodLink RL 41 yX11_match ∈ aT := aT_of (List.mem_of_getElem? (i := 872) (by decide +kernel)) (by decide +kernel)
theorem mlL_45 : Cond.methodLink RL 45 yX11_group ∈ aT := aT_of (List.mem_of_getElem? (i := 893) (by decide +kernel)) (by decide +kernel)
theorem mlL_48 : Cond.methodLink RL 48 yX11_franking ∈ aT := aT_of (List.mem_of_getElem? (i := 908) (by decide +kernel)) (by decide +kernel)
theorem mlL_51 : Cond.methodLink RL 51 yX11_run ∈ aT := aT_of (List.mem_of_getElem? (i := 926) (by decide +kernel)) (by decide +kernel)
theorem mlL_54 : Cond.methodLink RL 54 yX11_letters ∈ aT := aT_of (List.mem_of_getElem? (i := 935) (by decide +kernel)) (by decide +kernel)
theorem mlL_57 : Cond.methodLink RL 57 yX11_letter ∈ aT := aT_of (List.mem_of_getElem? (i := 960) (by decide +kernel)) (by decide +kernel)
theorem mlL_61 : Cond.methodLink RL 61 yX11_sign ∈ aT := aT_of (List.mem_of_getElem? (i := 1060) (by decide +kernel)) (by decide +kernel)
theorem mlL_65 : Cond.methodLink RL 65 yX11_anew ∈ aT := aT_of (List.mem_of_getElem? (i := 1067) (by decide +kernel)) (by decide +kernel)
theorem mlL_68 : Cond.methodLink RL 68 yX11_trouble ∈ aT := aT_of (List.mem_of_getElem? (i := 1079) (by decide +kernel)) (by decide +kernel)
theorem mlL_72 : Cond.methodLink RL 72 yX11_post ∈ aT := aT_of (List.mem_of_getElem? (i := 1095) (by decide +kernel)) (by decide +kernel)
theorem mlL_75 : Cond.methodLink RL 75 yX11_reasons ∈ aT := aT_of (List.mem_of_getElem? (i := 1121) (by decide +kernel)) (by decide +kernel)
theorem mlL_78 : Cond.methodLink RL 78 yX11_init ∈ aT := aT_of (List.mem_of_getElem? (i := 139) (by decide +kernel)) (by decide +kernel)
theorem mlL_81 : Cond.methodLink RL 81 yX12_init ∈ aT := aT_of (List.mem_of_getElem? (i := 1127) (by decide +kernel)) (by decide +kernel)
theorem mlL_84 : Cond.methodLink RL 84 yL_type ∈ aT := aT_of (List.mem_of_getElem? (i := 458) (by decide +kernel)) (by decide +kernel)
theorem mlL_89 : Cond.methodLink RL 89 yX12_type ∈ aT := aT_of (List.mem_of_getElem? (i := 1275) (by decide +kernel)) (by decide +kernel)
theorem mlL_90 : Cond.methodLink RL 90 yX12_thrown ∈ aT := aT_of (List.mem_of_getElem? (i := 1271) (by decide +kernel)) (by decide +kernel)
theorem mlL_94 : Cond.methodLink RL 94 yL_template ∈ aT := aT_of (List.mem_of_getElem? (i := 559) (by decide +kernel)) (by decide +kernel)
theorem mlL_97 : Cond.methodLink RL 97 yX12_template ∈ aT := aT_of (List.mem_of_getElem? (i := 1284) (by decide +kernel)) (by decide +kernel)
theorem mlL_98 : Cond.methodLink RL 98 yL_address ∈ aT := aT_of (List.mem_of_getElem? (i := 760) (by decide +kernel)) (by decide +kernel)
theorem mlL_100 : Cond.methodLink RL 100 yX12_address ∈ aT := aT_of (List.mem_of_getElem? (i := 1306) (by decide +kernel)) (by decide +kernel)
theorem mlL_101 : Cond.methodLink RL 101 yX11_addresses ∈ aT := aT_of (List.mem_of_getElem? (i := 450) (by decide +kernel)) (by decide +kernel)
theorem mlL_104 : Cond.methodLink RL 104 yX12_addresses ∈ aT := aT_of (List.mem_of_getElem? (i := 1337) (by decide +kernel)) (by decide +kernel)
theorem mlL_105 : Cond.methodLink RL 105 yL_cleaned ∈ aT := aT_of (List.mem_of_getElem? (i := 801) (by decide +kernel)) (by decide +kernel)
theorem mlL_108 : Cond.methodLink RL 108 yX12_cleaned ∈ aT := aT_of (List.mem_of_getElem? (i := 1341) (by decide +kernel)) (by decide +kernel)
theorem mlL_109 : Cond.methodLink RL 109 yL_apart ∈ aT := aT_of (List.mem_of_getElem? (i := 818) (by decide +kernel)) (by decide +kernel)
theorem mlL_112 : Cond.methodLink RL 112 yX12_apart ∈ aT := aT_of (List.mem_of_getElem? (i := 1349) (by decide +kernel)) (by decide +kernel)
theorem mlL_113 : Cond.methodLink RL 113 yL_likeness ∈ aT := aT_of (List.mem_of_getElem? (i := 835) (by decide +kernel)) (by decide +kernel)
theorem mlL_116 : Cond.methodLink RL 116 yX12_likeness ∈ aT := aT_of (List.mem_of_getElem? (i := 1361) (by decide +kernel)) (by decide +kernel)
theorem mlL_117 : Cond.methodLink RL 117 yL_pairs ∈ aT := aT_of (List.mem_of_getElem? (i := 860) (by decide +kernel)) (by decide +kernel)
theorem mlL_119 : Cond.methodLink RL 119 yX12_pairs ∈ aT := aT_of (List.mem_of_getElem? (i := 1387) (by decide +kernel)) (by decide +kernel)
theorem mlL_120 : Cond.methodLink RL 120 yL_match ∈ aT := aT_of (List.mem_of_getElem? (i := 869) (by decide +kernel)) (by decide +kernel)
theorem mlL_122 : Cond.methodLink RL 122 yX12_match ∈ aT := aT_of (List.mem_of_getElem? (i := 1392) (by decide +kernel)) (by decide +kernel)
theorem mlL_123 : Cond.methodLink RL 123 yL_group ∈ aT := aT_of (List.mem_of_getElem? (i := 890) (by decide +kernel)) (by decide +kernel)
theorem mlL_125 : Cond.methodLink RL 125 yX12_group ∈ aT := aT_of (List.mem_of_getElem? (i := 1401) (by decide +kernel)) (by decide +kernel)
theorem mlL_126 : Cond.methodLink RL 126 yL_franking ∈ aT := aT_of (List.mem_of_getElem? (i := 905) (by decide +kernel)) (by decide +kernel)
theorem mlL_128 : Cond.methodLink RL 128 yX12_franking ∈ aT := aT_of (List.mem_of_getElem? (i := 1409) (by decide +kernel)) (by decide +kernel)
theorem mlL_129 : Cond.methodLink RL 129 yL_run ∈ aT := aT_of (List.mem_of_getElem? (i := 923) (by decide +kernel)) (by decide +kernel)
theorem mlL_131 : Cond.methodLink RL 131 yX12_run ∈ aT := aT_of (List.mem_of_getElem? (i := 1419) (by decide +kernel)) (by decide +kernel)
theorem mlL_132 : Cond.methodLink RL 132 yL_letters ∈ aT := aT_of (List.mem_of_getElem? (i := 932) (by decide +kernel)) (by decide +kernel)
theorem mlL_134 : Cond.methodLink RL 134 yX12_letters ∈ aT := aT_of (List.mem_of_getElem? (i := 1423) (by decide +kernel)) (by decide +kernel)
theorem mlL_135 : Cond.methodLink RL 135 yL_letter ∈ aT := aT_of (List.mem_of_getElem? (i := 957) (by decide +kernel)) (by decide +kernel)
theorem mlL_138 : Cond.methodLink RL 138 yX12_letter ∈ aT := aT_of (List.mem_of_getElem? (i := 1442) (by decide +kernel)) (by decide +kernel)
theorem mlL_139 : Cond.methodLink RL 139 yL_sign ∈ aT := aT_of (List.mem_of_getElem? (i := 1057) (by decide +kernel)) (by decide +kernel)
theorem mlL_141 : Cond.methodLink RL 141 yX12_sign ∈ aT := aT_of (List.mem_of_getElem? (i := 1516) (by decide +kernel)) (by decide +kernel)
theorem mlL_142 : Cond.methodLink RL 142 yL_anew ∈ aT := aT_of (List.mem_of_getElem? (i := 1064) (by decide +kernel)) (by decide +kernel)
theorem mlL_144 : Cond.methodLink RL 144 yX12_anew ∈ aT := aT_of (List.mem_of_getElem? (i := 1520) (by decide +kernel)) (by decide +kernel)
theorem mlL_145 : Cond.methodLink RL 145 yL_trouble ∈ aT := aT_of (List.mem_of_getElem? (i := 1076) (by decide +kernel)) (by decide +kernel)
theorem mlL_148 : Cond.methodLink RL 148 yX12_trouble ∈ aT := aT_of (List.mem_of_getElem? (i := 1524) (by decide +kernel)) (by decide +kernel)
theorem mlL_149 : Cond.methodLink RL 149 yL_post ∈ aT := aT_of (List.mem_of_getElem? (i := 1092) (by decide +kernel)) (by decide +kernel)
theorem mlL_151 : Cond.methodLink RL 151 yX12_post ∈ aT := aT_of (List.mem_of_getElem? (i := 1528) (by decide +kernel)) (by decide +kernel)
theorem mlL_152 : Cond.methodLink RL 152 yX11_spent ∈ aT := aT_of (List.mem_of_getElem? (i := 454) (by decide +kernel)) (by decide +kernel)
theorem mlL_155 : Cond.methodLink RL 155 yX12_spent ∈ aT := aT_of (List.mem_of_getElem? (i := 1537) (by decide +kernel)) (by decide +kernel)
theorem mlL_156 : Cond.methodLink RL 156 yL_reasons ∈ aT := aT_of (List.mem_of_getElem? (i := 1118) (by decide +kernel)) (by decide +kernel)
theorem mlL_158 : Cond.methodLink RL 158 yX12_reasons ∈ aT := aT_of (List.mem_of_getElem? (i := 1541) (by decide +kernel)) (by decide +kernel)
theorem mlX12_1 : Cond.methodLink RX12 1 ⟨"java/lang/Object", "<init>", "()V"⟩ ∈ aT := aT_of (List.mem_of_getElem? (i := 1130) (by decide +kernel)) (by decide +kernel)
theorem mlX12_128 : Cond.methodLink RX12 128 yX12_fails ∈ aT := aT_of (List.mem_of_getElem? (i := 1280) (by decide +kernel)) (by decide +kernel)
theorem mlX12_132 : Cond.methodLink RX12 132 yX12_signAt ∈ aT := aT_of (List.mem_of_getElem? (i := 1292) (by decide +kernel)) (by decide +kernel)
theorem mlX12_136 : Cond.methodLink RX12 136 yX12_isField ∈ aT := aT_of (List.mem_of_getElem? (i := 1296) (by decide +kernel)) (by decide +kernel)
theorem mlX12_139 : Cond.methodLink RX12 139 yX12_headEnd ∈ aT := aT_of (List.mem_of_getElem? (i := 1299) (by decide +kernel)) (by decide +kernel)
theorem mlX12_142 : Cond.methodLink RX12 142 yX12_isDigit ∈ aT := aT_of (List.mem_of_getElem? (i := 1303) (by decide +kernel)) (by decide +kernel)
theorem mlX12_145 : Cond.methodLink RX12 145 yX12_wrongInTemplate ∈ aT := aT_of (List.mem_of_getElem? (i := 1288) (by decide +kernel)) (by decide +kernel)
theorem mlX12_149 : Cond.methodLink RX12 149 yX12_clean ∈ aT := aT_of (List.mem_of_getElem? (i := 1330) (by decide +kernel)) (by decide +kernel)
theorem mlX12_152 : Cond.methodLink RX12 152 yX12_wordEnd ∈ aT := aT_of (List.mem_of_getElem? (i := 1318) (by decide +kernel)) (by decide +kernel)
theorem mlX12_155 : Cond.methodLink RX12 155 yX12_digitsEnd ∈ aT := aT_of (List.mem_of_getElem? (i := 1322) (by decide +kernel)) (by decide +kernel)
theorem mlX12_159 : Cond.methodLink RX12 159 yX12_lay ∈ aT := aT_of (List.mem_of_getElem? (i := 1326) (by decide +kernel)) (by decide +kernel)
theorem mlX12_163 : Cond.methodLink RX12 163 yX12_number ∈ aT := aT_of (List.mem_of_getElem? (i := 1333) (by decide +kernel)) (by decide +kernel)
theorem mlX12_169 : Cond.methodLink RX12 169 yX12_isMatched ∈ aT := aT_of (List.mem_of_getElem? (i := 1310) (by decide +kernel)) (by decide +kernel)
theorem mlX12_172 : Cond.methodLink RX12 172 yX12_readAddress ∈ aT := aT_of (List.mem_of_getElem? (i := 1314) (by decide +kernel)) (by decide +kernel)
theorem mlX12_175 : Cond.methodLink RX12 175 yX12_isOne ∈ aT := aT_of (List.mem_of_getElem? (i := 1345) (by decide +kernel)) (by decide +kernel)
theorem mlX12_178 : Cond.methodLink RX12 178 yX12_changes ∈ aT := aT_of (List.mem_of_getElem? (i := 1357) (by decide +kernel)) (by decide +kernel)
theorem mlX12_182 : Cond.methodLink RX12 182 yX12_apartOf ∈ aT := aT_of (List.mem_of_getElem? (i := 1353) (by decide +kernel)) (by decide +kernel)
theorem mlX12_187 : Cond.methodLink RX12 187 yX12_alike ∈ aT := aT_of (List.mem_of_getElem? (i := 1370) (by decide +kernel)) (by decide +kernel)
theorem mlX12_194 : Cond.methodLink RX12 194 yX12_likenessOf ∈ aT := aT_of (List.mem_of_getElem? (i := 1365) (by decide +kernel)) (by decide +kernel)
theorem mlX12_198 : Cond.methodLink RX12 198 yJxf58ca_floatToIntBits_5c35a ∈ aT := aT_of (List.mem_of_getElem? (i := 1377) (by decide +kernel)) (by decide +kernel)
theorem mlX12_206 : Cond.methodLink RX12 206 yX12_canMatch ∈ aT := aT_of (List.mem_of_getElem? (i := 1396) (by decide +kernel)) (by decide +kernel)
theorem mlX12_210 : Cond.methodLink RX12 210 yX12_groupOf ∈ aT := aT_of (List.mem_of_getElem? (i := 1405) (by decide +kernel)) (by decide +kernel)
theorem mlX12_216 : Cond.methodLink RX12 216 yX12_lowest ∈ aT := aT_of (List.mem_of_getElem? (i := 1439) (by decide +kernel)) (by decide +kernel)
theorem mlX12_219 : Cond.methodLink RX12 219 yX12_giveRow ∈ aT := aT_of (List.mem_of_getElem? (i := 1486) (by decide +kernel)) (by decide +kernel)
theorem mlX12_223 : Cond.methodLink RX12 223 yX12_pointsOf ∈ aT := aT_of (List.mem_of_getElem? (i := 1490) (by decide +kernel)) (by decide +kernel)
theorem mlX12_226 : Cond.methodLink RX12 226 yX12_many ∈ aT := aT_of (List.mem_of_getElem? (i := 1494) (by decide +kernel)) (by decide +kernel)
theorem mlX12_229 : Cond.methodLink RX12 229 yX12_giveNumber ∈ aT := aT_of (List.mem_of_getElem? (i := 1497) (by decide +kernel)) (by decide +kernel)
theorem mlX12_242 : Cond.methodLink RX12 242 yX12_inTrouble ∈ aT := aT_of (List.mem_of_getElem? (i := 1462) (by decide +kernel)) (by decide +kernel)
theorem mlX12_246 : Cond.methodLink RX12 246 yX12_begin ∈ aT := aT_of (List.mem_of_getElem? (i := 1470) (by decide +kernel)) (by decide +kernel)
theorem mlX12_250 : Cond.methodLink RX12 250 yX12_goOn ∈ aT := aT_of (List.mem_of_getElem? (i := 1474) (by decide +kernel)) (by decide +kernel)
theorem mlX12_254 : Cond.methodLink RX12 254 yX12_open ∈ aT := aT_of (List.mem_of_getElem? (i := 1478) (by decide +kernel)) (by decide +kernel)
theorem mlX12_258 : Cond.methodLink RX12 258 yX12_goDown ∈ aT := aT_of (List.mem_of_getElem? (i := 1501) (by decide +kernel)) (by decide +kernel)
theorem mlX12_262 : Cond.methodLink RX12 262 yX12_giveSign ∈ aT := aT_of (List.mem_of_getElem? (i := 1505) (by decide +kernel)) (by decide +kernel)
theorem mlX12_265 : Cond.methodLink RX12 265 yX12_add ∈ aT := aT_of (List.mem_of_getElem? (i := 1509) (by decide +kernel)) (by decide +kernel)
theorem mlX12_268 : Cond.methodLink RX12 268 yX12_give ∈ aT := aT_of (List.mem_of_getElem? (i := 1482) (by decide +kernel)) (by decide +kernel)
theorem mlX12_276 : Cond.methodLink RX12 276 yX12_make ∈ aT := aT_of (List.mem_of_getElem? (i := 1466) (by decide +kernel)) (by decide +kernel)
theorem mlX12_279 : Cond.methodLink RX12 279 yX12_weightOf ∈ aT := aT_of (List.mem_of_getElem? (i := 1513) (by decide +kernel)) (by decide +kernel)
theorem mlX12_282 : Cond.methodLink RX12 282 yX12_franked ∈ aT := aT_of (List.mem_of_getElem? (i := 1414) (by decide +kernel)) (by decide +kernel)
theorem mlX12_289 : Cond.methodLink RX12 289 yX12_openMembers ∈ aT := aT_of (List.mem_of_getElem? (i := 1435) (by decide +kernel)) (by decide +kernel)
theorem mlX12_292 : Cond.methodLink RX12 292 yX12_isRun ∈ aT := aT_of (List.mem_of_getElem? (i := 1427) (by decide +kernel)) (by decide +kernel)
theorem mlX12_295 : Cond.methodLink RX12 295 yX12_lettersOf ∈ aT := aT_of (List.mem_of_getElem? (i := 1431) (by decide +kernel)) (by decide +kernel)
theorem mlX12_298 : Cond.methodLink RX12 298 yX12_letterOf ∈ aT := aT_of (List.mem_of_getElem? (i := 1458) (by decide +kernel)) (by decide +kernel)
theorem mlX12_301 : Cond.methodLink RX12 301 yX12_isLetter ∈ aT := aT_of (List.mem_of_getElem? (i := 1446) (by decide +kernel)) (by decide +kernel)
theorem mlX12_304 : Cond.methodLink RX12 304 yX12_membersOf ∈ aT := aT_of (List.mem_of_getElem? (i := 1450) (by decide +kernel)) (by decide +kernel)
theorem mlX12_307 : Cond.methodLink RX12 307 yX12_layLetter ∈ aT := aT_of (List.mem_of_getElem? (i := 1454) (by decide +kernel)) (by decide +kernel)
theorem mlX12_310 : Cond.methodLink RX12 310 yX12_keep ∈ aT := aT_of (List.mem_of_getElem? (i := 1532) (by decide +kernel)) (by decide +kernel)
theorem mlJxf58ca_59 : Cond.methodLink RJxf58ca 59 yJxf58ca_isNaN_12338 ∈ aT := aT_of (List.mem_of_getElem? (i := 1380) (by decide +kernel)) (by decide +kernel)
theorem mlJxf58ca_74 : Cond.methodLink RJxf58ca 74 ⟨"java/lang/Float", "floatToRawIntBits", "(F)I"⟩ ∈ aT := aT_of (List.mem_of_getElem? (i := 1383) (by decide +kernel)) (by decide +kernel)
theorem mlJ0_335 : Cond.methodLink RJ0 335 yJ0_coder_7d493 ∈ aT := aT_of (List.mem_of_getElem? (i := 644) (by decide +kernel)) (by decide +kernel)
theorem mlJ0_492 : Cond.methodLink RJ0 492 yJ0_isLatin1_aae02 ∈ aT := aT_of (List.mem_of_getElem? (i := 634) (by decide +kernel)) (by decide +kernel)
theorem mlJ0_505 : Cond.methodLink RJ0 505 yJ0_length_8abf5 ∈ aT := aT_of (List.mem_of_getElem? (i := 640) (by decide +kernel)) (by decide +kernel)
theorem mlJ0_633 : Cond.methodLink RJ0 633 yJ0_indexOf_7cf53 ∈ aT := aT_of (List.mem_of_getElem? (i := 630) (by decide +kernel)) (by decide +kernel)
theorem mlJ0_637 : Cond.methodLink RJ0 637 yJ1_indexOf_4cfef ∈ aT := aT_of (List.mem_of_getElem? (i := 648) (by decide +kernel)) (by decide +kernel)
theorem mlJ0_640 : Cond.methodLink RJ0 640 yJ2_indexOf_4cfef ∈ aT := aT_of (List.mem_of_getElem? (i := 663) (by decide +kernel)) (by decide +kernel)
theorem mlJ0_1062 : Cond.methodLink RJ0 1062 yJ3_checkFromToIndex_8c36e ∈ aT := aT_of (List.mem_of_getElem? (i := 683) (by decide +kernel)) (by decide +kernel)
theorem mlJ1_38 : Cond.methodLink RJ1 38 yJ9_min_7cf53 ∈ aT := aT_of (List.mem_of_getElem? (i := 657) (by decide +kernel)) (by decide +kernel)
theorem mlJ1_88 : Cond.methodLink RJ1 88 yJ1_canEncode_9a6ad ∈ aT := aT_of (List.mem_of_getElem? (i := 651) (by decide +kernel)) (by decide +kernel)
theorem mlJ1_92 : Cond.methodLink RJ1 92 yJ9_max_7cf53 ∈ aT := aT_of (List.mem_of_getElem? (i := 654) (by decide +kernel)) (by decide +kernel)
theorem mlJ1_95 : Cond.methodLink RJ1 95 yJ1_indexOfChar_4cfef ∈ aT := aT_of (List.mem_of_getElem? (i := 660) (by decide +kernel)) (by decide +kernel)
theorem mlJ2_48 : Cond.methodLink RJ2 48 yJ2_length_9d52b ∈ aT := aT_of (List.mem_of_getElem? (i := 675) (by decide +kernel)) (by decide +kernel)
theorem mlJ2_71 : Cond.methodLink RJ2 71 yJ2_getChar_3b067 ∈ aT := aT_of (List.mem_of_getElem? (i := 689) (by decide +kernel)) (by decide +kernel)
theorem mlJ2_96 : Cond.methodLink RJ2 96 yJ2_checkBoundsBeginEnd_d044e ∈ aT := aT_of (List.mem_of_getElem? (i := 672) (by decide +kernel)) (by decide +kernel)
theorem mlJ2_157 : Cond.methodLink RJ2 157 yJ11_highSurrogate_5068e ∈ aT := aT_of (List.mem_of_getElem? (i := 704) (by decide +kernel)) (by decide +kernel)
theorem mlJ2_161 : Cond.methodLink RJ2 161 yJ11_lowSurrogate_5068e ∈ aT := aT_of (List.mem_of_getElem? (i := 708) (by decide +kernel)) (by decide +kernel)
theorem mlJ2_164 : Cond.methodLink RJ2 164 yJ11_isValidCodePoint_9a6ad ∈ aT := aT_of (List.mem_of_getElem? (i := 701) (by decide +kernel)) (by decide +kernel)
theorem mlJ2_183 : Cond.methodLink RJ2 183 yJ9_min_7cf53 ∈ aT := aT_of (List.mem_of_getElem? (i := 667) (by decide +kernel)) (by decide +kernel)
theorem mlJ2_224 : Cond.methodLink RJ2 224 yJ9_max_7cf53 ∈ aT := aT_of (List.mem_of_getElem? (i := 666) (by decide +kernel)) (by decide +kernel)
theorem mlJ2_228 : Cond.methodLink RJ2 228 yJ2_indexOfChar_4cfef ∈ aT := aT_of (List.mem_of_getElem? (i := 669) (by decide +kernel)) (by decide +kernel)
theorem mlJ2_232 : Cond.methodLink RJ2 232 yJ2_indexOfSupplementary_4cfef ∈ aT := aT_of (List.mem_of_getElem? (i := 698) (by decide +kernel)) (by decide +kernel)
theorem mlJ2_241 : Cond.methodLink RJ2 241 yJ0_checkBoundsBeginEnd_23922 ∈ aT := aT_of (List.mem_of_getElem? (i := 678) (by decide +kernel)) (by decide +kernel)
theorem mlJ2_244 : Cond.methodLink RJ2 244 yJ2_indexOfCharUnsafe_4cfef ∈ aT := aT_of (List.mem_of_getElem? (i := 686) (by decide +kernel)) (by decide +kernel)
section AFIELDS
variable {T : aMt} {r mc ms : Nat} {Q : Option Value → aS → aV → Prop} {QX : String → aS → aV → Prop} {kc ks pc : Nat} {lv : List (Option Value)} {st : List Value} {S : aS} {V : aV}
theorem flX0_14 : Cond.fieldLink RX0 14 (TX0 0).1 (TX0 0).2.1 (TX0 0).2.2.1 ∈ aT := aT_of (List.mem_of_getElem? (i := 318) (by decide +kernel)) (by decide +kernel)
theorem gfX0_14 {a : Nat} {v : Value} (hT : T.1.cls = RX0) (d : decode T.2.1 pc = .ok (.getfield 14, 3)) (hs : (S.1 a).1 = 0) (hv : V a 0 = v) (kk : R T r mc ms Q QX kc ks (pc + 3) lv (v :: st) S V) : R T r mc ms Q QX kc ks pc lv (.ref a :: st) S V :=
  R_get (ci := 0) (k := 0) (T0 := TX0) (N := 7) rfl (by decide) (by decide) inX0 (by rw [hT]; exact flX0_14) d hs hv kk
theorem pfX0_14 {a : Nat} {x : Nat} (hT : T.1.cls = RX0) (hI : T.1.name = "<init>") (d : decode T.2.1 pc = .ok (.putfield 14, 3)) (hs : (S.1 a).1 = 0)  (kk : R T r mc ms Q QX kc ks (pc + 3) lv st S (a_up V a 0 (.ref x))) : R T r mc ms Q QX kc ks pc lv (.ref x :: .ref a :: st) S V :=
  R_putF (ci := 0) (k := 0) (T0 := TX0) (N := 7) (ty0 := tyX0) (ty := tyX0 0) rfl (by decide) (by decide) inX0 tyX0_ok nmX0 (by rw [hT]; exact flX0_14) rfl hI (by rw [hT]; rfl) (tyX0_ok 0 (by decide)) rfl rfl d hs kk
theorem flX0_20 : Cond.fieldLink RX0 20 (TX0 1).1 (TX0 1).2.1 (TX0 1).2.2.1 ∈ aT := aT_of (List.mem_of_getElem? (i := 320) (by decide +kernel)) (by decide +kernel)
theorem gfX0_20 {a : Nat} {v : Value} (hT : T.1.cls = RX0) (d : decode T.2.1 pc = .ok (.getfield 20, 3)) (hs : (S.1 a).1 = 0) (hv : V a 1 = v) (kk : R T r mc ms Q QX kc ks (pc + 3) lv (v :: st) S V) : R T r mc ms Q QX kc ks pc lv (.ref a :: st) S V :=
  R_get (ci := 0) (k := 1) (T0 := TX0) (N := 7) rfl (by decide) (by decide) inX0 (by rw [hT]; exact flX0_20) d hs hv kk
theorem pfX0_20 {a : Nat} {x : Nat} (hT : T.1.cls = RX0) (hI : T.1.name = "<init>") (d : decode T.2.1 pc = .ok (.putfield 20, 3)) (hs : (S.1 a).1 = 0)  (kk : R T r mc ms Q QX kc ks (pc + 3) lv st S (a_up V a 1 (.ref x))) : R T r mc ms Q QX kc ks pc lv (.ref x :: .ref a :: st) S V :=
  R_putF (ci := 0) (k := 1) (T0 := TX0) (N := 7) (ty0 := tyX0) (ty := tyX0 1) rfl (by decide) (by decide) inX0 tyX0_ok nmX0 (by rw [hT]; exact flX0_20) rfl hI (by rw [hT]; rfl) (tyX0_ok 1 (by decide)) rfl rfl d hs kk
theorem flX0_23 : Cond.fieldLink RX0 23 (TX0 2).1 (TX0 2).2.1 (TX0 2).2.2.1 ∈ aT := aT_of (List.mem_of_getElem? (i := 322) (by decide +kernel)) (by decide +kernel)
theorem gfX0_23 {a : Nat} {v : Value} (hT : T.1.cls = RX0) (d : decode T.2.1 pc = .ok (.getfield 23, 3)) (hs : (S.1 a).1 = 0) (hv : V a 2 = v) (kk : R T r mc ms Q QX kc ks (pc + 3) lv (v :: st) S V) : R T r mc ms Q QX kc ks pc lv (.ref a :: st) S V :=
  R_get (ci := 0) (k := 2) (T0 := TX0) (N := 7) rfl (by decide) (by decide) inX0 (by rw [hT]; exact flX0_23) d hs hv kk
theorem pfX0_23 {a : Nat} {x : Nat} (hT : T.1.cls = RX0) (hI : T.1.name = "<init>") (d : decode T.2.1 pc = .ok (.putfield 23, 3)) (hs : (S.1 a).1 = 0)  (kk : R T r mc ms Q QX kc ks (pc + 3) lv st S (a_up V a 2 (.ref x))) : R T r mc ms Q QX kc ks pc lv (.ref x :: .ref a :: st) S V :=
  R_putF (ci := 0) (k := 2) (T0 := TX0) (N := 7) (ty0 := tyX0) (ty := tyX0 2) rfl (by decide) (by decide) inX0 tyX0_ok nmX0 (by rw [hT]; exact flX0_23) rfl hI (by rw [hT]; rfl) (tyX0_ok 2 (by decide)) rfl rfl d hs kk
theorem flX0_26 : Cond.fieldLink RX0 26 (TX0 3).1 (TX0 3).2.1 (TX0 3).2.2.1 ∈ aT := aT_of (List.mem_of_getElem? (i := 324) (by decide +kernel)) (by decide +kernel)
theorem gfX0_26 {a : Nat} {v : Value} (hT : T.1.cls = RX0) (d : decode T.2.1 pc = .ok (.getfield 26, 3)) (hs : (S.1 a).1 = 0) (hv : V a 3 = v) (kk : R T r mc ms Q QX kc ks (pc + 3) lv (v :: st) S V) : R T r mc ms Q QX kc ks pc lv (.ref a :: st) S V :=
  R_get (ci := 0) (k := 3) (T0 := TX0) (N := 7) rfl (by decide) (by decide) inX0 (by rw [hT]; exact flX0_26) d hs hv kk
theorem pfX0_26 {a : Nat} {x : Nat} (hT : T.1.cls = RX0) (hI : T.1.name = "<init>") (d : decode T.2.1 pc = .ok (.putfield 26, 3)) (hs : (S.1 a).1 = 0)  (kk : R T r mc ms Q QX kc ks (pc + 3) lv st S (a_up V a 3 (.ref x))) : R T r mc ms Q QX kc ks pc lv (.ref x :: .ref a :: st) S V :=
  R_putF (ci := 0) (k := 3) (T0 := TX0) (N := 7) (ty0 := tyX0) (ty := tyX0 3) rfl (by decide) (by decide) inX0 tyX0_ok nmX0 (by rw [hT]; exact flX0_26) rfl hI (by rw [hT]; rfl) (tyX0_ok 3 (by decide)) rfl rfl d hs kk
theorem flX0_29 : Cond.fieldLinkNest RX0 29 (TX6 1).1 (TX6 1).2.1 (TX6 1).2.2.1 "MergePost" ∈ aN := aN_of (List.mem_of_getElem? (i := 65) (by decide +kernel)) (by decide +kernel)
theorem pfX0_29 {a : Nat} {x : Int32} (hT : T.1.cls = RX0) (d : decode T.2.1 pc = .ok (.putfield 29, 3)) (hs : (S.1 a).1 = 6)  (kk : R T r mc ms Q QX kc ks (pc + 3) lv st S (a_up V a 1 (.int x))) : R T r mc ms Q QX kc ks pc lv (.int x :: .ref a :: st) S V :=
  R_putN (ci := 6) (k := 1) (T0 := TX6) (N := 2) (ty0 := tyX6) (ty := tyX6 1) rfl (by decide) (by decide) inX6 tyX6_ok nmX6 (by rw [hT]; exact flX0_29) rfl (tyX6_ok 1 (by decide)) rfl rfl d hs kk
theorem flX0_59 : Cond.fieldLink RX0 59 (TX0 4).1 (TX0 4).2.1 (TX0 4).2.2.1 ∈ aT := aT_of (List.mem_of_getElem? (i := 327) (by decide +kernel)) (by decide +kernel)
theorem gfX0_59 {a : Nat} {v : Value} (hT : T.1.cls = RX0) (d : decode T.2.1 pc = .ok (.getfield 59, 3)) (hs : (S.1 a).1 = 0) (hv : V a 4 = v) (kk : R T r mc ms Q QX kc ks (pc + 3) lv (v :: st) S V) : R T r mc ms Q QX kc ks pc lv (.ref a :: st) S V :=
  R_get (ci := 0) (k := 4) (T0 := TX0) (N := 7) rfl (by decide) (by decide) inX0 (by rw [hT]; exact flX0_59) d hs hv kk
theorem pfX0_59 {a : Nat} {x : Int32} (hT : T.1.cls = RX0) (d : decode T.2.1 pc = .ok (.putfield 59, 3)) (hs : (S.1 a).1 = 0)  (kk : R T r mc ms Q QX kc ks (pc + 3) lv st S (a_up V a 4 (.int x))) : R T r mc ms Q QX kc ks pc lv (.int x :: .ref a :: st) S V :=
  R_put (ci := 0) (k := 4) (T0 := TX0) (N := 7) (ty0 := tyX0) (ty := tyX0 4) rfl (by decide) (by decide) inX0 tyX0_ok nmX0 (by rw [hT]; exact flX0_59) rfl (tyX0_ok 4 (by decide)) rfl rfl d hs kk
theorem flX0_62 : Cond.fieldLink RX0 62 (TX0 5).1 (TX0 5).2.1 (TX0 5).2.2.1 ∈ aT := aT_of (List.mem_of_getElem? (i := 330) (by decide +kernel)) (by decide +kernel)
theorem gfX0_62 {a : Nat} {v : Value} (hT : T.1.cls = RX0) (d : decode T.2.1 pc = .ok (.getfield 62, 3)) (hs : (S.1 a).1 = 0) (hv : V a 5 = v) (kk : R T r mc ms Q QX kc ks (pc + 3) lv (v :: st) S V) : R T r mc ms Q QX kc ks pc lv (.ref a :: st) S V :=
  R_get (ci := 0) (k := 5) (T0 := TX0) (N := 7) rfl (by decide) (by decide) inX0 (by rw [hT]; exact flX0_62) d hs hv kk
theorem pfX0_62 {a : Nat} {x : Int32} (hT : T.1.cls = RX0) (d : decode T.2.1 pc = .ok (.putfield 62, 3)) (hs : (S.1 a).1 = 0)  (kk : R T r mc ms Q QX kc ks (pc + 3) lv st S (a_up V a 5 (.int x))) : R T r mc ms Q QX kc ks pc lv (.int x :: .ref a :: st) S V :=
  R_put (ci := 0) (k := 5) (T0 := TX0) (N := 7) (ty0 := tyX0) (ty := tyX0 5) rfl (by decide) (by decide) inX0 tyX0_ok nmX0 (by rw [hT]; exact flX0_62) rfl (tyX0_ok 5 (by decide)) rfl rfl d hs kk
theorem flX0_65 : Cond.fieldLink RX0 65 (TX0 6).1 (TX0 6).2.1 (TX0 6).2.2.1 ∈ aT := aT_of (List.mem_of_getElem? (i := 333) (by decide +kernel)) (by decide +kernel)
theorem gfX0_65 {a : Nat} {v : Value} (hT : T.1.cls = RX0) (d : decode T.2.1 pc = .ok (.getfield 65, 3)) (hs : (S.1 a).1 = 0) (hv : V a 6 = v) (kk : R T r mc ms Q QX kc ks (pc + 3) lv (v :: st) S V) : R T r mc ms Q QX kc ks pc lv (.ref a :: st) S V :=
  R_get (ci := 0) (k := 6) (T0 := TX0) (N := 7) rfl (by decide) (by decide) inX0 (by rw [hT]; exact flX0_65) d hs hv kk
theorem pfX0_65 {a : Nat} {x : Int32} (hT : T.1.cls = RX0) (d : decode T.2.1 pc = .ok (.putfield 65, 3)) (hs : (S.1 a).1 = 0)  (kk : R T r mc ms Q QX kc ks (pc + 3) lv st S (a_up V a 6 (.int x))) : R T r mc ms Q QX kc ks pc lv (.int x :: .ref a :: st) S V :=
  R_put (ci := 0) (k := 6) (T0 := TX0) (N := 7) (ty0 := tyX0) (ty := tyX0 6) rfl (by decide) (by decide) inX0 tyX0_ok nmX0 (by rw [hT]; exact flX0_65) rfl (tyX0_ok 6 (by decide)) rfl rfl d hs kk
theorem flX1_11 : Cond.fieldLink RX1 11 (TX1 0).1 (TX1 0).2.1 (TX1 0).2.2.1 ∈ aT := aT_of (List.mem_of_getElem? (i := 349) (by decide +kernel)) (by decide +kernel)
theorem gfX1_11 {a : Nat} {v : Value} (hT : T.1.cls = RX1) (d : decode T.2.1 pc = .ok (.getfield 11, 3)) (hs : (S.1 a).1 = 1) (hv : V a 0 = v) (kk : R T r mc ms Q QX kc ks (pc + 3) lv (v :: st) S V) : R T r mc ms Q QX kc ks pc lv (.ref a :: st) S V :=
  R_get (ci := 1) (k := 0) (T0 := TX1) (N := 6) rfl (by decide) (by decide) inX1 (by rw [hT]; exact flX1_11) d hs hv kk
theorem pfX1_11 {a : Nat} {x : Nat} (hT : T.1.cls = RX1) (hI : T.1.name = "<init>") (d : decode T.2.1 pc = .ok (.putfield 11, 3)) (hs : (S.1 a).1 = 1)  (kk : R T r mc ms Q QX kc ks (pc + 3) lv st S (a_up V a 0 (.ref x))) : R T r mc ms Q QX kc ks pc lv (.ref x :: .ref a :: st) S V :=
  R_putF (ci := 1) (k := 0) (T0 := TX1) (N := 6) (ty0 := tyX1) (ty := tyX1 0) rfl (by decide) (by decide) inX1 tyX1_ok nmX1 (by rw [hT]; exact flX1_11) rfl hI (by rw [hT]; rfl) (tyX1_ok 0 (by decide)) rfl rfl d hs kk
theorem flX1_18 : Cond.fieldLink RX1 18 (TX1 1).1 (TX1 1).2.1 (TX1 1).2.2.1 ∈ aT := aT_of (List.mem_of_getElem? (i := 352) (by decide +kernel)) (by decide +kernel)
theorem gfX1_18 {a : Nat} {v : Value} (hT : T.1.cls = RX1) (d : decode T.2.1 pc = .ok (.getfield 18, 3)) (hs : (S.1 a).1 = 1) (hv : V a 1 = v) (kk : R T r mc ms Q QX kc ks (pc + 3) lv (v :: st) S V) : R T r mc ms Q QX kc ks pc lv (.ref a :: st) S V :=
  R_get (ci := 1) (k := 1) (T0 := TX1) (N := 6) rfl (by decide) (by decide) inX1 (by rw [hT]; exact flX1_18) d hs hv kk
theorem pfX1_18 {a : Nat} {x : Nat} (hT : T.1.cls = RX1) (d : decode T.2.1 pc = .ok (.putfield 18, 3)) (hs : (S.1 a).1 = 1)  (kk : R T r mc ms Q QX kc ks (pc + 3) lv st S (a_up V a 1 (.ref x))) : R T r mc ms Q QX kc ks pc lv (.ref x :: .ref a :: st) S V :=
  R_put (ci := 1) (k := 1) (T0 := TX1) (N := 6) (ty0 := tyX1) (ty := tyX1 1) rfl (by decide) (by decide) inX1 tyX1_ok nmX1 (by rw [hT]; exact flX1_18) rfl (tyX1_ok 1 (by decide)) rfl rfl d hs kk
theorem flX1_22 : Cond.fieldLink RX1 22 (TX1 2).1 (TX1 2).2.1 (TX1 2).2.2.1 ∈ aT := aT_of (List.mem_of_getElem? (i := 353) (by decide +kernel)) (by decide +kernel)
theorem gfX1_22 {a : Nat} {v : Value} (hT : T.1.cls = RX1) (d : decode T.2.1 pc = .ok (.getfield 22, 3)) (hs : (S.1 a).1 = 1) (hv : V a 2 = v) (kk : R T r mc ms Q QX kc ks (pc + 3) lv (v :: st) S V) : R T r mc ms Q QX kc ks pc lv (.ref a :: st) S V :=
  R_get (ci := 1) (k := 2) (T0 := TX1) (N := 6) rfl (by decide) (by decide) inX1 (by rw [hT]; exact flX1_22) d hs hv kk
theorem pfX1_22 {a : Nat} {x : Nat} (hT : T.1.cls = RX1) (hI : T.1.name = "<init>") (d : decode T.2.1 pc = .ok (.putfield 22, 3)) (hs : (S.1 a).1 = 1)  (kk : R T r mc ms Q QX kc ks (pc + 3) lv st S (a_up V a 2 (.ref x))) : R T r mc ms Q QX kc ks pc lv (.ref x :: .ref a :: st) S V :=
  R_putF (ci := 1) (k := 2) (T0 := TX1) (N := 6) (ty0 := tyX1) (ty := tyX1 2) rfl (by decide) (by decide) inX1 tyX1_ok nmX1 (by rw [hT]; exact flX1_22) rfl hI (by rw [hT]; rfl) (tyX1_ok 2 (by decide)) rfl rfl d hs kk
theorem flX1_26 : Cond.fieldLink RX1 26 (TX1 3).1 (TX1 3).2.1 (TX1 3).2.2.1 ∈ aT := aT_of (List.mem_of_getElem? (i := 354) (by decide +kernel)) (by decide +kernel)
theorem gfX1_26 {a : Nat} {v : Value} (hT : T.1.cls = RX1) (d : decode T.2.1 pc = .ok (.getfield 26, 3)) (hs : (S.1 a).1 = 1) (hv : V a 3 = v) (kk : R T r mc ms Q QX kc ks (pc + 3) lv (v :: st) S V) : R T r mc ms Q QX kc ks pc lv (.ref a :: st) S V :=
  R_get (ci := 1) (k := 3) (T0 := TX1) (N := 6) rfl (by decide) (by decide) inX1 (by rw [hT]; exact flX1_26) d hs hv kk
theorem pfX1_26 {a : Nat} {x : Nat} (hT : T.1.cls = RX1) (hI : T.1.name = "<init>") (d : decode T.2.1 pc = .ok (.putfield 26, 3)) (hs : (S.1 a).1 = 1)  (kk : R T r mc ms Q QX kc ks (pc + 3) lv st S (a_up V a 3 (.ref x))) : R T r mc ms Q QX kc ks pc lv (.ref x :: .ref a :: st) S V :=
  R_putF (ci := 1) (k := 3) (T0 := TX1) (N := 6) (ty0 := tyX1) (ty := tyX1 3) rfl (by decide) (by decide) inX1 tyX1_ok nmX1 (by rw [hT]; exact flX1_26) rfl hI (by rw [hT]; rfl) (tyX1_ok 3 (by decide)) rfl rfl d hs kk
theorem flX1_29 : Cond.fieldLink RX1 29 (TX1 4).1 (TX1 4).2.1 (TX1 4).2.2.1 ∈ aT := aT_of (List.mem_of_getElem? (i := 356) (by decide +kernel)) (by decide +kernel)
theorem gfX1_29 {a : Nat} {v : Value} (hT : T.1.cls = RX1) (d : decode T.2.1 pc = .ok (.getfield 29, 3)) (hs : (S.1 a).1 = 1) (hv : V a 4 = v) (kk : R T r mc ms Q QX kc ks (pc + 3) lv (v :: st) S V) : R T r mc ms Q QX kc ks pc lv (.ref a :: st) S V :=
  R_get (ci := 1) (k := 4) (T0 := TX1) (N := 6) rfl (by decide) (by decide) inX1 (by rw [hT]; exact flX1_29) d hs hv kk
theorem pfX1_29 {a : Nat} {x : Nat} (hT : T.1.cls = RX1) (hI : T.1.name = "<init>") (d : decode T.2.1 pc = .ok (.putfield 29, 3)) (hs : (S.1 a).1 = 1)  (kk : R T r mc ms Q QX kc ks (pc + 3) lv st S (a_up V a 4 (.ref x))) : R T r mc ms Q QX kc ks pc lv (.ref x :: .ref a :: st) S V :=
  R_putF (ci := 1) (k := 4) (T0 := TX1) (N := 6) (ty0 := tyX1) (ty := tyX1 4) rfl (by decide) (by decide) inX1 tyX1_ok nmX1 (by rw [hT]; exact flX1_29) rfl hI (by rw [hT]; rfl) (tyX1_ok 4 (by decide)) rfl rfl d hs kk
theorem flX1_36 : Cond.fieldLink RX1 36 (TX1 5).1 (TX1 5).2.1 (TX1 5).2.2.1 ∈ aT := aT_of (List.mem_of_getElem? (i := 357) (by decide +kernel)) (by decide +kernel)
theorem gfX1_36 {a : Nat} {v : Value} (hT : T.1.cls = RX1) (d : decode T.2.1 pc = .ok (.getfield 36, 3)) (hs : (S.1 a).1 = 1) (hv : V a 5 = v) (kk : R T r mc ms Q QX kc ks (pc + 3) lv (v :: st) S V) : R T r mc ms Q QX kc ks pc lv (.ref a :: st) S V :=
  R_get (ci := 1) (k := 5) (T0 := TX1) (N := 6) rfl (by decide) (by decide) inX1 (by rw [hT]; exact flX1_36) d hs hv kk
theorem pfX1_36 {a : Nat} {x : Int32} (hT : T.1.cls = RX1) (d : decode T.2.1 pc = .ok (.putfield 36, 3)) (hs : (S.1 a).1 = 1)  (kk : R T r mc ms Q QX kc ks (pc + 3) lv st S (a_up V a 5 (.int x))) : R T r mc ms Q QX kc ks pc lv (.int x :: .ref a :: st) S V :=
  R_put (ci := 1) (k := 5) (T0 := TX1) (N := 6) (ty0 := tyX1) (ty := tyX1 5) rfl (by decide) (by decide) inX1 tyX1_ok nmX1 (by rw [hT]; exact flX1_36) rfl (tyX1_ok 5 (by decide)) rfl rfl d hs kk
theorem flX10_14 : Cond.fieldLink RX10 14 (TX10 0).1 (TX10 0).2.1 (TX10 0).2.2.1 ∈ aT := aT_of (List.mem_of_getElem? (i := 197) (by decide +kernel)) (by decide +kernel)
theorem gfX10_14 {a : Nat} {v : Value} (hT : T.1.cls = RX10) (d : decode T.2.1 pc = .ok (.getfield 14, 3)) (hs : (S.1 a).1 = 10) (hv : V a 0 = v) (kk : R T r mc ms Q QX kc ks (pc + 3) lv (v :: st) S V) : R T r mc ms Q QX kc ks pc lv (.ref a :: st) S V :=
  R_get (ci := 10) (k := 0) (T0 := TX10) (N := 5) rfl (by decide) (by decide) inX10 (by rw [hT]; exact flX10_14) d hs hv kk
theorem pfX10_14 {a : Nat} {x : Nat} (hT : T.1.cls = RX10) (hI : T.1.name = "<init>") (d : decode T.2.1 pc = .ok (.putfield 14, 3)) (hs : (S.1 a).1 = 10)  (kk : R T r mc ms Q QX kc ks (pc + 3) lv st S (a_up V a 0 (.ref x))) : R T r mc ms Q QX kc ks pc lv (.ref x :: .ref a :: st) S V :=
  R_putF (ci := 10) (k := 0) (T0 := TX10) (N := 5) (ty0 := tyX10) (ty := tyX10 0) rfl (by decide) (by decide) inX10 tyX10_ok nmX10 (by rw [hT]; exact flX10_14) rfl hI (by rw [hT]; rfl) (tyX10_ok 0 (by decide)) rfl rfl d hs kk
theorem flX10_20 : Cond.fieldLink RX10 20 (TX10 1).1 (TX10 1).2.1 (TX10 1).2.2.1 ∈ aT := aT_of (List.mem_of_getElem? (i := 199) (by decide +kernel)) (by decide +kernel)
theorem gfX10_20 {a : Nat} {v : Value} (hT : T.1.cls = RX10) (d : decode T.2.1 pc = .ok (.getfield 20, 3)) (hs : (S.1 a).1 = 10) (hv : V a 1 = v) (kk : R T r mc ms Q QX kc ks (pc + 3) lv (v :: st) S V) : R T r mc ms Q QX kc ks pc lv (.ref a :: st) S V :=
  R_get (ci := 10) (k := 1) (T0 := TX10) (N := 5) rfl (by decide) (by decide) inX10 (by rw [hT]; exact flX10_20) d hs hv kk
theorem pfX10_20 {a : Nat} {x : Nat} (hT : T.1.cls = RX10) (hI : T.1.name = "<init>") (d : decode T.2.1 pc = .ok (.putfield 20, 3)) (hs : (S.1 a).1 = 10)  (kk : R T r mc ms Q QX kc ks (pc + 3) lv st S (a_up V a 1 (.ref x))) : R T r mc ms Q QX kc ks pc lv (.ref x :: .ref a :: st) S V :=
  R_putF (ci := 10) (k := 1) (T0 := TX10) (N := 5) (ty0 := tyX10) (ty := tyX10 1) rfl (by decide) (by decide) inX10 tyX10_ok nmX10 (by rw [hT]; exact flX10_20) rfl hI (by rw [hT]; rfl) (tyX10_ok 1 (by decide)) rfl rfl d hs kk
theorem flX10_24 : Cond.fieldLink RX10 24 (TX10 2).1 (TX10 2).2.1 (TX10 2).2.2.1 ∈ aT := aT_of (List.mem_of_getElem? (i := 200) (by decide +kernel)) (by decide +kernel)
theorem gfX10_24 {a : Nat} {v : Value} (hT : T.1.cls = RX10) (d : decode T.2.1 pc = .ok (.getfield 24, 3)) (hs : (S.1 a).1 = 10) (hv : V a 2 = v) (kk : R T r mc ms Q QX kc ks (pc + 3) lv (v :: st) S V) : R T r mc ms Q QX kc ks pc lv (.ref a :: st) S V :=
  R_get (ci := 10) (k := 2) (T0 := TX10) (N := 5) rfl (by decide) (by decide) inX10 (by rw [hT]; exact flX10_24) d hs hv kk
theorem pfX10_24 {a : Nat} {x : Nat} (hT : T.1.cls = RX10) (hI : T.1.name = "<init>") (d : decode T.2.1 pc = .ok (.putfield 24, 3)) (hs : (S.1 a).1 = 10)  (kk : R T r mc ms Q QX kc ks (pc + 3) lv st S (a_up V a 2 (.ref x))) : R T r mc ms Q QX kc ks pc lv (.ref x :: .ref a :: st) S V :=
  R_putF (ci := 10) (k := 2) (T0 := TX10) (N := 5) (ty0 := tyX10) (ty := tyX10 2) rfl (by decide) (by decide) inX10 tyX10_ok nmX10 (by rw [hT]; exact flX10_24) rfl hI (by rw [hT]; rfl) (tyX10_ok 2 (by decide)) rfl rfl d hs kk
theorem flX10_27 : Cond.fieldLinkNest RX10 27 (TX6 1).1 (TX6 1).2.1 (TX6 1).2.2.1 "MergePost" ∈ aN := aN_of (List.mem_of_getElem? (i := 64) (by decide +kernel)) (by decide +kernel)
theorem gfX10_27 {a : Nat} {v : Value} (hT : T.1.cls = RX10) (d : decode T.2.1 pc = .ok (.getfield 27, 3)) (hs : (S.1 a).1 = 6) (hv : V a 1 = v) (kk : R T r mc ms Q QX kc ks (pc + 3) lv (v :: st) S V) : R T r mc ms Q QX kc ks pc lv (.ref a :: st) S V :=
  R_getN (ci := 6) (k := 1) (T0 := TX6) (N := 2) rfl (by decide) (by decide) inX6 (by rw [hT]; exact flX10_27) d hs hv kk
theorem pfX10_27 {a : Nat} {x : Int32} (hT : T.1.cls = RX10) (d : decode T.2.1 pc = .ok (.putfield 27, 3)) (hs : (S.1 a).1 = 6)  (kk : R T r mc ms Q QX kc ks (pc + 3) lv st S (a_up V a 1 (.int x))) : R T r mc ms Q QX kc ks pc lv (.int x :: .ref a :: st) S V :=
  R_putN (ci := 6) (k := 1) (T0 := TX6) (N := 2) (ty0 := tyX6) (ty := tyX6 1) rfl (by decide) (by decide) inX6 tyX6_ok nmX6 (by rw [hT]; exact flX10_27) rfl (tyX6_ok 1 (by decide)) rfl rfl d hs kk
theorem flX10_33 : Cond.fieldLink RX10 33 (TX10 3).1 (TX10 3).2.1 (TX10 3).2.2.1 ∈ aT := aT_of (List.mem_of_getElem? (i := 201) (by decide +kernel)) (by decide +kernel)
theorem gfX10_33 {a : Nat} {v : Value} (hT : T.1.cls = RX10) (d : decode T.2.1 pc = .ok (.getfield 33, 3)) (hs : (S.1 a).1 = 10) (hv : V a 3 = v) (kk : R T r mc ms Q QX kc ks (pc + 3) lv (v :: st) S V) : R T r mc ms Q QX kc ks pc lv (.ref a :: st) S V :=
  R_get (ci := 10) (k := 3) (T0 := TX10) (N := 5) rfl (by decide) (by decide) inX10 (by rw [hT]; exact flX10_33) d hs hv kk
theorem pfX10_33 {a : Nat} {x : Int32} (hT : T.1.cls = RX10) (d : decode T.2.1 pc = .ok (.putfield 33, 3)) (hs : (S.1 a).1 = 10)  (kk : R T r mc ms Q QX kc ks (pc + 3) lv st S (a_up V a 3 (.int x))) : R T r mc ms Q QX kc ks pc lv (.int x :: .ref a :: st) S V :=
  R_put (ci := 10) (k := 3) (T0 := TX10) (N := 5) (ty0 := tyX10) (ty := tyX10 3) rfl (by decide) (by decide) inX10 tyX10_ok nmX10 (by rw [hT]; exact flX10_33) rfl (tyX10_ok 3 (by decide)) rfl rfl d hs kk
theorem flX10_44 : Cond.fieldLinkNest RX10 44 (TX6 0).1 (TX6 0).2.1 (TX6 0).2.2.1 "MergePost" ∈ aN := aN_of (List.mem_of_getElem? (i := 63) (by decide +kernel)) (by decide +kernel)
theorem gfX10_44 {a : Nat} {v : Value} (hT : T.1.cls = RX10) (d : decode T.2.1 pc = .ok (.getfield 44, 3)) (hs : (S.1 a).1 = 6) (hv : V a 0 = v) (kk : R T r mc ms Q QX kc ks (pc + 3) lv (v :: st) S V) : R T r mc ms Q QX kc ks pc lv (.ref a :: st) S V :=
  R_getN (ci := 6) (k := 0) (T0 := TX6) (N := 2) rfl (by decide) (by decide) inX6 (by rw [hT]; exact flX10_44) d hs hv kk
theorem flX10_49 : Cond.fieldLink RX10 49 (TX10 4).1 (TX10 4).2.1 (TX10 4).2.2.1 ∈ aT := aT_of (List.mem_of_getElem? (i := 202) (by decide +kernel)) (by decide +kernel)
theorem gfX10_49 {a : Nat} {v : Value} (hT : T.1.cls = RX10) (d : decode T.2.1 pc = .ok (.getfield 49, 3)) (hs : (S.1 a).1 = 10) (hv : V a 4 = v) (kk : R T r mc ms Q QX kc ks (pc + 3) lv (v :: st) S V) : R T r mc ms Q QX kc ks pc lv (.ref a :: st) S V :=
  R_get (ci := 10) (k := 4) (T0 := TX10) (N := 5) rfl (by decide) (by decide) inX10 (by rw [hT]; exact flX10_49) d hs hv kk
theorem pfX10_49 {a : Nat} {x : Int32} (hT : T.1.cls = RX10) (d : decode T.2.1 pc = .ok (.putfield 49, 3)) (hs : (S.1 a).1 = 10) (hn : narrow .boolean (.int x) = .int x) (hf : fits .boolean (.int x) = true) (kk : R T r mc ms Q QX kc ks (pc + 3) lv st S (a_up V a 4 (.int x))) : R T r mc ms Q QX kc ks pc lv (.int x :: .ref a :: st) S V :=
  R_put (ci := 10) (k := 4) (T0 := TX10) (N := 5) (ty0 := tyX10) (ty := tyX10 4) rfl (by decide) (by decide) inX10 tyX10_ok nmX10 (by rw [hT]; exact flX10_49) rfl (tyX10_ok 4 (by decide)) hn hf d hs kk
theorem flX11_12 : Cond.fieldLink RX11 12 (TX11 0).1 (TX11 0).2.1 (TX11 0).2.2.1 ∈ aT := aT_of (List.mem_of_getElem? (i := 425) (by decide +kernel)) (by decide +kernel)
theorem gfX11_12 {a : Nat} {v : Value} (hT : T.1.cls = RX11) (d : decode T.2.1 pc = .ok (.getfield 12, 3)) (hs : (S.1 a).1 = 11) (hv : V a 0 = v) (kk : R T r mc ms Q QX kc ks (pc + 3) lv (v :: st) S V) : R T r mc ms Q QX kc ks pc lv (.ref a :: st) S V :=
  R_get (ci := 11) (k := 0) (T0 := TX11) (N := 8) rfl (by decide) (by decide) inX11 (by rw [hT]; exact flX11_12) d hs hv kk
theorem pfX11_12 {a : Nat} {x : Nat} (hT : T.1.cls = RX11) (hI : T.1.name = "<init>") (d : decode T.2.1 pc = .ok (.putfield 12, 3)) (hs : (S.1 a).1 = 11)  (kk : R T r mc ms Q QX kc ks (pc + 3) lv st S (a_up V a 0 (.ref x))) : R T r mc ms Q QX kc ks pc lv (.ref x :: .ref a :: st) S V :=
  R_putF (ci := 11) (k := 0) (T0 := TX11) (N := 8) (ty0 := tyX11) (ty := tyX11 0) rfl (by decide) (by decide) inX11 tyX11_ok nmX11 (by rw [hT]; exact flX11_12) rfl hI (by rw [hT]; rfl) (tyX11_ok 0 (by decide)) rfl rfl d hs kk
theorem flX11_19 : Cond.fieldLink RX11 19 (TX11 1).1 (TX11 1).2.1 (TX11 1).2.2.1 ∈ aT := aT_of (List.mem_of_getElem? (i := 426) (by decide +kernel)) (by decide +kernel)
theorem gfX11_19 {a : Nat} {v : Value} (hT : T.1.cls = RX11) (d : decode T.2.1 pc = .ok (.getfield 19, 3)) (hs : (S.1 a).1 = 11) (hv : V a 1 = v) (kk : R T r mc ms Q QX kc ks (pc + 3) lv (v :: st) S V) : R T r mc ms Q QX kc ks pc lv (.ref a :: st) S V :=
  R_get (ci := 11) (k := 1) (T0 := TX11) (N := 8) rfl (by decide) (by decide) inX11 (by rw [hT]; exact flX11_19) d hs hv kk
theorem pfX11_19 {a : Nat} {x : Nat} (hT : T.1.cls = RX11) (hI : T.1.name = "<init>") (d : decode T.2.1 pc = .ok (.putfield 19, 3)) (hs : (S.1 a).1 = 11)  (kk : R T r mc ms Q QX kc ks (pc + 3) lv st S (a_up V a 1 (.ref x))) : R T r mc ms Q QX kc ks pc lv (.ref x :: .ref a :: st) S V :=
  R_putF (ci := 11) (k := 1) (T0 := TX11) (N := 8) (ty0 := tyX11) (ty := tyX11 1) rfl (by decide) (by decide) inX11 tyX11_ok nmX11 (by rw [hT]; exact flX11_19) rfl hI (by rw [hT]; rfl) (tyX11_ok 1 (by decide)) rfl rfl d hs kk
theorem flX11_26 : Cond.fieldLink RX11 26 (TX11 2).1 (TX11 2).2.1 (TX11 2).2.2.1 ∈ aT := aT_of (List.mem_of_getElem? (i := 427) (by decide +kernel)) (by decide +kernel)
theorem gfX11_26 {a : Nat} {v : Value} (hT : T.1.cls = RX11) (d : decode T.2.1 pc = .ok (.getfield 26, 3)) (hs : (S.1 a).1 = 11) (hv : V a 2 = v) (kk : R T r mc ms Q QX kc ks (pc + 3) lv (v :: st) S V) : R T r mc ms Q QX kc ks pc lv (.ref a :: st) S V :=
  R_get (ci := 11) (k := 2) (T0 := TX11) (N := 8) rfl (by decide) (by decide) inX11 (by rw [hT]; exact flX11_26) d hs hv kk
theorem pfX11_26 {a : Nat} {x : Nat} (hT : T.1.cls = RX11) (hI : T.1.name = "<init>") (d : decode T.2.1 pc = .ok (.putfield 26, 3)) (hs : (S.1 a).1 = 11)  (kk : R T r mc ms Q QX kc ks (pc + 3) lv st S (a_up V a 2 (.ref x))) : R T r mc ms Q QX kc ks pc lv (.ref x :: .ref a :: st) S V :=
  R_putF (ci := 11) (k := 2) (T0 := TX11) (N := 8) (ty0 := tyX11) (ty := tyX11 2) rfl (by decide) (by decide) inX11 tyX11_ok nmX11 (by rw [hT]; exact flX11_26) rfl hI (by rw [hT]; rfl) (tyX11_ok 2 (by decide)) rfl rfl d hs kk
theorem flX11_33 : Cond.fieldLink RX11 33 (TX11 3).1 (TX11 3).2.1 (TX11 3).2.2.1 ∈ aT := aT_of (List.mem_of_getElem? (i := 428) (by decide +kernel)) (by decide +kernel)
theorem gfX11_33 {a : Nat} {v : Value} (hT : T.1.cls = RX11) (d : decode T.2.1 pc = .ok (.getfield 33, 3)) (hs : (S.1 a).1 = 11) (hv : V a 3 = v) (kk : R T r mc ms Q QX kc ks (pc + 3) lv (v :: st) S V) : R T r mc ms Q QX kc ks pc lv (.ref a :: st) S V :=
  R_get (ci := 11) (k := 3) (T0 := TX11) (N := 8) rfl (by decide) (by decide) inX11 (by rw [hT]; exact flX11_33) d hs hv kk
theorem pfX11_33 {a : Nat} {x : Nat} (hT : T.1.cls = RX11) (hI : T.1.name = "<init>") (d : decode T.2.1 pc = .ok (.putfield 33, 3)) (hs : (S.1 a).1 = 11)  (kk : R T r mc ms Q QX kc ks (pc + 3) lv st S (a_up V a 3 (.ref x))) : R T r mc ms Q QX kc ks pc lv (.ref x :: .ref a :: st) S V :=
  R_putF (ci := 11) (k := 3) (T0 := TX11) (N := 8) (ty0 := tyX11) (ty := tyX11 3) rfl (by decide) (by decide) inX11 tyX11_ok nmX11 (by rw [hT]; exact flX11_33) rfl hI (by rw [hT]; rfl) (tyX11_ok 3 (by decide)) rfl rfl d hs kk
theorem flX11_40 : Cond.fieldLink RX11 40 (TX11 4).1 (TX11 4).2.1 (TX11 4).2.2.1 ∈ aT := aT_of (List.mem_of_getElem? (i := 429) (by decide +kernel)) (by decide +kernel)
theorem gfX11_40 {a : Nat} {v : Value} (hT : T.1.cls = RX11) (d : decode T.2.1 pc = .ok (.getfield 40, 3)) (hs : (S.1 a).1 = 11) (hv : V a 4 = v) (kk : R T r mc ms Q QX kc ks (pc + 3) lv (v :: st) S V) : R T r mc ms Q QX kc ks pc lv (.ref a :: st) S V :=
  R_get (ci := 11) (k := 4) (T0 := TX11) (N := 8) rfl (by decide) (by decide) inX11 (by rw [hT]; exact flX11_40) d hs hv kk
theorem pfX11_40 {a : Nat} {x : Nat} (hT : T.1.cls = RX11) (hI : T.1.name = "<init>") (d : decode T.2.1 pc = .ok (.putfield 40, 3)) (hs : (S.1 a).1 = 11)  (kk : R T r mc ms Q QX kc ks (pc + 3) lv st S (a_up V a 4 (.ref x))) : R T r mc ms Q QX kc ks pc lv (.ref x :: .ref a :: st) S V :=
  R_putF (ci := 11) (k := 4) (T0 := TX11) (N := 8) (ty0 := tyX11) (ty := tyX11 4) rfl (by decide) (by decide) inX11 tyX11_ok nmX11 (by rw [hT]; exact flX11_40) rfl hI (by rw [hT]; rfl) (tyX11_ok 4 (by decide)) rfl rfl d hs kk
theorem flX11_46 : Cond.fieldLink RX11 46 (TX11 5).1 (TX11 5).2.1 (TX11 5).2.2.1 ∈ aT := aT_of (List.mem_of_getElem? (i := 430) (by decide +kernel)) (by decide +kernel)
theorem gfX11_46 {a : Nat} {v : Value} (hT : T.1.cls = RX11) (d : decode T.2.1 pc = .ok (.getfield 46, 3)) (hs : (S.1 a).1 = 11) (hv : V a 5 = v) (kk : R T r mc ms Q QX kc ks (pc + 3) lv (v :: st) S V) : R T r mc ms Q QX kc ks pc lv (.ref a :: st) S V :=
  R_get (ci := 11) (k := 5) (T0 := TX11) (N := 8) rfl (by decide) (by decide) inX11 (by rw [hT]; exact flX11_46) d hs hv kk
theorem pfX11_46 {a : Nat} {x : Nat} (hT : T.1.cls = RX11) (hI : T.1.name = "<init>") (d : decode T.2.1 pc = .ok (.putfield 46, 3)) (hs : (S.1 a).1 = 11)  (kk : R T r mc ms Q QX kc ks (pc + 3) lv st S (a_up V a 5 (.ref x))) : R T r mc ms Q QX kc ks pc lv (.ref x :: .ref a :: st) S V :=
  R_putF (ci := 11) (k := 5) (T0 := TX11) (N := 8) (ty0 := tyX11) (ty := tyX11 5) rfl (by decide) (by decide) inX11 tyX11_ok nmX11 (by rw [hT]; exact flX11_46) rfl hI (by rw [hT]; rfl) (tyX11_ok 5 (by decide)) rfl rfl d hs kk
theorem flX11_62 : Cond.fieldLinkNest RX11 62 (TX6 0).1 (TX6 0).2.1 (TX6 0).2.2.1 "MergePost" ∈ aN := aN_of (List.mem_of_getElem? (i := 62) (by decide +kernel)) (by decide +kernel)
theorem gfX11_62 {a : Nat} {v : Value} (hT : T.1.cls = RX11) (d : decode T.2.1 pc = .ok (.getfield 62, 3)) (hs : (S.1 a).1 = 6) (hv : V a 0 = v) (kk : R T r mc ms Q QX kc ks (pc + 3) lv (v :: st) S V) : R T r mc ms Q QX kc ks pc lv (.ref a :: st) S V :=
  R_getN (ci := 6) (k := 0) (T0 := TX6) (N := 2) rfl (by decide) (by decide) inX6 (by rw [hT]; exact flX11_62) d hs hv kk
theorem flX11_66 : Cond.fieldLinkNest RX11 66 (TX9 1).1 (TX9 1).2.1 (TX9 1).2.2.1 "MergePost" ∈ aN := aN_of (List.mem_of_getElem? (i := 53) (by decide +kernel)) (by decide +kernel)
theorem gfX11_66 {a : Nat} {v : Value} (hT : T.1.cls = RX11) (d : decode T.2.1 pc = .ok (.getfield 66, 3)) (hs : (S.1 a).1 = 9) (hv : V a 1 = v) (kk : R T r mc ms Q QX kc ks (pc + 3) lv (v :: st) S V) : R T r mc ms Q QX kc ks pc lv (.ref a :: st) S V :=
  R_getN (ci := 9) (k := 1) (T0 := TX9) (N := 2) rfl (by decide) (by decide) inX9 (by rw [hT]; exact flX11_66) d hs hv kk
theorem flX11_93 : Cond.fieldLinkNest RX11 93 (TX6 1).1 (TX6 1).2.1 (TX6 1).2.2.1 "MergePost" ∈ aN := aN_of (List.mem_of_getElem? (i := 67) (by decide +kernel)) (by decide +kernel)
theorem gfX11_93 {a : Nat} {v : Value} (hT : T.1.cls = RX11) (d : decode T.2.1 pc = .ok (.getfield 93, 3)) (hs : (S.1 a).1 = 6) (hv : V a 1 = v) (kk : R T r mc ms Q QX kc ks (pc + 3) lv (v :: st) S V) : R T r mc ms Q QX kc ks pc lv (.ref a :: st) S V :=
  R_getN (ci := 6) (k := 1) (T0 := TX6) (N := 2) rfl (by decide) (by decide) inX6 (by rw [hT]; exact flX11_93) d hs hv kk
theorem flX11_99 : Cond.fieldLinkNest RX11 99 (TX1 5).1 (TX1 5).2.1 (TX1 5).2.2.1 "MergePost" ∈ aN := aN_of (List.mem_of_getElem? (i := 249) (by decide +kernel)) (by decide +kernel)
theorem gfX11_99 {a : Nat} {v : Value} (hT : T.1.cls = RX11) (d : decode T.2.1 pc = .ok (.getfield 99, 3)) (hs : (S.1 a).1 = 1) (hv : V a 5 = v) (kk : R T r mc ms Q QX kc ks (pc + 3) lv (v :: st) S V) : R T r mc ms Q QX kc ks pc lv (.ref a :: st) S V :=
  R_getN (ci := 1) (k := 5) (T0 := TX1) (N := 6) rfl (by decide) (by decide) inX1 (by rw [hT]; exact flX11_99) d hs hv kk
theorem flX11_121 : Cond.fieldLinkNest RX11 121 (TX1 0).1 (TX1 0).2.1 (TX1 0).2.2.1 "MergePost" ∈ aN := aN_of (List.mem_of_getElem? (i := 242) (by decide +kernel)) (by decide +kernel)
theorem gfX11_121 {a : Nat} {v : Value} (hT : T.1.cls = RX11) (d : decode T.2.1 pc = .ok (.getfield 121, 3)) (hs : (S.1 a).1 = 1) (hv : V a 0 = v) (kk : R T r mc ms Q QX kc ks (pc + 3) lv (v :: st) S V) : R T r mc ms Q QX kc ks pc lv (.ref a :: st) S V :=
  R_getN (ci := 1) (k := 0) (T0 := TX1) (N := 6) rfl (by decide) (by decide) inX1 (by rw [hT]; exact flX11_121) d hs hv kk
theorem flX11_170 : Cond.fieldLinkNest RX11 170 (TX2 0).1 (TX2 0).2.1 (TX2 0).2.2.1 "MergePost" ∈ aN := aN_of (List.mem_of_getElem? (i := 280) (by decide +kernel)) (by decide +kernel)
theorem pfX11_170 {a : Nat} {x : Int32} (hT : T.1.cls = RX11) (d : decode T.2.1 pc = .ok (.putfield 170, 3)) (hs : (S.1 a).1 = 2)  (kk : R T r mc ms Q QX kc ks (pc + 3) lv st S (a_up V a 0 (.int x))) : R T r mc ms Q QX kc ks pc lv (.int x :: .ref a :: st) S V :=
  R_putN (ci := 2) (k := 0) (T0 := TX2) (N := 2) (ty0 := tyX2) (ty := tyX2 0) rfl (by decide) (by decide) inX2 tyX2_ok nmX2 (by rw [hT]; exact flX11_170) rfl (tyX2_ok 0 (by decide)) rfl rfl d hs kk
theorem flX11_173 : Cond.fieldLinkNest RX11 173 (TX2 1).1 (TX2 1).2.1 (TX2 1).2.2.1 "MergePost" ∈ aN := aN_of (List.mem_of_getElem? (i := 282) (by decide +kernel)) (by decide +kernel)
theorem pfX11_173 {a : Nat} {x : Int32} (hT : T.1.cls = RX11) (d : decode T.2.1 pc = .ok (.putfield 173, 3)) (hs : (S.1 a).1 = 2)  (kk : R T r mc ms Q QX kc ks (pc + 3) lv st S (a_up V a 1 (.int x))) : R T r mc ms Q QX kc ks pc lv (.int x :: .ref a :: st) S V :=
  R_putN (ci := 2) (k := 1) (T0 := TX2) (N := 2) (ty0 := tyX2) (ty := tyX2 1) rfl (by decide) (by decide) inX2 tyX2_ok nmX2 (by rw [hT]; exact flX11_173) rfl (tyX2_ok 1 (by decide)) rfl rfl d hs kk
theorem flX11_185 : Cond.fieldLink RX11 185 (TX11 6).1 (TX11 6).2.1 (TX11 6).2.2.1 ∈ aT := aT_of (List.mem_of_getElem? (i := 431) (by decide +kernel)) (by decide +kernel)
theorem gfX11_185 {a : Nat} {v : Value} (hT : T.1.cls = RX11) (d : decode T.2.1 pc = .ok (.getfield 185, 3)) (hs : (S.1 a).1 = 11) (hv : V a 6 = v) (kk : R T r mc ms Q QX kc ks (pc + 3) lv (v :: st) S V) : R T r mc ms Q QX kc ks pc lv (.ref a :: st) S V :=
  R_get (ci := 11) (k := 6) (T0 := TX11) (N := 8) rfl (by decide) (by decide) inX11 (by rw [hT]; exact flX11_185) d hs hv kk
theorem pfX11_185 {a : Nat} {x : Int32} (hT : T.1.cls = RX11) (d : decode T.2.1 pc = .ok (.putfield 185, 3)) (hs : (S.1 a).1 = 11)  (kk : R T r mc ms Q QX kc ks (pc + 3) lv st S (a_up V a 6 (.int x))) : R T r mc ms Q QX kc ks pc lv (.int x :: .ref a :: st) S V :=
  R_put (ci := 11) (k := 6) (T0 := TX11) (N := 8) (ty0 := tyX11) (ty := tyX11 6) rfl (by decide) (by decide) inX11 tyX11_ok nmX11 (by rw [hT]; exact flX11_185) rfl (tyX11_ok 6 (by decide)) rfl rfl d hs kk
theorem flX11_190 : Cond.fieldLinkNest RX11 190 (TX8 2).1 (TX8 2).2.1 (TX8 2).2.2.1 "MergePost" ∈ aN := aN_of (List.mem_of_getElem? (i := 302) (by decide +kernel)) (by decide +kernel)
theorem gfX11_190 {a : Nat} {v : Value} (hT : T.1.cls = RX11) (d : decode T.2.1 pc = .ok (.getfield 190, 3)) (hs : (S.1 a).1 = 8) (hv : V a 2 = v) (kk : R T r mc ms Q QX kc ks (pc + 3) lv (v :: st) S V) : R T r mc ms Q QX kc ks pc lv (.ref a :: st) S V :=
  R_getN (ci := 8) (k := 2) (T0 := TX8) (N := 5) rfl (by decide) (by decide) inX8 (by rw [hT]; exact flX11_190) d hs hv kk
theorem pfX11_190 {a : Nat} {x : Int32} (hT : T.1.cls = RX11) (d : decode T.2.1 pc = .ok (.putfield 190, 3)) (hs : (S.1 a).1 = 8)  (kk : R T r mc ms Q QX kc ks (pc + 3) lv st S (a_up V a 2 (.int x))) : R T r mc ms Q QX kc ks pc lv (.int x :: .ref a :: st) S V :=
  R_putN (ci := 8) (k := 2) (T0 := TX8) (N := 5) (ty0 := tyX8) (ty := tyX8 2) rfl (by decide) (by decide) inX8 tyX8_ok nmX8 (by rw [hT]; exact flX11_190) rfl (tyX8_ok 2 (by decide)) rfl rfl d hs kk
theorem flX11_193 : Cond.fieldLinkNest RX11 193 (TX8 3).1 (TX8 3).2.1 (TX8 3).2.2.1 "MergePost" ∈ aN := aN_of (List.mem_of_getElem? (i := 303) (by decide +kernel)) (by decide +kernel)
theorem gfX11_193 {a : Nat} {v : Value} (hT : T.1.cls = RX11) (d : decode T.2.1 pc = .ok (.getfield 193, 3)) (hs : (S.1 a).1 = 8) (hv : V a 3 = v) (kk : R T r mc ms Q QX kc ks (pc + 3) lv (v :: st) S V) : R T r mc ms Q QX kc ks pc lv (.ref a :: st) S V :=
  R_getN (ci := 8) (k := 3) (T0 := TX8) (N := 5) rfl (by decide) (by decide) inX8 (by rw [hT]; exact flX11_193) d hs hv kk
theorem pfX11_193 {a : Nat} {x : Int32} (hT : T.1.cls = RX11) (d : decode T.2.1 pc = .ok (.putfield 193, 3)) (hs : (S.1 a).1 = 8)  (kk : R T r mc ms Q QX kc ks (pc + 3) lv st S (a_up V a 3 (.int x))) : R T r mc ms Q QX kc ks pc lv (.int x :: .ref a :: st) S V :=
  R_putN (ci := 8) (k := 3) (T0 := TX8) (N := 5) (ty0 := tyX8) (ty := tyX8 3) rfl (by decide) (by decide) inX8 tyX8_ok nmX8 (by rw [hT]; exact flX11_193) rfl (tyX8_ok 3 (by decide)) rfl rfl d hs kk
theorem flX11_212 : Cond.fieldLinkNest RX11 212 (TX4 1).1 (TX4 1).2.1 (TX4 1).2.2.1 "MergePost" ∈ aN := aN_of (List.mem_of_getElem? (i := 145) (by decide +kernel)) (by decide +kernel)
theorem gfX11_212 {a : Nat} {v : Value} (hT : T.1.cls = RX11) (d : decode T.2.1 pc = .ok (.getfield 212, 3)) (hs : (S.1 a).1 = 4) (hv : V a 1 = v) (kk : R T r mc ms Q QX kc ks (pc + 3) lv (v :: st) S V) : R T r mc ms Q QX kc ks pc lv (.ref a :: st) S V :=
  R_getN (ci := 4) (k := 1) (T0 := TX4) (N := 5) rfl (by decide) (by decide) inX4 (by rw [hT]; exact flX11_212) d hs hv kk
theorem pfX11_212 {a : Nat} {x : Int32} (hT : T.1.cls = RX11) (d : decode T.2.1 pc = .ok (.putfield 212, 3)) (hs : (S.1 a).1 = 4)  (kk : R T r mc ms Q QX kc ks (pc + 3) lv st S (a_up V a 1 (.int x))) : R T r mc ms Q QX kc ks pc lv (.int x :: .ref a :: st) S V :=
  R_putN (ci := 4) (k := 1) (T0 := TX4) (N := 5) (ty0 := tyX4) (ty := tyX4 1) rfl (by decide) (by decide) inX4 tyX4_ok nmX4 (by rw [hT]; exact flX11_212) rfl (tyX4_ok 1 (by decide)) rfl rfl d hs kk
theorem flX11_217 : Cond.fieldLinkNest RX11 217 (TX4 2).1 (TX4 2).2.1 (TX4 2).2.2.1 "MergePost" ∈ aN := aN_of (List.mem_of_getElem? (i := 148) (by decide +kernel)) (by decide +kernel)
theorem gfX11_217 {a : Nat} {v : Value} (hT : T.1.cls = RX11) (d : decode T.2.1 pc = .ok (.getfield 217, 3)) (hs : (S.1 a).1 = 4) (hv : V a 2 = v) (kk : R T r mc ms Q QX kc ks (pc + 3) lv (v :: st) S V) : R T r mc ms Q QX kc ks pc lv (.ref a :: st) S V :=
  R_getN (ci := 4) (k := 2) (T0 := TX4) (N := 5) rfl (by decide) (by decide) inX4 (by rw [hT]; exact flX11_217) d hs hv kk
theorem flX11_220 : Cond.fieldLinkNest RX11 220 (TX4 0).1 (TX4 0).2.1 (TX4 0).2.2.1 "MergePost" ∈ aN := aN_of (List.mem_of_getElem? (i := 143) (by decide +kernel)) (by decide +kernel)
theorem gfX11_220 {a : Nat} {v : Value} (hT : T.1.cls = RX11) (d : decode T.2.1 pc = .ok (.getfield 220, 3)) (hs : (S.1 a).1 = 4) (hv : V a 0 = v) (kk : R T r mc ms Q QX kc ks (pc + 3) lv (v :: st) S V) : R T r mc ms Q QX kc ks pc lv (.ref a :: st) S V :=
  R_getN (ci := 4) (k := 0) (T0 := TX4) (N := 5) rfl (by decide) (by decide) inX4 (by rw [hT]; exact flX11_220) d hs hv kk
theorem flX11_223 : Cond.fieldLinkNest RX11 223 (TX4 3).1 (TX4 3).2.1 (TX4 3).2.2.1 "MergePost" ∈ aN := aN_of (List.mem_of_getElem? (i := 150) (by decide +kernel)) (by decide +kernel)
theorem gfX11_223 {a : Nat} {v : Value} (hT : T.1.cls = RX11) (d : decode T.2.1 pc = .ok (.getfield 223, 3)) (hs : (S.1 a).1 = 4) (hv : V a 3 = v) (kk : R T r mc ms Q QX kc ks (pc + 3) lv (v :: st) S V) : R T r mc ms Q QX kc ks pc lv (.ref a :: st) S V :=
  R_getN (ci := 4) (k := 3) (T0 := TX4) (N := 5) rfl (by decide) (by decide) inX4 (by rw [hT]; exact flX11_223) d hs hv kk
theorem pfX11_223 {a : Nat} {x : Int32} (hT : T.1.cls = RX11) (d : decode T.2.1 pc = .ok (.putfield 223, 3)) (hs : (S.1 a).1 = 4)  (kk : R T r mc ms Q QX kc ks (pc + 3) lv st S (a_up V a 3 (.int x))) : R T r mc ms Q QX kc ks pc lv (.int x :: .ref a :: st) S V :=
  R_putN (ci := 4) (k := 3) (T0 := TX4) (N := 5) (ty0 := tyX4) (ty := tyX4 3) rfl (by decide) (by decide) inX4 tyX4_ok nmX4 (by rw [hT]; exact flX11_223) rfl (tyX4_ok 3 (by decide)) rfl rfl d hs kk
theorem flX11_226 : Cond.fieldLinkNest RX11 226 (TX4 4).1 (TX4 4).2.1 (TX4 4).2.2.1 "MergePost" ∈ aN := aN_of (List.mem_of_getElem? (i := 152) (by decide +kernel)) (by decide +kernel)
theorem gfX11_226 {a : Nat} {v : Value} (hT : T.1.cls = RX11) (d : decode T.2.1 pc = .ok (.getfield 226, 3)) (hs : (S.1 a).1 = 4) (hv : V a 4 = v) (kk : R T r mc ms Q QX kc ks (pc + 3) lv (v :: st) S V) : R T r mc ms Q QX kc ks pc lv (.ref a :: st) S V :=
  R_getN (ci := 4) (k := 4) (T0 := TX4) (N := 5) rfl (by decide) (by decide) inX4 (by rw [hT]; exact flX11_226) d hs hv kk
theorem pfX11_226 {a : Nat} {x : Int32} (hT : T.1.cls = RX11) (d : decode T.2.1 pc = .ok (.putfield 226, 3)) (hs : (S.1 a).1 = 4)  (kk : R T r mc ms Q QX kc ks (pc + 3) lv st S (a_up V a 4 (.int x))) : R T r mc ms Q QX kc ks pc lv (.int x :: .ref a :: st) S V :=
  R_putN (ci := 4) (k := 4) (T0 := TX4) (N := 5) (ty0 := tyX4) (ty := tyX4 4) rfl (by decide) (by decide) inX4 tyX4_ok nmX4 (by rw [hT]; exact flX11_226) rfl (tyX4_ok 4 (by decide)) rfl rfl d hs kk
theorem flX11_245 : Cond.fieldLinkNest RX11 245 (TX8 4).1 (TX8 4).2.1 (TX8 4).2.2.1 "MergePost" ∈ aN := aN_of (List.mem_of_getElem? (i := 304) (by decide +kernel)) (by decide +kernel)
theorem gfX11_245 {a : Nat} {v : Value} (hT : T.1.cls = RX11) (d : decode T.2.1 pc = .ok (.getfield 245, 3)) (hs : (S.1 a).1 = 8) (hv : V a 4 = v) (kk : R T r mc ms Q QX kc ks (pc + 3) lv (v :: st) S V) : R T r mc ms Q QX kc ks pc lv (.ref a :: st) S V :=
  R_getN (ci := 8) (k := 4) (T0 := TX8) (N := 5) rfl (by decide) (by decide) inX8 (by rw [hT]; exact flX11_245) d hs hv kk
theorem pfX11_245 {a : Nat} {x : Int32} (hT : T.1.cls = RX11) (d : decode T.2.1 pc = .ok (.putfield 245, 3)) (hs : (S.1 a).1 = 8) (hn : narrow .boolean (.int x) = .int x) (hf : fits .boolean (.int x) = true) (kk : R T r mc ms Q QX kc ks (pc + 3) lv st S (a_up V a 4 (.int x))) : R T r mc ms Q QX kc ks pc lv (.int x :: .ref a :: st) S V :=
  R_putN (ci := 8) (k := 4) (T0 := TX8) (N := 5) (ty0 := tyX8) (ty := tyX8 4) rfl (by decide) (by decide) inX8 tyX8_ok nmX8 (by rw [hT]; exact flX11_245) rfl (tyX8_ok 4 (by decide)) hn hf d hs kk
theorem flX11_267 : Cond.fieldLinkNest RX11 267 (TX8 1).1 (TX8 1).2.1 (TX8 1).2.2.1 "MergePost" ∈ aN := aN_of (List.mem_of_getElem? (i := 301) (by decide +kernel)) (by decide +kernel)
theorem gfX11_267 {a : Nat} {v : Value} (hT : T.1.cls = RX11) (d : decode T.2.1 pc = .ok (.getfield 267, 3)) (hs : (S.1 a).1 = 8) (hv : V a 1 = v) (kk : R T r mc ms Q QX kc ks (pc + 3) lv (v :: st) S V) : R T r mc ms Q QX kc ks pc lv (.ref a :: st) S V :=
  R_getN (ci := 8) (k := 1) (T0 := TX8) (N := 5) rfl (by decide) (by decide) inX8 (by rw [hT]; exact flX11_267) d hs hv kk
theorem flX11_268 : Cond.fieldLink RX11 268 (TX11 7).1 (TX11 7).2.1 (TX11 7).2.2.1 ∈ aT := aT_of (List.mem_of_getElem? (i := 432) (by decide +kernel)) (by decide +kernel)
theorem gfX11_268 {a : Nat} {v : Value} (hT : T.1.cls = RX11) (d : decode T.2.1 pc = .ok (.getfield 268, 3)) (hs : (S.1 a).1 = 11) (hv : V a 7 = v) (kk : R T r mc ms Q QX kc ks (pc + 3) lv (v :: st) S V) : R T r mc ms Q QX kc ks pc lv (.ref a :: st) S V :=
  R_get (ci := 11) (k := 7) (T0 := TX11) (N := 8) rfl (by decide) (by decide) inX11 (by rw [hT]; exact flX11_268) d hs hv kk
theorem pfX11_268 {a : Nat} {x : Int32} (hT : T.1.cls = RX11) (d : decode T.2.1 pc = .ok (.putfield 268, 3)) (hs : (S.1 a).1 = 11)  (kk : R T r mc ms Q QX kc ks (pc + 3) lv st S (a_up V a 7 (.int x))) : R T r mc ms Q QX kc ks pc lv (.int x :: .ref a :: st) S V :=
  R_put (ci := 11) (k := 7) (T0 := TX11) (N := 8) (ty0 := tyX11) (ty := tyX11 7) rfl (by decide) (by decide) inX11 tyX11_ok nmX11 (by rw [hT]; exact flX11_268) rfl (tyX11_ok 7 (by decide)) rfl rfl d hs kk
theorem flX11_271 : Cond.fieldLinkNest RX11 271 (TX1 3).1 (TX1 3).2.1 (TX1 3).2.2.1 "MergePost" ∈ aN := aN_of (List.mem_of_getElem? (i := 246) (by decide +kernel)) (by decide +kernel)
theorem gfX11_271 {a : Nat} {v : Value} (hT : T.1.cls = RX11) (d : decode T.2.1 pc = .ok (.getfield 271, 3)) (hs : (S.1 a).1 = 1) (hv : V a 3 = v) (kk : R T r mc ms Q QX kc ks (pc + 3) lv (v :: st) S V) : R T r mc ms Q QX kc ks pc lv (.ref a :: st) S V :=
  R_getN (ci := 1) (k := 3) (T0 := TX1) (N := 6) rfl (by decide) (by decide) inX1 (by rw [hT]; exact flX11_271) d hs hv kk
theorem flX11_280 : Cond.fieldLinkNest RX11 280 (TX8 0).1 (TX8 0).2.1 (TX8 0).2.2.1 "MergePost" ∈ aN := aN_of (List.mem_of_getElem? (i := 299) (by decide +kernel)) (by decide +kernel)
theorem gfX11_280 {a : Nat} {v : Value} (hT : T.1.cls = RX11) (d : decode T.2.1 pc = .ok (.getfield 280, 3)) (hs : (S.1 a).1 = 8) (hv : V a 0 = v) (kk : R T r mc ms Q QX kc ks (pc + 3) lv (v :: st) S V) : R T r mc ms Q QX kc ks pc lv (.ref a :: st) S V :=
  R_getN (ci := 8) (k := 0) (T0 := TX8) (N := 5) rfl (by decide) (by decide) inX8 (by rw [hT]; exact flX11_280) d hs hv kk
theorem flX11_284 : Cond.fieldLinkNest RX11 284 (TX7 2).1 (TX7 2).2.1 (TX7 2).2.2.1 "MergePost" ∈ aN := aN_of (List.mem_of_getElem? (i := 167) (by decide +kernel)) (by decide +kernel)
theorem gfX11_284 {a : Nat} {v : Value} (hT : T.1.cls = RX11) (d : decode T.2.1 pc = .ok (.getfield 284, 3)) (hs : (S.1 a).1 = 7) (hv : V a 2 = v) (kk : R T r mc ms Q QX kc ks (pc + 3) lv (v :: st) S V) : R T r mc ms Q QX kc ks pc lv (.ref a :: st) S V :=
  R_getN (ci := 7) (k := 2) (T0 := TX7) (N := 9) rfl (by decide) (by decide) inX7 (by rw [hT]; exact flX11_284) d hs hv kk
theorem flX11_297 : Cond.fieldLinkNest RX11 297 (TX7 3).1 (TX7 3).2.1 (TX7 3).2.2.1 "MergePost" ∈ aN := aN_of (List.mem_of_getElem? (i := 169) (by decide +kernel)) (by decide +kernel)
theorem gfX11_297 {a : Nat} {v : Value} (hT : T.1.cls = RX11) (d : decode T.2.1 pc = .ok (.getfield 297, 3)) (hs : (S.1 a).1 = 7) (hv : V a 3 = v) (kk : R T r mc ms Q QX kc ks (pc + 3) lv (v :: st) S V) : R T r mc ms Q QX kc ks pc lv (.ref a :: st) S V :=
  R_getN (ci := 7) (k := 3) (T0 := TX7) (N := 9) rfl (by decide) (by decide) inX7 (by rw [hT]; exact flX11_297) d hs hv kk
theorem flX11_301 : Cond.fieldLinkNest RX11 301 (TX3 1).1 (TX3 1).2.1 (TX3 1).2.2.1 "MergePost" ∈ aN := aN_of (List.mem_of_getElem? (i := 124) (by decide +kernel)) (by decide +kernel)
theorem gfX11_301 {a : Nat} {v : Value} (hT : T.1.cls = RX11) (d : decode T.2.1 pc = .ok (.getfield 301, 3)) (hs : (S.1 a).1 = 3) (hv : V a 1 = v) (kk : R T r mc ms Q QX kc ks (pc + 3) lv (v :: st) S V) : R T r mc ms Q QX kc ks pc lv (.ref a :: st) S V :=
  R_getN (ci := 3) (k := 1) (T0 := TX3) (N := 3) rfl (by decide) (by decide) inX3 (by rw [hT]; exact flX11_301) d hs hv kk
theorem flX12_7 : Cond.fieldLink RX12 7 (TX12 1).1 (TX12 1).2.1 (TX12 1).2.2.1 ∈ aT := aT_of (List.mem_of_getElem? (i := 1132) (by decide +kernel)) (by decide +kernel)
theorem gfX12_7 {a : Nat} {v : Value} (hT : T.1.cls = RX12) (d : decode T.2.1 pc = .ok (.getfield 7, 3)) (hs : (S.1 a).1 = 12) (hv : V a 1 = v) (kk : R T r mc ms Q QX kc ks (pc + 3) lv (v :: st) S V) : R T r mc ms Q QX kc ks pc lv (.ref a :: st) S V :=
  R_get (ci := 12) (k := 1) (T0 := TX12) (N := 46) rfl (by decide) (by decide) inX12 (by rw [hT]; exact flX12_7) d hs hv kk
theorem pfX12_7 {a : Nat} {x : Nat} (hT : T.1.cls = RX12) (hI : T.1.name = "<init>") (d : decode T.2.1 pc = .ok (.putfield 7, 3)) (hs : (S.1 a).1 = 12)  (kk : R T r mc ms Q QX kc ks (pc + 3) lv st S (a_up V a 1 (.ref x))) : R T r mc ms Q QX kc ks pc lv (.ref x :: .ref a :: st) S V :=
  R_putF (ci := 12) (k := 1) (T0 := TX12) (N := 46) (ty0 := tyX12) (ty := tyX12 1) rfl (by decide) (by decide) inX12 tyX12_ok nmX12 (by rw [hT]; exact flX12_7) rfl hI (by rw [hT]; rfl) (tyX12_ok 1 (by decide)) rfl rfl d hs kk
theorem flX12_13 : Cond.fieldLink RX12 13 (TX12 3).1 (TX12 3).2.1 (TX12 3).2.2.1 ∈ aT := aT_of (List.mem_of_getElem? (i := 1134) (by decide +kernel)) (by decide +kernel)
theorem gfX12_13 {a : Nat} {v : Value} (hT : T.1.cls = RX12) (d : decode T.2.1 pc = .ok (.getfield 13, 3)) (hs : (S.1 a).1 = 12) (hv : V a 3 = v) (kk : R T r mc ms Q QX kc ks (pc + 3) lv (v :: st) S V) : R T r mc ms Q QX kc ks pc lv (.ref a :: st) S V :=
  R_get (ci := 12) (k := 3) (T0 := TX12) (N := 46) rfl (by decide) (by decide) inX12 (by rw [hT]; exact flX12_13) d hs hv kk
theorem pfX12_13 {a : Nat} {x : Nat} (hT : T.1.cls = RX12) (hI : T.1.name = "<init>") (d : decode T.2.1 pc = .ok (.putfield 13, 3)) (hs : (S.1 a).1 = 12)  (kk : R T r mc ms Q QX kc ks (pc + 3) lv st S (a_up V a 3 (.ref x))) : R T r mc ms Q QX kc ks pc lv (.ref x :: .ref a :: st) S V :=
  R_putF (ci := 12) (k := 3) (T0 := TX12) (N := 46) (ty0 := tyX12) (ty := tyX12 3) rfl (by decide) (by decide) inX12 tyX12_ok nmX12 (by rw [hT]; exact flX12_13) rfl hI (by rw [hT]; rfl) (tyX12_ok 3 (by decide)) rfl rfl d hs kk
theorem flX12_16 : Cond.fieldLink RX12 16 (TX12 4).1 (TX12 4).2.1 (TX12 4).2.2.1 ∈ aT := aT_of (List.mem_of_getElem? (i := 1135) (by decide +kernel)) (by decide +kernel)
theorem gfX12_16 {a : Nat} {v : Value} (hT : T.1.cls = RX12) (d : decode T.2.1 pc = .ok (.getfield 16, 3)) (hs : (S.1 a).1 = 12) (hv : V a 4 = v) (kk : R T r mc ms Q QX kc ks (pc + 3) lv (v :: st) S V) : R T r mc ms Q QX kc ks pc lv (.ref a :: st) S V :=
  R_get (ci := 12) (k := 4) (T0 := TX12) (N := 46) rfl (by decide) (by decide) inX12 (by rw [hT]; exact flX12_16) d hs hv kk
theorem pfX12_16 {a : Nat} {x : Nat} (hT : T.1.cls = RX12) (hI : T.1.name = "<init>") (d : decode T.2.1 pc = .ok (.putfield 16, 3)) (hs : (S.1 a).1 = 12)  (kk : R T r mc ms Q QX kc ks (pc + 3) lv st S (a_up V a 4 (.ref x))) : R T r mc ms Q QX kc ks pc lv (.ref x :: .ref a :: st) S V :=
  R_putF (ci := 12) (k := 4) (T0 := TX12) (N := 46) (ty0 := tyX12) (ty := tyX12 4) rfl (by decide) (by decide) inX12 tyX12_ok nmX12 (by rw [hT]; exact flX12_16) rfl hI (by rw [hT]; rfl) (tyX12_ok 4 (by decide)) rfl rfl d hs kk
theorem flX12_19 : Cond.fieldLink RX12 19 (TX12 6).1 (TX12 6).2.1 (TX12 6).2.2.1 ∈ aT := aT_of (List.mem_of_getElem? (i := 1137) (by decide +kernel)) (by decide +kernel)
theorem gfX12_19 {a : Nat} {v : Value} (hT : T.1.cls = RX12) (d : decode T.2.1 pc = .ok (.getfield 19, 3)) (hs : (S.1 a).1 = 12) (hv : V a 6 = v) (kk : R T r mc ms Q QX kc ks (pc + 3) lv (v :: st) S V) : R T r mc ms Q QX kc ks pc lv (.ref a :: st) S V :=
  R_get (ci := 12) (k := 6) (T0 := TX12) (N := 46) rfl (by decide) (by decide) inX12 (by rw [hT]; exact flX12_19) d hs hv kk
theorem pfX12_19 {a : Nat} {x : Nat} (hT : T.1.cls = RX12) (hI : T.1.name = "<init>") (d : decode T.2.1 pc = .ok (.putfield 19, 3)) (hs : (S.1 a).1 = 12)  (kk : R T r mc ms Q QX kc ks (pc + 3) lv st S (a_up V a 6 (.ref x))) : R T r mc ms Q QX kc ks pc lv (.ref x :: .ref a :: st) S V :=
  R_putF (ci := 12) (k := 6) (T0 := TX12) (N := 46) (ty0 := tyX12) (ty := tyX12 6) rfl (by decide) (by decide) inX12 tyX12_ok nmX12 (by rw [hT]; exact flX12_19) rfl hI (by rw [hT]; rfl) (tyX12_ok 6 (by decide)) rfl rfl d hs kk
theorem flX12_22 : Cond.fieldLink RX12 22 (TX12 7).1 (TX12 7).2.1 (TX12 7).2.2.1 ∈ aT := aT_of (List.mem_of_getElem? (i := 1138) (by decide +kernel)) (by decide +kernel)
theorem gfX12_22 {a : Nat} {v : Value} (hT : T.1.cls = RX12) (d : decode T.2.1 pc = .ok (.getfield 22, 3)) (hs : (S.1 a).1 = 12) (hv : V a 7 = v) (kk : R T r mc ms Q QX kc ks (pc + 3) lv (v :: st) S V) : R T r mc ms Q QX kc ks pc lv (.ref a :: st) S V :=
  R_get (ci := 12) (k := 7) (T0 := TX12) (N := 46) rfl (by decide) (by decide) inX12 (by rw [hT]; exact flX12_22) d hs hv kk
theorem pfX12_22 {a : Nat} {x : Nat} (hT : T.1.cls = RX12) (hI : T.1.name = "<init>") (d : decode T.2.1 pc = .ok (.putfield 22, 3)) (hs : (S.1 a).1 = 12)  (kk : R T r mc ms Q QX kc ks (pc + 3) lv st S (a_up V a 7 (.ref x))) : R T r mc ms Q QX kc ks pc lv (.ref x :: .ref a :: st) S V :=
  R_putF (ci := 12) (k := 7) (T0 := TX12) (N := 46) (ty0 := tyX12) (ty := tyX12 7) rfl (by decide) (by decide) inX12 tyX12_ok nmX12 (by rw [hT]; exact flX12_22) rfl hI (by rw [hT]; rfl) (tyX12_ok 7 (by decide)) rfl rfl d hs kk
theorem flX12_25 : Cond.fieldLink RX12 25 (TX12 8).1 (TX12 8).2.1 (TX12 8).2.2.1 ∈ aT := aT_of (List.mem_of_getElem? (i := 1139) (by decide +kernel)) (by decide +kernel)
theorem gfX12_25 {a : Nat} {v : Value} (hT : T.1.cls = RX12) (d : decode T.2.1 pc = .ok (.getfield 25, 3)) (hs : (S.1 a).1 = 12) (hv : V a 8 = v) (kk : R T r mc ms Q QX kc ks (pc + 3) lv (v :: st) S V) : R T r mc ms Q QX kc ks pc lv (.ref a :: st) S V :=
  R_get (ci := 12) (k := 8) (T0 := TX12) (N := 46) rfl (by decide) (by decide) inX12 (by rw [hT]; exact flX12_25) d hs hv kk
theorem pfX12_25 {a : Nat} {x : Nat} (hT : T.1.cls = RX12) (hI : T.1.name = "<init>") (d : decode T.2.1 pc = .ok (.putfield 25, 3)) (hs : (S.1 a).1 = 12)  (kk : R T r mc ms Q QX kc ks (pc + 3) lv st S (a_up V a 8 (.ref x))) : R T r mc ms Q QX kc ks pc lv (.ref x :: .ref a :: st) S V :=
  R_putF (ci := 12) (k := 8) (T0 := TX12) (N := 46) (ty0 := tyX12) (ty := tyX12 8) rfl (by decide) (by decide) inX12 tyX12_ok nmX12 (by rw [hT]; exact flX12_25) rfl hI (by rw [hT]; rfl) (tyX12_ok 8 (by decide)) rfl rfl d hs kk
theorem flX12_28 : Cond.fieldLink RX12 28 (TX12 9).1 (TX12 9).2.1 (TX12 9).2.2.1 ∈ aT := aT_of (List.mem_of_getElem? (i := 1140) (by decide +kernel)) (by decide +kernel)
theorem gfX12_28 {a : Nat} {v : Value} (hT : T.1.cls = RX12) (d : decode T.2.1 pc = .ok (.getfield 28, 3)) (hs : (S.1 a).1 = 12) (hv : V a 9 = v) (kk : R T r mc ms Q QX kc ks (pc + 3) lv (v :: st) S V) : R T r mc ms Q QX kc ks pc lv (.ref a :: st) S V :=
  R_get (ci := 12) (k := 9) (T0 := TX12) (N := 46) rfl (by decide) (by decide) inX12 (by rw [hT]; exact flX12_28) d hs hv kk
theorem pfX12_28 {a : Nat} {x : Nat} (hT : T.1.cls = RX12) (hI : T.1.name = "<init>") (d : decode T.2.1 pc = .ok (.putfield 28, 3)) (hs : (S.1 a).1 = 12)  (kk : R T r mc ms Q QX kc ks (pc + 3) lv st S (a_up V a 9 (.ref x))) : R T r mc ms Q QX kc ks pc lv (.ref x :: .ref a :: st) S V :=
  R_putF (ci := 12) (k := 9) (T0 := TX12) (N := 46) (ty0 := tyX12) (ty := tyX12 9) rfl (by decide) (by decide) inX12 tyX12_ok nmX12 (by rw [hT]; exact flX12_28) rfl hI (by rw [hT]; rfl) (tyX12_ok 9 (by decide)) rfl rfl d hs kk
theorem flX12_31 : Cond.fieldLink RX12 31 (TX12 10).1 (TX12 10).2.1 (TX12 10).2.2.1 ∈ aT := aT_of (List.mem_of_getElem? (i := 1141) (by decide +kernel)) (by decide +kernel)
theorem gfX12_31 {a : Nat} {v : Value} (hT : T.1.cls = RX12) (d : decode T.2.1 pc = .ok (.getfield 31, 3)) (hs : (S.1 a).1 = 12) (hv : V a 10 = v) (kk : R T r mc ms Q QX kc ks (pc + 3) lv (v :: st) S V) : R T r mc ms Q QX kc ks pc lv (.ref a :: st) S V :=
  R_get (ci := 12) (k := 10) (T0 := TX12) (N := 46) rfl (by decide) (by decide) inX12 (by rw [hT]; exact flX12_31) d hs hv kk
theorem pfX12_31 {a : Nat} {x : Nat} (hT : T.1.cls = RX12) (hI : T.1.name = "<init>") (d : decode T.2.1 pc = .ok (.putfield 31, 3)) (hs : (S.1 a).1 = 12)  (kk : R T r mc ms Q QX kc ks (pc + 3) lv st S (a_up V a 10 (.ref x))) : R T r mc ms Q QX kc ks pc lv (.ref x :: .ref a :: st) S V :=
  R_putF (ci := 12) (k := 10) (T0 := TX12) (N := 46) (ty0 := tyX12) (ty := tyX12 10) rfl (by decide) (by decide) inX12 tyX12_ok nmX12 (by rw [hT]; exact flX12_31) rfl hI (by rw [hT]; rfl) (tyX12_ok 10 (by decide)) rfl rfl d hs kk
theorem flX12_34 : Cond.fieldLink RX12 34 (TX12 11).1 (TX12 11).2.1 (TX12 11).2.2.1 ∈ aT := aT_of (List.mem_of_getElem? (i := 1142) (by decide +kernel)) (by decide +kernel)
theorem gfX12_34 {a : Nat} {v : Value} (hT : T.1.cls = RX12) (d : decode T.2.1 pc = .ok (.getfield 34, 3)) (hs : (S.1 a).1 = 12) (hv : V a 11 = v) (kk : R T r mc ms Q QX kc ks (pc + 3) lv (v :: st) S V) : R T r mc ms Q QX kc ks pc lv (.ref a :: st) S V :=
  R_get (ci := 12) (k := 11) (T0 := TX12) (N := 46) rfl (by decide) (by decide) inX12 (by rw [hT]; exact flX12_34) d hs hv kk
theorem pfX12_34 {a : Nat} {x : Nat} (hT : T.1.cls = RX12) (hI : T.1.name = "<init>") (d : decode T.2.1 pc = .ok (.putfield 34, 3)) (hs : (S.1 a).1 = 12)  (kk : R T r mc ms Q QX kc ks (pc + 3) lv st S (a_up V a 11 (.ref x))) : R T r mc ms Q QX kc ks pc lv (.ref x :: .ref a :: st) S V :=
  R_putF (ci := 12) (k := 11) (T0 := TX12) (N := 46) (ty0 := tyX12) (ty := tyX12 11) rfl (by decide) (by decide) inX12 tyX12_ok nmX12 (by rw [hT]; exact flX12_34) rfl hI (by rw [hT]; rfl) (tyX12_ok 11 (by decide)) rfl rfl d hs kk
theorem flX12_37 : Cond.fieldLink RX12 37 (TX12 12).1 (TX12 12).2.1 (TX12 12).2.2.1 ∈ aT := aT_of (List.mem_of_getElem? (i := 1143) (by decide +kernel)) (by decide +kernel)
theorem gfX12_37 {a : Nat} {v : Value} (hT : T.1.cls = RX12) (d : decode T.2.1 pc = .ok (.getfield 37, 3)) (hs : (S.1 a).1 = 12) (hv : V a 12 = v) (kk : R T r mc ms Q QX kc ks (pc + 3) lv (v :: st) S V) : R T r mc ms Q QX kc ks pc lv (.ref a :: st) S V :=
  R_get (ci := 12) (k := 12) (T0 := TX12) (N := 46) rfl (by decide) (by decide) inX12 (by rw [hT]; exact flX12_37) d hs hv kk
theorem pfX12_37 {a : Nat} {x : Nat} (hT : T.1.cls = RX12) (hI : T.1.name = "<init>") (d : decode T.2.1 pc = .ok (.putfield 37, 3)) (hs : (S.1 a).1 = 12)  (kk : R T r mc ms Q QX kc ks (pc + 3) lv st S (a_up V a 12 (.ref x))) : R T r mc ms Q QX kc ks pc lv (.ref x :: .ref a :: st) S V :=
  R_putF (ci := 12) (k := 12) (T0 := TX12) (N := 46) (ty0 := tyX12) (ty := tyX12 12) rfl (by decide) (by decide) inX12 tyX12_ok nmX12 (by rw [hT]; exact flX12_37) rfl hI (by rw [hT]; rfl) (tyX12_ok 12 (by decide)) rfl rfl d hs kk
theorem flX12_40 : Cond.fieldLink RX12 40 (TX12 13).1 (TX12 13).2.1 (TX12 13).2.2.1 ∈ aT := aT_of (List.mem_of_getElem? (i := 1144) (by decide +kernel)) (by decide +kernel)
theorem gfX12_40 {a : Nat} {v : Value} (hT : T.1.cls = RX12) (d : decode T.2.1 pc = .ok (.getfield 40, 3)) (hs : (S.1 a).1 = 12) (hv : V a 13 = v) (kk : R T r mc ms Q QX kc ks (pc + 3) lv (v :: st) S V) : R T r mc ms Q QX kc ks pc lv (.ref a :: st) S V :=
  R_get (ci := 12) (k := 13) (T0 := TX12) (N := 46) rfl (by decide) (by decide) inX12 (by rw [hT]; exact flX12_40) d hs hv kk
theorem pfX12_40 {a : Nat} {x : Nat} (hT : T.1.cls = RX12) (hI : T.1.name = "<init>") (d : decode T.2.1 pc = .ok (.putfield 40, 3)) (hs : (S.1 a).1 = 12)  (kk : R T r mc ms Q QX kc ks (pc + 3) lv st S (a_up V a 13 (.ref x))) : R T r mc ms Q QX kc ks pc lv (.ref x :: .ref a :: st) S V :=
  R_putF (ci := 12) (k := 13) (T0 := TX12) (N := 46) (ty0 := tyX12) (ty := tyX12 13) rfl (by decide) (by decide) inX12 tyX12_ok nmX12 (by rw [hT]; exact flX12_40) rfl hI (by rw [hT]; rfl) (tyX12_ok 13 (by decide)) rfl rfl d hs kk
theorem flX12_43 : Cond.fieldLink RX12 43 (TX12 14).1 (TX12 14).2.1 (TX12 14).2.2.1 ∈ aT := aT_of (List.mem_of_getElem? (i := 1145) (by decide +kernel)) (by decide +kernel)
theorem gfX12_43 {a : Nat} {v : Value} (hT : T.1.cls = RX12) (d : decode T.2.1 pc = .ok (.getfield 43, 3)) (hs : (S.1 a).1 = 12) (hv : V a 14 = v) (kk : R T r mc ms Q QX kc ks (pc + 3) lv (v :: st) S V) : R T r mc ms Q QX kc ks pc lv (.ref a :: st) S V :=
  R_get (ci := 12) (k := 14) (T0 := TX12) (N := 46) rfl (by decide) (by decide) inX12 (by rw [hT]; exact flX12_43) d hs hv kk
theorem pfX12_43 {a : Nat} {x : Nat} (hT : T.1.cls = RX12) (hI : T.1.name = "<init>") (d : decode T.2.1 pc = .ok (.putfield 43, 3)) (hs : (S.1 a).1 = 12)  (kk : R T r mc ms Q QX kc ks (pc + 3) lv st S (a_up V a 14 (.ref x))) : R T r mc ms Q QX kc ks pc lv (.ref x :: .ref a :: st) S V :=
  R_putF (ci := 12) (k := 14) (T0 := TX12) (N := 46) (ty0 := tyX12) (ty := tyX12 14) rfl (by decide) (by decide) inX12 tyX12_ok nmX12 (by rw [hT]; exact flX12_43) rfl hI (by rw [hT]; rfl) (tyX12_ok 14 (by decide)) rfl rfl d hs kk
theorem flX12_46 : Cond.fieldLink RX12 46 (TX12 15).1 (TX12 15).2.1 (TX12 15).2.2.1 ∈ aT := aT_of (List.mem_of_getElem? (i := 1146) (by decide +kernel)) (by decide +kernel)
theorem gfX12_46 {a : Nat} {v : Value} (hT : T.1.cls = RX12) (d : decode T.2.1 pc = .ok (.getfield 46, 3)) (hs : (S.1 a).1 = 12) (hv : V a 15 = v) (kk : R T r mc ms Q QX kc ks (pc + 3) lv (v :: st) S V) : R T r mc ms Q QX kc ks pc lv (.ref a :: st) S V :=
  R_get (ci := 12) (k := 15) (T0 := TX12) (N := 46) rfl (by decide) (by decide) inX12 (by rw [hT]; exact flX12_46) d hs hv kk
theorem pfX12_46 {a : Nat} {x : Nat} (hT : T.1.cls = RX12) (hI : T.1.name = "<init>") (d : decode T.2.1 pc = .ok (.putfield 46, 3)) (hs : (S.1 a).1 = 12)  (kk : R T r mc ms Q QX kc ks (pc + 3) lv st S (a_up V a 15 (.ref x))) : R T r mc ms Q QX kc ks pc lv (.ref x :: .ref a :: st) S V :=
  R_putF (ci := 12) (k := 15) (T0 := TX12) (N := 46) (ty0 := tyX12) (ty := tyX12 15) rfl (by decide) (by decide) inX12 tyX12_ok nmX12 (by rw [hT]; exact flX12_46) rfl hI (by rw [hT]; rfl) (tyX12_ok 15 (by decide)) rfl rfl d hs kk
theorem flX12_49 : Cond.fieldLink RX12 49 (TX12 16).1 (TX12 16).2.1 (TX12 16).2.2.1 ∈ aT := aT_of (List.mem_of_getElem? (i := 1147) (by decide +kernel)) (by decide +kernel)
theorem gfX12_49 {a : Nat} {v : Value} (hT : T.1.cls = RX12) (d : decode T.2.1 pc = .ok (.getfield 49, 3)) (hs : (S.1 a).1 = 12) (hv : V a 16 = v) (kk : R T r mc ms Q QX kc ks (pc + 3) lv (v :: st) S V) : R T r mc ms Q QX kc ks pc lv (.ref a :: st) S V :=
  R_get (ci := 12) (k := 16) (T0 := TX12) (N := 46) rfl (by decide) (by decide) inX12 (by rw [hT]; exact flX12_49) d hs hv kk
theorem pfX12_49 {a : Nat} {x : Nat} (hT : T.1.cls = RX12) (hI : T.1.name = "<init>") (d : decode T.2.1 pc = .ok (.putfield 49, 3)) (hs : (S.1 a).1 = 12)  (kk : R T r mc ms Q QX kc ks (pc + 3) lv st S (a_up V a 16 (.ref x))) : R T r mc ms Q QX kc ks pc lv (.ref x :: .ref a :: st) S V :=
  R_putF (ci := 12) (k := 16) (T0 := TX12) (N := 46) (ty0 := tyX12) (ty := tyX12 16) rfl (by decide) (by decide) inX12 tyX12_ok nmX12 (by rw [hT]; exact flX12_49) rfl hI (by rw [hT]; rfl) (tyX12_ok 16 (by decide)) rfl rfl d hs kk
theorem flX12_52 : Cond.fieldLink RX12 52 (TX12 17).1 (TX12 17).2.1 (TX12 17).2.2.1 ∈ aT := aT_of (List.mem_of_getElem? (i := 1148) (by decide +kernel)) (by decide +kernel)
theorem gfX12_52 {a : Nat} {v : Value} (hT : T.1.cls = RX12) (d : decode T.2.1 pc = .ok (.getfield 52, 3)) (hs : (S.1 a).1 = 12) (hv : V a 17 = v) (kk : R T r mc ms Q QX kc ks (pc + 3) lv (v :: st) S V) : R T r mc ms Q QX kc ks pc lv (.ref a :: st) S V :=
  R_get (ci := 12) (k := 17) (T0 := TX12) (N := 46) rfl (by decide) (by decide) inX12 (by rw [hT]; exact flX12_52) d hs hv kk
theorem pfX12_52 {a : Nat} {x : Nat} (hT : T.1.cls = RX12) (hI : T.1.name = "<init>") (d : decode T.2.1 pc = .ok (.putfield 52, 3)) (hs : (S.1 a).1 = 12)  (kk : R T r mc ms Q QX kc ks (pc + 3) lv st S (a_up V a 17 (.ref x))) : R T r mc ms Q QX kc ks pc lv (.ref x :: .ref a :: st) S V :=
  R_putF (ci := 12) (k := 17) (T0 := TX12) (N := 46) (ty0 := tyX12) (ty := tyX12 17) rfl (by decide) (by decide) inX12 tyX12_ok nmX12 (by rw [hT]; exact flX12_52) rfl hI (by rw [hT]; rfl) (tyX12_ok 17 (by decide)) rfl rfl d hs kk
theorem flX12_56 : Cond.fieldLink RX12 56 (TX12 18).1 (TX12 18).2.1 (TX12 18).2.2.1 ∈ aT := aT_of (List.mem_of_getElem? (i := 1149) (by decide +kernel)) (by decide +kernel)
theorem gfX12_56 {a : Nat} {v : Value} (hT : T.1.cls = RX12) (d : decode T.2.1 pc = .ok (.getfield 56, 3)) (hs : (S.1 a).1 = 12) (hv : V a 18 = v) (kk : R T r mc ms Q QX kc ks (pc + 3) lv (v :: st) S V) : R T r mc ms Q QX kc ks pc lv (.ref a :: st) S V :=
  R_get (ci := 12) (k := 18) (T0 := TX12) (N := 46) rfl (by decide) (by decide) inX12 (by rw [hT]; exact flX12_56) d hs hv kk
theorem pfX12_56 {a : Nat} {x : Nat} (hT : T.1.cls = RX12) (hI : T.1.name = "<init>") (d : decode T.2.1 pc = .ok (.putfield 56, 3)) (hs : (S.1 a).1 = 12)  (kk : R T r mc ms Q QX kc ks (pc + 3) lv st S (a_up V a 18 (.ref x))) : R T r mc ms Q QX kc ks pc lv (.ref x :: .ref a :: st) S V :=
  R_putF (ci := 12) (k := 18) (T0 := TX12) (N := 46) (ty0 := tyX12) (ty := tyX12 18) rfl (by decide) (by decide) inX12 tyX12_ok nmX12 (by rw [hT]; exact flX12_56) rfl hI (by rw [hT]; rfl) (tyX12_ok 18 (by decide)) rfl rfl d hs kk
theorem flX12_59 : Cond.fieldLink RX12 59 (TX12 19).1 (TX12 19).2.1 (TX12 19).2.2.1 ∈ aT := aT_of (List.mem_of_getElem? (i := 1150) (by decide +kernel)) (by decide +kernel)
theorem gfX12_59 {a : Nat} {v : Value} (hT : T.1.cls = RX12) (d : decode T.2.1 pc = .ok (.getfield 59, 3)) (hs : (S.1 a).1 = 12) (hv : V a 19 = v) (kk : R T r mc ms Q QX kc ks (pc + 3) lv (v :: st) S V) : R T r mc ms Q QX kc ks pc lv (.ref a :: st) S V :=
  R_get (ci := 12) (k := 19) (T0 := TX12) (N := 46) rfl (by decide) (by decide) inX12 (by rw [hT]; exact flX12_59) d hs hv kk
theorem pfX12_59 {a : Nat} {x : Int32} (hT : T.1.cls = RX12) (d : decode T.2.1 pc = .ok (.putfield 59, 3)) (hs : (S.1 a).1 = 12)  (kk : R T r mc ms Q QX kc ks (pc + 3) lv st S (a_up V a 19 (.int x))) : R T r mc ms Q QX kc ks pc lv (.int x :: .ref a :: st) S V :=
  R_put (ci := 12) (k := 19) (T0 := TX12) (N := 46) (ty0 := tyX12) (ty := tyX12 19) rfl (by decide) (by decide) inX12 tyX12_ok nmX12 (by rw [hT]; exact flX12_59) rfl (tyX12_ok 19 (by decide)) rfl rfl d hs kk
theorem flX12_63 : Cond.fieldLink RX12 63 (TX12 20).1 (TX12 20).2.1 (TX12 20).2.2.1 ∈ aT := aT_of (List.mem_of_getElem? (i := 1151) (by decide +kernel)) (by decide +kernel)
theorem gfX12_63 {a : Nat} {v : Value} (hT : T.1.cls = RX12) (d : decode T.2.1 pc = .ok (.getfield 63, 3)) (hs : (S.1 a).1 = 12) (hv : V a 20 = v) (kk : R T r mc ms Q QX kc ks (pc + 3) lv (v :: st) S V) : R T r mc ms Q QX kc ks pc lv (.ref a :: st) S V :=
  R_get (ci := 12) (k := 20) (T0 := TX12) (N := 46) rfl (by decide) (by decide) inX12 (by rw [hT]; exact flX12_63) d hs hv kk
theorem pfX12_63 {a : Nat} {x : Int32} (hT : T.1.cls = RX12) (d : decode T.2.1 pc = .ok (.putfield 63, 3)) (hs : (S.1 a).1 = 12)  (kk : R T r mc ms Q QX kc ks (pc + 3) lv st S (a_up V a 20 (.int x))) : R T r mc ms Q QX kc ks pc lv (.int x :: .ref a :: st) S V :=
  R_put (ci := 12) (k := 20) (T0 := TX12) (N := 46) (ty0 := tyX12) (ty := tyX12 20) rfl (by decide) (by decide) inX12 tyX12_ok nmX12 (by rw [hT]; exact flX12_63) rfl (tyX12_ok 20 (by decide)) rfl rfl d hs kk
theorem flX12_66 : Cond.fieldLink RX12 66 (TX12 23).1 (TX12 23).2.1 (TX12 23).2.2.1 ∈ aT := aT_of (List.mem_of_getElem? (i := 1154) (by decide +kernel)) (by decide +kernel)
theorem gfX12_66 {a : Nat} {v : Value} (hT : T.1.cls = RX12) (d : decode T.2.1 pc = .ok (.getfield 66, 3)) (hs : (S.1 a).1 = 12) (hv : V a 23 = v) (kk : R T r mc ms Q QX kc ks (pc + 3) lv (v :: st) S V) : R T r mc ms Q QX kc ks pc lv (.ref a :: st) S V :=
  R_get (ci := 12) (k := 23) (T0 := TX12) (N := 46) rfl (by decide) (by decide) inX12 (by rw [hT]; exact flX12_66) d hs hv kk
theorem pfX12_66 {a : Nat} {x : Nat} (hT : T.1.cls = RX12) (hI : T.1.name = "<init>") (d : decode T.2.1 pc = .ok (.putfield 66, 3)) (hs : (S.1 a).1 = 12)  (kk : R T r mc ms Q QX kc ks (pc + 3) lv st S (a_up V a 23 (.ref x))) : R T r mc ms Q QX kc ks pc lv (.ref x :: .ref a :: st) S V :=
  R_putF (ci := 12) (k := 23) (T0 := TX12) (N := 46) (ty0 := tyX12) (ty := tyX12 23) rfl (by decide) (by decide) inX12 tyX12_ok nmX12 (by rw [hT]; exact flX12_66) rfl hI (by rw [hT]; rfl) (tyX12_ok 23 (by decide)) rfl rfl d hs kk
theorem flX12_69 : Cond.fieldLink RX12 69 (TX12 24).1 (TX12 24).2.1 (TX12 24).2.2.1 ∈ aT := aT_of (List.mem_of_getElem? (i := 1155) (by decide +kernel)) (by decide +kernel)
theorem gfX12_69 {a : Nat} {v : Value} (hT : T.1.cls = RX12) (d : decode T.2.1 pc = .ok (.getfield 69, 3)) (hs : (S.1 a).1 = 12) (hv : V a 24 = v) (kk : R T r mc ms Q QX kc ks (pc + 3) lv (v :: st) S V) : R T r mc ms Q QX kc ks pc lv (.ref a :: st) S V :=
  R_get (ci := 12) (k := 24) (T0 := TX12) (N := 46) rfl (by decide) (by decide) inX12 (by rw [hT]; exact flX12_69) d hs hv kk
theorem pfX12_69 {a : Nat} {x : Nat} (hT : T.1.cls = RX12) (hI : T.1.name = "<init>") (d : decode T.2.1 pc = .ok (.putfield 69, 3)) (hs : (S.1 a).1 = 12)  (kk : R T r mc ms Q QX kc ks (pc + 3) lv st S (a_up V a 24 (.ref x))) : R T r mc ms Q QX kc ks pc lv (.ref x :: .ref a :: st) S V :=
  R_putF (ci := 12) (k := 24) (T0 := TX12) (N := 46) (ty0 := tyX12) (ty := tyX12 24) rfl (by decide) (by decide) inX12 tyX12_ok nmX12 (by rw [hT]; exact flX12_69) rfl hI (by rw [hT]; rfl) (tyX12_ok 24 (by decide)) rfl rfl d hs kk
theorem flX12_72 : Cond.fieldLink RX12 72 (TX12 25).1 (TX12 25).2.1 (TX12 25).2.2.1 ∈ aT := aT_of (List.mem_of_getElem? (i := 1156) (by decide +kernel)) (by decide +kernel)
theorem gfX12_72 {a : Nat} {v : Value} (hT : T.1.cls = RX12) (d : decode T.2.1 pc = .ok (.getfield 72, 3)) (hs : (S.1 a).1 = 12) (hv : V a 25 = v) (kk : R T r mc ms Q QX kc ks (pc + 3) lv (v :: st) S V) : R T r mc ms Q QX kc ks pc lv (.ref a :: st) S V :=
  R_get (ci := 12) (k := 25) (T0 := TX12) (N := 46) rfl (by decide) (by decide) inX12 (by rw [hT]; exact flX12_72) d hs hv kk
theorem pfX12_72 {a : Nat} {x : Nat} (hT : T.1.cls = RX12) (hI : T.1.name = "<init>") (d : decode T.2.1 pc = .ok (.putfield 72, 3)) (hs : (S.1 a).1 = 12)  (kk : R T r mc ms Q QX kc ks (pc + 3) lv st S (a_up V a 25 (.ref x))) : R T r mc ms Q QX kc ks pc lv (.ref x :: .ref a :: st) S V :=
  R_putF (ci := 12) (k := 25) (T0 := TX12) (N := 46) (ty0 := tyX12) (ty := tyX12 25) rfl (by decide) (by decide) inX12 tyX12_ok nmX12 (by rw [hT]; exact flX12_72) rfl hI (by rw [hT]; rfl) (tyX12_ok 25 (by decide)) rfl rfl d hs kk
theorem flX12_75 : Cond.fieldLink RX12 75 (TX12 26).1 (TX12 26).2.1 (TX12 26).2.2.1 ∈ aT := aT_of (List.mem_of_getElem? (i := 1157) (by decide +kernel)) (by decide +kernel)
theorem gfX12_75 {a : Nat} {v : Value} (hT : T.1.cls = RX12) (d : decode T.2.1 pc = .ok (.getfield 75, 3)) (hs : (S.1 a).1 = 12) (hv : V a 26 = v) (kk : R T r mc ms Q QX kc ks (pc + 3) lv (v :: st) S V) : R T r mc ms Q QX kc ks pc lv (.ref a :: st) S V :=
  R_get (ci := 12) (k := 26) (T0 := TX12) (N := 46) rfl (by decide) (by decide) inX12 (by rw [hT]; exact flX12_75) d hs hv kk
theorem pfX12_75 {a : Nat} {x : Nat} (hT : T.1.cls = RX12) (hI : T.1.name = "<init>") (d : decode T.2.1 pc = .ok (.putfield 75, 3)) (hs : (S.1 a).1 = 12)  (kk : R T r mc ms Q QX kc ks (pc + 3) lv st S (a_up V a 26 (.ref x))) : R T r mc ms Q QX kc ks pc lv (.ref x :: .ref a :: st) S V :=
  R_putF (ci := 12) (k := 26) (T0 := TX12) (N := 46) (ty0 := tyX12) (ty := tyX12 26) rfl (by decide) (by decide) inX12 tyX12_ok nmX12 (by rw [hT]; exact flX12_75) rfl hI (by rw [hT]; rfl) (tyX12_ok 26 (by decide)) rfl rfl d hs kk
theorem flX12_78 : Cond.fieldLink RX12 78 (TX12 27).1 (TX12 27).2.1 (TX12 27).2.2.1 ∈ aT := aT_of (List.mem_of_getElem? (i := 1158) (by decide +kernel)) (by decide +kernel)
theorem gfX12_78 {a : Nat} {v : Value} (hT : T.1.cls = RX12) (d : decode T.2.1 pc = .ok (.getfield 78, 3)) (hs : (S.1 a).1 = 12) (hv : V a 27 = v) (kk : R T r mc ms Q QX kc ks (pc + 3) lv (v :: st) S V) : R T r mc ms Q QX kc ks pc lv (.ref a :: st) S V :=
  R_get (ci := 12) (k := 27) (T0 := TX12) (N := 46) rfl (by decide) (by decide) inX12 (by rw [hT]; exact flX12_78) d hs hv kk
theorem pfX12_78 {a : Nat} {x : Nat} (hT : T.1.cls = RX12) (hI : T.1.name = "<init>") (d : decode T.2.1 pc = .ok (.putfield 78, 3)) (hs : (S.1 a).1 = 12)  (kk : R T r mc ms Q QX kc ks (pc + 3) lv st S (a_up V a 27 (.ref x))) : R T r mc ms Q QX kc ks pc lv (.ref x :: .ref a :: st) S V :=
  R_putF (ci := 12) (k := 27) (T0 := TX12) (N := 46) (ty0 := tyX12) (ty := tyX12 27) rfl (by decide) (by decide) inX12 tyX12_ok nmX12 (by rw [hT]; exact flX12_78) rfl hI (by rw [hT]; rfl) (tyX12_ok 27 (by decide)) rfl rfl d hs kk
theorem flX12_81 : Cond.fieldLink RX12 81 (TX12 28).1 (TX12 28).2.1 (TX12 28).2.2.1 ∈ aT := aT_of (List.mem_of_getElem? (i := 1159) (by decide +kernel)) (by decide +kernel)
theorem gfX12_81 {a : Nat} {v : Value} (hT : T.1.cls = RX12) (d : decode T.2.1 pc = .ok (.getfield 81, 3)) (hs : (S.1 a).1 = 12) (hv : V a 28 = v) (kk : R T r mc ms Q QX kc ks (pc + 3) lv (v :: st) S V) : R T r mc ms Q QX kc ks pc lv (.ref a :: st) S V :=
  R_get (ci := 12) (k := 28) (T0 := TX12) (N := 46) rfl (by decide) (by decide) inX12 (by rw [hT]; exact flX12_81) d hs hv kk
theorem pfX12_81 {a : Nat} {x : Nat} (hT : T.1.cls = RX12) (hI : T.1.name = "<init>") (d : decode T.2.1 pc = .ok (.putfield 81, 3)) (hs : (S.1 a).1 = 12)  (kk : R T r mc ms Q QX kc ks (pc + 3) lv st S (a_up V a 28 (.ref x))) : R T r mc ms Q QX kc ks pc lv (.ref x :: .ref a :: st) S V :=
  R_putF (ci := 12) (k := 28) (T0 := TX12) (N := 46) (ty0 := tyX12) (ty := tyX12 28) rfl (by decide) (by decide) inX12 tyX12_ok nmX12 (by rw [hT]; exact flX12_81) rfl hI (by rw [hT]; rfl) (tyX12_ok 28 (by decide)) rfl rfl d hs kk
theorem flX12_84 : Cond.fieldLink RX12 84 (TX12 29).1 (TX12 29).2.1 (TX12 29).2.2.1 ∈ aT := aT_of (List.mem_of_getElem? (i := 1160) (by decide +kernel)) (by decide +kernel)
theorem gfX12_84 {a : Nat} {v : Value} (hT : T.1.cls = RX12) (d : decode T.2.1 pc = .ok (.getfield 84, 3)) (hs : (S.1 a).1 = 12) (hv : V a 29 = v) (kk : R T r mc ms Q QX kc ks (pc + 3) lv (v :: st) S V) : R T r mc ms Q QX kc ks pc lv (.ref a :: st) S V :=
  R_get (ci := 12) (k := 29) (T0 := TX12) (N := 46) rfl (by decide) (by decide) inX12 (by rw [hT]; exact flX12_84) d hs hv kk
theorem pfX12_84 {a : Nat} {x : Nat} (hT : T.1.cls = RX12) (hI : T.1.name = "<init>") (d : decode T.2.1 pc = .ok (.putfield 84, 3)) (hs : (S.1 a).1 = 12)  (kk : R T r mc ms Q QX kc ks (pc + 3) lv st S (a_up V a 29 (.ref x))) : R T r mc ms Q QX kc ks pc lv (.ref x :: .ref a :: st) S V :=
  R_putF (ci := 12) (k := 29) (T0 := TX12) (N := 46) (ty0 := tyX12) (ty := tyX12 29) rfl (by decide) (by decide) inX12 tyX12_ok nmX12 (by rw [hT]; exact flX12_84) rfl hI (by rw [hT]; rfl) (tyX12_ok 29 (by decide)) rfl rfl d hs kk
theorem flX12_87 : Cond.fieldLink RX12 87 (TX12 30).1 (TX12 30).2.1 (TX12 30).2.2.1 ∈ aT := aT_of (List.mem_of_getElem? (i := 1161) (by decide +kernel)) (by decide +kernel)
theorem gfX12_87 {a : Nat} {v : Value} (hT : T.1.cls = RX12) (d : decode T.2.1 pc = .ok (.getfield 87, 3)) (hs : (S.1 a).1 = 12) (hv : V a 30 = v) (kk : R T r mc ms Q QX kc ks (pc + 3) lv (v :: st) S V) : R T r mc ms Q QX kc ks pc lv (.ref a :: st) S V :=
  R_get (ci := 12) (k := 30) (T0 := TX12) (N := 46) rfl (by decide) (by decide) inX12 (by rw [hT]; exact flX12_87) d hs hv kk
theorem pfX12_87 {a : Nat} {x : Nat} (hT : T.1.cls = RX12) (hI : T.1.name = "<init>") (d : decode T.2.1 pc = .ok (.putfield 87, 3)) (hs : (S.1 a).1 = 12)  (kk : R T r mc ms Q QX kc ks (pc + 3) lv st S (a_up V a 30 (.ref x))) : R T r mc ms Q QX kc ks pc lv (.ref x :: .ref a :: st) S V :=
  R_putF (ci := 12) (k := 30) (T0 := TX12) (N := 46) (ty0 := tyX12) (ty := tyX12 30) rfl (by decide) (by decide) inX12 tyX12_ok nmX12 (by rw [hT]; exact flX12_87) rfl hI (by rw [hT]; rfl) (tyX12_ok 30 (by decide)) rfl rfl d hs kk
theorem flX12_90 : Cond.fieldLink RX12 90 (TX12 31).1 (TX12 31).2.1 (TX12 31).2.2.1 ∈ aT := aT_of (List.mem_of_getElem? (i := 1162) (by decide +kernel)) (by decide +kernel)
theorem gfX12_90 {a : Nat} {v : Value} (hT : T.1.cls = RX12) (d : decode T.2.1 pc = .ok (.getfield 90, 3)) (hs : (S.1 a).1 = 12) (hv : V a 31 = v) (kk : R T r mc ms Q QX kc ks (pc + 3) lv (v :: st) S V) : R T r mc ms Q QX kc ks pc lv (.ref a :: st) S V :=
  R_get (ci := 12) (k := 31) (T0 := TX12) (N := 46) rfl (by decide) (by decide) inX12 (by rw [hT]; exact flX12_90) d hs hv kk
theorem pfX12_90 {a : Nat} {x : Nat} (hT : T.1.cls = RX12) (hI : T.1.name = "<init>") (d : decode T.2.1 pc = .ok (.putfield 90, 3)) (hs : (S.1 a).1 = 12)  (kk : R T r mc ms Q QX kc ks (pc + 3) lv st S (a_up V a 31 (.ref x))) : R T r mc ms Q QX kc ks pc lv (.ref x :: .ref a :: st) S V :=
  R_putF (ci := 12) (k := 31) (T0 := TX12) (N := 46) (ty0 := tyX12) (ty := tyX12 31) rfl (by decide) (by decide) inX12 tyX12_ok nmX12 (by rw [hT]; exact flX12_90) rfl hI (by rw [hT]; rfl) (tyX12_ok 31 (by decide)) rfl rfl d hs kk
theorem flX12_93 : Cond.fieldLink RX12 93 (TX12 36).1 (TX12 36).2.1 (TX12 36).2.2.1 ∈ aT := aT_of (List.mem_of_getElem? (i := 1167) (by decide +kernel)) (by decide +kernel)
theorem gfX12_93 {a : Nat} {v : Value} (hT : T.1.cls = RX12) (d : decode T.2.1 pc = .ok (.getfield 93, 3)) (hs : (S.1 a).1 = 12) (hv : V a 36 = v) (kk : R T r mc ms Q QX kc ks (pc + 3) lv (v :: st) S V) : R T r mc ms Q QX kc ks pc lv (.ref a :: st) S V :=
  R_get (ci := 12) (k := 36) (T0 := TX12) (N := 46) rfl (by decide) (by decide) inX12 (by rw [hT]; exact flX12_93) d hs hv kk
theorem pfX12_93 {a : Nat} {x : Nat} (hT : T.1.cls = RX12) (hI : T.1.name = "<init>") (d : decode T.2.1 pc = .ok (.putfield 93, 3)) (hs : (S.1 a).1 = 12)  (kk : R T r mc ms Q QX kc ks (pc + 3) lv st S (a_up V a 36 (.ref x))) : R T r mc ms Q QX kc ks pc lv (.ref x :: .ref a :: st) S V :=
  R_putF (ci := 12) (k := 36) (T0 := TX12) (N := 46) (ty0 := tyX12) (ty := tyX12 36) rfl (by decide) (by decide) inX12 tyX12_ok nmX12 (by rw [hT]; exact flX12_93) rfl hI (by rw [hT]; rfl) (tyX12_ok 36 (by decide)) rfl rfl d hs kk
theorem flX12_96 : Cond.fieldLink RX12 96 (TX12 37).1 (TX12 37).2.1 (TX12 37).2.2.1 ∈ aT := aT_of (List.mem_of_getElem? (i := 1168) (by decide +kernel)) (by decide +kernel)
theorem gfX12_96 {a : Nat} {v : Value} (hT : T.1.cls = RX12) (d : decode T.2.1 pc = .ok (.getfield 96, 3)) (hs : (S.1 a).1 = 12) (hv : V a 37 = v) (kk : R T r mc ms Q QX kc ks (pc + 3) lv (v :: st) S V) : R T r mc ms Q QX kc ks pc lv (.ref a :: st) S V :=
  R_get (ci := 12) (k := 37) (T0 := TX12) (N := 46) rfl (by decide) (by decide) inX12 (by rw [hT]; exact flX12_96) d hs hv kk
theorem pfX12_96 {a : Nat} {x : Nat} (hT : T.1.cls = RX12) (hI : T.1.name = "<init>") (d : decode T.2.1 pc = .ok (.putfield 96, 3)) (hs : (S.1 a).1 = 12)  (kk : R T r mc ms Q QX kc ks (pc + 3) lv st S (a_up V a 37 (.ref x))) : R T r mc ms Q QX kc ks pc lv (.ref x :: .ref a :: st) S V :=
  R_putF (ci := 12) (k := 37) (T0 := TX12) (N := 46) (ty0 := tyX12) (ty := tyX12 37) rfl (by decide) (by decide) inX12 tyX12_ok nmX12 (by rw [hT]; exact flX12_96) rfl hI (by rw [hT]; rfl) (tyX12_ok 37 (by decide)) rfl rfl d hs kk
theorem flX12_99 : Cond.fieldLink RX12 99 (TX12 38).1 (TX12 38).2.1 (TX12 38).2.2.1 ∈ aT := aT_of (List.mem_of_getElem? (i := 1169) (by decide +kernel)) (by decide +kernel)
theorem gfX12_99 {a : Nat} {v : Value} (hT : T.1.cls = RX12) (d : decode T.2.1 pc = .ok (.getfield 99, 3)) (hs : (S.1 a).1 = 12) (hv : V a 38 = v) (kk : R T r mc ms Q QX kc ks (pc + 3) lv (v :: st) S V) : R T r mc ms Q QX kc ks pc lv (.ref a :: st) S V :=
  R_get (ci := 12) (k := 38) (T0 := TX12) (N := 46) rfl (by decide) (by decide) inX12 (by rw [hT]; exact flX12_99) d hs hv kk
theorem pfX12_99 {a : Nat} {x : Nat} (hT : T.1.cls = RX12) (hI : T.1.name = "<init>") (d : decode T.2.1 pc = .ok (.putfield 99, 3)) (hs : (S.1 a).1 = 12)  (kk : R T r mc ms Q QX kc ks (pc + 3) lv st S (a_up V a 38 (.ref x))) : R T r mc ms Q QX kc ks pc lv (.ref x :: .ref a :: st) S V :=
  R_putF (ci := 12) (k := 38) (T0 := TX12) (N := 46) (ty0 := tyX12) (ty := tyX12 38) rfl (by decide) (by decide) inX12 tyX12_ok nmX12 (by rw [hT]; exact flX12_99) rfl hI (by rw [hT]; rfl) (tyX12_ok 38 (by decide)) rfl rfl d hs kk
theorem flX12_102 : Cond.fieldLink RX12 102 (TX12 39).1 (TX12 39).2.1 (TX12 39).2.2.1 ∈ aT := aT_of (List.mem_of_getElem? (i := 1170) (by decide +kernel)) (by decide +kernel)
theorem gfX12_102 {a : Nat} {v : Value} (hT : T.1.cls = RX12) (d : decode T.2.1 pc = .ok (.getfield 102, 3)) (hs : (S.1 a).1 = 12) (hv : V a 39 = v) (kk : R T r mc ms Q QX kc ks (pc + 3) lv (v :: st) S V) : R T r mc ms Q QX kc ks pc lv (.ref a :: st) S V :=
  R_get (ci := 12) (k := 39) (T0 := TX12) (N := 46) rfl (by decide) (by decide) inX12 (by rw [hT]; exact flX12_102) d hs hv kk
theorem pfX12_102 {a : Nat} {x : Nat} (hT : T.1.cls = RX12) (hI : T.1.name = "<init>") (d : decode T.2.1 pc = .ok (.putfield 102, 3)) (hs : (S.1 a).1 = 12)  (kk : R T r mc ms Q QX kc ks (pc + 3) lv st S (a_up V a 39 (.ref x))) : R T r mc ms Q QX kc ks pc lv (.ref x :: .ref a :: st) S V :=
  R_putF (ci := 12) (k := 39) (T0 := TX12) (N := 46) (ty0 := tyX12) (ty := tyX12 39) rfl (by decide) (by decide) inX12 tyX12_ok nmX12 (by rw [hT]; exact flX12_102) rfl hI (by rw [hT]; rfl) (tyX12_ok 39 (by decide)) rfl rfl d hs kk
theorem flX12_105 : Cond.fieldLink RX12 105 (TX12 40).1 (TX12 40).2.1 (TX12 40).2.2.1 ∈ aT := aT_of (List.mem_of_getElem? (i := 1171) (by decide +kernel)) (by decide +kernel)
theorem gfX12_105 {a : Nat} {v : Value} (hT : T.1.cls = RX12) (d : decode T.2.1 pc = .ok (.getfield 105, 3)) (hs : (S.1 a).1 = 12) (hv : V a 40 = v) (kk : R T r mc ms Q QX kc ks (pc + 3) lv (v :: st) S V) : R T r mc ms Q QX kc ks pc lv (.ref a :: st) S V :=
  R_get (ci := 12) (k := 40) (T0 := TX12) (N := 46) rfl (by decide) (by decide) inX12 (by rw [hT]; exact flX12_105) d hs hv kk
theorem pfX12_105 {a : Nat} {x : Nat} (hT : T.1.cls = RX12) (hI : T.1.name = "<init>") (d : decode T.2.1 pc = .ok (.putfield 105, 3)) (hs : (S.1 a).1 = 12)  (kk : R T r mc ms Q QX kc ks (pc + 3) lv st S (a_up V a 40 (.ref x))) : R T r mc ms Q QX kc ks pc lv (.ref x :: .ref a :: st) S V :=
  R_putF (ci := 12) (k := 40) (T0 := TX12) (N := 46) (ty0 := tyX12) (ty := tyX12 40) rfl (by decide) (by decide) inX12 tyX12_ok nmX12 (by rw [hT]; exact flX12_105) rfl hI (by rw [hT]; rfl) (tyX12_ok 40 (by decide)) rfl rfl d hs kk
theorem flX12_108 : Cond.fieldLink RX12 108 (TX12 41).1 (TX12 41).2.1 (TX12 41).2.2.1 ∈ aT := aT_of (List.mem_of_getElem? (i := 1172) (by decide +kernel)) (by decide +kernel)
theorem gfX12_108 {a : Nat} {v : Value} (hT : T.1.cls = RX12) (d : decode T.2.1 pc = .ok (.getfield 108, 3)) (hs : (S.1 a).1 = 12) (hv : V a 41 = v) (kk : R T r mc ms Q QX kc ks (pc + 3) lv (v :: st) S V) : R T r mc ms Q QX kc ks pc lv (.ref a :: st) S V :=
  R_get (ci := 12) (k := 41) (T0 := TX12) (N := 46) rfl (by decide) (by decide) inX12 (by rw [hT]; exact flX12_108) d hs hv kk
theorem pfX12_108 {a : Nat} {x : Nat} (hT : T.1.cls = RX12) (hI : T.1.name = "<init>") (d : decode T.2.1 pc = .ok (.putfield 108, 3)) (hs : (S.1 a).1 = 12)  (kk : R T r mc ms Q QX kc ks (pc + 3) lv st S (a_up V a 41 (.ref x))) : R T r mc ms Q QX kc ks pc lv (.ref x :: .ref a :: st) S V :=
  R_putF (ci := 12) (k := 41) (T0 := TX12) (N := 46) (ty0 := tyX12) (ty := tyX12 41) rfl (by decide) (by decide) inX12 tyX12_ok nmX12 (by rw [hT]; exact flX12_108) rfl hI (by rw [hT]; rfl) (tyX12_ok 41 (by decide)) rfl rfl d hs kk
theorem flX12_111 : Cond.fieldLink RX12 111 (TX12 42).1 (TX12 42).2.1 (TX12 42).2.2.1 ∈ aT := aT_of (List.mem_of_getElem? (i := 1173) (by decide +kernel)) (by decide +kernel)
theorem gfX12_111 {a : Nat} {v : Value} (hT : T.1.cls = RX12) (d : decode T.2.1 pc = .ok (.getfield 111, 3)) (hs : (S.1 a).1 = 12) (hv : V a 42 = v) (kk : R T r mc ms Q QX kc ks (pc + 3) lv (v :: st) S V) : R T r mc ms Q QX kc ks pc lv (.ref a :: st) S V :=
  R_get (ci := 12) (k := 42) (T0 := TX12) (N := 46) rfl (by decide) (by decide) inX12 (by rw [hT]; exact flX12_111) d hs hv kk
theorem pfX12_111 {a : Nat} {x : Nat} (hT : T.1.cls = RX12) (hI : T.1.name = "<init>") (d : decode T.2.1 pc = .ok (.putfield 111, 3)) (hs : (S.1 a).1 = 12)  (kk : R T r mc ms Q QX kc ks (pc + 3) lv st S (a_up V a 42 (.ref x))) : R T r mc ms Q QX kc ks pc lv (.ref x :: .ref a :: st) S V :=
  R_putF (ci := 12) (k := 42) (T0 := TX12) (N := 46) (ty0 := tyX12) (ty := tyX12 42) rfl (by decide) (by decide) inX12 tyX12_ok nmX12 (by rw [hT]; exact flX12_111) rfl hI (by rw [hT]; rfl) (tyX12_ok 42 (by decide)) rfl rfl d hs kk
theorem flX12_114 : Cond.fieldLink RX12 114 (TX12 44).1 (TX12 44).2.1 (TX12 44).2.2.1 ∈ aT := aT_of (List.mem_of_getElem? (i := 1175) (by decide +kernel)) (by decide +kernel)
theorem gfX12_114 {a : Nat} {v : Value} (hT : T.1.cls = RX12) (d : decode T.2.1 pc = .ok (.getfield 114, 3)) (hs : (S.1 a).1 = 12) (hv : V a 44 = v) (kk : R T r mc ms Q QX kc ks (pc + 3) lv (v :: st) S V) : R T r mc ms Q QX kc ks pc lv (.ref a :: st) S V :=
  R_get (ci := 12) (k := 44) (T0 := TX12) (N := 46) rfl (by decide) (by decide) inX12 (by rw [hT]; exact flX12_114) d hs hv kk
theorem pfX12_114 {a : Nat} {x : Nat} (hT : T.1.cls = RX12) (hI : T.1.name = "<init>") (d : decode T.2.1 pc = .ok (.putfield 114, 3)) (hs : (S.1 a).1 = 12)  (kk : R T r mc ms Q QX kc ks (pc + 3) lv st S (a_up V a 44 (.ref x))) : R T r mc ms Q QX kc ks pc lv (.ref x :: .ref a :: st) S V :=
  R_putF (ci := 12) (k := 44) (T0 := TX12) (N := 46) (ty0 := tyX12) (ty := tyX12 44) rfl (by decide) (by decide) inX12 tyX12_ok nmX12 (by rw [hT]; exact flX12_114) rfl hI (by rw [hT]; rfl) (tyX12_ok 44 (by decide)) rfl rfl d hs kk
theorem flX12_117 : Cond.fieldLink RX12 117 (TX12 45).1 (TX12 45).2.1 (TX12 45).2.2.1 ∈ aT := aT_of (List.mem_of_getElem? (i := 1176) (by decide +kernel)) (by decide +kernel)
theorem gfX12_117 {a : Nat} {v : Value} (hT : T.1.cls = RX12) (d : decode T.2.1 pc = .ok (.getfield 117, 3)) (hs : (S.1 a).1 = 12) (hv : V a 45 = v) (kk : R T r mc ms Q QX kc ks (pc + 3) lv (v :: st) S V) : R T r mc ms Q QX kc ks pc lv (.ref a :: st) S V :=
  R_get (ci := 12) (k := 45) (T0 := TX12) (N := 46) rfl (by decide) (by decide) inX12 (by rw [hT]; exact flX12_117) d hs hv kk
theorem pfX12_117 {a : Nat} {x : Nat} (hT : T.1.cls = RX12) (hI : T.1.name = "<init>") (d : decode T.2.1 pc = .ok (.putfield 117, 3)) (hs : (S.1 a).1 = 12)  (kk : R T r mc ms Q QX kc ks (pc + 3) lv st S (a_up V a 45 (.ref x))) : R T r mc ms Q QX kc ks pc lv (.ref x :: .ref a :: st) S V :=
  R_putF (ci := 12) (k := 45) (T0 := TX12) (N := 46) (ty0 := tyX12) (ty := tyX12 45) rfl (by decide) (by decide) inX12 tyX12_ok nmX12 (by rw [hT]; exact flX12_117) rfl hI (by rw [hT]; rfl) (tyX12_ok 45 (by decide)) rfl rfl d hs kk
theorem flX12_120 : Cond.fieldLink RX12 120 (TX12 0).1 (TX12 0).2.1 (TX12 0).2.2.1 ∈ aT := aT_of (List.mem_of_getElem? (i := 1131) (by decide +kernel)) (by decide +kernel)
theorem gfX12_120 {a : Nat} {v : Value} (hT : T.1.cls = RX12) (d : decode T.2.1 pc = .ok (.getfield 120, 3)) (hs : (S.1 a).1 = 12) (hv : V a 0 = v) (kk : R T r mc ms Q QX kc ks (pc + 3) lv (v :: st) S V) : R T r mc ms Q QX kc ks pc lv (.ref a :: st) S V :=
  R_get (ci := 12) (k := 0) (T0 := TX12) (N := 46) rfl (by decide) (by decide) inX12 (by rw [hT]; exact flX12_120) d hs hv kk
theorem pfX12_120 {a : Nat} {x : Int32} (hT : T.1.cls = RX12) (d : decode T.2.1 pc = .ok (.putfield 120, 3)) (hs : (S.1 a).1 = 12)  (kk : R T r mc ms Q QX kc ks (pc + 3) lv st S (a_up V a 0 (.int x))) : R T r mc ms Q QX kc ks pc lv (.int x :: .ref a :: st) S V :=
  R_put (ci := 12) (k := 0) (T0 := TX12) (N := 46) (ty0 := tyX12) (ty := tyX12 0) rfl (by decide) (by decide) inX12 tyX12_ok nmX12 (by rw [hT]; exact flX12_120) rfl (tyX12_ok 0 (by decide)) rfl rfl d hs kk
theorem flX12_125 : Cond.fieldLink RX12 125 (TX12 2).1 (TX12 2).2.1 (TX12 2).2.2.1 ∈ aT := aT_of (List.mem_of_getElem? (i := 1133) (by decide +kernel)) (by decide +kernel)
theorem gfX12_125 {a : Nat} {v : Value} (hT : T.1.cls = RX12) (d : decode T.2.1 pc = .ok (.getfield 125, 3)) (hs : (S.1 a).1 = 12) (hv : V a 2 = v) (kk : R T r mc ms Q QX kc ks (pc + 3) lv (v :: st) S V) : R T r mc ms Q QX kc ks pc lv (.ref a :: st) S V :=
  R_get (ci := 12) (k := 2) (T0 := TX12) (N := 46) rfl (by decide) (by decide) inX12 (by rw [hT]; exact flX12_125) d hs hv kk
theorem pfX12_125 {a : Nat} {x : Int32} (hT : T.1.cls = RX12) (d : decode T.2.1 pc = .ok (.putfield 125, 3)) (hs : (S.1 a).1 = 12)  (kk : R T r mc ms Q QX kc ks (pc + 3) lv st S (a_up V a 2 (.int x))) : R T r mc ms Q QX kc ks pc lv (.int x :: .ref a :: st) S V :=
  R_put (ci := 12) (k := 2) (T0 := TX12) (N := 46) (ty0 := tyX12) (ty := tyX12 2) rfl (by decide) (by decide) inX12 tyX12_ok nmX12 (by rw [hT]; exact flX12_125) rfl (tyX12_ok 2 (by decide)) rfl rfl d hs kk
theorem flX12_166 : Cond.fieldLink RX12 166 (TX12 5).1 (TX12 5).2.1 (TX12 5).2.2.1 ∈ aT := aT_of (List.mem_of_getElem? (i := 1136) (by decide +kernel)) (by decide +kernel)
theorem gfX12_166 {a : Nat} {v : Value} (hT : T.1.cls = RX12) (d : decode T.2.1 pc = .ok (.getfield 166, 3)) (hs : (S.1 a).1 = 12) (hv : V a 5 = v) (kk : R T r mc ms Q QX kc ks (pc + 3) lv (v :: st) S V) : R T r mc ms Q QX kc ks pc lv (.ref a :: st) S V :=
  R_get (ci := 12) (k := 5) (T0 := TX12) (N := 46) rfl (by decide) (by decide) inX12 (by rw [hT]; exact flX12_166) d hs hv kk
theorem pfX12_166 {a : Nat} {x : Int32} (hT : T.1.cls = RX12) (d : decode T.2.1 pc = .ok (.putfield 166, 3)) (hs : (S.1 a).1 = 12)  (kk : R T r mc ms Q QX kc ks (pc + 3) lv st S (a_up V a 5 (.int x))) : R T r mc ms Q QX kc ks pc lv (.int x :: .ref a :: st) S V :=
  R_put (ci := 12) (k := 5) (T0 := TX12) (N := 46) (ty0 := tyX12) (ty := tyX12 5) rfl (by decide) (by decide) inX12 tyX12_ok nmX12 (by rw [hT]; exact flX12_166) rfl (tyX12_ok 5 (by decide)) rfl rfl d hs kk
theorem flX12_213 : Cond.fieldLink RX12 213 (TX12 43).1 (TX12 43).2.1 (TX12 43).2.2.1 ∈ aT := aT_of (List.mem_of_getElem? (i := 1174) (by decide +kernel)) (by decide +kernel)
theorem gfX12_213 {a : Nat} {v : Value} (hT : T.1.cls = RX12) (d : decode T.2.1 pc = .ok (.getfield 213, 3)) (hs : (S.1 a).1 = 12) (hv : V a 43 = v) (kk : R T r mc ms Q QX kc ks (pc + 3) lv (v :: st) S V) : R T r mc ms Q QX kc ks pc lv (.ref a :: st) S V :=
  R_get (ci := 12) (k := 43) (T0 := TX12) (N := 46) rfl (by decide) (by decide) inX12 (by rw [hT]; exact flX12_213) d hs hv kk
theorem pfX12_213 {a : Nat} {x : Int32} (hT : T.1.cls = RX12) (d : decode T.2.1 pc = .ok (.putfield 213, 3)) (hs : (S.1 a).1 = 12)  (kk : R T r mc ms Q QX kc ks (pc + 3) lv st S (a_up V a 43 (.int x))) : R T r mc ms Q QX kc ks pc lv (.int x :: .ref a :: st) S V :=
  R_put (ci := 12) (k := 43) (T0 := TX12) (N := 46) (ty0 := tyX12) (ty := tyX12 43) rfl (by decide) (by decide) inX12 tyX12_ok nmX12 (by rw [hT]; exact flX12_213) rfl (tyX12_ok 43 (by decide)) rfl rfl d hs kk
theorem flX12_233 : Cond.fieldLink RX12 233 (TX12 33).1 (TX12 33).2.1 (TX12 33).2.2.1 ∈ aT := aT_of (List.mem_of_getElem? (i := 1164) (by decide +kernel)) (by decide +kernel)
theorem gfX12_233 {a : Nat} {v : Value} (hT : T.1.cls = RX12) (d : decode T.2.1 pc = .ok (.getfield 233, 3)) (hs : (S.1 a).1 = 12) (hv : V a 33 = v) (kk : R T r mc ms Q QX kc ks (pc + 3) lv (v :: st) S V) : R T r mc ms Q QX kc ks pc lv (.ref a :: st) S V :=
  R_get (ci := 12) (k := 33) (T0 := TX12) (N := 46) rfl (by decide) (by decide) inX12 (by rw [hT]; exact flX12_233) d hs hv kk
theorem pfX12_233 {a : Nat} {x : Int32} (hT : T.1.cls = RX12) (d : decode T.2.1 pc = .ok (.putfield 233, 3)) (hs : (S.1 a).1 = 12)  (kk : R T r mc ms Q QX kc ks (pc + 3) lv st S (a_up V a 33 (.int x))) : R T r mc ms Q QX kc ks pc lv (.int x :: .ref a :: st) S V :=
  R_put (ci := 12) (k := 33) (T0 := TX12) (N := 46) (ty0 := tyX12) (ty := tyX12 33) rfl (by decide) (by decide) inX12 tyX12_ok nmX12 (by rw [hT]; exact flX12_233) rfl (tyX12_ok 33 (by decide)) rfl rfl d hs kk
theorem flX12_236 : Cond.fieldLink RX12 236 (TX12 35).1 (TX12 35).2.1 (TX12 35).2.2.1 ∈ aT := aT_of (List.mem_of_getElem? (i := 1166) (by decide +kernel)) (by decide +kernel)
theorem gfX12_236 {a : Nat} {v : Value} (hT : T.1.cls = RX12) (d : decode T.2.1 pc = .ok (.getfield 236, 3)) (hs : (S.1 a).1 = 12) (hv : V a 35 = v) (kk : R T r mc ms Q QX kc ks (pc + 3) lv (v :: st) S V) : R T r mc ms Q QX kc ks pc lv (.ref a :: st) S V :=
  R_get (ci := 12) (k := 35) (T0 := TX12) (N := 46) rfl (by decide) (by decide) inX12 (by rw [hT]; exact flX12_236) d hs hv kk
theorem pfX12_236 {a : Nat} {x : Int32} (hT : T.1.cls = RX12) (d : decode T.2.1 pc = .ok (.putfield 236, 3)) (hs : (S.1 a).1 = 12)  (kk : R T r mc ms Q QX kc ks (pc + 3) lv st S (a_up V a 35 (.int x))) : R T r mc ms Q QX kc ks pc lv (.int x :: .ref a :: st) S V :=
  R_put (ci := 12) (k := 35) (T0 := TX12) (N := 46) (ty0 := tyX12) (ty := tyX12 35) rfl (by decide) (by decide) inX12 tyX12_ok nmX12 (by rw [hT]; exact flX12_236) rfl (tyX12_ok 35 (by decide)) rfl rfl d hs kk
theorem flX12_239 : Cond.fieldLink RX12 239 (TX12 32).1 (TX12 32).2.1 (TX12 32).2.2.1 ∈ aT := aT_of (List.mem_of_getElem? (i := 1163) (by decide +kernel)) (by decide +kernel)
theorem gfX12_239 {a : Nat} {v : Value} (hT : T.1.cls = RX12) (d : decode T.2.1 pc = .ok (.getfield 239, 3)) (hs : (S.1 a).1 = 12) (hv : V a 32 = v) (kk : R T r mc ms Q QX kc ks (pc + 3) lv (v :: st) S V) : R T r mc ms Q QX kc ks pc lv (.ref a :: st) S V :=
  R_get (ci := 12) (k := 32) (T0 := TX12) (N := 46) rfl (by decide) (by decide) inX12 (by rw [hT]; exact flX12_239) d hs hv kk
theorem pfX12_239 {a : Nat} {x : Int32} (hT : T.1.cls = RX12) (d : decode T.2.1 pc = .ok (.putfield 239, 3)) (hs : (S.1 a).1 = 12)  (kk : R T r mc ms Q QX kc ks (pc + 3) lv st S (a_up V a 32 (.int x))) : R T r mc ms Q QX kc ks pc lv (.int x :: .ref a :: st) S V :=
  R_put (ci := 12) (k := 32) (T0 := TX12) (N := 46) (ty0 := tyX12) (ty := tyX12 32) rfl (by decide) (by decide) inX12 tyX12_ok nmX12 (by rw [hT]; exact flX12_239) rfl (tyX12_ok 32 (by decide)) rfl rfl d hs kk
theorem flX12_273 : Cond.fieldLink RX12 273 (TX12 34).1 (TX12 34).2.1 (TX12 34).2.2.1 ∈ aT := aT_of (List.mem_of_getElem? (i := 1165) (by decide +kernel)) (by decide +kernel)
theorem gfX12_273 {a : Nat} {v : Value} (hT : T.1.cls = RX12) (d : decode T.2.1 pc = .ok (.getfield 273, 3)) (hs : (S.1 a).1 = 12) (hv : V a 34 = v) (kk : R T r mc ms Q QX kc ks (pc + 3) lv (v :: st) S V) : R T r mc ms Q QX kc ks pc lv (.ref a :: st) S V :=
  R_get (ci := 12) (k := 34) (T0 := TX12) (N := 46) rfl (by decide) (by decide) inX12 (by rw [hT]; exact flX12_273) d hs hv kk
theorem pfX12_273 {a : Nat} {x : Int32} (hT : T.1.cls = RX12) (d : decode T.2.1 pc = .ok (.putfield 273, 3)) (hs : (S.1 a).1 = 12)  (kk : R T r mc ms Q QX kc ks (pc + 3) lv st S (a_up V a 34 (.int x))) : R T r mc ms Q QX kc ks pc lv (.int x :: .ref a :: st) S V :=
  R_put (ci := 12) (k := 34) (T0 := TX12) (N := 46) (ty0 := tyX12) (ty := tyX12 34) rfl (by decide) (by decide) inX12 tyX12_ok nmX12 (by rw [hT]; exact flX12_273) rfl (tyX12_ok 34 (by decide)) rfl rfl d hs kk
theorem flX12_286 : Cond.fieldLink RX12 286 (TX12 22).1 (TX12 22).2.1 (TX12 22).2.2.1 ∈ aT := aT_of (List.mem_of_getElem? (i := 1153) (by decide +kernel)) (by decide +kernel)
theorem gfX12_286 {a : Nat} {v : Value} (hT : T.1.cls = RX12) (d : decode T.2.1 pc = .ok (.getfield 286, 3)) (hs : (S.1 a).1 = 12) (hv : V a 22 = v) (kk : R T r mc ms Q QX kc ks (pc + 3) lv (v :: st) S V) : R T r mc ms Q QX kc ks pc lv (.ref a :: st) S V :=
  R_get (ci := 12) (k := 22) (T0 := TX12) (N := 46) rfl (by decide) (by decide) inX12 (by rw [hT]; exact flX12_286) d hs hv kk
theorem pfX12_286 {a : Nat} {x : Int32} (hT : T.1.cls = RX12) (d : decode T.2.1 pc = .ok (.putfield 286, 3)) (hs : (S.1 a).1 = 12)  (kk : R T r mc ms Q QX kc ks (pc + 3) lv st S (a_up V a 22 (.int x))) : R T r mc ms Q QX kc ks pc lv (.int x :: .ref a :: st) S V :=
  R_put (ci := 12) (k := 22) (T0 := TX12) (N := 46) (ty0 := tyX12) (ty := tyX12 22) rfl (by decide) (by decide) inX12 tyX12_ok nmX12 (by rw [hT]; exact flX12_286) rfl (tyX12_ok 22 (by decide)) rfl rfl d hs kk
theorem flX12_313 : Cond.fieldLink RX12 313 (TX12 21).1 (TX12 21).2.1 (TX12 21).2.2.1 ∈ aT := aT_of (List.mem_of_getElem? (i := 1152) (by decide +kernel)) (by decide +kernel)
theorem gfX12_313 {a : Nat} {v : Value} (hT : T.1.cls = RX12) (d : decode T.2.1 pc = .ok (.getfield 313, 3)) (hs : (S.1 a).1 = 12) (hv : V a 21 = v) (kk : R T r mc ms Q QX kc ks (pc + 3) lv (v :: st) S V) : R T r mc ms Q QX kc ks pc lv (.ref a :: st) S V :=
  R_get (ci := 12) (k := 21) (T0 := TX12) (N := 46) rfl (by decide) (by decide) inX12 (by rw [hT]; exact flX12_313) d hs hv kk
theorem pfX12_313 {a : Nat} {x : Int32} (hT : T.1.cls = RX12) (d : decode T.2.1 pc = .ok (.putfield 313, 3)) (hs : (S.1 a).1 = 12)  (kk : R T r mc ms Q QX kc ks (pc + 3) lv st S (a_up V a 21 (.int x))) : R T r mc ms Q QX kc ks pc lv (.int x :: .ref a :: st) S V :=
  R_put (ci := 12) (k := 21) (T0 := TX12) (N := 46) (ty0 := tyX12) (ty := tyX12 21) rfl (by decide) (by decide) inX12 tyX12_ok nmX12 (by rw [hT]; exact flX12_313) rfl (tyX12_ok 21 (by decide)) rfl rfl d hs kk
theorem flX2_9 : Cond.fieldLink RX2 9 (TX2 0).1 (TX2 0).2.1 (TX2 0).2.2.1 ∈ aT := aT_of (List.mem_of_getElem? (i := 388) (by decide +kernel)) (by decide +kernel)
theorem gfX2_9 {a : Nat} {v : Value} (hT : T.1.cls = RX2) (d : decode T.2.1 pc = .ok (.getfield 9, 3)) (hs : (S.1 a).1 = 2) (hv : V a 0 = v) (kk : R T r mc ms Q QX kc ks (pc + 3) lv (v :: st) S V) : R T r mc ms Q QX kc ks pc lv (.ref a :: st) S V :=
  R_get (ci := 2) (k := 0) (T0 := TX2) (N := 2) rfl (by decide) (by decide) inX2 (by rw [hT]; exact flX2_9) d hs hv kk
theorem pfX2_9 {a : Nat} {x : Int32} (hT : T.1.cls = RX2) (d : decode T.2.1 pc = .ok (.putfield 9, 3)) (hs : (S.1 a).1 = 2)  (kk : R T r mc ms Q QX kc ks (pc + 3) lv st S (a_up V a 0 (.int x))) : R T r mc ms Q QX kc ks pc lv (.int x :: .ref a :: st) S V :=
  R_put (ci := 2) (k := 0) (T0 := TX2) (N := 2) (ty0 := tyX2) (ty := tyX2 0) rfl (by decide) (by decide) inX2 tyX2_ok nmX2 (by rw [hT]; exact flX2_9) rfl (tyX2_ok 0 (by decide)) rfl rfl d hs kk
theorem flX2_15 : Cond.fieldLink RX2 15 (TX2 1).1 (TX2 1).2.1 (TX2 1).2.2.1 ∈ aT := aT_of (List.mem_of_getElem? (i := 390) (by decide +kernel)) (by decide +kernel)
theorem gfX2_15 {a : Nat} {v : Value} (hT : T.1.cls = RX2) (d : decode T.2.1 pc = .ok (.getfield 15, 3)) (hs : (S.1 a).1 = 2) (hv : V a 1 = v) (kk : R T r mc ms Q QX kc ks (pc + 3) lv (v :: st) S V) : R T r mc ms Q QX kc ks pc lv (.ref a :: st) S V :=
  R_get (ci := 2) (k := 1) (T0 := TX2) (N := 2) rfl (by decide) (by decide) inX2 (by rw [hT]; exact flX2_15) d hs hv kk
theorem pfX2_15 {a : Nat} {x : Int32} (hT : T.1.cls = RX2) (d : decode T.2.1 pc = .ok (.putfield 15, 3)) (hs : (S.1 a).1 = 2)  (kk : R T r mc ms Q QX kc ks (pc + 3) lv st S (a_up V a 1 (.int x))) : R T r mc ms Q QX kc ks pc lv (.int x :: .ref a :: st) S V :=
  R_put (ci := 2) (k := 1) (T0 := TX2) (N := 2) (ty0 := tyX2) (ty := tyX2 1) rfl (by decide) (by decide) inX2 tyX2_ok nmX2 (by rw [hT]; exact flX2_15) rfl (tyX2_ok 1 (by decide)) rfl rfl d hs kk
theorem flX3_11 : Cond.fieldLink RX3 11 (TX3 0).1 (TX3 0).2.1 (TX3 0).2.2.1 ∈ aT := aT_of (List.mem_of_getElem? (i := 229) (by decide +kernel)) (by decide +kernel)
theorem gfX3_11 {a : Nat} {v : Value} (hT : T.1.cls = RX3) (d : decode T.2.1 pc = .ok (.getfield 11, 3)) (hs : (S.1 a).1 = 3) (hv : V a 0 = v) (kk : R T r mc ms Q QX kc ks (pc + 3) lv (v :: st) S V) : R T r mc ms Q QX kc ks pc lv (.ref a :: st) S V :=
  R_get (ci := 3) (k := 0) (T0 := TX3) (N := 3) rfl (by decide) (by decide) inX3 (by rw [hT]; exact flX3_11) d hs hv kk
theorem pfX3_11 {a : Nat} {x : Nat} (hT : T.1.cls = RX3) (hI : T.1.name = "<init>") (d : decode T.2.1 pc = .ok (.putfield 11, 3)) (hs : (S.1 a).1 = 3)  (kk : R T r mc ms Q QX kc ks (pc + 3) lv st S (a_up V a 0 (.ref x))) : R T r mc ms Q QX kc ks pc lv (.ref x :: .ref a :: st) S V :=
  R_putF (ci := 3) (k := 0) (T0 := TX3) (N := 3) (ty0 := tyX3) (ty := tyX3 0) rfl (by decide) (by decide) inX3 tyX3_ok nmX3 (by rw [hT]; exact flX3_11) rfl hI (by rw [hT]; rfl) (tyX3_ok 0 (by decide)) rfl rfl d hs kk
theorem flX3_17 : Cond.fieldLink RX3 17 (TX3 1).1 (TX3 1).2.1 (TX3 1).2.2.1 ∈ aT := aT_of (List.mem_of_getElem? (i := 231) (by decide +kernel)) (by decide +kernel)
theorem gfX3_17 {a : Nat} {v : Value} (hT : T.1.cls = RX3) (d : decode T.2.1 pc = .ok (.getfield 17, 3)) (hs : (S.1 a).1 = 3) (hv : V a 1 = v) (kk : R T r mc ms Q QX kc ks (pc + 3) lv (v :: st) S V) : R T r mc ms Q QX kc ks pc lv (.ref a :: st) S V :=
  R_get (ci := 3) (k := 1) (T0 := TX3) (N := 3) rfl (by decide) (by decide) inX3 (by rw [hT]; exact flX3_17) d hs hv kk
theorem pfX3_17 {a : Nat} {x : Nat} (hT : T.1.cls = RX3) (hI : T.1.name = "<init>") (d : decode T.2.1 pc = .ok (.putfield 17, 3)) (hs : (S.1 a).1 = 3)  (kk : R T r mc ms Q QX kc ks (pc + 3) lv st S (a_up V a 1 (.ref x))) : R T r mc ms Q QX kc ks pc lv (.ref x :: .ref a :: st) S V :=
  R_putF (ci := 3) (k := 1) (T0 := TX3) (N := 3) (ty0 := tyX3) (ty := tyX3 1) rfl (by decide) (by decide) inX3 tyX3_ok nmX3 (by rw [hT]; exact flX3_17) rfl hI (by rw [hT]; rfl) (tyX3_ok 1 (by decide)) rfl rfl d hs kk
theorem flX3_24 : Cond.fieldLink RX3 24 (TX3 2).1 (TX3 2).2.1 (TX3 2).2.2.1 ∈ aT := aT_of (List.mem_of_getElem? (i := 234) (by decide +kernel)) (by decide +kernel)
theorem gfX3_24 {a : Nat} {v : Value} (hT : T.1.cls = RX3) (d : decode T.2.1 pc = .ok (.getfield 24, 3)) (hs : (S.1 a).1 = 3) (hv : V a 2 = v) (kk : R T r mc ms Q QX kc ks (pc + 3) lv (v :: st) S V) : R T r mc ms Q QX kc ks pc lv (.ref a :: st) S V :=
  R_get (ci := 3) (k := 2) (T0 := TX3) (N := 3) rfl (by decide) (by decide) inX3 (by rw [hT]; exact flX3_24) d hs hv kk
theorem pfX3_24 {a : Nat} {x : Nat} (hT : T.1.cls = RX3) (hI : T.1.name = "<init>") (d : decode T.2.1 pc = .ok (.putfield 24, 3)) (hs : (S.1 a).1 = 3)  (kk : R T r mc ms Q QX kc ks (pc + 3) lv st S (a_up V a 2 (.ref x))) : R T r mc ms Q QX kc ks pc lv (.ref x :: .ref a :: st) S V :=
  R_putF (ci := 3) (k := 2) (T0 := TX3) (N := 3) (ty0 := tyX3) (ty := tyX3 2) rfl (by decide) (by decide) inX3 tyX3_ok nmX3 (by rw [hT]; exact flX3_24) rfl hI (by rw [hT]; rfl) (tyX3_ok 2 (by decide)) rfl rfl d hs kk
theorem flX3_32 : Cond.fieldLinkNest RX3 32 (TX9 1).1 (TX9 1).2.1 (TX9 1).2.2.1 "MergePost" ∈ aN := aN_of (List.mem_of_getElem? (i := 52) (by decide +kernel)) (by decide +kernel)
theorem gfX3_32 {a : Nat} {v : Value} (hT : T.1.cls = RX3) (d : decode T.2.1 pc = .ok (.getfield 32, 3)) (hs : (S.1 a).1 = 9) (hv : V a 1 = v) (kk : R T r mc ms Q QX kc ks (pc + 3) lv (v :: st) S V) : R T r mc ms Q QX kc ks pc lv (.ref a :: st) S V :=
  R_getN (ci := 9) (k := 1) (T0 := TX9) (N := 2) rfl (by decide) (by decide) inX9 (by rw [hT]; exact flX3_32) d hs hv kk
theorem pfX3_32 {a : Nat} {x : Int32} (hT : T.1.cls = RX3) (d : decode T.2.1 pc = .ok (.putfield 32, 3)) (hs : (S.1 a).1 = 9)  (kk : R T r mc ms Q QX kc ks (pc + 3) lv st S (a_up V a 1 (.int x))) : R T r mc ms Q QX kc ks pc lv (.int x :: .ref a :: st) S V :=
  R_putN (ci := 9) (k := 1) (T0 := TX9) (N := 2) (ty0 := tyX9) (ty := tyX9 1) rfl (by decide) (by decide) inX9 tyX9_ok nmX9 (by rw [hT]; exact flX3_32) rfl (tyX9_ok 1 (by decide)) rfl rfl d hs kk
theorem flX3_36 : Cond.fieldLinkNest RX3 36 (TX1 0).1 (TX1 0).2.1 (TX1 0).2.2.1 "MergePost" ∈ aN := aN_of (List.mem_of_getElem? (i := 241) (by decide +kernel)) (by decide +kernel)
theorem gfX3_36 {a : Nat} {v : Value} (hT : T.1.cls = RX3) (d : decode T.2.1 pc = .ok (.getfield 36, 3)) (hs : (S.1 a).1 = 1) (hv : V a 0 = v) (kk : R T r mc ms Q QX kc ks (pc + 3) lv (v :: st) S V) : R T r mc ms Q QX kc ks pc lv (.ref a :: st) S V :=
  R_getN (ci := 1) (k := 0) (T0 := TX1) (N := 6) rfl (by decide) (by decide) inX1 (by rw [hT]; exact flX3_36) d hs hv kk
theorem flX3_49 : Cond.fieldLinkNest RX3 49 (TX0 1).1 (TX0 1).2.1 (TX0 1).2.2.1 "MergePost" ∈ aN := aN_of (List.mem_of_getElem? (i := 212) (by decide +kernel)) (by decide +kernel)
theorem gfX3_49 {a : Nat} {v : Value} (hT : T.1.cls = RX3) (d : decode T.2.1 pc = .ok (.getfield 49, 3)) (hs : (S.1 a).1 = 0) (hv : V a 1 = v) (kk : R T r mc ms Q QX kc ks (pc + 3) lv (v :: st) S V) : R T r mc ms Q QX kc ks pc lv (.ref a :: st) S V :=
  R_getN (ci := 0) (k := 1) (T0 := TX0) (N := 7) rfl (by decide) (by decide) inX0 (by rw [hT]; exact flX3_49) d hs hv kk
theorem flX3_58 : Cond.fieldLinkNest RX3 58 (TX0 4).1 (TX0 4).2.1 (TX0 4).2.2.1 "MergePost" ∈ aN := aN_of (List.mem_of_getElem? (i := 217) (by decide +kernel)) (by decide +kernel)
theorem gfX3_58 {a : Nat} {v : Value} (hT : T.1.cls = RX3) (d : decode T.2.1 pc = .ok (.getfield 58, 3)) (hs : (S.1 a).1 = 0) (hv : V a 4 = v) (kk : R T r mc ms Q QX kc ks (pc + 3) lv (v :: st) S V) : R T r mc ms Q QX kc ks pc lv (.ref a :: st) S V :=
  R_getN (ci := 0) (k := 4) (T0 := TX0) (N := 7) rfl (by decide) (by decide) inX0 (by rw [hT]; exact flX3_58) d hs hv kk
theorem flX3_61 : Cond.fieldLinkNest RX3 61 (TX0 5).1 (TX0 5).2.1 (TX0 5).2.2.1 "MergePost" ∈ aN := aN_of (List.mem_of_getElem? (i := 220) (by decide +kernel)) (by decide +kernel)
theorem gfX3_61 {a : Nat} {v : Value} (hT : T.1.cls = RX3) (d : decode T.2.1 pc = .ok (.getfield 61, 3)) (hs : (S.1 a).1 = 0) (hv : V a 5 = v) (kk : R T r mc ms Q QX kc ks (pc + 3) lv (v :: st) S V) : R T r mc ms Q QX kc ks pc lv (.ref a :: st) S V :=
  R_getN (ci := 0) (k := 5) (T0 := TX0) (N := 7) rfl (by decide) (by decide) inX0 (by rw [hT]; exact flX3_61) d hs hv kk
theorem flX3_64 : Cond.fieldLinkNest RX3 64 (TX0 0).1 (TX0 0).2.1 (TX0 0).2.2.1 "MergePost" ∈ aN := aN_of (List.mem_of_getElem? (i := 210) (by decide +kernel)) (by decide +kernel)
theorem gfX3_64 {a : Nat} {v : Value} (hT : T.1.cls = RX3) (d : decode T.2.1 pc = .ok (.getfield 64, 3)) (hs : (S.1 a).1 = 0) (hv : V a 0 = v) (kk : R T r mc ms Q QX kc ks (pc + 3) lv (v :: st) S V) : R T r mc ms Q QX kc ks pc lv (.ref a :: st) S V :=
  R_getN (ci := 0) (k := 0) (T0 := TX0) (N := 7) rfl (by decide) (by decide) inX0 (by rw [hT]; exact flX3_64) d hs hv kk
theorem flX3_67 : Cond.fieldLinkNest RX3 67 (TX0 6).1 (TX0 6).2.1 (TX0 6).2.2.1 "MergePost" ∈ aN := aN_of (List.mem_of_getElem? (i := 223) (by decide +kernel)) (by decide +kernel)
theorem gfX3_67 {a : Nat} {v : Value} (hT : T.1.cls = RX3) (d : decode T.2.1 pc = .ok (.getfield 67, 3)) (hs : (S.1 a).1 = 0) (hv : V a 6 = v) (kk : R T r mc ms Q QX kc ks (pc + 3) lv (v :: st) S V) : R T r mc ms Q QX kc ks pc lv (.ref a :: st) S V :=
  R_getN (ci := 0) (k := 6) (T0 := TX0) (N := 7) rfl (by decide) (by decide) inX0 (by rw [hT]; exact flX3_67) d hs hv kk
theorem flX4_14 : Cond.fieldLink RX4 14 (TX4 0).1 (TX4 0).2.1 (TX4 0).2.2.1 ∈ aT := aT_of (List.mem_of_getElem? (i := 250) (by decide +kernel)) (by decide +kernel)
theorem gfX4_14 {a : Nat} {v : Value} (hT : T.1.cls = RX4) (d : decode T.2.1 pc = .ok (.getfield 14, 3)) (hs : (S.1 a).1 = 4) (hv : V a 0 = v) (kk : R T r mc ms Q QX kc ks (pc + 3) lv (v :: st) S V) : R T r mc ms Q QX kc ks pc lv (.ref a :: st) S V :=
  R_get (ci := 4) (k := 0) (T0 := TX4) (N := 5) rfl (by decide) (by decide) inX4 (by rw [hT]; exact flX4_14) d hs hv kk
theorem pfX4_14 {a : Nat} {x : Nat} (hT : T.1.cls = RX4) (hI : T.1.name = "<init>") (d : decode T.2.1 pc = .ok (.putfield 14, 3)) (hs : (S.1 a).1 = 4)  (kk : R T r mc ms Q QX kc ks (pc + 3) lv st S (a_up V a 0 (.ref x))) : R T r mc ms Q QX kc ks pc lv (.ref x :: .ref a :: st) S V :=
  R_putF (ci := 4) (k := 0) (T0 := TX4) (N := 5) (ty0 := tyX4) (ty := tyX4 0) rfl (by decide) (by decide) inX4 tyX4_ok nmX4 (by rw [hT]; exact flX4_14) rfl hI (by rw [hT]; rfl) (tyX4_ok 0 (by decide)) rfl rfl d hs kk
theorem flX4_24 : Cond.fieldLink RX4 24 (TX4 1).1 (TX4 1).2.1 (TX4 1).2.2.1 ∈ aT := aT_of (List.mem_of_getElem? (i := 253) (by decide +kernel)) (by decide +kernel)
theorem gfX4_24 {a : Nat} {v : Value} (hT : T.1.cls = RX4) (d : decode T.2.1 pc = .ok (.getfield 24, 3)) (hs : (S.1 a).1 = 4) (hv : V a 1 = v) (kk : R T r mc ms Q QX kc ks (pc + 3) lv (v :: st) S V) : R T r mc ms Q QX kc ks pc lv (.ref a :: st) S V :=
  R_get (ci := 4) (k := 1) (T0 := TX4) (N := 5) rfl (by decide) (by decide) inX4 (by rw [hT]; exact flX4_24) d hs hv kk
theorem pfX4_24 {a : Nat} {x : Int32} (hT : T.1.cls = RX4) (d : decode T.2.1 pc = .ok (.putfield 24, 3)) (hs : (S.1 a).1 = 4)  (kk : R T r mc ms Q QX kc ks (pc + 3) lv st S (a_up V a 1 (.int x))) : R T r mc ms Q QX kc ks pc lv (.int x :: .ref a :: st) S V :=
  R_put (ci := 4) (k := 1) (T0 := TX4) (N := 5) (ty0 := tyX4) (ty := tyX4 1) rfl (by decide) (by decide) inX4 tyX4_ok nmX4 (by rw [hT]; exact flX4_24) rfl (tyX4_ok 1 (by decide)) rfl rfl d hs kk
theorem flX4_28 : Cond.fieldLink RX4 28 (TX4 2).1 (TX4 2).2.1 (TX4 2).2.2.1 ∈ aT := aT_of (List.mem_of_getElem? (i := 255) (by decide +kernel)) (by decide +kernel)
theorem gfX4_28 {a : Nat} {v : Value} (hT : T.1.cls = RX4) (d : decode T.2.1 pc = .ok (.getfield 28, 3)) (hs : (S.1 a).1 = 4) (hv : V a 2 = v) (kk : R T r mc ms Q QX kc ks (pc + 3) lv (v :: st) S V) : R T r mc ms Q QX kc ks pc lv (.ref a :: st) S V :=
  R_get (ci := 4) (k := 2) (T0 := TX4) (N := 5) rfl (by decide) (by decide) inX4 (by rw [hT]; exact flX4_28) d hs hv kk
theorem pfX4_28 {a : Nat} {x : Int32} (hT : T.1.cls = RX4) (d : decode T.2.1 pc = .ok (.putfield 28, 3)) (hs : (S.1 a).1 = 4)  (kk : R T r mc ms Q QX kc ks (pc + 3) lv st S (a_up V a 2 (.int x))) : R T r mc ms Q QX kc ks pc lv (.int x :: .ref a :: st) S V :=
  R_put (ci := 4) (k := 2) (T0 := TX4) (N := 5) (ty0 := tyX4) (ty := tyX4 2) rfl (by decide) (by decide) inX4 tyX4_ok nmX4 (by rw [hT]; exact flX4_28) rfl (tyX4_ok 2 (by decide)) rfl rfl d hs kk
theorem flX4_31 : Cond.fieldLink RX4 31 (TX4 3).1 (TX4 3).2.1 (TX4 3).2.2.1 ∈ aT := aT_of (List.mem_of_getElem? (i := 258) (by decide +kernel)) (by decide +kernel)
theorem gfX4_31 {a : Nat} {v : Value} (hT : T.1.cls = RX4) (d : decode T.2.1 pc = .ok (.getfield 31, 3)) (hs : (S.1 a).1 = 4) (hv : V a 3 = v) (kk : R T r mc ms Q QX kc ks (pc + 3) lv (v :: st) S V) : R T r mc ms Q QX kc ks pc lv (.ref a :: st) S V :=
  R_get (ci := 4) (k := 3) (T0 := TX4) (N := 5) rfl (by decide) (by decide) inX4 (by rw [hT]; exact flX4_31) d hs hv kk
theorem pfX4_31 {a : Nat} {x : Int32} (hT : T.1.cls = RX4) (d : decode T.2.1 pc = .ok (.putfield 31, 3)) (hs : (S.1 a).1 = 4)  (kk : R T r mc ms Q QX kc ks (pc + 3) lv st S (a_up V a 3 (.int x))) : R T r mc ms Q QX kc ks pc lv (.int x :: .ref a :: st) S V :=
  R_put (ci := 4) (k := 3) (T0 := TX4) (N := 5) (ty0 := tyX4) (ty := tyX4 3) rfl (by decide) (by decide) inX4 tyX4_ok nmX4 (by rw [hT]; exact flX4_31) rfl (tyX4_ok 3 (by decide)) rfl rfl d hs kk
theorem flX4_34 : Cond.fieldLink RX4 34 (TX4 4).1 (TX4 4).2.1 (TX4 4).2.2.1 ∈ aT := aT_of (List.mem_of_getElem? (i := 260) (by decide +kernel)) (by decide +kernel)
theorem gfX4_34 {a : Nat} {v : Value} (hT : T.1.cls = RX4) (d : decode T.2.1 pc = .ok (.getfield 34, 3)) (hs : (S.1 a).1 = 4) (hv : V a 4 = v) (kk : R T r mc ms Q QX kc ks (pc + 3) lv (v :: st) S V) : R T r mc ms Q QX kc ks pc lv (.ref a :: st) S V :=
  R_get (ci := 4) (k := 4) (T0 := TX4) (N := 5) rfl (by decide) (by decide) inX4 (by rw [hT]; exact flX4_34) d hs hv kk
theorem pfX4_34 {a : Nat} {x : Int32} (hT : T.1.cls = RX4) (d : decode T.2.1 pc = .ok (.putfield 34, 3)) (hs : (S.1 a).1 = 4)  (kk : R T r mc ms Q QX kc ks (pc + 3) lv st S (a_up V a 4 (.int x))) : R T r mc ms Q QX kc ks pc lv (.int x :: .ref a :: st) S V :=
  R_put (ci := 4) (k := 4) (T0 := TX4) (N := 5) (ty0 := tyX4) (ty := tyX4 4) rfl (by decide) (by decide) inX4 tyX4_ok nmX4 (by rw [hT]; exact flX4_34) rfl (tyX4_ok 4 (by decide)) rfl rfl d hs kk
theorem flX5_9 : Cond.fieldLink RX5 9 (TX5 0).1 (TX5 0).2.1 (TX5 0).2.2.1 ∈ aT := aT_of (List.mem_of_getElem? (i := 378) (by decide +kernel)) (by decide +kernel)
theorem gfX5_9 {a : Nat} {v : Value} (hT : T.1.cls = RX5) (d : decode T.2.1 pc = .ok (.getfield 9, 3)) (hs : (S.1 a).1 = 5) (hv : V a 0 = v) (kk : R T r mc ms Q QX kc ks (pc + 3) lv (v :: st) S V) : R T r mc ms Q QX kc ks pc lv (.ref a :: st) S V :=
  R_get (ci := 5) (k := 0) (T0 := TX5) (N := 1) rfl (by decide) (by decide) inX5 (by rw [hT]; exact flX5_9) d hs hv kk
theorem pfX5_9 {a : Nat} {x : Nat} (hT : T.1.cls = RX5) (hI : T.1.name = "<init>") (d : decode T.2.1 pc = .ok (.putfield 9, 3)) (hs : (S.1 a).1 = 5)  (kk : R T r mc ms Q QX kc ks (pc + 3) lv st S (a_up V a 0 (.ref x))) : R T r mc ms Q QX kc ks pc lv (.ref x :: .ref a :: st) S V :=
  R_putF (ci := 5) (k := 0) (T0 := TX5) (N := 1) (ty0 := tyX5) (ty := tyX5 0) rfl (by decide) (by decide) inX5 tyX5_ok nmX5 (by rw [hT]; exact flX5_9) rfl hI (by rw [hT]; rfl) (tyX5_ok 0 (by decide)) rfl rfl d hs kk
theorem flX5_15 : Cond.fieldLinkNest RX5 15 (TX9 1).1 (TX9 1).2.1 (TX9 1).2.2.1 "MergePost" ∈ aN := aN_of (List.mem_of_getElem? (i := 49) (by decide +kernel)) (by decide +kernel)
theorem gfX5_15 {a : Nat} {v : Value} (hT : T.1.cls = RX5) (d : decode T.2.1 pc = .ok (.getfield 15, 3)) (hs : (S.1 a).1 = 9) (hv : V a 1 = v) (kk : R T r mc ms Q QX kc ks (pc + 3) lv (v :: st) S V) : R T r mc ms Q QX kc ks pc lv (.ref a :: st) S V :=
  R_getN (ci := 9) (k := 1) (T0 := TX9) (N := 2) rfl (by decide) (by decide) inX9 (by rw [hT]; exact flX5_15) d hs hv kk
theorem flX5_42 : Cond.fieldLinkNest RX5 42 (TX0 4).1 (TX0 4).2.1 (TX0 4).2.2.1 "MergePost" ∈ aN := aN_of (List.mem_of_getElem? (i := 219) (by decide +kernel)) (by decide +kernel)
theorem gfX5_42 {a : Nat} {v : Value} (hT : T.1.cls = RX5) (d : decode T.2.1 pc = .ok (.getfield 42, 3)) (hs : (S.1 a).1 = 0) (hv : V a 4 = v) (kk : R T r mc ms Q QX kc ks (pc + 3) lv (v :: st) S V) : R T r mc ms Q QX kc ks pc lv (.ref a :: st) S V :=
  R_getN (ci := 0) (k := 4) (T0 := TX0) (N := 7) rfl (by decide) (by decide) inX0 (by rw [hT]; exact flX5_42) d hs hv kk
theorem flX5_47 : Cond.fieldLinkNest RX5 47 (TX0 5).1 (TX0 5).2.1 (TX0 5).2.2.1 "MergePost" ∈ aN := aN_of (List.mem_of_getElem? (i := 222) (by decide +kernel)) (by decide +kernel)
theorem gfX5_47 {a : Nat} {v : Value} (hT : T.1.cls = RX5) (d : decode T.2.1 pc = .ok (.getfield 47, 3)) (hs : (S.1 a).1 = 0) (hv : V a 5 = v) (kk : R T r mc ms Q QX kc ks (pc + 3) lv (v :: st) S V) : R T r mc ms Q QX kc ks pc lv (.ref a :: st) S V :=
  R_getN (ci := 0) (k := 5) (T0 := TX0) (N := 7) rfl (by decide) (by decide) inX0 (by rw [hT]; exact flX5_47) d hs hv kk
theorem flX5_51 : Cond.fieldLinkNest RX5 51 (TX0 2).1 (TX0 2).2.1 (TX0 2).2.2.1 "MergePost" ∈ aN := aN_of (List.mem_of_getElem? (i := 214) (by decide +kernel)) (by decide +kernel)
theorem gfX5_51 {a : Nat} {v : Value} (hT : T.1.cls = RX5) (d : decode T.2.1 pc = .ok (.getfield 51, 3)) (hs : (S.1 a).1 = 0) (hv : V a 2 = v) (kk : R T r mc ms Q QX kc ks (pc + 3) lv (v :: st) S V) : R T r mc ms Q QX kc ks pc lv (.ref a :: st) S V :=
  R_getN (ci := 0) (k := 2) (T0 := TX0) (N := 7) rfl (by decide) (by decide) inX0 (by rw [hT]; exact flX5_51) d hs hv kk
theorem flX5_60 : Cond.fieldLinkNest RX5 60 (TX0 3).1 (TX0 3).2.1 (TX0 3).2.2.1 "MergePost" ∈ aN := aN_of (List.mem_of_getElem? (i := 216) (by decide +kernel)) (by decide +kernel)
theorem gfX5_60 {a : Nat} {v : Value} (hT : T.1.cls = RX5) (d : decode T.2.1 pc = .ok (.getfield 60, 3)) (hs : (S.1 a).1 = 0) (hv : V a 3 = v) (kk : R T r mc ms Q QX kc ks (pc + 3) lv (v :: st) S V) : R T r mc ms Q QX kc ks pc lv (.ref a :: st) S V :=
  R_getN (ci := 0) (k := 3) (T0 := TX0) (N := 7) rfl (by decide) (by decide) inX0 (by rw [hT]; exact flX5_60) d hs hv kk
theorem flX6_14 : Cond.fieldLink RX6 14 (TX6 0).1 (TX6 0).2.1 (TX6 0).2.2.1 ∈ aT := aT_of (List.mem_of_getElem? (i := 170) (by decide +kernel)) (by decide +kernel)
theorem gfX6_14 {a : Nat} {v : Value} (hT : T.1.cls = RX6) (d : decode T.2.1 pc = .ok (.getfield 14, 3)) (hs : (S.1 a).1 = 6) (hv : V a 0 = v) (kk : R T r mc ms Q QX kc ks (pc + 3) lv (v :: st) S V) : R T r mc ms Q QX kc ks pc lv (.ref a :: st) S V :=
  R_get (ci := 6) (k := 0) (T0 := TX6) (N := 2) rfl (by decide) (by decide) inX6 (by rw [hT]; exact flX6_14) d hs hv kk
theorem pfX6_14 {a : Nat} {x : Nat} (hT : T.1.cls = RX6) (hI : T.1.name = "<init>") (d : decode T.2.1 pc = .ok (.putfield 14, 3)) (hs : (S.1 a).1 = 6)  (kk : R T r mc ms Q QX kc ks (pc + 3) lv st S (a_up V a 0 (.ref x))) : R T r mc ms Q QX kc ks pc lv (.ref x :: .ref a :: st) S V :=
  R_putF (ci := 6) (k := 0) (T0 := TX6) (N := 2) (ty0 := tyX6) (ty := tyX6 0) rfl (by decide) (by decide) inX6 tyX6_ok nmX6 (by rw [hT]; exact flX6_14) rfl hI (by rw [hT]; rfl) (tyX6_ok 0 (by decide)) rfl rfl d hs kk
theorem flX6_20 : Cond.fieldLinkNest RX6 20 (TX9 1).1 (TX9 1).2.1 (TX9 1).2.2.1 "MergePost" ∈ aN := aN_of (List.mem_of_getElem? (i := 50) (by decide +kernel)) (by decide +kernel)
theorem gfX6_20 {a : Nat} {v : Value} (hT : T.1.cls = RX6) (d : decode T.2.1 pc = .ok (.getfield 20, 3)) (hs : (S.1 a).1 = 9) (hv : V a 1 = v) (kk : R T r mc ms Q QX kc ks (pc + 3) lv (v :: st) S V) : R T r mc ms Q QX kc ks pc lv (.ref a :: st) S V :=
  R_getN (ci := 9) (k := 1) (T0 := TX9) (N := 2) rfl (by decide) (by decide) inX9 (by rw [hT]; exact flX6_20) d hs hv kk
theorem pfX6_20 {a : Nat} {x : Int32} (hT : T.1.cls = RX6) (d : decode T.2.1 pc = .ok (.putfield 20, 3)) (hs : (S.1 a).1 = 9)  (kk : R T r mc ms Q QX kc ks (pc + 3) lv st S (a_up V a 1 (.int x))) : R T r mc ms Q QX kc ks pc lv (.int x :: .ref a :: st) S V :=
  R_putN (ci := 9) (k := 1) (T0 := TX9) (N := 2) (ty0 := tyX9) (ty := tyX9 1) rfl (by decide) (by decide) inX9 tyX9_ok nmX9 (by rw [hT]; exact flX6_20) rfl (tyX9_ok 1 (by decide)) rfl rfl d hs kk
theorem flX6_24 : Cond.fieldLink RX6 24 (TX6 1).1 (TX6 1).2.1 (TX6 1).2.2.1 ∈ aT := aT_of (List.mem_of_getElem? (i := 175) (by decide +kernel)) (by decide +kernel)
theorem gfX6_24 {a : Nat} {v : Value} (hT : T.1.cls = RX6) (d : decode T.2.1 pc = .ok (.getfield 24, 3)) (hs : (S.1 a).1 = 6) (hv : V a 1 = v) (kk : R T r mc ms Q QX kc ks (pc + 3) lv (v :: st) S V) : R T r mc ms Q QX kc ks pc lv (.ref a :: st) S V :=
  R_get (ci := 6) (k := 1) (T0 := TX6) (N := 2) rfl (by decide) (by decide) inX6 (by rw [hT]; exact flX6_24) d hs hv kk
theorem pfX6_24 {a : Nat} {x : Int32} (hT : T.1.cls = RX6) (d : decode T.2.1 pc = .ok (.putfield 24, 3)) (hs : (S.1 a).1 = 6)  (kk : R T r mc ms Q QX kc ks (pc + 3) lv st S (a_up V a 1 (.int x))) : R T r mc ms Q QX kc ks pc lv (.int x :: .ref a :: st) S V :=
  R_put (ci := 6) (k := 1) (T0 := TX6) (N := 2) (ty0 := tyX6) (ty := tyX6 1) rfl (by decide) (by decide) inX6 tyX6_ok nmX6 (by rw [hT]; exact flX6_24) rfl (tyX6_ok 1 (by decide)) rfl rfl d hs kk
theorem flX7_11 : Cond.fieldLink RX7 11 (TX7 0).1 (TX7 0).2.1 (TX7 0).2.2.1 ∈ aT := aT_of (List.mem_of_getElem? (i := 273) (by decide +kernel)) (by decide +kernel)
theorem gfX7_11 {a : Nat} {v : Value} (hT : T.1.cls = RX7) (d : decode T.2.1 pc = .ok (.getfield 11, 3)) (hs : (S.1 a).1 = 7) (hv : V a 0 = v) (kk : R T r mc ms Q QX kc ks (pc + 3) lv (v :: st) S V) : R T r mc ms Q QX kc ks pc lv (.ref a :: st) S V :=
  R_get (ci := 7) (k := 0) (T0 := TX7) (N := 9) rfl (by decide) (by decide) inX7 (by rw [hT]; exact flX7_11) d hs hv kk
theorem pfX7_11 {a : Nat} {x : Nat} (hT : T.1.cls = RX7) (hI : T.1.name = "<init>") (d : decode T.2.1 pc = .ok (.putfield 11, 3)) (hs : (S.1 a).1 = 7)  (kk : R T r mc ms Q QX kc ks (pc + 3) lv st S (a_up V a 0 (.ref x))) : R T r mc ms Q QX kc ks pc lv (.ref x :: .ref a :: st) S V :=
  R_putF (ci := 7) (k := 0) (T0 := TX7) (N := 9) (ty0 := tyX7) (ty := tyX7 0) rfl (by decide) (by decide) inX7 tyX7_ok nmX7 (by rw [hT]; exact flX7_11) rfl hI (by rw [hT]; rfl) (tyX7_ok 0 (by decide)) rfl rfl d hs kk
theorem flX7_18 : Cond.fieldLink RX7 18 (TX7 1).1 (TX7 1).2.1 (TX7 1).2.2.1 ∈ aT := aT_of (List.mem_of_getElem? (i := 274) (by decide +kernel)) (by decide +kernel)
theorem gfX7_18 {a : Nat} {v : Value} (hT : T.1.cls = RX7) (d : decode T.2.1 pc = .ok (.getfield 18, 3)) (hs : (S.1 a).1 = 7) (hv : V a 1 = v) (kk : R T r mc ms Q QX kc ks (pc + 3) lv (v :: st) S V) : R T r mc ms Q QX kc ks pc lv (.ref a :: st) S V :=
  R_get (ci := 7) (k := 1) (T0 := TX7) (N := 9) rfl (by decide) (by decide) inX7 (by rw [hT]; exact flX7_18) d hs hv kk
theorem pfX7_18 {a : Nat} {x : Nat} (hT : T.1.cls = RX7) (d : decode T.2.1 pc = .ok (.putfield 18, 3)) (hs : (S.1 a).1 = 7)  (kk : R T r mc ms Q QX kc ks (pc + 3) lv st S (a_up V a 1 (.ref x))) : R T r mc ms Q QX kc ks pc lv (.ref x :: .ref a :: st) S V :=
  R_put (ci := 7) (k := 1) (T0 := TX7) (N := 9) (ty0 := tyX7) (ty := tyX7 1) rfl (by decide) (by decide) inX7 tyX7_ok nmX7 (by rw [hT]; exact flX7_18) rfl (tyX7_ok 1 (by decide)) rfl rfl d hs kk
theorem flX7_25 : Cond.fieldLink RX7 25 (TX7 2).1 (TX7 2).2.1 (TX7 2).2.2.1 ∈ aT := aT_of (List.mem_of_getElem? (i := 275) (by decide +kernel)) (by decide +kernel)
theorem gfX7_25 {a : Nat} {v : Value} (hT : T.1.cls = RX7) (d : decode T.2.1 pc = .ok (.getfield 25, 3)) (hs : (S.1 a).1 = 7) (hv : V a 2 = v) (kk : R T r mc ms Q QX kc ks (pc + 3) lv (v :: st) S V) : R T r mc ms Q QX kc ks pc lv (.ref a :: st) S V :=
  R_get (ci := 7) (k := 2) (T0 := TX7) (N := 9) rfl (by decide) (by decide) inX7 (by rw [hT]; exact flX7_25) d hs hv kk
theorem pfX7_25 {a : Nat} {x : Nat} (hT : T.1.cls = RX7) (hI : T.1.name = "<init>") (d : decode T.2.1 pc = .ok (.putfield 25, 3)) (hs : (S.1 a).1 = 7)  (kk : R T r mc ms Q QX kc ks (pc + 3) lv st S (a_up V a 2 (.ref x))) : R T r mc ms Q QX kc ks pc lv (.ref x :: .ref a :: st) S V :=
  R_putF (ci := 7) (k := 2) (T0 := TX7) (N := 9) (ty0 := tyX7) (ty := tyX7 2) rfl (by decide) (by decide) inX7 tyX7_ok nmX7 (by rw [hT]; exact flX7_25) rfl hI (by rw [hT]; rfl) (tyX7_ok 2 (by decide)) rfl rfl d hs kk
theorem flX7_32 : Cond.fieldLink RX7 32 (TX7 3).1 (TX7 3).2.1 (TX7 3).2.2.1 ∈ aT := aT_of (List.mem_of_getElem? (i := 277) (by decide +kernel)) (by decide +kernel)
theorem gfX7_32 {a : Nat} {v : Value} (hT : T.1.cls = RX7) (d : decode T.2.1 pc = .ok (.getfield 32, 3)) (hs : (S.1 a).1 = 7) (hv : V a 3 = v) (kk : R T r mc ms Q QX kc ks (pc + 3) lv (v :: st) S V) : R T r mc ms Q QX kc ks pc lv (.ref a :: st) S V :=
  R_get (ci := 7) (k := 3) (T0 := TX7) (N := 9) rfl (by decide) (by decide) inX7 (by rw [hT]; exact flX7_32) d hs hv kk
theorem pfX7_32 {a : Nat} {x : Nat} (hT : T.1.cls = RX7) (hI : T.1.name = "<init>") (d : decode T.2.1 pc = .ok (.putfield 32, 3)) (hs : (S.1 a).1 = 7)  (kk : R T r mc ms Q QX kc ks (pc + 3) lv st S (a_up V a 3 (.ref x))) : R T r mc ms Q QX kc ks pc lv (.ref x :: .ref a :: st) S V :=
  R_putF (ci := 7) (k := 3) (T0 := TX7) (N := 9) (ty0 := tyX7) (ty := tyX7 3) rfl (by decide) (by decide) inX7 tyX7_ok nmX7 (by rw [hT]; exact flX7_32) rfl hI (by rw [hT]; rfl) (tyX7_ok 3 (by decide)) rfl rfl d hs kk
theorem flX7_36 : Cond.fieldLink RX7 36 (TX7 4).1 (TX7 4).2.1 (TX7 4).2.2.1 ∈ aT := aT_of (List.mem_of_getElem? (i := 279) (by decide +kernel)) (by decide +kernel)
theorem gfX7_36 {a : Nat} {v : Value} (hT : T.1.cls = RX7) (d : decode T.2.1 pc = .ok (.getfield 36, 3)) (hs : (S.1 a).1 = 7) (hv : V a 4 = v) (kk : R T r mc ms Q QX kc ks (pc + 3) lv (v :: st) S V) : R T r mc ms Q QX kc ks pc lv (.ref a :: st) S V :=
  R_get (ci := 7) (k := 4) (T0 := TX7) (N := 9) rfl (by decide) (by decide) inX7 (by rw [hT]; exact flX7_36) d hs hv kk
theorem pfX7_36 {a : Nat} {x : Nat} (hT : T.1.cls = RX7) (hI : T.1.name = "<init>") (d : decode T.2.1 pc = .ok (.putfield 36, 3)) (hs : (S.1 a).1 = 7)  (kk : R T r mc ms Q QX kc ks (pc + 3) lv st S (a_up V a 4 (.ref x))) : R T r mc ms Q QX kc ks pc lv (.ref x :: .ref a :: st) S V :=
  R_putF (ci := 7) (k := 4) (T0 := TX7) (N := 9) (ty0 := tyX7) (ty := tyX7 4) rfl (by decide) (by decide) inX7 tyX7_ok nmX7 (by rw [hT]; exact flX7_36) rfl hI (by rw [hT]; rfl) (tyX7_ok 4 (by decide)) rfl rfl d hs kk
theorem flX7_40 : Cond.fieldLink RX7 40 (TX7 5).1 (TX7 5).2.1 (TX7 5).2.2.1 ∈ aT := aT_of (List.mem_of_getElem? (i := 280) (by decide +kernel)) (by decide +kernel)
theorem gfX7_40 {a : Nat} {v : Value} (hT : T.1.cls = RX7) (d : decode T.2.1 pc = .ok (.getfield 40, 3)) (hs : (S.1 a).1 = 7) (hv : V a 5 = v) (kk : R T r mc ms Q QX kc ks (pc + 3) lv (v :: st) S V) : R T r mc ms Q QX kc ks pc lv (.ref a :: st) S V :=
  R_get (ci := 7) (k := 5) (T0 := TX7) (N := 9) rfl (by decide) (by decide) inX7 (by rw [hT]; exact flX7_40) d hs hv kk
theorem pfX7_40 {a : Nat} {x : Nat} (hT : T.1.cls = RX7) (hI : T.1.name = "<init>") (d : decode T.2.1 pc = .ok (.putfield 40, 3)) (hs : (S.1 a).1 = 7)  (kk : R T r mc ms Q QX kc ks (pc + 3) lv st S (a_up V a 5 (.ref x))) : R T r mc ms Q QX kc ks pc lv (.ref x :: .ref a :: st) S V :=
  R_putF (ci := 7) (k := 5) (T0 := TX7) (N := 9) (ty0 := tyX7) (ty := tyX7 5) rfl (by decide) (by decide) inX7 tyX7_ok nmX7 (by rw [hT]; exact flX7_40) rfl hI (by rw [hT]; rfl) (tyX7_ok 5 (by decide)) rfl rfl d hs kk
theorem flX7_43 : Cond.fieldLink RX7 43 (TX7 6).1 (TX7 6).2.1 (TX7 6).2.2.1 ∈ aT := aT_of (List.mem_of_getElem? (i := 281) (by decide +kernel)) (by decide +kernel)
theorem gfX7_43 {a : Nat} {v : Value} (hT : T.1.cls = RX7) (d : decode T.2.1 pc = .ok (.getfield 43, 3)) (hs : (S.1 a).1 = 7) (hv : V a 6 = v) (kk : R T r mc ms Q QX kc ks (pc + 3) lv (v :: st) S V) : R T r mc ms Q QX kc ks pc lv (.ref a :: st) S V :=
  R_get (ci := 7) (k := 6) (T0 := TX7) (N := 9) rfl (by decide) (by decide) inX7 (by rw [hT]; exact flX7_43) d hs hv kk
theorem pfX7_43 {a : Nat} {x : Nat} (hT : T.1.cls = RX7) (hI : T.1.name = "<init>") (d : decode T.2.1 pc = .ok (.putfield 43, 3)) (hs : (S.1 a).1 = 7)  (kk : R T r mc ms Q QX kc ks (pc + 3) lv st S (a_up V a 6 (.ref x))) : R T r mc ms Q QX kc ks pc lv (.ref x :: .ref a :: st) S V :=
  R_putF (ci := 7) (k := 6) (T0 := TX7) (N := 9) (ty0 := tyX7) (ty := tyX7 6) rfl (by decide) (by decide) inX7 tyX7_ok nmX7 (by rw [hT]; exact flX7_43) rfl hI (by rw [hT]; rfl) (tyX7_ok 6 (by decide)) rfl rfl d hs kk
theorem flX7_50 : Cond.fieldLink RX7 50 (TX7 7).1 (TX7 7).2.1 (TX7 7).2.2.1 ∈ aT := aT_of (List.mem_of_getElem? (i := 282) (by decide +kernel)) (by decide +kernel)
theorem gfX7_50 {a : Nat} {v : Value} (hT : T.1.cls = RX7) (d : decode T.2.1 pc = .ok (.getfield 50, 3)) (hs : (S.1 a).1 = 7) (hv : V a 7 = v) (kk : R T r mc ms Q QX kc ks (pc + 3) lv (v :: st) S V) : R T r mc ms Q QX kc ks pc lv (.ref a :: st) S V :=
  R_get (ci := 7) (k := 7) (T0 := TX7) (N := 9) rfl (by decide) (by decide) inX7 (by rw [hT]; exact flX7_50) d hs hv kk
theorem pfX7_50 {a : Nat} {x : Int32} (hT : T.1.cls = RX7) (d : decode T.2.1 pc = .ok (.putfield 50, 3)) (hs : (S.1 a).1 = 7)  (kk : R T r mc ms Q QX kc ks (pc + 3) lv st S (a_up V a 7 (.int x))) : R T r mc ms Q QX kc ks pc lv (.int x :: .ref a :: st) S V :=
  R_put (ci := 7) (k := 7) (T0 := TX7) (N := 9) (ty0 := tyX7) (ty := tyX7 7) rfl (by decide) (by decide) inX7 tyX7_ok nmX7 (by rw [hT]; exact flX7_50) rfl (tyX7_ok 7 (by decide)) rfl rfl d hs kk
theorem flX7_54 : Cond.fieldLinkNest RX7 54 (TX4 0).1 (TX4 0).2.1 (TX4 0).2.2.1 "MergePost" ∈ aN := aN_of (List.mem_of_getElem? (i := 142) (by decide +kernel)) (by decide +kernel)
theorem gfX7_54 {a : Nat} {v : Value} (hT : T.1.cls = RX7) (d : decode T.2.1 pc = .ok (.getfield 54, 3)) (hs : (S.1 a).1 = 4) (hv : V a 0 = v) (kk : R T r mc ms Q QX kc ks (pc + 3) lv (v :: st) S V) : R T r mc ms Q QX kc ks pc lv (.ref a :: st) S V :=
  R_getN (ci := 4) (k := 0) (T0 := TX4) (N := 5) rfl (by decide) (by decide) inX4 (by rw [hT]; exact flX7_54) d hs hv kk
theorem flX7_58 : Cond.fieldLinkNest RX7 58 (TX9 1).1 (TX9 1).2.1 (TX9 1).2.2.1 "MergePost" ∈ aN := aN_of (List.mem_of_getElem? (i := 54) (by decide +kernel)) (by decide +kernel)
theorem gfX7_58 {a : Nat} {v : Value} (hT : T.1.cls = RX7) (d : decode T.2.1 pc = .ok (.getfield 58, 3)) (hs : (S.1 a).1 = 9) (hv : V a 1 = v) (kk : R T r mc ms Q QX kc ks (pc + 3) lv (v :: st) S V) : R T r mc ms Q QX kc ks pc lv (.ref a :: st) S V :=
  R_getN (ci := 9) (k := 1) (T0 := TX9) (N := 2) rfl (by decide) (by decide) inX9 (by rw [hT]; exact flX7_58) d hs hv kk
theorem pfX7_58 {a : Nat} {x : Int32} (hT : T.1.cls = RX7) (d : decode T.2.1 pc = .ok (.putfield 58, 3)) (hs : (S.1 a).1 = 9)  (kk : R T r mc ms Q QX kc ks (pc + 3) lv st S (a_up V a 1 (.int x))) : R T r mc ms Q QX kc ks pc lv (.int x :: .ref a :: st) S V :=
  R_putN (ci := 9) (k := 1) (T0 := TX9) (N := 2) (ty0 := tyX9) (ty := tyX9 1) rfl (by decide) (by decide) inX9 tyX9_ok nmX9 (by rw [hT]; exact flX7_58) rfl (tyX9_ok 1 (by decide)) rfl rfl d hs kk
theorem flX7_63 : Cond.fieldLinkNest RX7 63 (TX4 2).1 (TX4 2).2.1 (TX4 2).2.2.1 "MergePost" ∈ aN := aN_of (List.mem_of_getElem? (i := 147) (by decide +kernel)) (by decide +kernel)
theorem gfX7_63 {a : Nat} {v : Value} (hT : T.1.cls = RX7) (d : decode T.2.1 pc = .ok (.getfield 63, 3)) (hs : (S.1 a).1 = 4) (hv : V a 2 = v) (kk : R T r mc ms Q QX kc ks (pc + 3) lv (v :: st) S V) : R T r mc ms Q QX kc ks pc lv (.ref a :: st) S V :=
  R_getN (ci := 4) (k := 2) (T0 := TX4) (N := 5) rfl (by decide) (by decide) inX4 (by rw [hT]; exact flX7_63) d hs hv kk
theorem pfX7_63 {a : Nat} {x : Int32} (hT : T.1.cls = RX7) (d : decode T.2.1 pc = .ok (.putfield 63, 3)) (hs : (S.1 a).1 = 4)  (kk : R T r mc ms Q QX kc ks (pc + 3) lv st S (a_up V a 2 (.int x))) : R T r mc ms Q QX kc ks pc lv (.int x :: .ref a :: st) S V :=
  R_putN (ci := 4) (k := 2) (T0 := TX4) (N := 5) (ty0 := tyX4) (ty := tyX4 2) rfl (by decide) (by decide) inX4 tyX4_ok nmX4 (by rw [hT]; exact flX7_63) rfl (tyX4_ok 2 (by decide)) rfl rfl d hs kk
theorem flX7_66 : Cond.fieldLink RX7 66 (TX7 8).1 (TX7 8).2.1 (TX7 8).2.2.1 ∈ aT := aT_of (List.mem_of_getElem? (i := 283) (by decide +kernel)) (by decide +kernel)
theorem gfX7_66 {a : Nat} {v : Value} (hT : T.1.cls = RX7) (d : decode T.2.1 pc = .ok (.getfield 66, 3)) (hs : (S.1 a).1 = 7) (hv : V a 8 = v) (kk : R T r mc ms Q QX kc ks (pc + 3) lv (v :: st) S V) : R T r mc ms Q QX kc ks pc lv (.ref a :: st) S V :=
  R_get (ci := 7) (k := 8) (T0 := TX7) (N := 9) rfl (by decide) (by decide) inX7 (by rw [hT]; exact flX7_66) d hs hv kk
theorem pfX7_66 {a : Nat} {x : Int64} (hT : T.1.cls = RX7) (d : decode T.2.1 pc = .ok (.putfield 66, 3)) (hs : (S.1 a).1 = 7)  (kk : R T r mc ms Q QX kc ks (pc + 3) lv st S (a_up V a 8 (.long x))) : R T r mc ms Q QX kc ks pc lv (.long x :: .ref a :: st) S V :=
  R_put (ci := 7) (k := 8) (T0 := TX7) (N := 9) (ty0 := tyX7) (ty := tyX7 8) rfl (by decide) (by decide) inX7 tyX7_ok nmX7 (by rw [hT]; exact flX7_66) rfl (tyX7_ok 8 (by decide)) rfl rfl d hs kk
theorem flX7_86 : Cond.fieldLinkNest RX7 86 (TX10 4).1 (TX10 4).2.1 (TX10 4).2.2.1 "MergePost" ∈ aN := aN_of (List.mem_of_getElem? (i := 94) (by decide +kernel)) (by decide +kernel)
theorem gfX7_86 {a : Nat} {v : Value} (hT : T.1.cls = RX7) (d : decode T.2.1 pc = .ok (.getfield 86, 3)) (hs : (S.1 a).1 = 10) (hv : V a 4 = v) (kk : R T r mc ms Q QX kc ks (pc + 3) lv (v :: st) S V) : R T r mc ms Q QX kc ks pc lv (.ref a :: st) S V :=
  R_getN (ci := 10) (k := 4) (T0 := TX10) (N := 5) rfl (by decide) (by decide) inX10 (by rw [hT]; exact flX7_86) d hs hv kk
theorem flX7_90 : Cond.fieldLinkNest RX7 90 (TX10 0).1 (TX10 0).2.1 (TX10 0).2.2.1 "MergePost" ∈ aN := aN_of (List.mem_of_getElem? (i := 89) (by decide +kernel)) (by decide +kernel)
theorem gfX7_90 {a : Nat} {v : Value} (hT : T.1.cls = RX7) (d : decode T.2.1 pc = .ok (.getfield 90, 3)) (hs : (S.1 a).1 = 10) (hv : V a 0 = v) (kk : R T r mc ms Q QX kc ks (pc + 3) lv (v :: st) S V) : R T r mc ms Q QX kc ks pc lv (.ref a :: st) S V :=
  R_getN (ci := 10) (k := 0) (T0 := TX10) (N := 5) rfl (by decide) (by decide) inX10 (by rw [hT]; exact flX7_90) d hs hv kk
theorem flX7_133 : Cond.fieldLinkNest RX7 133 (TX3 1).1 (TX3 1).2.1 (TX3 1).2.2.1 "MergePost" ∈ aN := aN_of (List.mem_of_getElem? (i := 123) (by decide +kernel)) (by decide +kernel)
theorem gfX7_133 {a : Nat} {v : Value} (hT : T.1.cls = RX7) (d : decode T.2.1 pc = .ok (.getfield 133, 3)) (hs : (S.1 a).1 = 3) (hv : V a 1 = v) (kk : R T r mc ms Q QX kc ks (pc + 3) lv (v :: st) S V) : R T r mc ms Q QX kc ks pc lv (.ref a :: st) S V :=
  R_getN (ci := 3) (k := 1) (T0 := TX3) (N := 3) rfl (by decide) (by decide) inX3 (by rw [hT]; exact flX7_133) d hs hv kk
theorem flX7_140 : Cond.fieldLinkNest RX7 140 (TX3 0).1 (TX3 0).2.1 (TX3 0).2.2.1 "MergePost" ∈ aN := aN_of (List.mem_of_getElem? (i := 121) (by decide +kernel)) (by decide +kernel)
theorem gfX7_140 {a : Nat} {v : Value} (hT : T.1.cls = RX7) (d : decode T.2.1 pc = .ok (.getfield 140, 3)) (hs : (S.1 a).1 = 3) (hv : V a 0 = v) (kk : R T r mc ms Q QX kc ks (pc + 3) lv (v :: st) S V) : R T r mc ms Q QX kc ks pc lv (.ref a :: st) S V :=
  R_getN (ci := 3) (k := 0) (T0 := TX3) (N := 3) rfl (by decide) (by decide) inX3 (by rw [hT]; exact flX7_140) d hs hv kk
theorem flX8_11 : Cond.fieldLink RX8 11 (TX8 0).1 (TX8 0).2.1 (TX8 0).2.2.1 ∈ aT := aT_of (List.mem_of_getElem? (i := 407) (by decide +kernel)) (by decide +kernel)
theorem gfX8_11 {a : Nat} {v : Value} (hT : T.1.cls = RX8) (d : decode T.2.1 pc = .ok (.getfield 11, 3)) (hs : (S.1 a).1 = 8) (hv : V a 0 = v) (kk : R T r mc ms Q QX kc ks (pc + 3) lv (v :: st) S V) : R T r mc ms Q QX kc ks pc lv (.ref a :: st) S V :=
  R_get (ci := 8) (k := 0) (T0 := TX8) (N := 5) rfl (by decide) (by decide) inX8 (by rw [hT]; exact flX8_11) d hs hv kk
theorem pfX8_11 {a : Nat} {x : Nat} (hT : T.1.cls = RX8) (hI : T.1.name = "<init>") (d : decode T.2.1 pc = .ok (.putfield 11, 3)) (hs : (S.1 a).1 = 8)  (kk : R T r mc ms Q QX kc ks (pc + 3) lv st S (a_up V a 0 (.ref x))) : R T r mc ms Q QX kc ks pc lv (.ref x :: .ref a :: st) S V :=
  R_putF (ci := 8) (k := 0) (T0 := TX8) (N := 5) (ty0 := tyX8) (ty := tyX8 0) rfl (by decide) (by decide) inX8 tyX8_ok nmX8 (by rw [hT]; exact flX8_11) rfl hI (by rw [hT]; rfl) (tyX8_ok 0 (by decide)) rfl rfl d hs kk
theorem flX8_18 : Cond.fieldLink RX8 18 (TX8 1).1 (TX8 1).2.1 (TX8 1).2.2.1 ∈ aT := aT_of (List.mem_of_getElem? (i := 409) (by decide +kernel)) (by decide +kernel)
theorem gfX8_18 {a : Nat} {v : Value} (hT : T.1.cls = RX8) (d : decode T.2.1 pc = .ok (.getfield 18, 3)) (hs : (S.1 a).1 = 8) (hv : V a 1 = v) (kk : R T r mc ms Q QX kc ks (pc + 3) lv (v :: st) S V) : R T r mc ms Q QX kc ks pc lv (.ref a :: st) S V :=
  R_get (ci := 8) (k := 1) (T0 := TX8) (N := 5) rfl (by decide) (by decide) inX8 (by rw [hT]; exact flX8_18) d hs hv kk
theorem pfX8_18 {a : Nat} {x : Int32} (hT : T.1.cls = RX8) (d : decode T.2.1 pc = .ok (.putfield 18, 3)) (hs : (S.1 a).1 = 8)  (kk : R T r mc ms Q QX kc ks (pc + 3) lv st S (a_up V a 1 (.int x))) : R T r mc ms Q QX kc ks pc lv (.int x :: .ref a :: st) S V :=
  R_put (ci := 8) (k := 1) (T0 := TX8) (N := 5) (ty0 := tyX8) (ty := tyX8 1) rfl (by decide) (by decide) inX8 tyX8_ok nmX8 (by rw [hT]; exact flX8_18) rfl (tyX8_ok 1 (by decide)) rfl rfl d hs kk
theorem flX9_7 : Cond.fieldLink RX9 7 (TX9 0).1 (TX9 0).2.1 (TX9 0).2.2.1 ∈ aT := aT_of (List.mem_of_getElem? (i := 157) (by decide +kernel)) (by decide +kernel)
theorem gfX9_7 {a : Nat} {v : Value} (hT : T.1.cls = RX9) (d : decode T.2.1 pc = .ok (.getfield 7, 3)) (hs : (S.1 a).1 = 9) (hv : V a 0 = v) (kk : R T r mc ms Q QX kc ks (pc + 3) lv (v :: st) S V) : R T r mc ms Q QX kc ks pc lv (.ref a :: st) S V :=
  R_get (ci := 9) (k := 0) (T0 := TX9) (N := 2) rfl (by decide) (by decide) inX9 (by rw [hT]; exact flX9_7) d hs hv kk
theorem pfX9_7 {a : Nat} {x : Nat} (hT : T.1.cls = RX9) (hI : T.1.name = "<init>") (d : decode T.2.1 pc = .ok (.putfield 7, 3)) (hs : (S.1 a).1 = 9)  (kk : R T r mc ms Q QX kc ks (pc + 3) lv st S (a_up V a 0 (.ref x))) : R T r mc ms Q QX kc ks pc lv (.ref x :: .ref a :: st) S V :=
  R_putF (ci := 9) (k := 0) (T0 := TX9) (N := 2) (ty0 := tyX9) (ty := tyX9 0) rfl (by decide) (by decide) inX9 tyX9_ok nmX9 (by rw [hT]; exact flX9_7) rfl hI (by rw [hT]; rfl) (tyX9_ok 0 (by decide)) rfl rfl d hs kk
theorem flX9_13 : Cond.fieldLink RX9 13 (TX9 1).1 (TX9 1).2.1 (TX9 1).2.2.1 ∈ aT := aT_of (List.mem_of_getElem? (i := 160) (by decide +kernel)) (by decide +kernel)
theorem gfX9_13 {a : Nat} {v : Value} (hT : T.1.cls = RX9) (d : decode T.2.1 pc = .ok (.getfield 13, 3)) (hs : (S.1 a).1 = 9) (hv : V a 1 = v) (kk : R T r mc ms Q QX kc ks (pc + 3) lv (v :: st) S V) : R T r mc ms Q QX kc ks pc lv (.ref a :: st) S V :=
  R_get (ci := 9) (k := 1) (T0 := TX9) (N := 2) rfl (by decide) (by decide) inX9 (by rw [hT]; exact flX9_13) d hs hv kk
theorem pfX9_13 {a : Nat} {x : Int32} (hT : T.1.cls = RX9) (d : decode T.2.1 pc = .ok (.putfield 13, 3)) (hs : (S.1 a).1 = 9)  (kk : R T r mc ms Q QX kc ks (pc + 3) lv st S (a_up V a 1 (.int x))) : R T r mc ms Q QX kc ks pc lv (.int x :: .ref a :: st) S V :=
  R_put (ci := 9) (k := 1) (T0 := TX9) (N := 2) (ty0 := tyX9) (ty := tyX9 1) rfl (by decide) (by decide) inX9 tyX9_ok nmX9 (by rw [hT]; exact flX9_13) rfl (tyX9_ok 1 (by decide)) rfl rfl d hs kk
end AFIELDS
theorem cwJ2_227 : Cond.constant RJ2 227 (65536 : Int32) ∈ aT := aT_of (List.mem_of_getElem? (i := 668) (by decide +kernel)) (by decide +kernel)
theorem cwJ11_110 : Cond.constant RJ11 110 (55232 : Int32) ∈ aT := aT_of (List.mem_of_getElem? (i := 707) (by decide +kernel)) (by decide +kernel)
theorem cwJ11_76 : Cond.constant RJ11 76 (56320 : Int32) ∈ aT := aT_of (List.mem_of_getElem? (i := 711) (by decide +kernel)) (by decide +kernel)
theorem cwX11_167 : Cond.constant RX11 167 (1000000000 : Int32) ∈ aT := aT_of (List.mem_of_getElem? (i := 912) (by decide +kernel)) (by decide +kernel)
theorem cwX7_82 : Cond.constant RX7 82 (1000000 : Int32) ∈ aT := aT_of (List.mem_of_getElem? (i := 1011) (by decide +kernel)) (by decide +kernel)
theorem cwX11_307 : Cond.constant RX11 307 (2147483647 : Int32) ∈ aT := aT_of (List.mem_of_getElem? (i := 1117) (by decide +kernel)) (by decide +kernel)
theorem cwJxf58ca_77 : Cond.constant RJxf58ca 77 (2143289344 : Int32) ∈ aT := aT_of (List.mem_of_getElem? (i := 1386) (by decide +kernel)) (by decide +kernel)
theorem cwX12_285 : Cond.constant RX12 285 (1000000000 : Int32) ∈ aT := aT_of (List.mem_of_getElem? (i := 1413) (by decide +kernel)) (by decide +kernel)
theorem cwX12_316 : Cond.constant RX12 316 (2147483647 : Int32) ∈ aT := aT_of (List.mem_of_getElem? (i := 1536) (by decide +kernel)) (by decide +kernel)
theorem cwX11_309 : Cond.constantLong RX11 309 (255 : Int64) ∈ aT := aT_of (List.mem_of_getElem? (i := 473) (by decide +kernel)) (by decide +kernel)
theorem cwX2_18 : Cond.constantLong RX2 18 (2147483647 : Int64) ∈ aT := aT_of (List.mem_of_getElem? (i := 922) (by decide +kernel)) (by decide +kernel)
theorem cwX12_123 : Cond.constantLong RX12 123 (255 : Int64) ∈ aT := aT_of (List.mem_of_getElem? (i := 1279) (by decide +kernel)) (by decide +kernel)
theorem cwX12_271 : Cond.constantLong RX12 271 (2147483647 : Int64) ∈ aT := aT_of (List.mem_of_getElem? (i := 1418) (by decide +kernel)) (by decide +kernel)
theorem cwL_82 : Cond.constantLong RL 82 (4294967295 : Int64) ∈ aT := aT_of (List.mem_of_getElem? (i := 1545) (by decide +kernel)) (by decide +kernel)
theorem cwX5_50 : Cond.constantFloat RX5 50 (1053609165 : UInt32) ∈ aT := aT_of (List.mem_of_getElem? (i := 846) (by decide +kernel)) (by decide +kernel)
theorem cwX5_59 : Cond.constantFloat RX5 59 (1050253722 : UInt32) ∈ aT := aT_of (List.mem_of_getElem? (i := 853) (by decide +kernel)) (by decide +kernel)
theorem cwX5_63 : Cond.constantFloat RX5 63 (1045220557 : UInt32) ∈ aT := aT_of (List.mem_of_getElem? (i := 854) (by decide +kernel)) (by decide +kernel)
theorem cwX5_64 : Cond.constantFloat RX5 64 (1036831949 : UInt32) ∈ aT := aT_of (List.mem_of_getElem? (i := 855) (by decide +kernel)) (by decide +kernel)
theorem cwX11_311 : Cond.constantFloat RX11 311 (1258291200 : UInt32) ∈ aT := aT_of (List.mem_of_getElem? (i := 859) (by decide +kernel)) (by decide +kernel)
theorem cwX11_149 : Cond.constantFloat RX11 149 (1120403456 : UInt32) ∈ aT := aT_of (List.mem_of_getElem? (i := 868) (by decide +kernel)) (by decide +kernel)
theorem cwX11_308 : Cond.constantFloat RX11 308 (1056964608 : UInt32) ∈ aT := aT_of (List.mem_of_getElem? (i := 884) (by decide +kernel)) (by decide +kernel)
theorem cwX12_186 : Cond.constantFloat RX12 186 (1053609165 : UInt32) ∈ aT := aT_of (List.mem_of_getElem? (i := 1369) (by decide +kernel)) (by decide +kernel)
theorem cwX12_191 : Cond.constantFloat RX12 191 (1050253722 : UInt32) ∈ aT := aT_of (List.mem_of_getElem? (i := 1374) (by decide +kernel)) (by decide +kernel)
theorem cwX12_192 : Cond.constantFloat RX12 192 (1045220557 : UInt32) ∈ aT := aT_of (List.mem_of_getElem? (i := 1375) (by decide +kernel)) (by decide +kernel)
theorem cwX12_193 : Cond.constantFloat RX12 193 (1036831949 : UInt32) ∈ aT := aT_of (List.mem_of_getElem? (i := 1376) (by decide +kernel)) (by decide +kernel)
theorem cwX12_204 : Cond.constantFloat RX12 204 (1120403456 : UInt32) ∈ aT := aT_of (List.mem_of_getElem? (i := 1391) (by decide +kernel)) (by decide +kernel)
theorem cwX12_205 : Cond.constantFloat RX12 205 (1056964608 : UInt32) ∈ aT := aT_of (List.mem_of_getElem? (i := 1400) (by decide +kernel)) (by decide +kernel)
theorem clL_8 : Cond.classLink RL 8 "MergePost" ∈ aT := aT_of (List.mem_of_getElem? (i := 137) (by decide +kernel)) (by decide +kernel)
theorem clX11_9 : Cond.classLink RX11 9 "MergePost$Line" ∈ aT := aT_of (List.mem_of_getElem? (i := 145) (by decide +kernel)) (by decide +kernel)
theorem clX6_9 : Cond.classLink RX6 9 "MergePost$Signs" ∈ aT := aT_of (List.mem_of_getElem? (i := 151) (by decide +kernel)) (by decide +kernel)
theorem clX11_16 : Cond.classLink RX11 16 "MergePost$Press" ∈ aT := aT_of (List.mem_of_getElem? (i := 182) (by decide +kernel)) (by decide +kernel)
theorem clX7_9 : Cond.classLink RX7 9 "MergePost$Template" ∈ aT := aT_of (List.mem_of_getElem? (i := 188) (by decide +kernel)) (by decide +kernel)
theorem clX10_9 : Cond.classLink RX10 9 "MergePost$Signs" ∈ aT := aT_of (List.mem_of_getElem? (i := 195) (by decide +kernel)) (by decide +kernel)
theorem clX7_22 : Cond.classLink RX7 22 "MergePost$Household" ∈ aT := aT_of (List.mem_of_getElem? (i := 216) (by decide +kernel)) (by decide +kernel)
theorem clX3_9 : Cond.classLink RX3 9 "MergePost$Signs" ∈ aT := aT_of (List.mem_of_getElem? (i := 222) (by decide +kernel)) (by decide +kernel)
theorem clX7_29 : Cond.classLink RX7 29 "MergePost$Letter" ∈ aT := aT_of (List.mem_of_getElem? (i := 242) (by decide +kernel)) (by decide +kernel)
theorem clX4_9 : Cond.classLink RX4 9 "MergePost$Signs" ∈ aT := aT_of (List.mem_of_getElem? (i := 248) (by decide +kernel)) (by decide +kernel)
theorem clX11_23 : Cond.classLink RX11 23 "MergePost$Book" ∈ aT := aT_of (List.mem_of_getElem? (i := 303) (by decide +kernel)) (by decide +kernel)
theorem clX1_9 : Cond.classLink RX1 9 "MergePost$Address" ∈ aT := aT_of (List.mem_of_getElem? (i := 309) (by decide +kernel)) (by decide +kernel)
theorem clX0_9 : Cond.classLink RX0 9 "MergePost$Signs" ∈ aT := aT_of (List.mem_of_getElem? (i := 316) (by decide +kernel)) (by decide +kernel)
theorem clX11_30 : Cond.classLink RX11 30 "MergePost$Likener" ∈ aT := aT_of (List.mem_of_getElem? (i := 372) (by decide +kernel)) (by decide +kernel)
theorem clX11_37 : Cond.classLink RX11 37 "MergePost$Franking" ∈ aT := aT_of (List.mem_of_getElem? (i := 382) (by decide +kernel)) (by decide +kernel)
theorem clX11_44 : Cond.classLink RX11 44 "MergePost$Run" ∈ aT := aT_of (List.mem_of_getElem? (i := 397) (by decide +kernel)) (by decide +kernel)
theorem clX8_9 : Cond.classLink RX8 9 "MergePost$Letter" ∈ aT := aT_of (List.mem_of_getElem? (i := 404) (by decide +kernel)) (by decide +kernel)
theorem clL_13 : Cond.classLink RL 13 "java/lang/IllegalArgumentException" ∈ aT := aT_of (List.mem_of_getElem? (i := 461) (by decide +kernel)) (by decide +kernel)
theorem clL_15 : Cond.classLink RL 15 "java/lang/IllegalStateException" ∈ aT := aT_of (List.mem_of_getElem? (i := 462) (by decide +kernel)) (by decide +kernel)
theorem clX11_55 : Cond.classLink RX11 55 "java/lang/IllegalArgumentException" ∈ aT := aT_of (List.mem_of_getElem? (i := 474) (by decide +kernel)) (by decide +kernel)
theorem clX11_72 : Cond.classLink RX11 72 "java/lang/IllegalStateException" ∈ aT := aT_of (List.mem_of_getElem? (i := 542) (by decide +kernel)) (by decide +kernel)
theorem clL_21 : Cond.classLink RL 21 "java/lang/IndexOutOfBoundsException" ∈ aT := aT_of (List.mem_of_getElem? (i := 562) (by decide +kernel)) (by decide +kernel)
theorem clX11_102 : Cond.classLink RX11 102 "java/lang/IndexOutOfBoundsException" ∈ aT := aT_of (List.mem_of_getElem? (i := 571) (by decide +kernel)) (by decide +kernel)
theorem clL_79 : Cond.classLink RL 79 "MergePostModel" ∈ aT := aT_of (List.mem_of_getElem? (i := 1125) (by decide +kernel)) (by decide +kernel)
theorem wn_X11 : Cond.instantiable RX11 8 ∈ aT := aT_of (List.mem_of_getElem? (i := 138) (by decide +kernel)) (by decide +kernel)
theorem wn_X6 : Cond.instantiable RX6 2 ∈ aT := aT_of (List.mem_of_getElem? (i := 146) (by decide +kernel)) (by decide +kernel)
theorem wn_X9 : Cond.instantiable RX9 2 ∈ aT := aT_of (List.mem_of_getElem? (i := 152) (by decide +kernel)) (by decide +kernel)
theorem wn_X7 : Cond.instantiable RX7 9 ∈ aT := aT_of (List.mem_of_getElem? (i := 183) (by decide +kernel)) (by decide +kernel)
theorem wn_X10 : Cond.instantiable RX10 5 ∈ aT := aT_of (List.mem_of_getElem? (i := 190) (by decide +kernel)) (by decide +kernel)
theorem wn_X3 : Cond.instantiable RX3 3 ∈ aT := aT_of (List.mem_of_getElem? (i := 217) (by decide +kernel)) (by decide +kernel)
theorem wn_X4 : Cond.instantiable RX4 5 ∈ aT := aT_of (List.mem_of_getElem? (i := 243) (by decide +kernel)) (by decide +kernel)
theorem wn_X1 : Cond.instantiable RX1 6 ∈ aT := aT_of (List.mem_of_getElem? (i := 304) (by decide +kernel)) (by decide +kernel)
theorem wn_X0 : Cond.instantiable RX0 7 ∈ aT := aT_of (List.mem_of_getElem? (i := 311) (by decide +kernel)) (by decide +kernel)
theorem wn_X5 : Cond.instantiable RX5 1 ∈ aT := aT_of (List.mem_of_getElem? (i := 373) (by decide +kernel)) (by decide +kernel)
theorem wn_X2 : Cond.instantiable RX2 2 ∈ aT := aT_of (List.mem_of_getElem? (i := 383) (by decide +kernel)) (by decide +kernel)
theorem wn_X8 : Cond.instantiable RX8 5 ∈ aT := aT_of (List.mem_of_getElem? (i := 399) (by decide +kernel)) (by decide +kernel)
theorem wn_X12 : Cond.instantiable RX12 46 ∈ aT := aT_of (List.mem_of_getElem? (i := 1126) (by decide +kernel)) (by decide +kernel)
theorem srX11_57 : Cond.stringRef RX11 57 "no signs of a line" ∈ aR := aR_of (List.mem_of_getElem? (i := 406) (by decide +kernel)) (by decide +kernel)
theorem srX11_74 : Cond.stringRef RX11 74 "the line is full" ∈ aR := aR_of (List.mem_of_getElem? (i := 442) (by decide +kernel)) (by decide +kernel)
theorem srX11_274 : Cond.stringRef RX11 274 "no such template" ∈ aR := aR_of (List.mem_of_getElem? (i := 471) (by decide +kernel)) (by decide +kernel)
theorem srX6_47 : Cond.stringRef RX6 47 "nshzpm" ∈ aR := aR_of (List.mem_of_getElem? (i := 516) (by decide +kernel)) (by decide +kernel)
theorem srX11_104 : Cond.stringRef RX11 104 "no such address" ∈ aR := aR_of (List.mem_of_getElem? (i := 658) (by decide +kernel)) (by decide +kernel)
theorem srX11_111 : Cond.stringRef RX11 111 "no room for another address, or it has a match" ∈ aR := aR_of (List.mem_of_getElem? (i := 663) (by decide +kernel)) (by decide +kernel)
theorem srX11_119 : Cond.stringRef RX11 119 "no such place" ∈ aR := aR_of (List.mem_of_getElem? (i := 703) (by decide +kernel)) (by decide +kernel)
theorem srX11_147 : Cond.stringRef RX11 147 "hundredths out of range" ∈ aR := aR_of (List.mem_of_getElem? (i := 758) (by decide +kernel)) (by decide +kernel)
theorem srX11_157 : Cond.stringRef RX11 157 "these can't be matched" ∈ aR := aR_of (List.mem_of_getElem? (i := 776) (by decide +kernel)) (by decide +kernel)
theorem srX11_168 : Cond.stringRef RX11 168 "base or step out of range" ∈ aR := aR_of (List.mem_of_getElem? (i := 804) (by decide +kernel)) (by decide +kernel)
theorem srX11_183 : Cond.stringRef RX11 183 "reason out of range" ∈ aR := aR_of (List.mem_of_getElem? (i := 821) (by decide +kernel)) (by decide +kernel)
theorem srX11_188 : Cond.stringRef RX11 188 "no room for another run" ∈ aR := aR_of (List.mem_of_getElem? (i := 822) (by decide +kernel)) (by decide +kernel)
theorem srX11_276 : Cond.stringRef RX11 276 "no such run" ∈ aR := aR_of (List.mem_of_getElem? (i := 834) (by decide +kernel)) (by decide +kernel)
theorem srX11_278 : Cond.stringRef RX11 278 "no such letter" ∈ aR := aR_of (List.mem_of_getElem? (i := 859) (by decide +kernel)) (by decide +kernel)
theorem srX11_206 : Cond.stringRef RX11 206 "what out of range" ∈ aR := aR_of (List.mem_of_getElem? (i := 860) (by decide +kernel)) (by decide +kernel)
theorem srX7_122 : Cond.stringRef RX7 122 "nshzpm" ∈ aR := aR_of (List.mem_of_getElem? (i := 923) (by decide +kernel)) (by decide +kernel)
theorem srX11_237 : Cond.stringRef RX11 237 "no such level" ∈ aR := aR_of (List.mem_of_getElem? (i := 974) (by decide +kernel)) (by decide +kernel)
theorem srX11_249 : Cond.stringRef RX11 249 "the run was posted" ∈ aR := aR_of (List.mem_of_getElem? (i := 990) (by decide +kernel)) (by decide +kernel)
theorem wa_char : Cond.arrayClass .char ∈ aT := aT_of (List.mem_of_getElem? (i := 169) (by decide +kernel)) (by decide +kernel)
theorem wa_int : Cond.arrayClass .int ∈ aT := aT_of (List.mem_of_getElem? (i := 215) (by decide +kernel)) (by decide +kernel)
theorem wa_byte : Cond.arrayClass .byte ∈ aT := aT_of (List.mem_of_getElem? (i := 541) (by decide +kernel)) (by decide +kernel)
theorem wa_boolean : Cond.arrayClass .boolean ∈ aT := aT_of (List.mem_of_getElem? (i := 1270) (by decide +kernel)) (by decide +kernel)
theorem wa_long : Cond.arrayClass .long ∈ aT := aT_of (List.mem_of_getElem? (i := 1546) (by decide +kernel)) (by decide +kernel)
theorem wo_X10 : Cond.arrayOver (.object "MergePost$Template") ∈ aN := aN_of (List.mem_of_getElem? (i := 80) (by decide +kernel)) (by decide +kernel)
theorem wo_X9 : Cond.arrayOver (.object "MergePost$Signs") ∈ aN := aN_of (List.mem_of_getElem? (i := 114) (by decide +kernel)) (by decide +kernel)
theorem wo_X0 : Cond.arrayOver (.object "MergePost$Address") ∈ aN := aN_of (List.mem_of_getElem? (i := 201) (by decide +kernel)) (by decide +kernel)
theorem wo_X8 : Cond.arrayOver (.object "MergePost$Run") ∈ aN := aN_of (List.mem_of_getElem? (i := 289) (by decide +kernel)) (by decide +kernel)
theorem wo_X4 : Cond.arrayOver (.object "MergePost$Letter") ∈ aN := aN_of (List.mem_of_getElem? (i := 296) (by decide +kernel)) (by decide +kernel)
-- native 514: ({ cls := "java/lang/Throwable", name := "fillInStackTrace", desc := "(I)Ljava/lang/Throwable;" } : Jvm.MethodName)
-- native 755: ({ cls := "java/lang/System", name := "arraycopy", desc := "(Ljava/lang/Object;ILjava/lang/Object;II)V" } : Jvm.MethodName)
-- native 1385: ({ cls := "java/lang/Float", name := "floatToRawIntBits", desc := "(F)I" } : Jvm.MethodName)
-- static 754: ({ cls := "java/lang/System", name := "arraycopy", desc := "(Ljava/lang/Object;ILjava/lang/Object;II)V" } : Jvm.MethodName)
-- static 1384: ({ cls := "java/lang/Float", name := "floatToRawIntBits", desc := "(F)I" } : Jvm.MethodName)
-- code 144: ({ cls := "java/lang/Object", name := "<init>", desc := "()V" } : Jvm.MethodName) object_method_1_code (1 : Nat) (Option.none : Option Jvm.ClassFile.FieldType)
-- code 498: ({ cls := "java/lang/Throwable", name := "<init>", desc := "()V" } : Jvm.MethodName) prog_27_method_1_code (1 : Nat) (Option.none : Option Jvm.ClassFile.FieldTy
-- code 518: ({ cls := "java/lang/IllegalArgumentException", name := "<init>", desc := "(Ljava/lang/String;)V" } : Jvm.MethodName) prog_18_method_2_code (2 : Nat) (Option.no
-- code 521: ({ cls := "java/lang/RuntimeException", name := "<init>", desc := "(Ljava/lang/String;)V" } : Jvm.MethodName) prog_22_method_2_code (2 : Nat) (Option.none : Opt
-- code 524: ({ cls := "java/lang/Exception", name := "<init>", desc := "(Ljava/lang/String;)V" } : Jvm.MethodName) prog_16_method_2_code (2 : Nat) (Option.none : Option Jvm
-- code 527: ({ cls := "java/lang/Throwable", name := "<init>", desc := "(Ljava/lang/String;)V" } : Jvm.MethodName) prog_27_method_2_code (2 : Nat) (Option.none : Option Jvm
-- code 554: ({ cls := "java/lang/IllegalStateException", name := "<init>", desc := "(Ljava/lang/String;)V" } : Jvm.MethodName) prog_19_method_2_code (2 : Nat) (Option.none 
-- code 583: ({ cls := "java/lang/IndexOutOfBoundsException", name := "<init>", desc := "(Ljava/lang/String;)V" } : Jvm.MethodName) prog_20_method_2_code (2 : Nat) (Option.n
-- instanceMethod 143: ({ cls := "java/lang/Object", name := "<init>", desc := "()V" } : Jvm.MethodName)
-- instanceMethod 497: ({ cls := "java/lang/Throwable", name := "<init>", desc := "()V" } : Jvm.MethodName)
-- instanceMethod 505: ({ cls := "java/lang/Throwable", name := "fillInStackTrace", desc := "()Ljava/lang/Throwable;" } : Jvm.MethodName)
-- instanceMethod 512: ({ cls := "java/lang/Throwable", name := "fillInStackTrace", desc := "(I)Ljava/lang/Throwable;" } : Jvm.MethodName)
-- instanceMethod 517: ({ cls := "java/lang/IllegalArgumentException", name := "<init>", desc := "(Ljava/lang/String;)V" } : Jvm.MethodName)
-- instanceMethod 520: ({ cls := "java/lang/RuntimeException", name := "<init>", desc := "(Ljava/lang/String;)V" } : Jvm.MethodName)
-- instanceMethod 523: ({ cls := "java/lang/Exception", name := "<init>", desc := "(Ljava/lang/String;)V" } : Jvm.MethodName)
-- instanceMethod 526: ({ cls := "java/lang/Throwable", name := "<init>", desc := "(Ljava/lang/String;)V" } : Jvm.MethodName)
-- instanceMethod 553: ({ cls := "java/lang/IllegalStateException", name := "<init>", desc := "(Ljava/lang/String;)V" } : Jvm.MethodName)
-- instanceMethod 582: ({ cls := "java/lang/IndexOutOfBoundsException", name := "<init>", desc := "(Ljava/lang/String;)V" } : Jvm.MethodName)
