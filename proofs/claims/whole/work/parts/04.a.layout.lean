/-! the layouts, and the words that the rows use: printed by a program -/
def shC : List SE := [.inr (11, [some 1, some 2, some 3, some 4, some 5, some 6, some 8, some 9, some 10, some 11, some 12, none, none]), .inr (9, [some 13, some 14, some 15]), .inr (10, [some 16, none, none, none, none]), .inr (1, [some 17, some 18, some 19, none, none]), .inr (6, [some 20, some 21, some 22, some 23, none, none]), .inr (2, [some 24, some 25, some 26, some 27, none, none]), .inr (3, [some 28, some 29, some 30, some 31, some 32, some 33, some 34, some 7, none, none]), .inr (5, [some 35, some 36, some 37, some 38, some 39]), .inr (8, [some 2, some 3, some 6, some 4, some 5, none, none, none]), .inr (7, [some 6, some 40, some 41, some 42, some 43, none]), .inr (4, [some 6, some 44, some 45, some 46, none, none, none, none]), .inr (0, [some 6, some 47, none]), .inl (0, .int, 20, []), .inl (0, .int, 8, []), .inl (0, .int, 8, []), .inl (0, .int, 480, []), .inl (0, .byte, 600, []), .inl (0, .int, 10, []), .inl (0, .int, 10, []), .inl (0, .boolean, 10, []), .inl (0, .int, 20, []), .inl (0, .int, 20, []), .inl (0, .int, 20, []), .inl (0, .int, 20, []), .inl (0, .int, 20, []), .inl (0, .int, 20, []), .inl (0, .int, 20, []), .inl (0, .int, 20, []), .inl (0, .int, 12, []), .inl (0, .int, 12, []), .inl (0, .int, 12, []), .inl (0, .int, 12, []), .inl (0, .int, 12, []), .inl (0, .int, 12, []), .inl (0, .int, 12, []), .inl (0, .int, 96, []), .inl (0, .int, 9, []), .inl (0, .int, 12, []), .inl (0, .int, 12, []), .inl (0, .int, 12, []), .inl (0, .int, 12, []), .inl (0, .int, 12, []), .inl (0, .byte, 4096, []), .inl (0, .int, 4096, []), .inl (0, .int, 12, []), .inl (0, .int, 12, []), .inl (2, (.array .int), 13, [48, 49, 50, 51, 52, 53, 54, 55, 56, 57, 58, 59, 60]), .inl (0, .int, 16, []), .inl (0, .int, 13, []), .inl (0, .int, 13, []), .inl (0, .int, 13, []), .inl (0, .int, 13, []), .inl (0, .int, 13, []), .inl (0, .int, 13, []), .inl (0, .int, 13, []), .inl (0, .int, 13, []), .inl (0, .int, 13, []), .inl (0, .int, 13, []), .inl (0, .int, 13, []), .inl (0, .int, 13, []), .inl (0, .int, 13, [])]
def shM : List SE := [.inr (12, [none, none, some 1, some 2, some 3, none, some 4, some 5, some 6, some 7, none, some 8, some 9, some 10, some 11, some 12, some 13, some 14, none, some 15, some 16, some 17, some 18, none, some 19, some 20, some 21, some 22, some 23, none, none, none, none, none, none, none, none, none, none, none, none, none, some 24, some 25, some 26, some 27, some 28, none, none, some 29, some 30, some 31, some 32, none]), .inl (0, .int, 8, []), .inl (0, .int, 8, []), .inl (0, .int, 480, []), .inl (0, .int, 10, []), .inl (0, .int, 10, []), .inl (0, .int, 10, []), .inl (0, .boolean, 10, []), .inl (0, .int, 12, []), .inl (0, .int, 12, []), .inl (0, .int, 12, []), .inl (0, .int, 12, []), .inl (0, .int, 12, []), .inl (0, .int, 12, []), .inl (0, .int, 96, []), .inl (0, .int, 20, []), .inl (0, .int, 20, []), .inl (0, .int, 20, []), .inl (0, .int, 20, []), .inl (0, .int, 20, []), .inl (0, .int, 20, []), .inl (0, .int, 20, []), .inl (0, .int, 20, []), .inl (0, .int, 600, []), .inl (0, .int, 81, []), .inl (0, .int, 12, []), .inl (0, .boolean, 4096, []), .inl (0, .int, 4096, []), .inl (1, .long, 4096, []), .inl (0, .int, 12, []), .inl (0, .int, 12, []), .inl (0, .int, 169, []), .inl (0, .int, 16, [])]
theorem sC0 : shC[0]? = some (.inr (11, [some 1, some 2, some 3, some 4, some 5, some 6, some 8, some 9, some 10, some 11, some 12, none, none])) := rfl
theorem sC1 : shC[1]? = some (.inr (9, [some 13, some 14, some 15])) := rfl
theorem sC2 : shC[2]? = some (.inr (10, [some 16, none, none, none, none])) := rfl
theorem sC3 : shC[3]? = some (.inr (1, [some 17, some 18, some 19, none, none])) := rfl
theorem sC4 : shC[4]? = some (.inr (6, [some 20, some 21, some 22, some 23, none, none])) := rfl
theorem sC5 : shC[5]? = some (.inr (2, [some 24, some 25, some 26, some 27, none, none])) := rfl
theorem sC6 : shC[6]? = some (.inr (3, [some 28, some 29, some 30, some 31, some 32, some 33, some 34, some 7, none, none])) := rfl
theorem sC7 : shC[7]? = some (.inr (5, [some 35, some 36, some 37, some 38, some 39])) := rfl
theorem sC8 : shC[8]? = some (.inr (8, [some 2, some 3, some 6, some 4, some 5, none, none, none])) := rfl
theorem sC9 : shC[9]? = some (.inr (7, [some 6, some 40, some 41, some 42, some 43, none])) := rfl
theorem sC10 : shC[10]? = some (.inr (4, [some 6, some 44, some 45, some 46, none, none, none, none])) := rfl
theorem sC11 : shC[11]? = some (.inr (0, [some 6, some 47, none])) := rfl
theorem sC12 : shC[12]? = some (.inl (0, .int, 20, [])) := rfl
theorem sC13 : shC[13]? = some (.inl (0, .int, 8, [])) := rfl
theorem sC14 : shC[14]? = some (.inl (0, .int, 8, [])) := rfl
theorem sC15 : shC[15]? = some (.inl (0, .int, 480, [])) := rfl
theorem sC16 : shC[16]? = some (.inl (0, .byte, 600, [])) := rfl
theorem sC17 : shC[17]? = some (.inl (0, .int, 10, [])) := rfl
theorem sC18 : shC[18]? = some (.inl (0, .int, 10, [])) := rfl
theorem sC19 : shC[19]? = some (.inl (0, .boolean, 10, [])) := rfl
theorem sC20 : shC[20]? = some (.inl (0, .int, 20, [])) := rfl
theorem sC21 : shC[21]? = some (.inl (0, .int, 20, [])) := rfl
theorem sC22 : shC[22]? = some (.inl (0, .int, 20, [])) := rfl
theorem sC23 : shC[23]? = some (.inl (0, .int, 20, [])) := rfl
theorem sC24 : shC[24]? = some (.inl (0, .int, 20, [])) := rfl
theorem sC25 : shC[25]? = some (.inl (0, .int, 20, [])) := rfl
theorem sC26 : shC[26]? = some (.inl (0, .int, 20, [])) := rfl
theorem sC27 : shC[27]? = some (.inl (0, .int, 20, [])) := rfl
theorem sC28 : shC[28]? = some (.inl (0, .int, 12, [])) := rfl
theorem sC29 : shC[29]? = some (.inl (0, .int, 12, [])) := rfl
theorem sC30 : shC[30]? = some (.inl (0, .int, 12, [])) := rfl
theorem sC31 : shC[31]? = some (.inl (0, .int, 12, [])) := rfl
theorem sC32 : shC[32]? = some (.inl (0, .int, 12, [])) := rfl
theorem sC33 : shC[33]? = some (.inl (0, .int, 12, [])) := rfl
theorem sC34 : shC[34]? = some (.inl (0, .int, 12, [])) := rfl
theorem sC35 : shC[35]? = some (.inl (0, .int, 96, [])) := rfl
theorem sC36 : shC[36]? = some (.inl (0, .int, 9, [])) := rfl
theorem sC37 : shC[37]? = some (.inl (0, .int, 12, [])) := rfl
theorem sC38 : shC[38]? = some (.inl (0, .int, 12, [])) := rfl
theorem sC39 : shC[39]? = some (.inl (0, .int, 12, [])) := rfl
theorem sC40 : shC[40]? = some (.inl (0, .int, 12, [])) := rfl
theorem sC41 : shC[41]? = some (.inl (0, .int, 12, [])) := rfl
theorem sC42 : shC[42]? = some (.inl (0, .byte, 4096, [])) := rfl
theorem sC43 : shC[43]? = some (.inl (0, .int, 4096, [])) := rfl
theorem sC44 : shC[44]? = some (.inl (0, .int, 12, [])) := rfl
theorem sC45 : shC[45]? = some (.inl (0, .int, 12, [])) := rfl
theorem sC46 : shC[46]? = some (.inl (2, (.array .int), 13, [48, 49, 50, 51, 52, 53, 54, 55, 56, 57, 58, 59, 60])) := rfl
theorem sC47 : shC[47]? = some (.inl (0, .int, 16, [])) := rfl
theorem sC48 : shC[48]? = some (.inl (0, .int, 13, [])) := rfl
theorem sC49 : shC[49]? = some (.inl (0, .int, 13, [])) := rfl
theorem sC50 : shC[50]? = some (.inl (0, .int, 13, [])) := rfl
theorem sC51 : shC[51]? = some (.inl (0, .int, 13, [])) := rfl
theorem sC52 : shC[52]? = some (.inl (0, .int, 13, [])) := rfl
theorem sC53 : shC[53]? = some (.inl (0, .int, 13, [])) := rfl
theorem sC54 : shC[54]? = some (.inl (0, .int, 13, [])) := rfl
theorem sC55 : shC[55]? = some (.inl (0, .int, 13, [])) := rfl
theorem sC56 : shC[56]? = some (.inl (0, .int, 13, [])) := rfl
theorem sC57 : shC[57]? = some (.inl (0, .int, 13, [])) := rfl
theorem sC58 : shC[58]? = some (.inl (0, .int, 13, [])) := rfl
theorem sC59 : shC[59]? = some (.inl (0, .int, 13, [])) := rfl
theorem sC60 : shC[60]? = some (.inl (0, .int, 13, [])) := rfl
theorem sM0 : shM[0]? = some (.inr (12, [none, none, some 1, some 2, some 3, none, some 4, some 5, some 6, some 7, none, some 8, some 9, some 10, some 11, some 12, some 13, some 14, none, some 15, some 16, some 17, some 18, none, some 19, some 20, some 21, some 22, some 23, none, none, none, none, none, none, none, none, none, none, none, none, none, some 24, some 25, some 26, some 27, some 28, none, none, some 29, some 30, some 31, some 32, none])) := rfl
theorem sM1 : shM[1]? = some (.inl (0, .int, 8, [])) := rfl
theorem sM2 : shM[2]? = some (.inl (0, .int, 8, [])) := rfl
theorem sM3 : shM[3]? = some (.inl (0, .int, 480, [])) := rfl
theorem sM4 : shM[4]? = some (.inl (0, .int, 10, [])) := rfl
theorem sM5 : shM[5]? = some (.inl (0, .int, 10, [])) := rfl
theorem sM6 : shM[6]? = some (.inl (0, .int, 10, [])) := rfl
theorem sM7 : shM[7]? = some (.inl (0, .boolean, 10, [])) := rfl
theorem sM8 : shM[8]? = some (.inl (0, .int, 12, [])) := rfl
theorem sM9 : shM[9]? = some (.inl (0, .int, 12, [])) := rfl
theorem sM10 : shM[10]? = some (.inl (0, .int, 12, [])) := rfl
theorem sM11 : shM[11]? = some (.inl (0, .int, 12, [])) := rfl
theorem sM12 : shM[12]? = some (.inl (0, .int, 12, [])) := rfl
theorem sM13 : shM[13]? = some (.inl (0, .int, 12, [])) := rfl
theorem sM14 : shM[14]? = some (.inl (0, .int, 96, [])) := rfl
theorem sM15 : shM[15]? = some (.inl (0, .int, 20, [])) := rfl
theorem sM16 : shM[16]? = some (.inl (0, .int, 20, [])) := rfl
theorem sM17 : shM[17]? = some (.inl (0, .int, 20, [])) := rfl
theorem sM18 : shM[18]? = some (.inl (0, .int, 20, [])) := rfl
theorem sM19 : shM[19]? = some (.inl (0, .int, 20, [])) := rfl
theorem sM20 : shM[20]? = some (.inl (0, .int, 20, [])) := rfl
theorem sM21 : shM[21]? = some (.inl (0, .int, 20, [])) := rfl
theorem sM22 : shM[22]? = some (.inl (0, .int, 20, [])) := rfl
theorem sM23 : shM[23]? = some (.inl (0, .int, 600, [])) := rfl
theorem sM24 : shM[24]? = some (.inl (0, .int, 81, [])) := rfl
theorem sM25 : shM[25]? = some (.inl (0, .int, 12, [])) := rfl
theorem sM26 : shM[26]? = some (.inl (0, .boolean, 4096, [])) := rfl
theorem sM27 : shM[27]? = some (.inl (0, .int, 4096, [])) := rfl
theorem sM28 : shM[28]? = some (.inl (1, .long, 4096, [])) := rfl
theorem sM29 : shM[29]? = some (.inl (0, .int, 12, [])) := rfl
theorem sM30 : shM[30]? = some (.inl (0, .int, 12, [])) := rfl
theorem sM31 : shM[31]? = some (.inl (0, .int, 169, [])) := rfl
theorem sM32 : shM[32]? = some (.inl (0, .int, 16, [])) := rfl
def mJ0_charAt_5068e : MI := (yJ0_charAt_5068e, cJ0_charAt_5068e, 2, (some .char))
def mJ0_checkIndex_df160 : MI := (yJ0_checkIndex_df160, cJ0_checkIndex_df160, 2, none)
def mJ0_coder_7d493 : MI := (yJ0_coder_7d493, cJ0_coder_7d493, 1, (some .byte))
def mJ0_isLatin1_aae02 : MI := (yJ0_isLatin1_aae02, cJ0_isLatin1_aae02, 1, (some .boolean))
def mJ0_length_8abf5 : MI := (yJ0_length_8abf5, cJ0_length_8abf5, 1, (some .int))
def mJ1_charAt_3b067 : MI := (yJ1_charAt_3b067, cJ1_charAt_3b067, 2, (some .char))
def mJ2_charAt_3b067 : MI := (yJ2_charAt_3b067, cJ2_charAt_3b067, 2, (some .char))
def mJ2_checkIndex_2214a : MI := (yJ2_checkIndex_2214a, cJ2_checkIndex_2214a, 2, none)
def mJ2_getChar_3b067 : MI := (yJ2_getChar_3b067, cJ2_getChar_3b067, 2, (some .char))
def mJ2_length_9d52b : MI := (yJ2_length_9d52b, cJ2_length_9d52b, 1, (some .int))
def mJ3_checkIndex_8e157 : MI := (yJ3_checkIndex_8e157, cJ3_checkIndex_8e157, 3, (some .int))
def mJ6_bitCount_0f7a4 : MI := (yJ6_bitCount_0f7a4, cJ6_bitCount_0f7a4, 1, (some .int))
def mJ9_abs_0f7a4 : MI := (yJ9_abs_0f7a4, cJ9_abs_0f7a4, 1, (some .int))
def mJ9_max_7cf53 : MI := (yJ9_max_7cf53, cJ9_max_7cf53, 2, (some .int))
def mJ9_min_7cf53 : MI := (yJ9_min_7cf53, cJ9_min_7cf53, 2, (some .int))
def mL_law : MI := (yL_law, cL_law, 4, (some .boolean))
def mX0_begin : MI := (yX0_begin, cX0_begin, 2, none)
def mX0_countedMark : MI := (yX0_countedMark, cX0_countedMark, 2, (some .int))
def mX0_countedSize : MI := (yX0_countedSize, cX0_countedSize, 3, (some .int))
def mX0_homeMark : MI := (yX0_homeMark, cX0_homeMark, 2, (some .int))
def mX0_homeSize : MI := (yX0_homeSize, cX0_homeSize, 2, (some .int))
def mX0_lentMark : MI := (yX0_lentMark, cX0_lentMark, 2, (some .int))
def mX0_lentSize : MI := (yX0_lentSize, cX0_lentSize, 2, (some .int))
def mX0_markOf : MI := (yX0_markOf, cX0_markOf, 2, (some .int))
def mX0_ratedSize : MI := (yX0_ratedSize, cX0_ratedSize, 2, (some .int))
def mX0_sizeOf : MI := (yX0_sizeOf, cX0_sizeOf, 2, (some .int))
def mX0_staleSize : MI := (yX0_staleSize, cX0_staleSize, 2, (some .int))
def mX0_tradeMark : MI := (yX0_tradeMark, cX0_tradeMark, 3, (some .int))
def mX10_add : MI := (yX10_add, cX10_add, 2, none)
def mX10_isFigure : MI := (yX10_isFigure, cX10_isFigure, 1, (some .boolean))
def mX10_isLetter : MI := (yX10_isLetter, cX10_isLetter, 1, (some .boolean))
def mX10_isWord : MI := (yX10_isWord, cX10_isWord, 3, (some .boolean))
def mX10_letter : MI := (yX10_letter, cX10_letter, 3, (some .int))
def mX10_letters : MI := (yX10_letters, cX10_letters, 1, (some .int))
def mX10_number : MI := (yX10_number, cX10_number, 3, (some .int))
def mX10_rewind : MI := (yX10_rewind, cX10_rewind, 1, none)
def mX10_step : MI := (yX10_step, cX10_step, 1, none)
def mX11_alike : MI := (yX11_alike, cX11_alike, 4, (some .int))
def mX11_as : MI := (yX11_as, cX11_as, 3, (some .int))
def mX11_ask : MI := (yX11_ask, cX11_ask, 3, (some .int))
def mX11_copy : MI := (yX11_copy, cX11_copy, 6, (some .int))
def mX11_count : MI := (yX11_count, cX11_count, 2, (some .int))
def mX11_countHomeless : MI := (yX11_countHomeless, cX11_countHomeless, 3, (some .int))
def mX11_countMeetings : MI := (yX11_countMeetings, cX11_countMeetings, 4, (some .int))
def mX11_drop : MI := (yX11_drop, cX11_drop, 2, (some .int))
def mX11_ear : MI := (yX11_ear, cX11_ear, 2, (some .int))
def mX11_fault : MI := (yX11_fault, cX11_fault, 1, (some .int))
def mX11_feed : MI := (yX11_feed, cX11_feed, 5, (some .int))
def mX11_finding : MI := (yX11_finding, cX11_finding, 2, (some .int))
def mX11_found : MI := (yX11_found, cX11_found, 6, (some .int))
def mX11_isHomeless : MI := (yX11_isHomeless, cX11_isHomeless, 2, (some .boolean))
def mX11_isPlace : MI := (yX11_isPlace, cX11_isPlace, 4, (some .boolean))
def mX11_joined : MI := (yX11_joined, cX11_joined, 2, (some .long))
def mX11_keepTold : MI := (yX11_keepTold, cX11_keepTold, 1, none)
def mX11_kind : MI := (yX11_kind, cX11_kind, 2, (some .int))
def mX11_leaf : MI := (yX11_leaf, cX11_leaf, 4, (some .int))
def mX11_line : MI := (yX11_line, cX11_line, 3, (some .int))
def mX11_lost : MI := (yX11_lost, cX11_lost, 5, (some .int))
def mX11_meetsAnother : MI := (yX11_meetsAnother, cX11_meetsAnother, 4, (some .boolean))
def mX11_missing : MI := (yX11_missing, cX11_missing, 7, (some .int))
def mX11_next : MI := (yX11_next, cX11_next, 5, (some .int))
def mX11_noBook : MI := (yX11_noBook, cX11_noBook, 2, (some .boolean))
def mX11_noLine : MI := (yX11_noLine, cX11_noLine, 2, (some .boolean))
def mX11_noSheet : MI := (yX11_noSheet, cX11_noSheet, 2, (some .boolean))
def mX11_noStreet : MI := (yX11_noStreet, cX11_noStreet, 2, (some .boolean))
def mX11_noYear : MI := (yX11_noYear, cX11_noYear, 2, (some .boolean))
def mX11_person : MI := (yX11_person, cX11_person, 2, (some .int))
def mX11_quarrels : MI := (yX11_quarrels, cX11_quarrels, 1, (some .int))
def mX11_read : MI := (yX11_read, cX11_read, 2, (some .int))
def mX11_set : MI := (yX11_set, cX11_set, 4, (some .int))
def mX11_sheet : MI := (yX11_sheet, cX11_sheet, 4, (some .int))
def mX11_shown : MI := (yX11_shown, cX11_shown, 4, (some .int))
def mX11_status : MI := (yX11_status, cX11_status, 1, (some .int))
def mX11_stay : MI := (yX11_stay, cX11_stay, 5, (some .int))
def mX11_sure : MI := (yX11_sure, cX11_sure, 3, (some .long))
def mX11_today : MI := (yX11_today, cX11_today, 4, (some .int))
def mX11_trace : MI := (yX11_trace, cX11_trace, 2, (some .int))
def mX11_walkEnd : MI := (yX11_walkEnd, cX11_walkEnd, 6, (some .int))
def mX11_walks : MI := (yX11_walks, cX11_walks, 6, (some .int))
def mX11_withoutFinding : MI := (yX11_withoutFinding, cX11_withoutFinding, 2, (some .int))
def mX12_alike : MI := (yX12_alike, cX12_alike, 4, (some .int))
def mX12_all : MI := (yX12_all, cX12_all, 1, (some .int))
def mX12_as : MI := (yX12_as, cX12_as, 3, (some .int))
def mX12_ask : MI := (yX12_ask, cX12_ask, 3, (some .int))
def mX12_bad : MI := (yX12_bad, cX12_bad, 2, none)
def mX12_began : MI := (yX12_began, cX12_began, 2, none)
def mX12_bits : MI := (yX12_bits, cX12_bits, 3, (some .int))
def mX12_byteAt : MI := (yX12_byteAt, cX12_byteAt, 2, (some .int))
def mX12_codeOf : MI := (yX12_codeOf, cX12_codeOf, 1, (some .int))
def mX12_copy : MI := (yX12_copy, cX12_copy, 9, (some .int))
def mX12_count : MI := (yX12_count, cX12_count, 4, (some .int))
def mX12_doorOf : MI := (yX12_doorOf, cX12_doorOf, 2, (some .int))
def mX12_drop : MI := (yX12_drop, cX12_drop, 2, (some .int))
def mX12_ear : MI := (yX12_ear, cX12_ear, 2, (some .int))
def mX12_earOf : MI := (yX12_earOf, cX12_earOf, 7, (some .int))
def mX12_fault : MI := (yX12_fault, cX12_fault, 1, (some .int))
def mX12_feed : MI := (yX12_feed, cX12_feed, 5, (some .int))
def mX12_finding : MI := (yX12_finding, cX12_finding, 2, (some .int))
def mX12_found : MI := (yX12_found, cX12_found, 14, (some .int))
def mX12_gathered : MI := (yX12_gathered, cX12_gathered, 2, (some .int))
def mX12_handOf : MI := (yX12_handOf, cX12_handOf, 6, (some .int))
def mX12_in : MI := (yX12_in, cX12_in, 6, (some .boolean))
def mX12_isAddress : MI := (yX12_isAddress, cX12_isAddress, 3, (some .boolean))
def mX12_isBook : MI := (yX12_isBook, cX12_isBook, 2, (some .boolean))
def mX12_isFigure : MI := (yX12_isFigure, cX12_isFigure, 1, (some .boolean))
def mX12_isHome : MI := (yX12_isHome, cX12_isHome, 2, (some .boolean))
def mX12_isHomeless : MI := (yX12_isHomeless, cX12_isHomeless, 6, (some .boolean))
def mX12_isLetter : MI := (yX12_isLetter, cX12_isLetter, 1, (some .boolean))
def mX12_isLike : MI := (yX12_isLike, cX12_isLike, 3, (some .boolean))
def mX12_isLine : MI := (yX12_isLine, cX12_isLine, 2, (some .boolean))
def mX12_isOf : MI := (yX12_isOf, cX12_isOf, 2, (some .boolean))
def mX12_isOneDoor : MI := (yX12_isOneDoor, cX12_isOneDoor, 3, (some .boolean))
def mX12_isSheet : MI := (yX12_isSheet, cX12_isSheet, 1, (some .boolean))
def mX12_isSpan : MI := (yX12_isSpan, cX12_isSpan, 3, (some .boolean))
def mX12_joined : MI := (yX12_joined, cX12_joined, 5, (some .long))
def mX12_kind : MI := (yX12_kind, cX12_kind, 2, (some .int))
def mX12_leaf : MI := (yX12_leaf, cX12_leaf, 4, (some .int))
def mX12_least : MI := (yX12_least, cX12_least, 2, (some .int))
def mX12_line : MI := (yX12_line, cX12_line, 3, (some .int))
def mX12_lost : MI := (yX12_lost, cX12_lost, 5, (some .int))
def mX12_lowest : MI := (yX12_lowest, cX12_lowest, 2, (some .int))
def mX12_markOf : MI := (yX12_markOf, cX12_markOf, 4, (some .int))
def mX12_match : MI := (yX12_match, cX12_match, 8, none)
def mX12_mayBe : MI := (yX12_mayBe, cX12_mayBe, 3, (some .boolean))
def mX12_missing : MI := (yX12_missing, cX12_missing, 10, (some .int))
def mX12_need : MI := (yX12_need, cX12_need, 2, none)
def mX12_next : MI := (yX12_next, cX12_next, 8, (some .int))
def mX12_numberIn : MI := (yX12_numberIn, cX12_numberIn, 6, (some .int))
def mX12_partAll : MI := (yX12_partAll, cX12_partAll, 13, none)
def mX12_person : MI := (yX12_person, cX12_person, 2, (some .int))
def mX12_personOf : MI := (yX12_personOf, cX12_personOf, 6, (some .int))
def mX12_plainSize : MI := (yX12_plainSize, cX12_plainSize, 2, (some .int))
def mX12_quarrels : MI := (yX12_quarrels, cX12_quarrels, 5, (some .int))
def mX12_read : MI := (yX12_read, cX12_read, 3, (some .int))
def mX12_readLine : MI := (yX12_readLine, cX12_readLine, 5, none)
def mX12_readPart : MI := (yX12_readPart, cX12_readPart, 3, none)
def mX12_set : MI := (yX12_set, cX12_set, 4, (some .int))
def mX12_sheet : MI := (yX12_sheet, cX12_sheet, 5, (some .int))
def mX12_shown : MI := (yX12_shown, cX12_shown, 3, (some .int))
def mX12_sizeOf : MI := (yX12_sizeOf, cX12_sizeOf, 4, (some .int))
def mX12_sorted : MI := (yX12_sorted, cX12_sorted, 7, (some .int))
def mX12_status : MI := (yX12_status, cX12_status, 1, (some .int))
def mX12_stay : MI := (yX12_stay, cX12_stay, 10, (some .int))
def mX12_step : MI := (yX12_step, cX12_step, 2, none)
def mX12_sure : MI := (yX12_sure, cX12_sure, 4, (some .long))
def mX12_today : MI := (yX12_today, cX12_today, 4, (some .int))
def mX12_todayOf : MI := (yX12_todayOf, cX12_todayOf, 9, (some .int))
def mX12_trace : MI := (yX12_trace, cX12_trace, 2, (some .int))
def mX12_walks : MI := (yX12_walks, cX12_walks, 10, (some .int))
def mX12_word : MI := (yX12_word, cX12_word, 4, (some .long))
def mX1_gatheredAbove : MI := (yX1_gatheredAbove, cX1_gatheredAbove, 4, (some .int))
def mX1_gatheredBelow : MI := (yX1_gatheredBelow, cX1_gatheredBelow, 4, (some .int))
def mX1_tell : MI := (yX1_tell, cX1_tell, 3, none)
def mX1_worth : MI := (yX1_worth, cX1_worth, 3, (some .int))
def mX2_noneStands : MI := (yX2_noneStands, cX2_noneStands, 6, (some .boolean))
def mX2_tell : MI := (yX2_tell, cX2_tell, 5, none)
def mX3_agesAgree : MI := (yX3_agesAgree, cX3_agesAgree, 3, (some .boolean))
def mX3_areTwoHomesAtOnce : MI := (yX3_areTwoHomesAtOnce, cX3_areTwoHomesAtOnce, 3, (some .boolean))
def mX3_atOneDoor : MI := (yX3_atOneDoor, cX3_atOneDoor, 3, (some .boolean))
def mX3_countHomes : MI := (yX3_countHomes, cX3_countHomes, 3, (some .int))
def mX3_countInBoth : MI := (yX3_countInBoth, cX3_countInBoth, 5, (some .int))
def mX3_countOfBook : MI := (yX3_countOfBook, cX3_countOfBook, 4, (some .int))
def mX3_countUnseen : MI := (yX3_countUnseen, cX3_countUnseen, 5, (some .int))
def mX3_firstStanding : MI := (yX3_firstStanding, cX3_firstStanding, 5, (some .int))
def mX3_isDoorRead : MI := (yX3_isDoorRead, cX3_isDoorRead, 4, (some .boolean))
def mX3_isFoundIn : MI := (yX3_isFoundIn, cX3_isFoundIn, 4, (some .boolean))
def mX3_isHome : MI := (yX3_isHome, cX3_isHome, 2, (some .boolean))
def mX3_isOfKind : MI := (yX3_isOfKind, cX3_isOfKind, 3, (some .boolean))
def mX3_keep : MI := (yX3_keep, cX3_keep, 4, none)
def mX3_lastStanding : MI := (yX3_lastStanding, cX3_lastStanding, 5, (some .int))
def mX3_mayBeOne : MI := (yX3_mayBeOne, cX3_mayBeOne, 3, (some .boolean))
def mX3_standsWith : MI := (yX3_standsWith, cX3_standsWith, 4, (some .boolean))
def mX4_canPair : MI := (yX4_canPair, cX4_canPair, 3, (some .boolean))
def mX4_kept : MI := (yX4_kept, cX4_kept, 1, (some .int))
def mX4_lineOfPair : MI := (yX4_lineOfPair, cX4_lineOfPair, 4, (some .int))
def mX4_lookAt : MI := (yX4_lookAt, cX4_lookAt, 6, none)
def mX4_mostFrom : MI := (yX4_mostFrom, cX4_mostFrom, 4, (some .int))
def mX4_pick : MI := (yX4_pick, cX4_pick, 7, (some .int))
def mX4_stepToPair : MI := (yX4_stepToPair, cX4_stepToPair, 5, none)
def mX5_areLike : MI := (yX5_areLike, cX5_areLike, 3, (some .boolean))
def mX5_codeOf : MI := (yX5_codeOf, cX5_codeOf, 1, (some .int))
def mX5_compare : MI := (yX5_compare, cX5_compare, 3, none)
def mX5_earOf : MI := (yX5_earOf, cX5_earOf, 7, (some .int))
def mX5_hand : MI := (yX5_hand, cX5_hand, 8, (some .int))
def mX5_letter : MI := (yX5_letter, cX5_letter, 3, (some .int))
def mX5_tell : MI := (yX5_tell, cX5_tell, 4, none)
def mX6_countQuarrels : MI := (yX6_countQuarrels, cX6_countQuarrels, 3, (some .int))
def mX6_keep : MI := (yX6_keep, cX6_keep, 1, none)
def mX6_numberToday : MI := (yX6_numberToday, cX6_numberToday, 6, (some .int))
def mX6_put : MI := (yX6_put, cX6_put, 6, none)
def mX6_quarrelsWithEarlier : MI := (yX6_quarrelsWithEarlier, cX6_quarrelsWithEarlier, 3, (some .boolean))
def mX6_sortIn : MI := (yX6_sortIn, cX6_sortIn, 7, none)
def mX6_tell : MI := (yX6_tell, cX6_tell, 5, none)
def mX7_all : MI := (yX7_all, cX7_all, 1, (some .int))
def mX7_countFewest : MI := (yX7_countFewest, cX7_countFewest, 1, (some .int))
def mX7_countRivals : MI := (yX7_countRivals, cX7_countRivals, 1, (some .int))
def mX7_findWhoMayBeOne : MI := (yX7_findWhoMayBeOne, cX7_findWhoMayBeOne, 3, none)
def mX7_friendsOf : MI := (yX7_friendsOf, cX7_friendsOf, 3, (some .int))
def mX7_isOne : MI := (yX7_isOne, cX7_isOne, 4, (some .boolean))
def mX7_leastPerson : MI := (yX7_leastPerson, cX7_leastPerson, 4, (some .int))
def mX7_linesOfGreatest : MI := (yX7_linesOfGreatest, cX7_linesOfGreatest, 3, (some .int))
def mX7_partSet : MI := (yX7_partSet, cX7_partSet, 10, none)
def mX7_personOf : MI := (yX7_personOf, cX7_personOf, 2, (some .int))
def mX7_pickFirst : MI := (yX7_pickFirst, cX7_pickFirst, 5, none)
def mX7_renew : MI := (yX7_renew, cX7_renew, 3, none)
def mX7_rivalsWith : MI := (yX7_rivalsWith, cX7_rivalsWith, 3, (some .int))
def mX7_rivalsWithBoth : MI := (yX7_rivalsWithBoth, cX7_rivalsWithBoth, 7, (some .int))
def mX8_beginPart : MI := (yX8_beginPart, cX8_beginPart, 2, (some .boolean))
def mX8_fail : MI := (yX8_fail, cX8_fail, 2, (some .boolean))
def mX8_readAll : MI := (yX8_readAll, cX8_readAll, 2, (some .boolean))
def mX8_readBook : MI := (yX8_readBook, cX8_readBook, 4, (some .boolean))
def mX8_readHouse : MI := (yX8_readHouse, cX8_readHouse, 5, (some .boolean))
def mX8_readLine : MI := (yX8_readLine, cX8_readLine, 2, (some .boolean))
def mX8_readOrder : MI := (yX8_readOrder, cX8_readOrder, 5, (some .boolean))
def mX8_readPart : MI := (yX8_readPart, cX8_readPart, 1, (some .boolean))
def mX8_takeAge : MI := (yX8_takeAge, cX8_takeAge, 1, (some .boolean))
def mX8_takeName : MI := (yX8_takeName, cX8_takeName, 2, (some .boolean))
def mX8_takeNumber : MI := (yX8_takeNumber, cX8_takeNumber, 3, (some .boolean))
def mX8_takeSign : MI := (yX8_takeSign, cX8_takeSign, 1, (some .boolean))
def mX8_takeSort : MI := (yX8_takeSort, cX8_takeSort, 1, (some .boolean))
def mX9_countLaid : MI := (yX9_countLaid, cX9_countLaid, 3, (some .int))
def mX9_haveOneLane : MI := (yX9_haveOneLane, cX9_haveOneLane, 3, (some .boolean))
def mX9_holds : MI := (yX9_holds, cX9_holds, 4, (some .boolean))
def mX9_isMissing : MI := (yX9_isMissing, cX9_isMissing, 2, (some .boolean))
def mX9_item : MI := (yX9_item, cX9_item, 3, (some .int))
def mX9_lay : MI := (yX9_lay, cX9_lay, 5, none)
def mX9_lose : MI := (yX9_lose, cX9_lose, 3, (some .int))
def mX9_move : MI := (yX9_move, cX9_move, 6, none)
def mX9_put : MI := (yX9_put, cX9_put, 5, (some .int))
