/-! ===== the methods as blocks: written by program out of the listing ===== -/
abbrev k_J_bitCount_0 : List xE := [(.iload_n 0, 1, 0, 0, .null, []), (.iload_n 0, 1, 0, 0, .null, []), (.iconst 1, 1, 0, 0, .int (nI 1), []), (.iushr, 1, 0, 0, .null, []), (.ldc_w 265, 3, 0, 0, .int (nI 1431655765), []), (.iand, 1, 0, 0, .null, []), (.isub, 1, 0, 0, .null, []), (.istore_n 0, 1, 0, 0, .null, []), (.iload_n 0, 1, 0, 0, .null, []), (.ldc_w 266, 3, 0, 0, .int (nI 858993459), []), (.iand, 1, 0, 0, .null, []), (.iload_n 0, 1, 0, 0, .null, []), (.iconst 2, 1, 0, 0, .int (nI 2), []), (.iushr, 1, 0, 0, .null, []), (.ldc_w 266, 3, 0, 0, .int (nI 858993459), []), (.iand, 1, 0, 0, .null, []), (.iadd, 1, 0, 0, .null, []), (.istore_n 0, 1, 0, 0, .null, []), (.iload_n 0, 1, 0, 0, .null, []), (.iload_n 0, 1, 0, 0, .null, []), (.iconst 4, 1, 0, 0, .int (nI 4), []), (.iushr, 1, 0, 0, .null, []), (.iadd, 1, 0, 0, .null, []), (.ldc_w 267, 3, 0, 0, .int (nI 252645135), []), (.iand, 1, 0, 0, .null, []), (.istore_n 0, 1, 0, 0, .null, []), (.iload_n 0, 1, 0, 0, .null, []), (.iload_n 0, 1, 0, 0, .null, []), (.bipush 8, 2, 0, 0, .int (nI 8), []), (.iushr, 1, 0, 0, .null, []), (.iadd, 1, 0, 0, .null, []), (.istore_n 0, 1, 0, 0, .null, []), (.iload_n 0, 1, 0, 0, .null, []), (.iload_n 0, 1, 0, 0, .null, []), (.bipush 16, 2, 0, 0, .int (nI 16), []), (.iushr, 1, 0, 0, .null, []), (.iadd, 1, 0, 0, .null, []), (.istore_n 0, 1, 0, 0, .null, []), (.iload_n 0, 1, 0, 0, .null, []), (.bipush 63, 2, 0, 0, .int (nI 63), []), (.iand, 1, 0, 0, .null, []), (.ireturn, 1, 0, 0, .null, [])]
def b_J_bitCount : List xB := [(0, k_J_bitCount_0, 1)]
def m_J_bitCount : xM := (yJ6_bitCount_0f7a4, cJ6_bitCount_0f7a4, 1, (some .int), 0, 0, false, b_J_bitCount)
abbrev N_J_bitCount : Nat := 0
abbrev k_J_max_0 : List xE := [(.iload_n 0, 1, 0, 0, .null, []), (.iload_n 1, 1, 0, 0, .null, []), (.if_icmp .lt 7, 3, 1, 0, .null, []), (.iload_n 0, 1, 0, 0, .null, []), (.goto 4, 3, 2, 0, .null, [])]
abbrev k_J_max_1 : List xE := [(.iload_n 1, 1, 0, 0, .null, [])]
abbrev k_J_max_2 : List xE := [(.ireturn, 1, 0, 0, .null, [])]
def b_J_max : List xB := [(0, k_J_max_0, 3), (9, k_J_max_1, 2), (10, k_J_max_2, 3)]
def m_J_max : xM := (yJ9_max_7cf53, cJ9_max_7cf53, 2, (some .int), 0, 0, false, b_J_max)
abbrev N_J_max : Nat := 1
abbrev k_J_min_0 : List xE := [(.iload_n 0, 1, 0, 0, .null, []), (.iload_n 1, 1, 0, 0, .null, []), (.if_icmp .gt 7, 3, 1, 0, .null, []), (.iload_n 0, 1, 0, 0, .null, []), (.goto 4, 3, 2, 0, .null, [])]
abbrev k_J_min_1 : List xE := [(.iload_n 1, 1, 0, 0, .null, [])]
abbrev k_J_min_2 : List xE := [(.ireturn, 1, 0, 0, .null, [])]
def b_J_min : List xB := [(0, k_J_min_0, 3), (9, k_J_min_1, 2), (10, k_J_min_2, 3)]
def m_J_min : xM := (yJ9_min_7cf53, cJ9_min_7cf53, 2, (some .int), 0, 0, false, b_J_min)
abbrev N_J_min : Nat := 2
abbrev k_J_isNaND_0 : List xE := [(.dload_n 0, 1, 0, 0, .null, []), (.dload_n 0, 1, 0, 0, .null, []), (.dcmp .l, 1, 0, 0, .null, []), (.ifCond .eq 7, 3, 1, 0, .null, []), (.iconst 1, 1, 0, 0, .int (nI 1), []), (.goto 4, 3, 2, 0, .null, [])]
abbrev k_J_isNaND_1 : List xE := [(.iconst 0, 1, 0, 0, .int (nI 0), [])]
abbrev k_J_isNaND_2 : List xE := [(.ireturn, 1, 0, 0, .null, [])]
def b_J_isNaND : List xB := [(0, k_J_isNaND_0, 3), (10, k_J_isNaND_1, 2), (11, k_J_isNaND_2, 3)]
def m_J_isNaND : xM := (yJxe99ae_isNaN_b9ae7, cJxe99ae_isNaN_b9ae7, 2, (some .boolean), 0, 0, false, b_J_isNaND)
abbrev N_J_isNaND : Nat := 3
abbrev k_J_doubleToLongBits_0 : List xE := [(.dload_n 0, 1, 0, 0, .null, []), (.invokestatic 122, 3, 3, 1, .null, [0]), (.ifCond .ne 8, 3, 1, 0, .null, []), (.dload_n 0, 1, 0, 0, .null, []), (.invokestatic 134, 3, 904, 0, .null, []), (.lreturn, 1, 0, 0, .null, [])]
abbrev k_J_doubleToLongBits_1 : List xE := [(.ldc2_w 137, 3, 0, 0, .long (lN 9221120237041090560), []), (.lreturn, 1, 0, 0, .null, [])]
def b_J_doubleToLongBits : List xB := [(0, k_J_doubleToLongBits_0, 2), (12, k_J_doubleToLongBits_1, 2)]
def m_J_doubleToLongBits : xM := (yJxe99ae_doubleToLongBits_ccdee, cJxe99ae_doubleToLongBits_ccdee, 2, (some .long), 0, 0, false, b_J_doubleToLongBits)
abbrev N_J_doubleToLongBits : Nat := 4
abbrev k_J_isNaNF_0 : List xE := [(.fload_n 0, 1, 0, 0, .null, []), (.fload_n 0, 1, 0, 0, .null, []), (.fcmp .l, 1, 0, 0, .null, []), (.ifCond .eq 7, 3, 1, 0, .null, []), (.iconst 1, 1, 0, 0, .int (nI 1), []), (.goto 4, 3, 2, 0, .null, [])]
abbrev k_J_isNaNF_1 : List xE := [(.iconst 0, 1, 0, 0, .int (nI 0), [])]
abbrev k_J_isNaNF_2 : List xE := [(.ireturn, 1, 0, 0, .null, [])]
def b_J_isNaNF : List xB := [(0, k_J_isNaNF_0, 3), (10, k_J_isNaNF_1, 2), (11, k_J_isNaNF_2, 3)]
def m_J_isNaNF : xM := (yJxf58ca_isNaN_12338, cJxf58ca_isNaN_12338, 1, (some .boolean), 0, 0, false, b_J_isNaNF)
abbrev N_J_isNaNF : Nat := 5
abbrev k_J_floatToIntBits_0 : List xE := [(.fload_n 0, 1, 0, 0, .null, []), (.invokestatic 59, 3, 5, 1, .null, [0]), (.ifCond .ne 8, 3, 1, 0, .null, []), (.fload_n 0, 1, 0, 0, .null, []), (.invokestatic 74, 3, 905, 0, .null, []), (.ireturn, 1, 0, 0, .null, [])]
abbrev k_J_floatToIntBits_1 : List xE := [(.ldc 77, 2, 0, 0, .int (nI 2143289344), []), (.ireturn, 1, 0, 0, .null, [])]
def b_J_floatToIntBits : List xB := [(0, k_J_floatToIntBits_0, 2), (12, k_J_floatToIntBits_1, 2)]
def m_J_floatToIntBits : xM := (yJxf58ca_floatToIntBits_5c35a, cJxf58ca_floatToIntBits_5c35a, 1, (some .int), 0, 0, false, b_J_floatToIntBits)
abbrev N_J_floatToIntBits : Nat := 6
abbrev k_G_next_0 : List xE := [(.iload_n 0, 1, 0, 0, .null, []), (.tableswitch 103 0 4 #[35, 40, 52, 67, 88], 35, 14, 0, .null, [1, 2, 5, 8, 11])]
abbrev k_G_next_1 : List xE := [(.iload_n 1, 1, 0, 0, .null, []), (.invokestatic 9, 3, 8, 1, .null, [0]), (.ireturn, 1, 0, 0, .null, [])]
abbrev k_G_next_2 : List xE := [(.iload_n 1, 1, 0, 0, .null, []), (.bipush 59, 2, 0, 0, .int (nI 59), []), (.if_icmp .ne 7, 3, 3, 0, .null, []), (.iconst 0, 1, 0, 0, .int (nI 0), []), (.goto 4, 3, 4, 0, .null, [])]
abbrev k_G_next_3 : List xE := [(.iconst (-1), 1, 0, 0, .int (-1), [])]
abbrev k_G_next_4 : List xE := [(.ireturn, 1, 0, 0, .null, [])]
abbrev k_G_next_5 : List xE := [(.iload_n 1, 1, 0, 0, .null, []), (.iconst 0, 1, 0, 0, .int (nI 0), []), (.iconst 4, 1, 0, 0, .int (nI 4), []), (.invokestatic 15, 3, 9, 3, .null, [0]), (.ifCond .eq 7, 3, 6, 0, .null, []), (.iconst 4, 1, 0, 0, .int (nI 4), []), (.goto 4, 3, 7, 0, .null, [])]
abbrev k_G_next_6 : List xE := [(.iconst (-1), 1, 0, 0, .int (-1), [])]
abbrev k_G_next_7 : List xE := [(.ireturn, 1, 0, 0, .null, [])]
abbrev k_G_next_8 : List xE := [(.iload_n 1, 1, 0, 0, .null, []), (.iconst 0, 1, 0, 0, .int (nI 0), []), (.iconst 4, 1, 0, 0, .int (nI 4), []), (.invokestatic 15, 3, 9, 3, .null, [0]), (.ifCond .eq 13, 3, 9, 0, .null, []), (.bipush 10, 2, 0, 0, .int (nI 10), []), (.iload_n 1, 1, 0, 0, .null, []), (.bipush 48, 2, 0, 0, .int (nI 48), []), (.isub, 1, 0, 0, .null, []), (.iadd, 1, 0, 0, .null, []), (.goto 4, 3, 10, 0, .null, [])]
abbrev k_G_next_9 : List xE := [(.iconst (-1), 1, 0, 0, .int (-1), [])]
abbrev k_G_next_10 : List xE := [(.ireturn, 1, 0, 0, .null, [])]
abbrev k_G_next_11 : List xE := [(.iload_n 1, 1, 0, 0, .null, []), (.iconst 1, 1, 0, 0, .int (nI 1), []), (.iconst 3, 1, 0, 0, .int (nI 3), []), (.invokestatic 15, 3, 9, 3, .null, [0]), (.ifCond .eq 7, 3, 12, 0, .null, []), (.iconst 1, 1, 0, 0, .int (nI 1), []), (.goto 4, 3, 13, 0, .null, [])]
abbrev k_G_next_12 : List xE := [(.iconst (-1), 1, 0, 0, .int (-1), [])]
abbrev k_G_next_13 : List xE := [(.ireturn, 1, 0, 0, .null, [])]
abbrev k_G_next_14 : List xE := [(.iload_n 0, 1, 0, 0, .null, []), (.bipush 10, 2, 0, 0, .int (nI 10), []), (.if_icmp .ge 5, 3, 15, 0, .null, []), (.iconst (-1), 1, 0, 0, .int (-1), []), (.ireturn, 1, 0, 0, .null, [])]
abbrev k_G_next_15 : List xE := [(.iload_n 0, 1, 0, 0, .null, []), (.bipush 10, 2, 0, 0, .int (nI 10), []), (.isub, 1, 0, 0, .null, []), (.istore_n 2, 1, 0, 0, .null, []), (.iload_n 1, 1, 0, 0, .null, []), (.iconst 0, 1, 0, 0, .int (nI 0), []), (.iconst 4, 1, 0, 0, .int (nI 4), []), (.iload_n 2, 1, 0, 0, .null, []), (.isub, 1, 0, 0, .null, []), (.invokestatic 15, 3, 9, 3, .null, [0]), (.ifCond .eq 7, 3, 16, 0, .null, []), (.iconst 1, 1, 0, 0, .int (nI 1), []), (.goto 4, 3, 17, 0, .null, [])]
abbrev k_G_next_16 : List xE := [(.iconst (-1), 1, 0, 0, .int (-1), [])]
abbrev k_G_next_17 : List xE := [(.ireturn, 1, 0, 0, .null, [])]
def b_G_next : List xB := [(0, k_G_next_0, 18), (36, k_G_next_1, 18), (41, k_G_next_2, 18), (51, k_G_next_3, 4), (52, k_G_next_4, 18), (53, k_G_next_5, 18), (66, k_G_next_6, 7), (67, k_G_next_7, 18), (68, k_G_next_8, 18), (87, k_G_next_9, 10), (88, k_G_next_10, 18), (89, k_G_next_11, 18), (102, k_G_next_12, 13), (103, k_G_next_13, 18), (104, k_G_next_14, 18), (112, k_G_next_15, 18), (132, k_G_next_16, 17), (133, k_G_next_17, 18)]
def m_G_next : xM := (yX0_next, cX0_next, 3, (some .int), 0, 0, false, b_G_next)
abbrev N_G_next : Nat := 7
abbrev k_G_afterLetter_0 : List xE := [(.iload_n 0, 1, 0, 0, .null, []), (.tableswitch 65 107 116 #[57, 65, 61, 65, 65, 59, 65, 63, 65, 55], 55, 6, 107, .null, [2, 6, 4, 6, 6, 3, 6, 5, 6, 1])]
abbrev k_G_afterLetter_1 : List xE := [(.iconst 2, 1, 0, 0, .int (nI 2), []), (.ireturn, 1, 0, 0, .null, [])]
abbrev k_G_afterLetter_2 : List xE := [(.iconst 3, 1, 0, 0, .int (nI 3), []), (.ireturn, 1, 0, 0, .null, [])]
abbrev k_G_afterLetter_3 : List xE := [(.iconst 3, 1, 0, 0, .int (nI 3), []), (.ireturn, 1, 0, 0, .null, [])]
abbrev k_G_afterLetter_4 : List xE := [(.iconst 1, 1, 0, 0, .int (nI 1), []), (.ireturn, 1, 0, 0, .null, [])]
abbrev k_G_afterLetter_5 : List xE := [(.iconst 1, 1, 0, 0, .int (nI 1), []), (.ireturn, 1, 0, 0, .null, [])]
abbrev k_G_afterLetter_6 : List xE := [(.iconst (-1), 1, 0, 0, .int (-1), []), (.ireturn, 1, 0, 0, .null, [])]
def b_G_afterLetter : List xB := [(0, k_G_afterLetter_0, 7), (56, k_G_afterLetter_1, 7), (58, k_G_afterLetter_2, 7), (60, k_G_afterLetter_3, 7), (62, k_G_afterLetter_4, 7), (64, k_G_afterLetter_5, 7), (66, k_G_afterLetter_6, 7)]
def m_G_afterLetter : xM := (yX0_afterLetter, cX0_afterLetter, 1, (some .int), 0, 0, false, b_G_afterLetter)
abbrev N_G_afterLetter : Nat := 8
abbrev k_G_isDigit_0 : List xE := [(.iload_n 0, 1, 0, 0, .null, []), (.bipush 48, 2, 0, 0, .int (nI 48), []), (.iload_n 1, 1, 0, 0, .null, []), (.iadd, 1, 0, 0, .null, []), (.if_icmp .lt 15, 3, 1, 0, .null, []), (.iload_n 0, 1, 0, 0, .null, []), (.bipush 48, 2, 0, 0, .int (nI 48), []), (.iload_n 2, 1, 0, 0, .null, []), (.iadd, 1, 0, 0, .null, []), (.if_icmp .gt 7, 3, 1, 0, .null, []), (.iconst 1, 1, 0, 0, .int (nI 1), []), (.goto 4, 3, 2, 0, .null, [])]
abbrev k_G_isDigit_1 : List xE := [(.iconst 0, 1, 0, 0, .int (nI 0), [])]
abbrev k_G_isDigit_2 : List xE := [(.ireturn, 1, 0, 0, .null, [])]
def b_G_isDigit : List xB := [(0, k_G_isDigit_0, 3), (20, k_G_isDigit_1, 2), (21, k_G_isDigit_2, 3)]
def m_G_isDigit : xM := (yX0_isDigit, cX0_isDigit, 3, (some .boolean), 0, 0, false, b_G_isDigit)
abbrev N_G_isDigit : Nat := 9
abbrev k_P_bit_0 : List xE := [(.iconst 1, 1, 0, 0, .int (nI 1), []), (.getstatic 9, 3, 0, 0, .null, []), (.iload_n 0, 1, 0, 0, .null, []), (.iaload, 1, 0, 0, .null, []), (.iload_n 1, 1, 0, 0, .null, []), (.iadd, 1, 0, 0, .null, []), (.ishl, 1, 0, 0, .null, []), (.ireturn, 1, 0, 0, .null, [])]
def b_P_bit : List xB := [(0, k_P_bit_0, 1)]
def m_P_bit : xM := (yX1_bit, cX1_bit, 2, (some .int), 0, 0, false, b_P_bit)
abbrev N_P_bit : Nat := 10
abbrev k_P_bitsOf_0 : List xE := [(.iload_n 0, 1, 0, 0, .null, []), (.getstatic 9, 3, 0, 0, .null, []), (.iload_n 1, 1, 0, 0, .null, []), (.iaload, 1, 0, 0, .null, []), (.ishr, 1, 0, 0, .null, []), (.iconst 1, 1, 0, 0, .int (nI 1), []), (.iconst 5, 1, 0, 0, .int (nI 5), []), (.iload_n 1, 1, 0, 0, .null, []), (.isub, 1, 0, 0, .null, []), (.ishl, 1, 0, 0, .null, []), (.iconst 1, 1, 0, 0, .int (nI 1), []), (.isub, 1, 0, 0, .null, []), (.iand, 1, 0, 0, .null, []), (.ireturn, 1, 0, 0, .null, [])]
def b_P_bitsOf : List xB := [(0, k_P_bitsOf_0, 1)]
def m_P_bitsOf : xM := (yX1_bitsOf, cX1_bitsOf, 2, (some .int), 0, 0, false, b_P_bitsOf)
abbrev N_P_bitsOf : Nat := 11
abbrev k_P_hasBottle_0 : List xE := [(.iload_n 0, 1, 0, 0, .null, []), (.iload_n 1, 1, 0, 0, .null, []), (.iload_n 2, 1, 0, 0, .null, []), (.invokestatic 15, 3, 10, 2, .null, [0]), (.iand, 1, 0, 0, .null, []), (.ifCond .eq 7, 3, 1, 0, .null, []), (.iconst 1, 1, 0, 0, .int (nI 1), []), (.goto 4, 3, 2, 0, .null, [])]
abbrev k_P_hasBottle_1 : List xE := [(.iconst 0, 1, 0, 0, .int (nI 0), [])]
abbrev k_P_hasBottle_2 : List xE := [(.ireturn, 1, 0, 0, .null, [])]
def b_P_hasBottle : List xB := [(0, k_P_hasBottle_0, 3), (14, k_P_hasBottle_1, 2), (15, k_P_hasBottle_2, 3)]
def m_P_hasBottle : xM := (yX1_hasBottle, cX1_hasBottle, 3, (some .boolean), 0, 0, false, b_P_hasBottle)
abbrev N_P_hasBottle : Nat := 12
abbrev k_P_hasRoom_0 : List xE := [(.iload_n 0, 1, 0, 0, .null, []), (.iload_n 1, 1, 0, 0, .null, []), (.iload_n 2, 1, 0, 0, .null, []), (.invokestatic 19, 3, 12, 3, .null, [0]), (.ifCond .eq 5, 3, 1, 0, .null, []), (.iconst 0, 1, 0, 0, .int (nI 0), []), (.ireturn, 1, 0, 0, .null, [])]
abbrev k_P_hasRoom_1 : List xE := [(.iload_n 1, 1, 0, 0, .null, []), (.ifCond .eq 27, 3, 2, 0, .null, []), (.iload_n 0, 1, 0, 0, .null, []), (.iload_n 1, 1, 0, 0, .null, []), (.iconst 1, 1, 0, 0, .int (nI 1), []), (.isub, 1, 0, 0, .null, []), (.iload_n 2, 1, 0, 0, .null, []), (.invokestatic 19, 3, 12, 3, .null, [0]), (.ifCond .eq 20, 3, 3, 0, .null, []), (.iload_n 0, 1, 0, 0, .null, []), (.iload_n 1, 1, 0, 0, .null, []), (.iconst 1, 1, 0, 0, .int (nI 1), []), (.isub, 1, 0, 0, .null, []), (.iload_n 2, 1, 0, 0, .null, []), (.iconst 1, 1, 0, 0, .int (nI 1), []), (.iadd, 1, 0, 0, .null, []), (.invokestatic 19, 3, 12, 3, .null, [0]), (.ifCond .eq 7, 3, 3, 0, .null, [])]
abbrev k_P_hasRoom_2 : List xE := [(.iconst 1, 1, 0, 0, .int (nI 1), []), (.goto 4, 3, 4, 0, .null, [])]
abbrev k_P_hasRoom_3 : List xE := [(.iconst 0, 1, 0, 0, .int (nI 0), [])]
abbrev k_P_hasRoom_4 : List xE := [(.ireturn, 1, 0, 0, .null, [])]
def b_P_hasRoom : List xB := [(0, k_P_hasRoom_0, 5), (11, k_P_hasRoom_1, 2), (39, k_P_hasRoom_2, 5), (43, k_P_hasRoom_3, 4), (44, k_P_hasRoom_4, 5)]
def m_P_hasRoom : xM := (yX1_hasRoom, cX1_hasRoom, 3, (some .boolean), 0, 0, false, b_P_hasRoom)
abbrev N_P_hasRoom : Nat := 13
abbrev k_P_settled_0 : List xE := [(.iload_n 0, 1, 0, 0, .null, []), (.bipush 31, 2, 0, 0, .int (nI 31), []), (.iand, 1, 0, 0, .null, []), (.istore_n 1, 1, 0, 0, .null, []), (.iload_n 1, 1, 0, 0, .null, []), (.istore_n 2, 1, 0, 0, .null, []), (.iconst 1, 1, 0, 0, .int (nI 1), []), (.istore_n 3, 1, 0, 0, .null, [])]
abbrev k_P_settled_1 : List xE := [(.iload_n 3, 1, 0, 0, .null, []), (.iconst 5, 1, 0, 0, .int (nI 5), []), (.if_icmp .ge 33, 3, 2, 0, .null, []), (.iload_n 0, 1, 0, 0, .null, []), (.getstatic 9, 3, 0, 0, .null, []), (.iload_n 3, 1, 0, 0, .null, []), (.iaload, 1, 0, 0, .null, []), (.ishr, 1, 0, 0, .null, []), (.iload_n 2, 1, 0, 0, .null, []), (.iand, 1, 0, 0, .null, []), (.iload_n 2, 1, 0, 0, .null, []), (.iconst 1, 1, 0, 0, .int (nI 1), []), (.ishr, 1, 0, 0, .null, []), (.iand, 1, 0, 0, .null, []), (.istore_n 2, 1, 0, 0, .null, []), (.iload_n 1, 1, 0, 0, .null, []), (.iload_n 2, 1, 0, 0, .null, []), (.getstatic 9, 3, 0, 0, .null, []), (.iload_n 3, 1, 0, 0, .null, []), (.iaload, 1, 0, 0, .null, []), (.ishl, 1, 0, 0, .null, []), (.ior, 1, 0, 0, .null, []), (.istore_n 1, 1, 0, 0, .null, []), (.iinc 3 1, 3, 0, 0, .int (nI 1), []), (.goto (-32), 3, 1, 0, .null, [])]
abbrev k_P_settled_2 : List xE := [(.iload_n 1, 1, 0, 0, .null, []), (.ireturn, 1, 0, 0, .null, [])]
def b_P_settled : List xB := [(0, k_P_settled_0, 1), (9, k_P_settled_1, 3), (44, k_P_settled_2, 3)]
def m_P_settled : xM := (yX1_settled, cX1_settled, 4, (some .int), 0, 0, false, b_P_settled)
abbrev N_P_settled : Nat := 14
abbrev k_P_mirrored_0 : List xE := [(.iconst 0, 1, 0, 0, .int (nI 0), []), (.istore_n 1, 1, 0, 0, .null, []), (.iconst 0, 1, 0, 0, .int (nI 0), []), (.istore_n 2, 1, 0, 0, .null, [])]
abbrev k_P_mirrored_1 : List xE := [(.iload_n 2, 1, 0, 0, .null, []), (.iconst 5, 1, 0, 0, .int (nI 5), []), (.if_icmp .ge 45, 3, 5, 0, .null, []), (.iconst 0, 1, 0, 0, .int (nI 0), []), (.istore_n 3, 1, 0, 0, .null, [])]
abbrev k_P_mirrored_2 : List xE := [(.iload_n 3, 1, 0, 0, .null, []), (.iconst 5, 1, 0, 0, .int (nI 5), []), (.iload_n 2, 1, 0, 0, .null, []), (.isub, 1, 0, 0, .null, []), (.if_icmp .ge 30, 3, 4, 0, .null, []), (.iload_n 0, 1, 0, 0, .null, []), (.iload_n 2, 1, 0, 0, .null, []), (.iload_n 3, 1, 0, 0, .null, []), (.invokestatic 19, 3, 12, 3, .null, [0]), (.ifCond .eq 15, 3, 3, 0, .null, []), (.iload_n 1, 1, 0, 0, .null, []), (.iload_n 2, 1, 0, 0, .null, []), (.iconst 4, 1, 0, 0, .int (nI 4), []), (.iload_n 2, 1, 0, 0, .null, []), (.isub, 1, 0, 0, .null, []), (.iload_n 3, 1, 0, 0, .null, []), (.isub, 1, 0, 0, .null, []), (.invokestatic 15, 3, 10, 2, .null, [0]), (.ior, 1, 0, 0, .null, []), (.istore_n 1, 1, 0, 0, .null, [])]
abbrev k_P_mirrored_3 : List xE := [(.iinc 3 1, 3, 0, 0, .int (nI 1), []), (.goto (-31), 3, 2, 0, .null, [])]
abbrev k_P_mirrored_4 : List xE := [(.iinc 2 1, 3, 0, 0, .int (nI 1), []), (.goto (-44), 3, 1, 0, .null, [])]
abbrev k_P_mirrored_5 : List xE := [(.iload_n 1, 1, 0, 0, .null, []), (.ireturn, 1, 0, 0, .null, [])]
def b_P_mirrored : List xB := [(0, k_P_mirrored_0, 1), (4, k_P_mirrored_1, 2), (11, k_P_mirrored_2, 3), (39, k_P_mirrored_3, 6), (45, k_P_mirrored_4, 6), (51, k_P_mirrored_5, 6)]
def m_P_mirrored : xM := (yX1_mirrored, cX1_mirrored, 4, (some .int), 0, 0, false, b_P_mirrored)
abbrev N_P_mirrored : Nat := 15
abbrev k_P_robbed_0 : List xE := [(.iload_n 0, 1, 0, 0, .null, []), (.istore 4, 2, 0, 0, .null, []), (.iload_n 3, 1, 0, 0, .null, []), (.istore 5, 2, 0, 0, .null, []), (.iconst 0, 1, 0, 0, .int (nI 0), []), (.istore 6, 2, 0, 0, .null, [])]
abbrev k_P_robbed_1 : List xE := [(.iload 6, 2, 0, 0, .null, []), (.iconst 5, 1, 0, 0, .int (nI 5), []), (.iload_n 2, 1, 0, 0, .null, []), (.isub, 1, 0, 0, .null, []), (.if_icmp .ge 63, 3, 5, 0, .null, []), (.iload 5, 2, 0, 0, .null, []), (.ifCond .le 58, 3, 5, 0, .null, []), (.iload_n 1, 1, 0, 0, .null, []), (.ifCond .ne 8, 3, 2, 0, .null, []), (.iload 6, 2, 0, 0, .null, []), (.goto 9, 3, 3, 0, .null, [])]
abbrev k_P_robbed_2 : List xE := [(.iconst 4, 1, 0, 0, .int (nI 4), []), (.iload_n 2, 1, 0, 0, .null, []), (.isub, 1, 0, 0, .null, []), (.iload 6, 2, 0, 0, .null, []), (.isub, 1, 0, 0, .null, [])]
abbrev k_P_robbed_3 : List xE := [(.istore 7, 2, 0, 0, .null, []), (.iconst 1, 1, 0, 0, .int (nI 1), []), (.getstatic 9, 3, 0, 0, .null, []), (.iload_n 2, 1, 0, 0, .null, []), (.iaload, 1, 0, 0, .null, []), (.iload 7, 2, 0, 0, .null, []), (.iadd, 1, 0, 0, .null, []), (.ishl, 1, 0, 0, .null, []), (.istore 8, 2, 0, 0, .null, []), (.iload 4, 2, 0, 0, .null, []), (.iload 8, 2, 0, 0, .null, []), (.iand, 1, 0, 0, .null, []), (.ifCond .eq 15, 3, 4, 0, .null, []), (.iload 4, 2, 0, 0, .null, []), (.iload 8, 2, 0, 0, .null, []), (.iconst (-1), 1, 0, 0, .int (-1), []), (.ixor, 1, 0, 0, .null, []), (.iand, 1, 0, 0, .null, []), (.istore 4, 2, 0, 0, .null, []), (.iinc 5 (-1), 3, 0, 0, .int (-1), [])]
abbrev k_P_robbed_4 : List xE := [(.iinc 6 1, 3, 0, 0, .int (nI 1), []), (.goto (-65), 3, 1, 0, .null, [])]
abbrev k_P_robbed_5 : List xE := [(.iload 5, 2, 0, 0, .null, []), (.ifCond .ne 8, 3, 6, 0, .null, []), (.iload 4, 2, 0, 0, .null, []), (.goto 4, 3, 7, 0, .null, [])]
abbrev k_P_robbed_6 : List xE := [(.iconst (-1), 1, 0, 0, .int (-1), [])]
abbrev k_P_robbed_7 : List xE := [(.ireturn, 1, 0, 0, .null, [])]
def b_P_robbed : List xB := [(0, k_P_robbed_0, 1), (9, k_P_robbed_1, 8), (31, k_P_robbed_2, 3), (37, k_P_robbed_3, 4), (71, k_P_robbed_4, 8), (77, k_P_robbed_5, 8), (87, k_P_robbed_6, 7), (88, k_P_robbed_7, 8)]
def m_P_robbed : xM := (yX1_robbed, cX1_robbed, 9, (some .int), 0, 0, false, b_P_robbed)
abbrev N_P_robbed : Nat := 16
abbrev k_P_fallenBy_0 : List xE := [(.iload_n 0, 1, 0, 0, .null, []), (.iload_n 1, 1, 0, 0, .null, []), (.iload_n 2, 1, 0, 0, .null, []), (.iload_n 3, 1, 0, 0, .null, []), (.invokestatic 23, 3, 16, 4, .null, [0]), (.istore 4, 2, 0, 0, .null, []), (.iload 4, 2, 0, 0, .null, []), (.iconst (-1), 1, 0, 0, .int (-1), []), (.if_icmp .ne 7, 3, 1, 0, .null, []), (.iconst (-1), 1, 0, 0, .int (-1), []), (.goto 17, 3, 2, 0, .null, [])]
abbrev k_P_fallenBy_1 : List xE := [(.iload 4, 2, 0, 0, .null, []), (.invokestatic 27, 3, 0, 1, .null, [0]), (.iload 4, 2, 0, 0, .null, []), (.invokestatic 33, 3, 14, 1, .null, [0]), (.invokestatic 27, 3, 0, 1, .null, [0]), (.isub, 1, 0, 0, .null, [])]
abbrev k_P_fallenBy_2 : List xE := [(.ireturn, 1, 0, 0, .null, [])]
def b_P_fallenBy : List xB := [(0, k_P_fallenBy_0, 3), (19, k_P_fallenBy_1, 2), (33, k_P_fallenBy_2, 3)]
def m_P_fallenBy : xM := (yX1_fallenBy, cX1_fallenBy, 5, (some .int), 0, 0, false, b_P_fallenBy)
abbrev N_P_fallenBy : Nat := 17
abbrev k_P_allShapes_0 : List xE := [(.sipush 132, 3, 0, 0, .int (nI 132), []), (.newarray .int, 2, 0, 0, .null, []), (.astore_n 0, 1, 0, 0, .null, []), (.aload_n 0, 1, 0, 0, .null, []), (.iconst 0, 1, 0, 0, .int (nI 0), []), (.iconst 4, 1, 0, 0, .int (nI 4), []), (.iconst 0, 1, 0, 0, .int (nI 0), []), (.invokestatic 36, 3, 19, 4, .null, [0]), (.pop, 1, 0, 0, .null, []), (.aload_n 0, 1, 0, 0, .null, []), (.areturn, 1, 0, 0, .null, [])]
def b_P_allShapes : List xB := [(0, k_P_allShapes_0, 1)]
def m_P_allShapes : xM := (yX1_allShapes, cX1_allShapes, 1, (some (.array .int)), 1, 132, true, b_P_allShapes)
abbrev N_P_allShapes : Nat := 18
abbrev k_P_addShapes_0 : List xE := [(.iload_n 2, 1, 0, 0, .null, []), (.ifCond .ge 17, 3, 2, 0, .null, []), (.iload_n 1, 1, 0, 0, .null, []), (.aload_n 0, 1, 0, 0, .null, []), (.arraylength, 1, 0, 0, .null, []), (.if_icmp .ge 7, 3, 1, 0, .null, []), (.aload_n 0, 1, 0, 0, .null, []), (.iload_n 1, 1, 0, 0, .null, []), (.iload_n 3, 1, 0, 0, .null, []), (.iastore, 1, 0, 0, .null, [])]
abbrev k_P_addShapes_1 : List xE := [(.iload_n 1, 1, 0, 0, .null, []), (.iconst 1, 1, 0, 0, .int (nI 1), []), (.iadd, 1, 0, 0, .null, []), (.ireturn, 1, 0, 0, .null, [])]
abbrev k_P_addShapes_2 : List xE := [(.iload_n 2, 1, 0, 0, .null, []), (.iconst 4, 1, 0, 0, .int (nI 4), []), (.if_icmp .ne 7, 3, 3, 0, .null, []), (.iconst 0, 1, 0, 0, .int (nI 0), []), (.goto 10, 3, 4, 0, .null, [])]
abbrev k_P_addShapes_3 : List xE := [(.iload_n 3, 1, 0, 0, .null, []), (.iload_n 2, 1, 0, 0, .null, []), (.iconst 1, 1, 0, 0, .int (nI 1), []), (.iadd, 1, 0, 0, .null, []), (.invokestatic 40, 3, 11, 2, .null, [0])]
abbrev k_P_addShapes_4 : List xE := [(.istore 4, 2, 0, 0, .null, []), (.iload 4, 2, 0, 0, .null, []), (.iload 4, 2, 0, 0, .null, []), (.iconst 1, 1, 0, 0, .int (nI 1), []), (.ishl, 1, 0, 0, .null, []), (.ior, 1, 0, 0, .null, []), (.istore 5, 2, 0, 0, .null, []), (.iload_n 1, 1, 0, 0, .null, []), (.istore 6, 2, 0, 0, .null, []), (.iconst 0, 1, 0, 0, .int (nI 0), []), (.istore 7, 2, 0, 0, .null, [])]
abbrev k_P_addShapes_5 : List xE := [(.iload 7, 2, 0, 0, .null, []), (.iconst 1, 1, 0, 0, .int (nI 1), []), (.iconst 5, 1, 0, 0, .int (nI 5), []), (.iload_n 2, 1, 0, 0, .null, []), (.isub, 1, 0, 0, .null, []), (.ishl, 1, 0, 0, .null, []), (.if_icmp .ge 40, 3, 7, 0, .null, []), (.iload 7, 2, 0, 0, .null, []), (.iload 5, 2, 0, 0, .null, []), (.iand, 1, 0, 0, .null, []), (.iload 5, 2, 0, 0, .null, []), (.if_icmp .ne 24, 3, 6, 0, .null, []), (.aload_n 0, 1, 0, 0, .null, []), (.iload 6, 2, 0, 0, .null, []), (.iload_n 2, 1, 0, 0, .null, []), (.iconst 1, 1, 0, 0, .int (nI 1), []), (.isub, 1, 0, 0, .null, []), (.iload_n 3, 1, 0, 0, .null, []), (.iload 7, 2, 0, 0, .null, []), (.getstatic 9, 3, 0, 0, .null, []), (.iload_n 2, 1, 0, 0, .null, []), (.iaload, 1, 0, 0, .null, []), (.ishl, 1, 0, 0, .null, []), (.ior, 1, 0, 0, .null, []), (.invokestatic 36, 3, 19, 4, .null, [0]), (.istore 6, 2, 0, 0, .null, [])]
abbrev k_P_addShapes_6 : List xE := [(.iinc 7 1, 3, 0, 0, .int (nI 1), []), (.goto (-44), 3, 5, 0, .null, [])]
abbrev k_P_addShapes_7 : List xE := [(.iload 6, 2, 0, 0, .null, []), (.ireturn, 1, 0, 0, .null, [])]
def b_P_addShapes : List xB := [(0, k_P_addShapes_0, 1), (14, k_P_addShapes_1, 8), (18, k_P_addShapes_2, 8), (27, k_P_addShapes_3, 4), (34, k_P_addShapes_4, 5), (51, k_P_addShapes_5, 6), (92, k_P_addShapes_6, 8), (98, k_P_addShapes_7, 8)]
def m_P_addShapes : xM := (yX1_addShapes, cX1_addShapes, 8, (some .int), 0, 0, false, b_P_addShapes)
abbrev N_P_addShapes : Nat := 19
abbrev k_L_init_0 : List xE := [(.aload_n 0, 1, 0, 0, .null, []), (.invokespecial 3, 3, 901, 0, .null, []), (.aload_n 0, 1, 0, 0, .null, []), (.aload_n 1, 1, 0, 0, .null, []), (.putfield 9, 3, 0, 0, .null, [2]), (.aload_n 0, 1, 0, 0, .null, []), (.iload_n 2, 1, 0, 0, .null, []), (.putfield 15, 3, 0, 1, .null, [0]), (.aload_n 0, 1, 0, 0, .null, []), (.iload_n 3, 1, 0, 0, .null, []), (.putfield 19, 3, 0, 2, .null, [1]), (.aload_n 0, 1, 0, 0, .null, []), (.iload 4, 2, 0, 0, .null, []), (.putfield 23, 3, 0, 3, .null, [1]), (.aload_n 0, 1, 0, 0, .null, []), (.iconst 2, 1, 0, 0, .int (nI 2), []), (.aload_n 1, 1, 0, 0, .null, []), (.arraylength, 1, 0, 0, .null, []), (.imul, 1, 0, 0, .null, []), (.newarray .boolean, 2, 0, 0, .null, []), (.putfield 26, 3, 0, 4, .null, [2]), (.aload_n 0, 1, 0, 0, .null, []), (.iconst 2, 1, 0, 0, .int (nI 2), []), (.aload_n 1, 1, 0, 0, .null, []), (.arraylength, 1, 0, 0, .null, []), (.imul, 1, 0, 0, .null, []), (.newarray .int, 2, 0, 0, .null, []), (.putfield 30, 3, 0, 5, .null, [2]), (.aload_n 0, 1, 0, 0, .null, []), (.iconst 2, 1, 0, 0, .int (nI 2), []), (.aload_n 1, 1, 0, 0, .null, []), (.arraylength, 1, 0, 0, .null, []), (.imul, 1, 0, 0, .null, []), (.newarray .int, 2, 0, 0, .null, []), (.putfield 33, 3, 0, 6, .null, [2]), (.iconst 0, 1, 0, 0, .int (nI 0), []), (.istore 5, 2, 0, 0, .null, [])]
abbrev k_L_init_1 : List xE := [(.iload 5, 2, 0, 0, .null, []), (.aload_n 1, 1, 0, 0, .null, []), (.arraylength, 1, 0, 0, .null, []), (.if_icmp .ge 23, 3, 2, 0, .null, []), (.aload_n 0, 1, 0, 0, .null, []), (.iconst 0, 1, 0, 0, .int (nI 0), []), (.iload 5, 2, 0, 0, .null, []), (.invokevirtual 36, 3, 21, 3, .null, [0]), (.aload_n 0, 1, 0, 0, .null, []), (.iconst 1, 1, 0, 0, .int (nI 1), []), (.iload 5, 2, 0, 0, .null, []), (.invokevirtual 36, 3, 21, 3, .null, [0]), (.iinc 5 1, 3, 0, 0, .int (nI 1), []), (.goto (-24), 3, 1, 0, .null, [])]
abbrev k_L_init_2 : List xE := [(.return_, 1, 0, 0, .null, [])]
def b_L_init : List xB := [(0, k_L_init_0, 1), (58, k_L_init_1, 3), (85, k_L_init_2, 3)]
def m_L_init : xM := (yX2_init, cX2_init, 6, none, 3, 792, true, b_L_init)
abbrev N_L_init : Nat := 20
abbrev k_L_playOut_0 : List xE := [(.iconst 1, 1, 0, 0, .int (nI 1), []), (.istore_n 3, 1, 0, 0, .null, []), (.iconst 0, 1, 0, 0, .int (nI 0), []), (.istore 4, 2, 0, 0, .null, []), (.iconst 0, 1, 0, 0, .int (nI 0), []), (.istore 5, 2, 0, 0, .null, []), (.iconst 0, 1, 0, 0, .int (nI 0), []), (.istore 6, 2, 0, 0, .null, []), (.iconst 0, 1, 0, 0, .int (nI 0), []), (.istore 7, 2, 0, 0, .null, [])]
abbrev k_L_playOut_1 : List xE := [(.iload 7, 2, 0, 0, .null, []), (.iconst 5, 1, 0, 0, .int (nI 5), []), (.if_icmp .ge 122, 3, 10, 0, .null, []), (.iconst 1, 1, 0, 0, .int (nI 1), []), (.istore 8, 2, 0, 0, .null, [])]
abbrev k_L_playOut_2 : List xE := [(.iload 8, 2, 0, 0, .null, []), (.aload_n 0, 1, 0, 0, .null, []), (.getfield 15, 3, 0, 1, .null, []), (.if_icmp .gt 104, 3, 9, 0, .null, []), (.aload_n 0, 1, 0, 0, .null, []), (.iload_n 1, 1, 0, 0, .null, []), (.aload_n 0, 1, 0, 0, .null, []), (.getfield 9, 3, 0, 0, .null, []), (.iload_n 2, 1, 0, 0, .null, []), (.iaload, 1, 0, 0, .null, []), (.iload 7, 2, 0, 0, .null, []), (.iload 8, 2, 0, 0, .null, []), (.invokevirtual 40, 3, 22, 5, .null, [0]), (.istore 9, 2, 0, 0, .null, []), (.iload 9, 2, 0, 0, .null, []), (.iconst (-1), 1, 0, 0, .int (-1), []), (.if_icmp .eq 75, 3, 8, 0, .null, []), (.iload 4, 2, 0, 0, .null, []), (.ifCond .ne 13, 3, 3, 0, .null, []), (.aload_n 0, 1, 0, 0, .null, []), (.getfield 26, 3, 0, 4, .null, []), (.iload 9, 2, 0, 0, .null, []), (.baload, 1, 0, 0, .null, []), (.ifCond .ne 7, 3, 4, 0, .null, [])]
abbrev k_L_playOut_3 : List xE := [(.iconst 1, 1, 0, 0, .int (nI 1), []), (.goto 4, 3, 5, 0, .null, [])]
abbrev k_L_playOut_4 : List xE := [(.iconst 0, 1, 0, 0, .int (nI 0), [])]
abbrev k_L_playOut_5 : List xE := [(.istore 4, 2, 0, 0, .null, []), (.iload 5, 2, 0, 0, .null, []), (.aload_n 0, 1, 0, 0, .null, []), (.getfield 30, 3, 0, 5, .null, []), (.iload 9, 2, 0, 0, .null, []), (.iaload, 1, 0, 0, .null, []), (.iconst 1, 1, 0, 0, .int (nI 1), []), (.iadd, 1, 0, 0, .null, []), (.invokestatic 44, 3, 1, 2, .null, [0]), (.istore 5, 2, 0, 0, .null, []), (.iload_n 3, 1, 0, 0, .null, []), (.ifCond .eq 15, 3, 6, 0, .null, []), (.aload_n 0, 1, 0, 0, .null, []), (.getfield 33, 3, 0, 6, .null, []), (.iload 9, 2, 0, 0, .null, []), (.iaload, 1, 0, 0, .null, []), (.iconst 1, 1, 0, 0, .int (nI 1), []), (.iadd, 1, 0, 0, .null, []), (.goto 17, 3, 7, 0, .null, [])]
abbrev k_L_playOut_6 : List xE := [(.iload 6, 2, 0, 0, .null, []), (.aload_n 0, 1, 0, 0, .null, []), (.getfield 33, 3, 0, 6, .null, []), (.iload 9, 2, 0, 0, .null, []), (.iaload, 1, 0, 0, .null, []), (.iconst 1, 1, 0, 0, .int (nI 1), []), (.iadd, 1, 0, 0, .null, []), (.invokestatic 50, 3, 2, 2, .null, [0])]
abbrev k_L_playOut_7 : List xE := [(.istore 6, 2, 0, 0, .null, []), (.iconst 0, 1, 0, 0, .int (nI 0), []), (.istore_n 3, 1, 0, 0, .null, [])]
abbrev k_L_playOut_8 : List xE := [(.iinc 8 1, 3, 0, 0, .int (nI 1), []), (.goto (-107), 3, 2, 0, .null, [])]
abbrev k_L_playOut_9 : List xE := [(.iinc 7 1, 3, 0, 0, .int (nI 1), []), (.goto (-122), 3, 1, 0, .null, [])]
abbrev k_L_playOut_10 : List xE := [(.iconst 2, 1, 0, 0, .int (nI 2), []), (.iload_n 2, 1, 0, 0, .null, []), (.imul, 1, 0, 0, .null, []), (.iload_n 1, 1, 0, 0, .null, []), (.iadd, 1, 0, 0, .null, []), (.istore 7, 2, 0, 0, .null, []), (.aload_n 0, 1, 0, 0, .null, []), (.getfield 26, 3, 0, 4, .null, []), (.iload 7, 2, 0, 0, .null, []), (.iload_n 3, 1, 0, 0, .null, []), (.ifCond .eq 10, 3, 11, 0, .null, []), (.aload_n 0, 1, 0, 0, .null, []), (.getfield 23, 3, 0, 3, .null, []), (.goto 5, 3, 12, 0, .null, [])]
abbrev k_L_playOut_11 : List xE := [(.iload 4, 2, 0, 0, .null, [])]
abbrev k_L_playOut_12 : List xE := [(.bastore, 1, 0, 0, .null, []), (.aload_n 0, 1, 0, 0, .null, []), (.getfield 30, 3, 0, 5, .null, []), (.iload 7, 2, 0, 0, .null, []), (.iload 5, 2, 0, 0, .null, []), (.iastore, 1, 0, 0, .null, []), (.aload_n 0, 1, 0, 0, .null, []), (.getfield 33, 3, 0, 6, .null, []), (.iload 7, 2, 0, 0, .null, []), (.iload 6, 2, 0, 0, .null, []), (.iastore, 1, 0, 0, .null, []), (.return_, 1, 0, 0, .null, [])]
def b_L_playOut : List xB := [(0, k_L_playOut_0, 1), (14, k_L_playOut_1, 2), (23, k_L_playOut_2, 3), (70, k_L_playOut_3, 13), (74, k_L_playOut_4, 5), (75, k_L_playOut_5, 13), (109, k_L_playOut_6, 7), (123, k_L_playOut_7, 8), (127, k_L_playOut_8, 13), (133, k_L_playOut_9, 13), (139, k_L_playOut_10, 13), (163, k_L_playOut_11, 12), (165, k_L_playOut_12, 13)]
def m_L_playOut : xM := (yX2_playOut, cX2_playOut, 10, none, 0, 0, false, b_L_playOut)
abbrev N_L_playOut : Nat := 21
abbrev k_L_slotBehind_0 : List xE := [(.iload_n 2, 1, 0, 0, .null, []), (.iload_n 1, 1, 0, 0, .null, []), (.iload_n 3, 1, 0, 0, .null, []), (.iload 4, 2, 0, 0, .null, []), (.invokestatic 53, 3, 16, 4, .null, [0]), (.istore 5, 2, 0, 0, .null, []), (.iload 5, 2, 0, 0, .null, []), (.iconst (-1), 1, 0, 0, .int (-1), []), (.if_icmp .ne 5, 3, 1, 0, .null, []), (.iconst (-1), 1, 0, 0, .int (-1), []), (.ireturn, 1, 0, 0, .null, [])]
abbrev k_L_slotBehind_1 : List xE := [(.iload 5, 2, 0, 0, .null, []), (.invokestatic 58, 3, 14, 1, .null, [0]), (.istore 6, 2, 0, 0, .null, []), (.aload_n 0, 1, 0, 0, .null, []), (.getfield 19, 3, 0, 2, .null, []), (.ifCond .eq 14, 3, 2, 0, .null, []), (.iload 6, 2, 0, 0, .null, []), (.iload 5, 2, 0, 0, .null, []), (.if_icmp .eq 7, 3, 2, 0, .null, []), (.iconst (-1), 1, 0, 0, .int (-1), []), (.goto 12, 3, 3, 0, .null, [])]
abbrev k_L_slotBehind_2 : List xE := [(.aload_n 0, 1, 0, 0, .null, []), (.iconst 1, 1, 0, 0, .int (nI 1), []), (.iload_n 1, 1, 0, 0, .null, []), (.isub, 1, 0, 0, .null, []), (.iload 6, 2, 0, 0, .null, []), (.invokevirtual 62, 3, 23, 3, .null, [0])]
abbrev k_L_slotBehind_3 : List xE := [(.ireturn, 1, 0, 0, .null, [])]
def b_L_slotBehind : List xB := [(0, k_L_slotBehind_0, 4), (18, k_L_slotBehind_1, 4), (43, k_L_slotBehind_2, 3), (52, k_L_slotBehind_3, 4)]
def m_L_slotBehind : xM := (yX2_slotBehind, cX2_slotBehind, 7, (some .int), 0, 0, false, b_L_slotBehind)
abbrev N_L_slotBehind : Nat := 22
abbrev k_L_slotOf_0 : List xE := [(.iconst 0, 1, 0, 0, .int (nI 0), []), (.istore_n 3, 1, 0, 0, .null, []), (.aload_n 0, 1, 0, 0, .null, []), (.getfield 9, 3, 0, 0, .null, []), (.arraylength, 1, 0, 0, .null, []), (.iconst 1, 1, 0, 0, .int (nI 1), []), (.isub, 1, 0, 0, .null, []), (.istore 4, 2, 0, 0, .null, []), (.iconst 0, 1, 0, 0, .int (nI 0), []), (.istore 5, 2, 0, 0, .null, [])]
abbrev k_L_slotOf_1 : List xE := [(.iload 5, 2, 0, 0, .null, []), (.aload_n 0, 1, 0, 0, .null, []), (.getfield 9, 3, 0, 0, .null, []), (.arraylength, 1, 0, 0, .null, []), (.if_icmp .ge 66, 3, 5, 0, .null, []), (.iload_n 3, 1, 0, 0, .null, []), (.iload 4, 2, 0, 0, .null, []), (.if_icmp .gt 60, 3, 5, 0, .null, []), (.iload_n 3, 1, 0, 0, .null, []), (.iload 4, 2, 0, 0, .null, []), (.iadd, 1, 0, 0, .null, []), (.iconst 2, 1, 0, 0, .int (nI 2), []), (.idiv, 1, 0, 0, .null, []), (.istore 6, 2, 0, 0, .null, []), (.aload_n 0, 1, 0, 0, .null, []), (.getfield 9, 3, 0, 0, .null, []), (.iload 6, 2, 0, 0, .null, []), (.iaload, 1, 0, 0, .null, []), (.iload_n 2, 1, 0, 0, .null, []), (.if_icmp .ne 10, 3, 2, 0, .null, []), (.iconst 2, 1, 0, 0, .int (nI 2), []), (.iload 6, 2, 0, 0, .null, []), (.imul, 1, 0, 0, .null, []), (.iload_n 1, 1, 0, 0, .null, []), (.iadd, 1, 0, 0, .null, []), (.ireturn, 1, 0, 0, .null, [])]
abbrev k_L_slotOf_2 : List xE := [(.aload_n 0, 1, 0, 0, .null, []), (.getfield 9, 3, 0, 0, .null, []), (.iload 6, 2, 0, 0, .null, []), (.iaload, 1, 0, 0, .null, []), (.iload_n 2, 1, 0, 0, .null, []), (.if_icmp .ge 11, 3, 3, 0, .null, []), (.iload 6, 2, 0, 0, .null, []), (.iconst 1, 1, 0, 0, .int (nI 1), []), (.iadd, 1, 0, 0, .null, []), (.istore_n 3, 1, 0, 0, .null, []), (.goto 9, 3, 4, 0, .null, [])]
abbrev k_L_slotOf_3 : List xE := [(.iload 6, 2, 0, 0, .null, []), (.iconst 1, 1, 0, 0, .int (nI 1), []), (.isub, 1, 0, 0, .null, []), (.istore 4, 2, 0, 0, .null, [])]
abbrev k_L_slotOf_4 : List xE := [(.iinc 5 1, 3, 0, 0, .int (nI 1), []), (.goto (-70), 3, 1, 0, .null, [])]
abbrev k_L_slotOf_5 : List xE := [(.iconst (-1), 1, 0, 0, .int (-1), []), (.ireturn, 1, 0, 0, .null, [])]
def b_L_slotOf : List xB := [(0, k_L_slotOf_0, 1), (14, k_L_slotOf_1, 6), (56, k_L_slotOf_2, 6), (75, k_L_slotOf_3, 4), (81, k_L_slotOf_4, 6), (87, k_L_slotOf_5, 6)]
def m_L_slotOf : xM := (yX2_slotOf, cX2_slotOf, 7, (some .int), 0, 0, false, b_L_slotOf)
abbrev N_L_slotOf : Nat := 23
abbrev k_L_isWonBy_0 : List xE := [(.aload_n 0, 1, 0, 0, .null, []), (.iload_n 1, 1, 0, 0, .null, []), (.iload_n 2, 1, 0, 0, .null, []), (.invokevirtual 62, 3, 23, 3, .null, [0]), (.istore_n 3, 1, 0, 0, .null, []), (.iload_n 3, 1, 0, 0, .null, []), (.iconst (-1), 1, 0, 0, .int (-1), []), (.if_icmp .eq 16, 3, 1, 0, .null, []), (.aload_n 0, 1, 0, 0, .null, []), (.getfield 26, 3, 0, 4, .null, []), (.iload_n 3, 1, 0, 0, .null, []), (.baload, 1, 0, 0, .null, []), (.ifCond .eq 7, 3, 1, 0, .null, []), (.iconst 1, 1, 0, 0, .int (nI 1), []), (.goto 4, 3, 2, 0, .null, [])]
abbrev k_L_isWonBy_1 : List xE := [(.iconst 0, 1, 0, 0, .int (nI 0), [])]
abbrev k_L_isWonBy_2 : List xE := [(.ireturn, 1, 0, 0, .null, [])]
def b_L_isWonBy : List xB := [(0, k_L_isWonBy_0, 3), (25, k_L_isWonBy_1, 2), (26, k_L_isWonBy_2, 3)]
def m_L_isWonBy : xM := (yX2_isWonBy, cX2_isWonBy, 4, (some .boolean), 0, 0, false, b_L_isWonBy)
abbrev N_L_isWonBy : Nat := 24
abbrev k_L_longestGame_0 : List xE := [(.aload_n 0, 1, 0, 0, .null, []), (.iload_n 1, 1, 0, 0, .null, []), (.iload_n 2, 1, 0, 0, .null, []), (.invokevirtual 62, 3, 23, 3, .null, [0]), (.istore_n 3, 1, 0, 0, .null, []), (.iload_n 3, 1, 0, 0, .null, []), (.iconst (-1), 1, 0, 0, .int (-1), []), (.if_icmp .ne 7, 3, 1, 0, .null, []), (.iconst 0, 1, 0, 0, .int (nI 0), []), (.goto 9, 3, 2, 0, .null, [])]
abbrev k_L_longestGame_1 : List xE := [(.aload_n 0, 1, 0, 0, .null, []), (.getfield 30, 3, 0, 5, .null, []), (.iload_n 3, 1, 0, 0, .null, []), (.iaload, 1, 0, 0, .null, [])]
abbrev k_L_longestGame_2 : List xE := [(.ireturn, 1, 0, 0, .null, [])]
def b_L_longestGame : List xB := [(0, k_L_longestGame_0, 3), (16, k_L_longestGame_1, 2), (22, k_L_longestGame_2, 3)]
def m_L_longestGame : xM := (yX2_longestGame, cX2_longestGame, 4, (some .int), 0, 0, false, b_L_longestGame)
abbrev N_L_longestGame : Nat := 25
abbrev k_L_shortestGame_0 : List xE := [(.aload_n 0, 1, 0, 0, .null, []), (.iload_n 1, 1, 0, 0, .null, []), (.iload_n 2, 1, 0, 0, .null, []), (.invokevirtual 62, 3, 23, 3, .null, [0]), (.istore_n 3, 1, 0, 0, .null, []), (.iload_n 3, 1, 0, 0, .null, []), (.iconst (-1), 1, 0, 0, .int (-1), []), (.if_icmp .ne 7, 3, 1, 0, .null, []), (.iconst 0, 1, 0, 0, .int (nI 0), []), (.goto 9, 3, 2, 0, .null, [])]
abbrev k_L_shortestGame_1 : List xE := [(.aload_n 0, 1, 0, 0, .null, []), (.getfield 33, 3, 0, 6, .null, []), (.iload_n 3, 1, 0, 0, .null, []), (.iaload, 1, 0, 0, .null, [])]
abbrev k_L_shortestGame_2 : List xE := [(.ireturn, 1, 0, 0, .null, [])]
def b_L_shortestGame : List xB := [(0, k_L_shortestGame_0, 3), (16, k_L_shortestGame_1, 2), (22, k_L_shortestGame_2, 3)]
def m_L_shortestGame : xM := (yX2_shortestGame, cX2_shortestGame, 4, (some .int), 0, 0, false, b_L_shortestGame)
abbrev N_L_shortestGame : Nat := 26
abbrev k_L_shapesWonBy_0 : List xE := [(.iconst 0, 1, 0, 0, .int (nI 0), []), (.istore_n 2, 1, 0, 0, .null, []), (.iconst 0, 1, 0, 0, .int (nI 0), []), (.istore_n 3, 1, 0, 0, .null, [])]
abbrev k_L_shapesWonBy_1 : List xE := [(.iload_n 3, 1, 0, 0, .null, []), (.aload_n 0, 1, 0, 0, .null, []), (.getfield 9, 3, 0, 0, .null, []), (.arraylength, 1, 0, 0, .null, []), (.if_icmp .ge 30, 3, 4, 0, .null, []), (.iload_n 2, 1, 0, 0, .null, []), (.aload_n 0, 1, 0, 0, .null, []), (.getfield 26, 3, 0, 4, .null, []), (.iconst 2, 1, 0, 0, .int (nI 2), []), (.iload_n 3, 1, 0, 0, .null, []), (.imul, 1, 0, 0, .null, []), (.iload_n 1, 1, 0, 0, .null, []), (.iadd, 1, 0, 0, .null, []), (.baload, 1, 0, 0, .null, []), (.ifCond .eq 7, 3, 2, 0, .null, []), (.iconst 1, 1, 0, 0, .int (nI 1), []), (.goto 4, 3, 3, 0, .null, [])]
abbrev k_L_shapesWonBy_2 : List xE := [(.iconst 0, 1, 0, 0, .int (nI 0), [])]
abbrev k_L_shapesWonBy_3 : List xE := [(.iadd, 1, 0, 0, .null, []), (.istore_n 2, 1, 0, 0, .null, []), (.iinc 3 1, 3, 0, 0, .int (nI 1), []), (.goto (-33), 3, 1, 0, .null, [])]
abbrev k_L_shapesWonBy_4 : List xE := [(.iload_n 2, 1, 0, 0, .null, []), (.ireturn, 1, 0, 0, .null, [])]
def b_L_shapesWonBy : List xB := [(0, k_L_shapesWonBy_0, 1), (4, k_L_shapesWonBy_1, 5), (31, k_L_shapesWonBy_2, 3), (32, k_L_shapesWonBy_3, 5), (40, k_L_shapesWonBy_4, 5)]
def m_L_shapesWonBy : xM := (yX2_shapesWonBy, cX2_shapesWonBy, 4, (some .int), 0, 0, false, b_L_shapesWonBy)
abbrev N_L_shapesWonBy : Nat := 27
abbrev k_L_shapesOver_0 : List xE := [(.iconst 0, 1, 0, 0, .int (nI 0), []), (.istore_n 1, 1, 0, 0, .null, []), (.iconst 0, 1, 0, 0, .int (nI 0), []), (.istore_n 2, 1, 0, 0, .null, [])]
abbrev k_L_shapesOver_1 : List xE := [(.iload_n 2, 1, 0, 0, .null, []), (.aload_n 0, 1, 0, 0, .null, []), (.getfield 9, 3, 0, 0, .null, []), (.arraylength, 1, 0, 0, .null, []), (.if_icmp .ge 41, 3, 4, 0, .null, []), (.iload_n 1, 1, 0, 0, .null, []), (.aload_n 0, 1, 0, 0, .null, []), (.getfield 30, 3, 0, 5, .null, []), (.iconst 2, 1, 0, 0, .int (nI 2), []), (.iload_n 2, 1, 0, 0, .null, []), (.imul, 1, 0, 0, .null, []), (.iaload, 1, 0, 0, .null, []), (.ifCond .ne 20, 3, 2, 0, .null, []), (.aload_n 0, 1, 0, 0, .null, []), (.getfield 30, 3, 0, 5, .null, []), (.iconst 2, 1, 0, 0, .int (nI 2), []), (.iload_n 2, 1, 0, 0, .null, []), (.imul, 1, 0, 0, .null, []), (.iconst 1, 1, 0, 0, .int (nI 1), []), (.iadd, 1, 0, 0, .null, []), (.iaload, 1, 0, 0, .null, []), (.ifCond .ne 7, 3, 2, 0, .null, []), (.iconst 1, 1, 0, 0, .int (nI 1), []), (.goto 4, 3, 3, 0, .null, [])]
abbrev k_L_shapesOver_2 : List xE := [(.iconst 0, 1, 0, 0, .int (nI 0), [])]
abbrev k_L_shapesOver_3 : List xE := [(.iadd, 1, 0, 0, .null, []), (.istore_n 1, 1, 0, 0, .null, []), (.iinc 2 1, 3, 0, 0, .int (nI 1), []), (.goto (-44), 3, 1, 0, .null, [])]
abbrev k_L_shapesOver_4 : List xE := [(.iload_n 1, 1, 0, 0, .null, []), (.ireturn, 1, 0, 0, .null, [])]
def b_L_shapesOver : List xB := [(0, k_L_shapesOver_0, 1), (4, k_L_shapesOver_1, 5), (42, k_L_shapesOver_2, 3), (43, k_L_shapesOver_3, 5), (51, k_L_shapesOver_4, 5)]
def m_L_shapesOver : xM := (yX2_shapesOver, cX2_shapesOver, 3, (some .int), 0, 0, false, b_L_shapesOver)
abbrev N_L_shapesOver : Nat := 28
abbrev k_B_init_0 : List xE := [(.aload_n 0, 1, 0, 0, .null, []), (.invokespecial 1, 3, 901, 0, .null, []), (.aload_n 0, 1, 0, 0, .null, []), (.bipush 18, 2, 0, 0, .int (nI 18), []), (.newarray .int, 2, 0, 0, .null, []), (.putfield 9, 3, 1, 0, .null, [2]), (.aload_n 0, 1, 0, 0, .null, []), (.bipush 108, 2, 0, 0, .int (nI 108), []), (.newarray .int, 2, 0, 0, .null, []), (.putfield 13, 3, 1, 1, .null, [2]), (.aload_n 0, 1, 0, 0, .null, []), (.iconst 0, 1, 0, 0, .int (nI 0), []), (.putfield 16, 3, 1, 2, .null, [0]), (.aload_n 0, 1, 0, 0, .null, []), (.bipush 18, 2, 0, 0, .int (nI 18), []), (.newarray .int, 2, 0, 0, .null, []), (.putfield 20, 3, 1, 3, .null, [2]), (.aload_n 0, 1, 0, 0, .null, []), (.iconst 0, 1, 0, 0, .int (nI 0), []), (.putfield 23, 3, 1, 4, .null, [1]), (.aload_n 0, 1, 0, 0, .null, []), (.bipush 60, 2, 0, 0, .int (nI 60), []), (.newarray .char, 2, 0, 0, .null, []), (.putfield 27, 3, 1, 5, .null, [2]), (.aload_n 0, 1, 0, 0, .null, []), (.iconst 0, 1, 0, 0, .int (nI 0), []), (.putfield 31, 3, 1, 6, .null, [0]), (.aload_n 0, 1, 0, 0, .null, []), (.invokestatic 34, 3, 18, 0, .null, [0, 1, 132, 1]), (.putfield 40, 3, 1, 7, .null, [2]), (.aload_n 0, 1, 0, 0, .null, []), (.bipush 12, 2, 0, 0, .int (nI 12), []), (.anewarray 43, 3, 0, 0, .null, []), (.putfield 45, 3, 1, 8, .null, [2]), (.aload_n 0, 1, 0, 0, .null, []), (.getfield 9, 3, 1, 0, .null, []), (.iconst 0, 1, 0, 0, .int (nI 0), []), (.sipush 32767, 3, 0, 0, .int (nI 32767), []), (.iastore, 1, 0, 0, .null, []), (.aload_n 0, 1, 0, 0, .null, []), (.getfield 9, 3, 1, 0, .null, []), (.iconst 3, 1, 0, 0, .int (nI 3), []), (.iconst 1, 1, 0, 0, .int (nI 1), []), (.iastore, 1, 0, 0, .null, []), (.return_, 1, 0, 0, .null, [])]
def b_B_init : List xB := [(0, k_B_init_0, 1)]
def m_B_init : xM := (yX3_init, cX3_init, 1, none, 6, 348, true, b_B_init)
abbrev N_B_init : Nat := 29
abbrev k_B_take_0 : List xE := [(.iload_n 1, 1, 0, 0, .null, []), (.invokestatic 49, 3, 56, 1, .null, [0]), (.ifCond .ne 13, 3, 1, 0, .null, []), (.new 53, 3, 10, 0, .null, []), (.dup, 1, 0, 0, .null, []), (.ldc 55, 2, 0, 0, .null, []), (.invokespecial 57, 3, 0, 0, .null, []), (.athrow, 1, 0, 0, .null, [])]
abbrev k_B_take_1 : List xE := [(.iload_n 2, 1, 0, 0, .null, []), (.iconst 1, 1, 0, 0, .int (nI 1), []), (.if_icmp .lt 13, 3, 2, 0, .null, []), (.iload_n 2, 1, 0, 0, .null, []), (.aload_n 0, 1, 0, 0, .null, []), (.getfield 9, 3, 1, 0, .null, []), (.iconst 3, 1, 0, 0, .int (nI 3), []), (.iaload, 1, 0, 0, .null, []), (.if_icmp .le 13, 3, 3, 0, .null, [])]
abbrev k_B_take_2 : List xE := [(.new 60, 3, 11, 0, .null, []), (.dup, 1, 0, 0, .null, []), (.ldc 62, 2, 0, 0, .null, []), (.invokespecial 64, 3, 0, 0, .null, []), (.athrow, 1, 0, 0, .null, [])]
abbrev k_B_take_3 : List xE := [(.aload_n 0, 1, 0, 0, .null, []), (.iload_n 1, 1, 0, 0, .null, []), (.iload_n 2, 1, 0, 0, .null, []), (.invokevirtual 65, 3, 61, 3, .null, [1]), (.ifCond .eq 13, 3, 4, 0, .null, []), (.new 69, 3, 12, 0, .null, []), (.dup, 1, 0, 0, .null, []), (.ldc 71, 2, 0, 0, .null, []), (.invokespecial 73, 3, 0, 0, .null, []), (.athrow, 1, 0, 0, .null, [])]
abbrev k_B_take_4 : List xE := [(.aload_n 0, 1, 0, 0, .null, []), (.invokevirtual 74, 3, 59, 1, .null, [1]), (.aload_n 0, 1, 0, 0, .null, []), (.iload_n 1, 1, 0, 0, .null, []), (.iload_n 2, 1, 0, 0, .null, []), (.invokevirtual 77, 3, 63, 3, .null, [1]), (.ireturn, 1, 0, 0, .null, [])]
def b_B_take : List xB := [(0, k_B_take_0, 5), (17, k_B_take_1, 2), (32, k_B_take_2, 5), (42, k_B_take_3, 5), (61, k_B_take_4, 5)]
def m_B_take : xM := (yX3_take, cX3_take, 3, (some .int), 1, 6, false, b_B_take)
abbrev N_B_take : Nat := 30
abbrev k_B_turn_0 : List xE := [(.iload_n 1, 1, 0, 0, .null, []), (.ifCond .lt 8, 3, 1, 0, .null, []), (.iload_n 1, 1, 0, 0, .null, []), (.iconst 1, 1, 0, 0, .int (nI 1), []), (.if_icmp .le 13, 3, 2, 0, .null, [])]
abbrev k_B_turn_1 : List xE := [(.new 60, 3, 11, 0, .null, []), (.dup, 1, 0, 0, .null, []), (.ldc 80, 2, 0, 0, .null, []), (.invokespecial 64, 3, 0, 0, .null, []), (.athrow, 1, 0, 0, .null, [])]
abbrev k_B_turn_2 : List xE := [(.aload_n 0, 1, 0, 0, .null, []), (.invokevirtual 74, 3, 59, 1, .null, [1]), (.aload_n 0, 1, 0, 0, .null, []), (.getfield 9, 3, 1, 0, .null, []), (.iconst 1, 1, 0, 0, .int (nI 1), []), (.iaload, 1, 0, 0, .null, []), (.istore_n 2, 1, 0, 0, .null, []), (.aload_n 0, 1, 0, 0, .null, []), (.getfield 9, 3, 1, 0, .null, []), (.iconst 1, 1, 0, 0, .int (nI 1), []), (.iload_n 1, 1, 0, 0, .null, []), (.iastore, 1, 0, 0, .null, []), (.iload_n 2, 1, 0, 0, .null, []), (.ireturn, 1, 0, 0, .null, [])]
def b_B_turn : List xB := [(0, k_B_turn_0, 1), (9, k_B_turn_1, 3), (19, k_B_turn_2, 3)]
def m_B_turn : xM := (yX3_turn, cX3_turn, 3, (some .int), 1, 6, false, b_B_turn)
abbrev N_B_turn : Nat := 31
abbrev k_B_knock_0 : List xE := [(.iload_n 1, 1, 0, 0, .null, []), (.iload_n 2, 1, 0, 0, .null, []), (.invokestatic 82, 3, 57, 2, .null, [0]), (.ifCond .ne 13, 3, 1, 0, .null, []), (.new 53, 3, 10, 0, .null, []), (.dup, 1, 0, 0, .null, []), (.ldc 86, 2, 0, 0, .null, []), (.invokespecial 57, 3, 0, 0, .null, []), (.athrow, 1, 0, 0, .null, [])]
abbrev k_B_knock_1 : List xE := [(.aload_n 0, 1, 0, 0, .null, []), (.getfield 9, 3, 1, 0, .null, []), (.iconst 0, 1, 0, 0, .int (nI 0), []), (.iaload, 1, 0, 0, .null, []), (.iload_n 1, 1, 0, 0, .null, []), (.iload_n 2, 1, 0, 0, .null, []), (.invokestatic 88, 3, 12, 3, .null, [0]), (.ifCond .ne 13, 3, 2, 0, .null, []), (.new 69, 3, 12, 0, .null, []), (.dup, 1, 0, 0, .null, []), (.ldc 92, 2, 0, 0, .null, []), (.invokespecial 73, 3, 0, 0, .null, []), (.athrow, 1, 0, 0, .null, [])]
abbrev k_B_knock_2 : List xE := [(.aload_n 0, 1, 0, 0, .null, []), (.invokevirtual 74, 3, 59, 1, .null, [1]), (.aload_n 0, 1, 0, 0, .null, []), (.iload_n 1, 1, 0, 0, .null, []), (.iload_n 2, 1, 0, 0, .null, []), (.invokevirtual 94, 3, 64, 3, .null, [1]), (.ireturn, 1, 0, 0, .null, [])]
def b_B_knock : List xB := [(0, k_B_knock_0, 3), (18, k_B_knock_1, 3), (42, k_B_knock_2, 3)]
def m_B_knock : xM := (yX3_knock, cX3_knock, 3, (some .int), 1, 6, false, b_B_knock)
abbrev N_B_knock : Nat := 32
abbrev k_B_put_0 : List xE := [(.iload_n 1, 1, 0, 0, .null, []), (.iload_n 2, 1, 0, 0, .null, []), (.invokestatic 82, 3, 57, 2, .null, [0]), (.ifCond .ne 13, 3, 1, 0, .null, []), (.new 53, 3, 10, 0, .null, []), (.dup, 1, 0, 0, .null, []), (.ldc 86, 2, 0, 0, .null, []), (.invokespecial 57, 3, 0, 0, .null, []), (.athrow, 1, 0, 0, .null, [])]
abbrev k_B_put_1 : List xE := [(.aload_n 0, 1, 0, 0, .null, []), (.getfield 9, 3, 1, 0, .null, []), (.iconst 0, 1, 0, 0, .int (nI 0), []), (.iaload, 1, 0, 0, .null, []), (.iload_n 1, 1, 0, 0, .null, []), (.iload_n 2, 1, 0, 0, .null, []), (.invokestatic 97, 3, 13, 3, .null, [0]), (.ifCond .ne 13, 3, 2, 0, .null, []), (.new 69, 3, 12, 0, .null, []), (.dup, 1, 0, 0, .null, []), (.ldc 100, 2, 0, 0, .null, []), (.invokespecial 73, 3, 0, 0, .null, []), (.athrow, 1, 0, 0, .null, [])]
abbrev k_B_put_2 : List xE := [(.aload_n 0, 1, 0, 0, .null, []), (.invokevirtual 74, 3, 59, 1, .null, [1]), (.aload_n 0, 1, 0, 0, .null, []), (.iload_n 1, 1, 0, 0, .null, []), (.iload_n 2, 1, 0, 0, .null, []), (.invokevirtual 102, 3, 66, 3, .null, [1]), (.ireturn, 1, 0, 0, .null, [])]
def b_B_put : List xB := [(0, k_B_put_0, 3), (18, k_B_put_1, 3), (42, k_B_put_2, 3)]
def m_B_put : xM := (yX3_put, cX3_put, 3, (some .int), 1, 6, false, b_B_put)
abbrev N_B_put : Nat := 33
abbrev k_B_mirror_0 : List xE := [(.aload_n 0, 1, 0, 0, .null, []), (.invokevirtual 74, 3, 59, 1, .null, [1]), (.aload_n 0, 1, 0, 0, .null, []), (.invokevirtual 105, 3, 67, 1, .null, [1]), (.ireturn, 1, 0, 0, .null, [])]
def b_B_mirror : List xB := [(0, k_B_mirror_0, 1)]
def m_B_mirror : xM := (yX3_mirror, cX3_mirror, 1, (some .int), 0, 0, false, b_B_mirror)
abbrev N_B_mirror : Nat := 34
abbrev k_B_refill_0 : List xE := [(.aload_n 0, 1, 0, 0, .null, []), (.invokevirtual 74, 3, 59, 1, .null, [1]), (.aload_n 0, 1, 0, 0, .null, []), (.invokevirtual 109, 3, 68, 1, .null, [1]), (.ireturn, 1, 0, 0, .null, [])]
def b_B_refill : List xB := [(0, k_B_refill_0, 1)]
def m_B_refill : xM := (yX3_refill, cX3_refill, 1, (some .int), 0, 0, false, b_B_refill)
abbrev N_B_refill : Nat := 35
abbrev k_B_set_0 : List xE := [(.iload_n 1, 1, 0, 0, .null, []), (.invokestatic 112, 3, 58, 1, .null, [0]), (.ifCond .ne 13, 3, 1, 0, .null, []), (.new 53, 3, 10, 0, .null, []), (.dup, 1, 0, 0, .null, []), (.ldc 115, 2, 0, 0, .null, []), (.invokespecial 57, 3, 0, 0, .null, []), (.athrow, 1, 0, 0, .null, [])]
abbrev k_B_set_1 : List xE := [(.iload_n 1, 1, 0, 0, .null, []), (.ifCond .ne 7, 3, 2, 0, .null, []), (.iconst 1, 1, 0, 0, .int (nI 1), []), (.goto 4, 3, 3, 0, .null, [])]
abbrev k_B_set_2 : List xE := [(.iconst 0, 1, 0, 0, .int (nI 0), [])]
abbrev k_B_set_3 : List xE := [(.istore_n 3, 1, 0, 0, .null, []), (.iload_n 1, 1, 0, 0, .null, []), (.ifCond .ne 7, 3, 4, 0, .null, []), (.iconst 3, 1, 0, 0, .int (nI 3), []), (.goto 4, 3, 5, 0, .null, [])]
abbrev k_B_set_4 : List xE := [(.iconst 1, 1, 0, 0, .int (nI 1), [])]
abbrev k_B_set_5 : List xE := [(.istore 4, 2, 0, 0, .null, []), (.iload_n 2, 1, 0, 0, .null, []), (.iload_n 3, 1, 0, 0, .null, []), (.if_icmp .lt 9, 3, 6, 0, .null, []), (.iload_n 2, 1, 0, 0, .null, []), (.iload 4, 2, 0, 0, .null, []), (.if_icmp .le 13, 3, 7, 0, .null, [])]
abbrev k_B_set_6 : List xE := [(.new 60, 3, 11, 0, .null, []), (.dup, 1, 0, 0, .null, []), (.ldc 117, 2, 0, 0, .null, []), (.invokespecial 64, 3, 0, 0, .null, []), (.athrow, 1, 0, 0, .null, [])]
abbrev k_B_set_7 : List xE := [(.aload_n 0, 1, 0, 0, .null, []), (.invokevirtual 74, 3, 59, 1, .null, [1]), (.aload_n 0, 1, 0, 0, .null, []), (.getfield 9, 3, 1, 0, .null, []), (.iconst 3, 1, 0, 0, .int (nI 3), []), (.iload_n 1, 1, 0, 0, .null, []), (.iadd, 1, 0, 0, .null, []), (.iaload, 1, 0, 0, .null, []), (.istore 5, 2, 0, 0, .null, []), (.aload_n 0, 1, 0, 0, .null, []), (.getfield 9, 3, 1, 0, .null, []), (.iconst 3, 1, 0, 0, .int (nI 3), []), (.iload_n 1, 1, 0, 0, .null, []), (.iadd, 1, 0, 0, .null, []), (.iload_n 2, 1, 0, 0, .null, []), (.iastore, 1, 0, 0, .null, []), (.iload 5, 2, 0, 0, .null, []), (.ireturn, 1, 0, 0, .null, [])]
def b_B_set : List xB := [(0, k_B_set_0, 8), (17, k_B_set_1, 8), (25, k_B_set_2, 3), (26, k_B_set_3, 8), (35, k_B_set_4, 5), (36, k_B_set_5, 6), (49, k_B_set_6, 8), (59, k_B_set_7, 8)]
def m_B_set : xM := (yX3_set, cX3_set, 6, (some .int), 1, 6, false, b_B_set)
abbrev N_B_set : Nat := 36
abbrev k_B_append_0 : List xE := [(.iload_n 1, 1, 0, 0, .null, []), (.bipush 33, 2, 0, 0, .int (nI 33), []), (.if_icmp .lt 9, 3, 1, 0, .null, []), (.iload_n 1, 1, 0, 0, .null, []), (.bipush 126, 2, 0, 0, .int (nI 126), []), (.if_icmp .le 13, 3, 2, 0, .null, [])]
abbrev k_B_append_1 : List xE := [(.new 60, 3, 11, 0, .null, []), (.dup, 1, 0, 0, .null, []), (.ldc 119, 2, 0, 0, .null, []), (.invokespecial 64, 3, 0, 0, .null, []), (.athrow, 1, 0, 0, .null, [])]
abbrev k_B_append_2 : List xE := [(.aload_n 0, 1, 0, 0, .null, []), (.getfield 31, 3, 1, 6, .null, []), (.bipush 60, 2, 0, 0, .int (nI 60), []), (.if_icmp .lt 13, 3, 3, 0, .null, []), (.new 69, 3, 12, 0, .null, []), (.dup, 1, 0, 0, .null, []), (.ldc 121, 2, 0, 0, .null, []), (.invokespecial 73, 3, 0, 0, .null, []), (.athrow, 1, 0, 0, .null, [])]
abbrev k_B_append_3 : List xE := [(.aload_n 0, 1, 0, 0, .null, []), (.getfield 27, 3, 1, 5, .null, []), (.aload_n 0, 1, 0, 0, .null, []), (.getfield 31, 3, 1, 6, .null, []), (.iload_n 1, 1, 0, 0, .null, []), (.i2c, 1, 0, 0, .null, []), (.castore, 1, 0, 0, .null, []), (.aload_n 0, 1, 0, 0, .null, []), (.dup, 1, 0, 0, .null, []), (.getfield 31, 3, 1, 6, .null, []), (.iconst 1, 1, 0, 0, .int (nI 1), []), (.iadd, 1, 0, 0, .null, []), (.putfield 31, 3, 1, 6, .null, [0]), (.aload_n 0, 1, 0, 0, .null, []), (.getfield 31, 3, 1, 6, .null, []), (.ireturn, 1, 0, 0, .null, [])]
def b_B_append : List xB := [(0, k_B_append_0, 1), (12, k_B_append_1, 4), (22, k_B_append_2, 4), (41, k_B_append_3, 4)]
def m_B_append : xM := (yX3_append, cX3_append, 2, (some .int), 1, 6, false, b_B_append)
abbrev N_B_append : Nat := 37
abbrev k_B_clearBuffer_0 : List xE := [(.aload_n 0, 1, 0, 0, .null, []), (.getfield 31, 3, 1, 6, .null, []), (.istore_n 1, 1, 0, 0, .null, []), (.aload_n 0, 1, 0, 0, .null, []), (.iconst 0, 1, 0, 0, .int (nI 0), []), (.putfield 31, 3, 1, 6, .null, [0]), (.iload_n 1, 1, 0, 0, .null, []), (.ireturn, 1, 0, 0, .null, [])]
def b_B_clearBuffer : List xB := [(0, k_B_clearBuffer_0, 1)]
def m_B_clearBuffer : xM := (yX3_clearBuffer, cX3_clearBuffer, 2, (some .int), 0, 0, false, b_B_clearBuffer)
abbrev N_B_clearBuffer : Nat := 38
abbrev k_B_firstError_0 : List xE := [(.iconst 0, 1, 0, 0, .int (nI 0), []), (.istore_n 1, 1, 0, 0, .null, []), (.iconst 0, 1, 0, 0, .int (nI 0), []), (.istore_n 2, 1, 0, 0, .null, [])]
abbrev k_B_firstError_1 : List xE := [(.iload_n 2, 1, 0, 0, .null, []), (.aload_n 0, 1, 0, 0, .null, []), (.getfield 31, 3, 1, 6, .null, []), (.if_icmp .ge 27, 3, 3, 0, .null, []), (.iload_n 1, 1, 0, 0, .null, []), (.aload_n 0, 1, 0, 0, .null, []), (.getfield 27, 3, 1, 5, .null, []), (.iload_n 2, 1, 0, 0, .null, []), (.caload, 1, 0, 0, .null, []), (.invokestatic 125, 3, 7, 2, .null, [0]), (.istore_n 1, 1, 0, 0, .null, []), (.iload_n 1, 1, 0, 0, .null, []), (.iconst (-1), 1, 0, 0, .int (-1), []), (.if_icmp .ne 5, 3, 2, 0, .null, []), (.iload_n 2, 1, 0, 0, .null, []), (.ireturn, 1, 0, 0, .null, [])]
abbrev k_B_firstError_2 : List xE := [(.iinc 2 1, 3, 0, 0, .int (nI 1), []), (.goto (-29), 3, 1, 0, .null, [])]
abbrev k_B_firstError_3 : List xE := [(.aload_n 0, 1, 0, 0, .null, []), (.getfield 31, 3, 1, 6, .null, []), (.ireturn, 1, 0, 0, .null, [])]
def b_B_firstError : List xB := [(0, k_B_firstError_0, 1), (4, k_B_firstError_1, 4), (30, k_B_firstError_2, 4), (36, k_B_firstError_3, 4)]
def m_B_firstError : xM := (yX3_firstError, cX3_firstError, 3, (some .int), 0, 0, false, b_B_firstError)
abbrev N_B_firstError : Nat := 39
abbrev k_B_obey_0 : List xE := [(.aload_n 0, 1, 0, 0, .null, []), (.invokevirtual 128, 3, 69, 1, .null, [1]), (.ifCond .ne 13, 3, 1, 0, .null, []), (.new 60, 3, 11, 0, .null, []), (.dup, 1, 0, 0, .null, []), (.ldc 132, 2, 0, 0, .null, []), (.invokespecial 64, 3, 0, 0, .null, []), (.athrow, 1, 0, 0, .null, [])]
abbrev k_B_obey_1 : List xE := [(.aload_n 0, 1, 0, 0, .null, []), (.invokevirtual 74, 3, 59, 1, .null, [1]), (.aload_n 0, 1, 0, 0, .null, []), (.invokevirtual 134, 3, 70, 1, .null, [1]), (.istore_n 1, 1, 0, 0, .null, []), (.aload_n 0, 1, 0, 0, .null, []), (.iconst 0, 1, 0, 0, .int (nI 0), []), (.putfield 31, 3, 1, 6, .null, [0]), (.iload_n 1, 1, 0, 0, .null, []), (.ireturn, 1, 0, 0, .null, [])]
def b_B_obey : List xB := [(0, k_B_obey_0, 2), (17, k_B_obey_1, 2)]
def m_B_obey : xM := (yX3_obey, cX3_obey, 2, (some .int), 1, 6, false, b_B_obey)
abbrev N_B_obey : Nat := 40
abbrev k_B_keep_0 : List xE := [(.aload_n 0, 1, 0, 0, .null, []), (.getfield 9, 3, 1, 0, .null, []), (.iconst 0, 1, 0, 0, .int (nI 0), []), (.aload_n 0, 1, 0, 0, .null, []), (.getfield 20, 3, 1, 3, .null, []), (.iconst 0, 1, 0, 0, .int (nI 0), []), (.bipush 18, 2, 0, 0, .int (nI 18), []), (.invokestatic 137, 3, 900, 0, .null, []), (.aload_n 0, 1, 0, 0, .null, []), (.iconst 1, 1, 0, 0, .int (nI 1), []), (.putfield 23, 3, 1, 4, .null, [1]), (.aload_n 0, 1, 0, 0, .null, []), (.getfield 9, 3, 1, 0, .null, []), (.iconst 0, 1, 0, 0, .int (nI 0), []), (.iaload, 1, 0, 0, .null, []), (.ireturn, 1, 0, 0, .null, [])]
def b_B_keep : List xB := [(0, k_B_keep_0, 1)]
def m_B_keep : xM := (yX3_keep, cX3_keep, 1, (some .int), 0, 0, false, b_B_keep)
abbrev N_B_keep : Nat := 41
abbrev k_B_goBack_0 : List xE := [(.aload_n 0, 1, 0, 0, .null, []), (.getfield 23, 3, 1, 4, .null, []), (.ifCond .ne 13, 3, 1, 0, .null, []), (.new 69, 3, 12, 0, .null, []), (.dup, 1, 0, 0, .null, []), (.ldc 143, 2, 0, 0, .null, []), (.invokespecial 73, 3, 0, 0, .null, []), (.athrow, 1, 0, 0, .null, [])]
abbrev k_B_goBack_1 : List xE := [(.aload_n 0, 1, 0, 0, .null, []), (.invokevirtual 74, 3, 59, 1, .null, [1]), (.aload_n 0, 1, 0, 0, .null, []), (.getfield 20, 3, 1, 3, .null, []), (.iconst 0, 1, 0, 0, .int (nI 0), []), (.aload_n 0, 1, 0, 0, .null, []), (.getfield 9, 3, 1, 0, .null, []), (.iconst 0, 1, 0, 0, .int (nI 0), []), (.bipush 18, 2, 0, 0, .int (nI 18), []), (.invokestatic 137, 3, 900, 0, .null, []), (.aload_n 0, 1, 0, 0, .null, []), (.getfield 9, 3, 1, 0, .null, []), (.iconst 0, 1, 0, 0, .int (nI 0), []), (.iaload, 1, 0, 0, .null, []), (.ireturn, 1, 0, 0, .null, [])]
def b_B_goBack : List xB := [(0, k_B_goBack_0, 2), (17, k_B_goBack_1, 2)]
def m_B_goBack : xM := (yX3_goBack, cX3_goBack, 1, (some .int), 1, 6, false, b_B_goBack)
abbrev N_B_goBack : Nat := 42
abbrev k_B_undo_0 : List xE := [(.aload_n 0, 1, 0, 0, .null, []), (.getfield 16, 3, 1, 2, .null, []), (.ifCond .gt 13, 3, 1, 0, .null, []), (.new 69, 3, 12, 0, .null, []), (.dup, 1, 0, 0, .null, []), (.ldc 145, 2, 0, 0, .null, []), (.invokespecial 73, 3, 0, 0, .null, []), (.athrow, 1, 0, 0, .null, [])]
abbrev k_B_undo_1 : List xE := [(.aload_n 0, 1, 0, 0, .null, []), (.dup, 1, 0, 0, .null, []), (.getfield 16, 3, 1, 2, .null, []), (.iconst 1, 1, 0, 0, .int (nI 1), []), (.isub, 1, 0, 0, .null, []), (.putfield 16, 3, 1, 2, .null, [0]), (.aload_n 0, 1, 0, 0, .null, []), (.getfield 13, 3, 1, 1, .null, []), (.aload_n 0, 1, 0, 0, .null, []), (.getfield 16, 3, 1, 2, .null, []), (.bipush 18, 2, 0, 0, .int (nI 18), []), (.imul, 1, 0, 0, .null, []), (.aload_n 0, 1, 0, 0, .null, []), (.getfield 9, 3, 1, 0, .null, []), (.iconst 0, 1, 0, 0, .int (nI 0), []), (.bipush 18, 2, 0, 0, .int (nI 18), []), (.invokestatic 137, 3, 900, 0, .null, []), (.aload_n 0, 1, 0, 0, .null, []), (.getfield 16, 3, 1, 2, .null, []), (.ireturn, 1, 0, 0, .null, [])]
def b_B_undo : List xB := [(0, k_B_undo_0, 2), (17, k_B_undo_1, 2)]
def m_B_undo : xM := (yX3_undo, cX3_undo, 1, (some .int), 1, 6, false, b_B_undo)
abbrev N_B_undo : Nat := 43
abbrev k_B_row_0 : List xE := [(.iload_n 1, 1, 0, 0, .null, []), (.invokestatic 49, 3, 56, 1, .null, [0]), (.ifCond .ne 13, 3, 1, 0, .null, []), (.new 53, 3, 10, 0, .null, []), (.dup, 1, 0, 0, .null, []), (.ldc 55, 2, 0, 0, .null, []), (.invokespecial 57, 3, 0, 0, .null, []), (.athrow, 1, 0, 0, .null, [])]
abbrev k_B_row_1 : List xE := [(.iload_n 2, 1, 0, 0, .null, []), (.tableswitch 90 0 5 #[38, 52, 58, 64, 70, 80], 38, 8, 0, .null, [2, 3, 4, 5, 6, 7])]
abbrev k_B_row_2 : List xE := [(.aload_n 0, 1, 0, 0, .null, []), (.getfield 9, 3, 1, 0, .null, []), (.iconst 0, 1, 0, 0, .int (nI 0), []), (.iaload, 1, 0, 0, .null, []), (.iload_n 1, 1, 0, 0, .null, []), (.invokestatic 147, 3, 11, 2, .null, [0]), (.invokestatic 150, 3, 0, 1, .null, [0]), (.ireturn, 1, 0, 0, .null, [])]
abbrev k_B_row_3 : List xE := [(.aload_n 0, 1, 0, 0, .null, []), (.iload_n 1, 1, 0, 0, .null, []), (.invokevirtual 156, 3, 72, 2, .null, [1]), (.ireturn, 1, 0, 0, .null, [])]
abbrev k_B_row_4 : List xE := [(.aload_n 0, 1, 0, 0, .null, []), (.iload_n 1, 1, 0, 0, .null, []), (.invokevirtual 159, 3, 73, 2, .null, [1]), (.ireturn, 1, 0, 0, .null, [])]
abbrev k_B_row_5 : List xE := [(.aload_n 0, 1, 0, 0, .null, []), (.iload_n 1, 1, 0, 0, .null, []), (.invokevirtual 162, 3, 74, 2, .null, [1]), (.ireturn, 1, 0, 0, .null, [])]
abbrev k_B_row_6 : List xE := [(.aload_n 0, 1, 0, 0, .null, []), (.getfield 9, 3, 1, 0, .null, []), (.bipush 6, 2, 0, 0, .int (nI 6), []), (.iload_n 1, 1, 0, 0, .null, []), (.iadd, 1, 0, 0, .null, []), (.iaload, 1, 0, 0, .null, []), (.ireturn, 1, 0, 0, .null, [])]
abbrev k_B_row_7 : List xE := [(.aload_n 0, 1, 0, 0, .null, []), (.getfield 9, 3, 1, 0, .null, []), (.bipush 11, 2, 0, 0, .int (nI 11), []), (.iload_n 1, 1, 0, 0, .null, []), (.iadd, 1, 0, 0, .null, []), (.iaload, 1, 0, 0, .null, []), (.ireturn, 1, 0, 0, .null, [])]
abbrev k_B_row_8 : List xE := [(.new 60, 3, 11, 0, .null, []), (.dup, 1, 0, 0, .null, []), (.ldc 165, 2, 0, 0, .null, []), (.invokespecial 64, 3, 0, 0, .null, []), (.athrow, 1, 0, 0, .null, [])]
def b_B_row : List xB := [(0, k_B_row_0, 9), (17, k_B_row_1, 9), (56, k_B_row_2, 9), (70, k_B_row_3, 9), (76, k_B_row_4, 9), (82, k_B_row_5, 9), (88, k_B_row_6, 9), (98, k_B_row_7, 9), (108, k_B_row_8, 9)]
def m_B_row : xM := (yX3_row, cX3_row, 3, (some .int), 1, 6, false, b_B_row)
abbrev N_B_row : Nat := 44
abbrev k_B_count_0 : List xE := [(.iload_n 1, 1, 0, 0, .null, []), (.tableswitch 122 0 9 #[55, 62, 72, 79, 87, 95, 100, 107, 112, 117], 55, 11, 0, .null, [1, 2, 3, 4, 5, 6, 7, 8, 9, 10])]
abbrev k_B_count_1 : List xE := [(.aload_n 0, 1, 0, 0, .null, []), (.getfield 9, 3, 1, 0, .null, []), (.iconst 0, 1, 0, 0, .int (nI 0), []), (.iaload, 1, 0, 0, .null, []), (.ireturn, 1, 0, 0, .null, [])]
abbrev k_B_count_2 : List xE := [(.aload_n 0, 1, 0, 0, .null, []), (.getfield 9, 3, 1, 0, .null, []), (.iconst 0, 1, 0, 0, .int (nI 0), []), (.iaload, 1, 0, 0, .null, []), (.invokestatic 150, 3, 0, 1, .null, [0]), (.ireturn, 1, 0, 0, .null, [])]
abbrev k_B_count_3 : List xE := [(.aload_n 0, 1, 0, 0, .null, []), (.getfield 9, 3, 1, 0, .null, []), (.iconst 1, 1, 0, 0, .int (nI 1), []), (.iaload, 1, 0, 0, .null, []), (.ireturn, 1, 0, 0, .null, [])]
abbrev k_B_count_4 : List xE := [(.aload_n 0, 1, 0, 0, .null, []), (.getfield 9, 3, 1, 0, .null, []), (.bipush 16, 2, 0, 0, .int (nI 16), []), (.iaload, 1, 0, 0, .null, []), (.ireturn, 1, 0, 0, .null, [])]
abbrev k_B_count_5 : List xE := [(.aload_n 0, 1, 0, 0, .null, []), (.getfield 9, 3, 1, 0, .null, []), (.bipush 17, 2, 0, 0, .int (nI 17), []), (.iaload, 1, 0, 0, .null, []), (.ireturn, 1, 0, 0, .null, [])]
abbrev k_B_count_6 : List xE := [(.aload_n 0, 1, 0, 0, .null, []), (.invokevirtual 167, 3, 75, 1, .null, [1]), (.ireturn, 1, 0, 0, .null, [])]
abbrev k_B_count_7 : List xE := [(.aload_n 0, 1, 0, 0, .null, []), (.getfield 9, 3, 1, 0, .null, []), (.iconst 2, 1, 0, 0, .int (nI 2), []), (.iaload, 1, 0, 0, .null, []), (.ireturn, 1, 0, 0, .null, [])]
abbrev k_B_count_8 : List xE := [(.aload_n 0, 1, 0, 0, .null, []), (.invokevirtual 170, 3, 76, 1, .null, [1]), (.ireturn, 1, 0, 0, .null, [])]
abbrev k_B_count_9 : List xE := [(.aload_n 0, 1, 0, 0, .null, []), (.invokevirtual 173, 3, 77, 1, .null, [1]), (.ireturn, 1, 0, 0, .null, [])]
abbrev k_B_count_10 : List xE := [(.aload_n 0, 1, 0, 0, .null, []), (.getfield 16, 3, 1, 2, .null, []), (.ireturn, 1, 0, 0, .null, [])]
abbrev k_B_count_11 : List xE := [(.new 60, 3, 11, 0, .null, []), (.dup, 1, 0, 0, .null, []), (.ldc 176, 2, 0, 0, .null, []), (.invokespecial 64, 3, 0, 0, .null, []), (.athrow, 1, 0, 0, .null, [])]
def b_B_count : List xB := [(0, k_B_count_0, 12), (56, k_B_count_1, 12), (63, k_B_count_2, 12), (73, k_B_count_3, 12), (80, k_B_count_4, 12), (88, k_B_count_5, 12), (96, k_B_count_6, 12), (101, k_B_count_7, 12), (108, k_B_count_8, 12), (113, k_B_count_9, 12), (118, k_B_count_10, 12), (123, k_B_count_11, 12)]
def m_B_count : xM := (yX3_count, cX3_count, 2, (some .int), 1, 6, false, b_B_count)
abbrev N_B_count : Nat := 45
abbrev k_B_setting_0 : List xE := [(.iload_n 1, 1, 0, 0, .null, []), (.invokestatic 112, 3, 58, 1, .null, [0]), (.ifCond .ne 13, 3, 1, 0, .null, []), (.new 53, 3, 10, 0, .null, []), (.dup, 1, 0, 0, .null, []), (.ldc 115, 2, 0, 0, .null, []), (.invokespecial 57, 3, 0, 0, .null, []), (.athrow, 1, 0, 0, .null, [])]
abbrev k_B_setting_1 : List xE := [(.aload_n 0, 1, 0, 0, .null, []), (.getfield 9, 3, 1, 0, .null, []), (.iconst 3, 1, 0, 0, .int (nI 3), []), (.iload_n 1, 1, 0, 0, .null, []), (.iadd, 1, 0, 0, .null, []), (.iaload, 1, 0, 0, .null, []), (.ireturn, 1, 0, 0, .null, [])]
def b_B_setting : List xB := [(0, k_B_setting_0, 2), (17, k_B_setting_1, 2)]
def m_B_setting : xM := (yX3_setting, cX3_setting, 2, (some .int), 1, 6, false, b_B_setting)
abbrev N_B_setting : Nat := 46
abbrev k_B_why_0 : List xE := [(.iload_n 1, 1, 0, 0, .null, []), (.invokestatic 49, 3, 56, 1, .null, [0]), (.ifCond .ne 13, 3, 1, 0, .null, []), (.new 53, 3, 10, 0, .null, []), (.dup, 1, 0, 0, .null, []), (.ldc 55, 2, 0, 0, .null, []), (.invokespecial 57, 3, 0, 0, .null, []), (.athrow, 1, 0, 0, .null, [])]
abbrev k_B_why_1 : List xE := [(.iload_n 2, 1, 0, 0, .null, []), (.iconst 1, 1, 0, 0, .int (nI 1), []), (.if_icmp .lt 8, 3, 2, 0, .null, []), (.iload_n 2, 1, 0, 0, .null, []), (.iconst 5, 1, 0, 0, .int (nI 5), []), (.if_icmp .le 13, 3, 3, 0, .null, [])]
abbrev k_B_why_2 : List xE := [(.new 60, 3, 11, 0, .null, []), (.dup, 1, 0, 0, .null, []), (.ldc 62, 2, 0, 0, .null, []), (.invokespecial 64, 3, 0, 0, .null, []), (.athrow, 1, 0, 0, .null, [])]
abbrev k_B_why_3 : List xE := [(.aload_n 0, 1, 0, 0, .null, []), (.iload_n 1, 1, 0, 0, .null, []), (.iload_n 2, 1, 0, 0, .null, []), (.invokevirtual 65, 3, 61, 3, .null, [1]), (.ireturn, 1, 0, 0, .null, [])]
def b_B_why : List xB := [(0, k_B_why_0, 4), (17, k_B_why_1, 2), (27, k_B_why_2, 4), (37, k_B_why_3, 4)]
def m_B_why : xM := (yX3_why, cX3_why, 3, (some .int), 1, 6, false, b_B_why)
abbrev N_B_why : Nat := 47
abbrev k_B_falls_0 : List xE := [(.iload_n 1, 1, 0, 0, .null, []), (.invokestatic 49, 3, 56, 1, .null, [0]), (.ifCond .ne 13, 3, 1, 0, .null, []), (.new 53, 3, 10, 0, .null, []), (.dup, 1, 0, 0, .null, []), (.ldc 55, 2, 0, 0, .null, []), (.invokespecial 57, 3, 0, 0, .null, []), (.athrow, 1, 0, 0, .null, [])]
abbrev k_B_falls_1 : List xE := [(.iload_n 2, 1, 0, 0, .null, []), (.iconst 1, 1, 0, 0, .int (nI 1), []), (.if_icmp .lt 8, 3, 2, 0, .null, []), (.iload_n 2, 1, 0, 0, .null, []), (.iconst 5, 1, 0, 0, .int (nI 5), []), (.if_icmp .le 13, 3, 3, 0, .null, [])]
abbrev k_B_falls_2 : List xE := [(.new 60, 3, 11, 0, .null, []), (.dup, 1, 0, 0, .null, []), (.ldc 62, 2, 0, 0, .null, []), (.invokespecial 64, 3, 0, 0, .null, []), (.athrow, 1, 0, 0, .null, [])]
abbrev k_B_falls_3 : List xE := [(.aload_n 0, 1, 0, 0, .null, []), (.getfield 9, 3, 1, 0, .null, []), (.iconst 0, 1, 0, 0, .int (nI 0), []), (.iaload, 1, 0, 0, .null, []), (.aload_n 0, 1, 0, 0, .null, []), (.getfield 9, 3, 1, 0, .null, []), (.iconst 1, 1, 0, 0, .int (nI 1), []), (.iaload, 1, 0, 0, .null, []), (.iload_n 1, 1, 0, 0, .null, []), (.iload_n 2, 1, 0, 0, .null, []), (.invokestatic 178, 3, 17, 4, .null, [0]), (.ireturn, 1, 0, 0, .null, [])]
def b_B_falls : List xB := [(0, k_B_falls_0, 4), (17, k_B_falls_1, 2), (27, k_B_falls_2, 4), (37, k_B_falls_3, 4)]
def m_B_falls : xM := (yX3_falls, cX3_falls, 3, (some .int), 1, 6, false, b_B_falls)
abbrev N_B_falls : Nat := 48
abbrev k_B_wins_0 : List xE := [(.iload_n 1, 1, 0, 0, .null, []), (.ifCond .lt 8, 3, 1, 0, .null, []), (.iload_n 1, 1, 0, 0, .null, []), (.iconst 1, 1, 0, 0, .int (nI 1), []), (.if_icmp .le 13, 3, 2, 0, .null, [])]
abbrev k_B_wins_1 : List xE := [(.new 60, 3, 11, 0, .null, []), (.dup, 1, 0, 0, .null, []), (.ldc 80, 2, 0, 0, .null, []), (.invokespecial 64, 3, 0, 0, .null, []), (.athrow, 1, 0, 0, .null, [])]
abbrev k_B_wins_2 : List xE := [(.aload_n 0, 1, 0, 0, .null, []), (.invokevirtual 182, 3, 78, 1, .null, [1, 4, 799, 1]), (.iload_n 1, 1, 0, 0, .null, []), (.aload_n 0, 1, 0, 0, .null, []), (.getfield 9, 3, 1, 0, .null, []), (.iconst 0, 1, 0, 0, .int (nI 0), []), (.iaload, 1, 0, 0, .null, []), (.invokevirtual 186, 3, 24, 3, .null, [0]), (.ifCond .eq 7, 3, 3, 0, .null, []), (.iconst 1, 1, 0, 0, .int (nI 1), []), (.goto 4, 3, 4, 0, .null, [])]
abbrev k_B_wins_3 : List xE := [(.iconst 0, 1, 0, 0, .int (nI 0), [])]
abbrev k_B_wins_4 : List xE := [(.ireturn, 1, 0, 0, .null, [])]
def b_B_wins : List xB := [(0, k_B_wins_0, 1), (9, k_B_wins_1, 5), (19, k_B_wins_2, 5), (40, k_B_wins_3, 4), (41, k_B_wins_4, 5)]
def m_B_wins : xM := (yX3_wins, cX3_wins, 2, (some .int), 4, 799, true, b_B_wins)
abbrev N_B_wins : Nat := 49
abbrev k_B_best_0 : List xE := [(.aload_n 0, 1, 0, 0, .null, []), (.invokevirtual 182, 3, 78, 1, .null, [1, 4, 799, 1]), (.astore_n 1, 1, 0, 0, .null, []), (.iconst 1, 1, 0, 0, .int (nI 1), []), (.aload_n 0, 1, 0, 0, .null, []), (.getfield 9, 3, 1, 0, .null, []), (.iconst 1, 1, 0, 0, .int (nI 1), []), (.iaload, 1, 0, 0, .null, []), (.isub, 1, 0, 0, .null, []), (.istore_n 2, 1, 0, 0, .null, []), (.iconst 0, 1, 0, 0, .int (nI 0), []), (.istore_n 3, 1, 0, 0, .null, [])]
abbrev k_B_best_1 : List xE := [(.iload_n 3, 1, 0, 0, .null, []), (.iconst 5, 1, 0, 0, .int (nI 5), []), (.if_icmp .ge 62, 3, 5, 0, .null, []), (.iconst 1, 1, 0, 0, .int (nI 1), []), (.istore 4, 2, 0, 0, .null, [])]
abbrev k_B_best_2 : List xE := [(.iload 4, 2, 0, 0, .null, []), (.aload_n 0, 1, 0, 0, .null, []), (.getfield 9, 3, 1, 0, .null, []), (.iconst 3, 1, 0, 0, .int (nI 3), []), (.iaload, 1, 0, 0, .null, []), (.if_icmp .gt 42, 3, 4, 0, .null, []), (.aload_n 0, 1, 0, 0, .null, []), (.iload_n 3, 1, 0, 0, .null, []), (.iload 4, 2, 0, 0, .null, []), (.invokevirtual 65, 3, 61, 3, .null, [1]), (.ifCond .ne 26, 3, 3, 0, .null, []), (.aload_n 1, 1, 0, 0, .null, []), (.iload_n 2, 1, 0, 0, .null, []), (.aload_n 0, 1, 0, 0, .null, []), (.iload_n 3, 1, 0, 0, .null, []), (.iload 4, 2, 0, 0, .null, []), (.invokevirtual 189, 3, 62, 3, .null, [1]), (.invokevirtual 186, 3, 24, 3, .null, [0]), (.ifCond .ne 11, 3, 3, 0, .null, []), (.bipush 10, 2, 0, 0, .int (nI 10), []), (.iload_n 3, 1, 0, 0, .null, []), (.imul, 1, 0, 0, .null, []), (.iload 4, 2, 0, 0, .null, []), (.iadd, 1, 0, 0, .null, []), (.ireturn, 1, 0, 0, .null, [])]
abbrev k_B_best_3 : List xE := [(.iinc 4 1, 3, 0, 0, .int (nI 1), []), (.goto (-47), 3, 2, 0, .null, [])]
abbrev k_B_best_4 : List xE := [(.iinc 3 1, 3, 0, 0, .int (nI 1), []), (.goto (-61), 3, 1, 0, .null, [])]
abbrev k_B_best_5 : List xE := [(.iconst (-1), 1, 0, 0, .int (-1), []), (.ireturn, 1, 0, 0, .null, [])]
def b_B_best : List xB := [(0, k_B_best_0, 1), (16, k_B_best_1, 2), (24, k_B_best_2, 6), (68, k_B_best_3, 6), (74, k_B_best_4, 6), (80, k_B_best_5, 6)]
def m_B_best : xM := (yX3_best, cX3_best, 5, (some .int), 4, 799, true, b_B_best)
abbrev N_B_best : Nat := 50
abbrev k_B_length_0 : List xE := [(.iload_n 1, 1, 0, 0, .null, []), (.ifCond .lt 8, 3, 1, 0, .null, []), (.iload_n 1, 1, 0, 0, .null, []), (.iconst 1, 1, 0, 0, .int (nI 1), []), (.if_icmp .le 13, 3, 2, 0, .null, [])]
abbrev k_B_length_1 : List xE := [(.new 60, 3, 11, 0, .null, []), (.dup, 1, 0, 0, .null, []), (.ldc 192, 2, 0, 0, .null, []), (.invokespecial 64, 3, 0, 0, .null, []), (.athrow, 1, 0, 0, .null, [])]
abbrev k_B_length_2 : List xE := [(.iload_n 1, 1, 0, 0, .null, []), (.ifCond .ne 25, 3, 3, 0, .null, []), (.aload_n 0, 1, 0, 0, .null, []), (.invokevirtual 182, 3, 78, 1, .null, [1, 4, 799, 1]), (.aload_n 0, 1, 0, 0, .null, []), (.getfield 9, 3, 1, 0, .null, []), (.iconst 1, 1, 0, 0, .int (nI 1), []), (.iaload, 1, 0, 0, .null, []), (.aload_n 0, 1, 0, 0, .null, []), (.getfield 9, 3, 1, 0, .null, []), (.iconst 0, 1, 0, 0, .int (nI 0), []), (.iaload, 1, 0, 0, .null, []), (.invokevirtual 194, 3, 25, 3, .null, [0]), (.goto 22, 3, 4, 0, .null, [])]
abbrev k_B_length_3 : List xE := [(.aload_n 0, 1, 0, 0, .null, []), (.invokevirtual 182, 3, 78, 1, .null, [1, 4, 799, 1]), (.aload_n 0, 1, 0, 0, .null, []), (.getfield 9, 3, 1, 0, .null, []), (.iconst 1, 1, 0, 0, .int (nI 1), []), (.iaload, 1, 0, 0, .null, []), (.aload_n 0, 1, 0, 0, .null, []), (.getfield 9, 3, 1, 0, .null, []), (.iconst 0, 1, 0, 0, .int (nI 0), []), (.iaload, 1, 0, 0, .null, []), (.invokevirtual 197, 3, 26, 3, .null, [0])]
abbrev k_B_length_4 : List xE := [(.ireturn, 1, 0, 0, .null, [])]
def b_B_length : List xB := [(0, k_B_length_0, 1), (9, k_B_length_1, 5), (19, k_B_length_2, 5), (45, k_B_length_3, 4), (64, k_B_length_4, 5)]
def m_B_length : xM := (yX3_length, cX3_length, 2, (some .int), 4, 799, true, b_B_length)
abbrev N_B_length : Nat := 51
abbrev k_B_pyramids_0 : List xE := [(.iload_n 1, 1, 0, 0, .null, []), (.tableswitch 63 0 3 #[31, 37, 46, 55], 31, 5, 0, .null, [1, 2, 3, 4])]
abbrev k_B_pyramids_1 : List xE := [(.aload_n 0, 1, 0, 0, .null, []), (.getfield 40, 3, 1, 7, .null, []), (.arraylength, 1, 0, 0, .null, []), (.ireturn, 1, 0, 0, .null, [])]
abbrev k_B_pyramids_2 : List xE := [(.aload_n 0, 1, 0, 0, .null, []), (.invokevirtual 182, 3, 78, 1, .null, [1, 4, 799, 1]), (.iconst 0, 1, 0, 0, .int (nI 0), []), (.invokevirtual 200, 3, 27, 2, .null, [0]), (.ireturn, 1, 0, 0, .null, [])]
abbrev k_B_pyramids_3 : List xE := [(.aload_n 0, 1, 0, 0, .null, []), (.invokevirtual 182, 3, 78, 1, .null, [1, 4, 799, 1]), (.iconst 1, 1, 0, 0, .int (nI 1), []), (.invokevirtual 200, 3, 27, 2, .null, [0]), (.ireturn, 1, 0, 0, .null, [])]
abbrev k_B_pyramids_4 : List xE := [(.aload_n 0, 1, 0, 0, .null, []), (.invokevirtual 182, 3, 78, 1, .null, [1, 4, 799, 1]), (.invokevirtual 203, 3, 28, 1, .null, [0]), (.ireturn, 1, 0, 0, .null, [])]
abbrev k_B_pyramids_5 : List xE := [(.new 60, 3, 11, 0, .null, []), (.dup, 1, 0, 0, .null, []), (.ldc 206, 2, 0, 0, .null, []), (.invokespecial 64, 3, 0, 0, .null, []), (.athrow, 1, 0, 0, .null, [])]
def b_B_pyramids : List xB := [(0, k_B_pyramids_0, 6), (32, k_B_pyramids_1, 6), (38, k_B_pyramids_2, 6), (47, k_B_pyramids_3, 6), (56, k_B_pyramids_4, 6), (64, k_B_pyramids_5, 6)]
def m_B_pyramids : xM := (yX3_pyramids, cX3_pyramids, 2, (some .int), 4, 799, true, b_B_pyramids)
abbrev N_B_pyramids : Nat := 52
abbrev k_B_brokenShare_0 : List xE := [(.aload_n 0, 1, 0, 0, .null, []), (.invokevirtual 167, 3, 75, 1, .null, [1]), (.istore_n 1, 1, 0, 0, .null, []), (.iload_n 1, 1, 0, 0, .null, []), (.aload_n 0, 1, 0, 0, .null, []), (.getfield 9, 3, 1, 0, .null, []), (.bipush 16, 2, 0, 0, .int (nI 16), []), (.iaload, 1, 0, 0, .null, []), (.iadd, 1, 0, 0, .null, []), (.aload_n 0, 1, 0, 0, .null, []), (.getfield 9, 3, 1, 0, .null, []), (.bipush 17, 2, 0, 0, .int (nI 17), []), (.iaload, 1, 0, 0, .null, []), (.iadd, 1, 0, 0, .null, []), (.istore_n 2, 1, 0, 0, .null, []), (.iload_n 2, 1, 0, 0, .null, []), (.ifCond .ne 7, 3, 1, 0, .null, []), (.dconst 0, 1, 0, 0, .double FP.dconst0, []), (.goto 8, 3, 2, 0, .null, [])]
abbrev k_B_brokenShare_1 : List xE := [(.iload_n 1, 1, 0, 0, .null, []), (.i2d, 1, 0, 0, .null, []), (.iload_n 2, 1, 0, 0, .null, []), (.i2d, 1, 0, 0, .null, []), (.ddiv, 1, 0, 0, .null, [])]
abbrev k_B_brokenShare_2 : List xE := [(.dreturn, 1, 0, 0, .null, [])]
def b_B_brokenShare : List xB := [(0, k_B_brokenShare_0, 3), (31, k_B_brokenShare_1, 2), (36, k_B_brokenShare_2, 3)]
def m_B_brokenShare : xM := (yX3_brokenShare, cX3_brokenShare, 3, (some .double), 0, 0, false, b_B_brokenShare)
abbrev N_B_brokenShare : Nat := 53
abbrev k_B_wonShare_0 : List xE := [(.aload_n 0, 1, 0, 0, .null, []), (.getfield 40, 3, 1, 7, .null, []), (.arraylength, 1, 0, 0, .null, []), (.istore_n 1, 1, 0, 0, .null, []), (.iload_n 1, 1, 0, 0, .null, []), (.ifCond .ne 7, 3, 1, 0, .null, []), (.fconst 0, 1, 0, 0, .float FP.fconst0, []), (.goto 20, 3, 2, 0, .null, [])]
abbrev k_B_wonShare_1 : List xE := [(.aload_n 0, 1, 0, 0, .null, []), (.invokevirtual 182, 3, 78, 1, .null, [1, 4, 799, 1]), (.aload_n 0, 1, 0, 0, .null, []), (.getfield 9, 3, 1, 0, .null, []), (.iconst 1, 1, 0, 0, .int (nI 1), []), (.iaload, 1, 0, 0, .null, []), (.invokevirtual 200, 3, 27, 2, .null, [0]), (.i2f, 1, 0, 0, .null, []), (.iload_n 1, 1, 0, 0, .null, []), (.i2f, 1, 0, 0, .null, []), (.fdiv, 1, 0, 0, .null, [])]
abbrev k_B_wonShare_2 : List xE := [(.freturn, 1, 0, 0, .null, [])]
def b_B_wonShare : List xB := [(0, k_B_wonShare_0, 3), (14, k_B_wonShare_1, 2), (31, k_B_wonShare_2, 3)]
def m_B_wonShare : xM := (yX3_wonShare, cX3_wonShare, 2, (some .float), 4, 799, true, b_B_wonShare)
abbrev N_B_wonShare : Nat := 54
abbrev k_B_digest_0 : List xE := [(.ldc2_w 208, 3, 0, 0, .long (lN 3323), []), (.lstore_n 1, 1, 0, 0, .null, []), (.iconst 0, 1, 0, 0, .int (nI 0), []), (.istore_n 3, 1, 0, 0, .null, [])]
abbrev k_B_digest_1 : List xE := [(.iload_n 3, 1, 0, 0, .null, []), (.bipush 9, 2, 0, 0, .int (nI 9), []), (.if_icmp .gt 22, 3, 2, 0, .null, []), (.ldc2_w 210, 3, 0, 0, .long (lN 31), []), (.lload_n 1, 1, 0, 0, .null, []), (.lmul, 1, 0, 0, .null, []), (.aload_n 0, 1, 0, 0, .null, []), (.iload_n 3, 1, 0, 0, .null, []), (.invokevirtual 212, 3, 45, 2, .null, [1, 1, 6]), (.i2l, 1, 0, 0, .null, []), (.ladd, 1, 0, 0, .null, []), (.lstore_n 1, 1, 0, 0, .null, []), (.iinc 3 1, 3, 0, 0, .int (nI 1), []), (.goto (-22), 3, 1, 0, .null, [])]
abbrev k_B_digest_2 : List xE := [(.iconst 0, 1, 0, 0, .int (nI 0), []), (.istore_n 3, 1, 0, 0, .null, [])]
abbrev k_B_digest_3 : List xE := [(.iload_n 3, 1, 0, 0, .null, []), (.iconst 2, 1, 0, 0, .int (nI 2), []), (.if_icmp .gt 25, 3, 4, 0, .null, []), (.ldc2_w 210, 3, 0, 0, .long (lN 31), []), (.lload_n 1, 1, 0, 0, .null, []), (.lmul, 1, 0, 0, .null, []), (.aload_n 0, 1, 0, 0, .null, []), (.getfield 9, 3, 1, 0, .null, []), (.iconst 3, 1, 0, 0, .int (nI 3), []), (.iload_n 3, 1, 0, 0, .null, []), (.iadd, 1, 0, 0, .null, []), (.iaload, 1, 0, 0, .null, []), (.i2l, 1, 0, 0, .null, []), (.ladd, 1, 0, 0, .null, []), (.lstore_n 1, 1, 0, 0, .null, []), (.iinc 3 1, 3, 0, 0, .int (nI 1), []), (.goto (-24), 3, 3, 0, .null, [])]
abbrev k_B_digest_4 : List xE := [(.iconst 0, 1, 0, 0, .int (nI 0), []), (.istore_n 3, 1, 0, 0, .null, [])]
abbrev k_B_digest_5 : List xE := [(.iload_n 3, 1, 0, 0, .null, []), (.iconst 5, 1, 0, 0, .int (nI 5), []), (.if_icmp .ge 16, 3, 6, 0, .null, []), (.aload_n 0, 1, 0, 0, .null, []), (.lload_n 1, 1, 0, 0, .null, []), (.iload_n 3, 1, 0, 0, .null, []), (.invokevirtual 215, 3, 79, 3, .null, [1, 12, 72]), (.lstore_n 1, 1, 0, 0, .null, []), (.iinc 3 1, 3, 0, 0, .int (nI 1), []), (.goto (-15), 3, 5, 0, .null, [])]
abbrev k_B_digest_6 : List xE := [(.ldc2_w 210, 3, 0, 0, .long (lN 31), []), (.lload_n 1, 1, 0, 0, .null, []), (.lmul, 1, 0, 0, .null, []), (.aload_n 0, 1, 0, 0, .null, []), (.iconst 0, 1, 0, 0, .int (nI 0), []), (.invokevirtual 219, 3, 49, 2, .null, [1, 4, 799, 1]), (.i2l, 1, 0, 0, .null, []), (.ladd, 1, 0, 0, .null, []), (.lstore_n 1, 1, 0, 0, .null, []), (.ldc2_w 210, 3, 0, 0, .long (lN 31), []), (.lload_n 1, 1, 0, 0, .null, []), (.lmul, 1, 0, 0, .null, []), (.aload_n 0, 1, 0, 0, .null, []), (.iconst 1, 1, 0, 0, .int (nI 1), []), (.invokevirtual 219, 3, 49, 2, .null, [1, 4, 799, 1]), (.i2l, 1, 0, 0, .null, []), (.ladd, 1, 0, 0, .null, []), (.lstore_n 1, 1, 0, 0, .null, []), (.ldc2_w 210, 3, 0, 0, .long (lN 31), []), (.lload_n 1, 1, 0, 0, .null, []), (.lmul, 1, 0, 0, .null, []), (.aload_n 0, 1, 0, 0, .null, []), (.invokevirtual 222, 3, 50, 1, .null, [1, 4, 799, 1]), (.i2l, 1, 0, 0, .null, []), (.ladd, 1, 0, 0, .null, []), (.lstore_n 1, 1, 0, 0, .null, []), (.ldc2_w 210, 3, 0, 0, .long (lN 31), []), (.lload_n 1, 1, 0, 0, .null, []), (.lmul, 1, 0, 0, .null, []), (.aload_n 0, 1, 0, 0, .null, []), (.iconst 0, 1, 0, 0, .int (nI 0), []), (.invokevirtual 225, 3, 51, 2, .null, [1, 4, 799, 1]), (.i2l, 1, 0, 0, .null, []), (.ladd, 1, 0, 0, .null, []), (.lstore_n 1, 1, 0, 0, .null, []), (.ldc2_w 210, 3, 0, 0, .long (lN 31), []), (.lload_n 1, 1, 0, 0, .null, []), (.lmul, 1, 0, 0, .null, []), (.aload_n 0, 1, 0, 0, .null, []), (.iconst 1, 1, 0, 0, .int (nI 1), []), (.invokevirtual 225, 3, 51, 2, .null, [1, 4, 799, 1]), (.i2l, 1, 0, 0, .null, []), (.ladd, 1, 0, 0, .null, []), (.lstore_n 1, 1, 0, 0, .null, []), (.iconst 0, 1, 0, 0, .int (nI 0), []), (.istore_n 3, 1, 0, 0, .null, [])]
abbrev k_B_digest_7 : List xE := [(.iload_n 3, 1, 0, 0, .null, []), (.iconst 3, 1, 0, 0, .int (nI 3), []), (.if_icmp .gt 22, 3, 8, 0, .null, []), (.ldc2_w 210, 3, 0, 0, .long (lN 31), []), (.lload_n 1, 1, 0, 0, .null, []), (.lmul, 1, 0, 0, .null, []), (.aload_n 0, 1, 0, 0, .null, []), (.iload_n 3, 1, 0, 0, .null, []), (.invokevirtual 228, 3, 52, 2, .null, [1, 4, 799, 1]), (.i2l, 1, 0, 0, .null, []), (.ladd, 1, 0, 0, .null, []), (.lstore_n 1, 1, 0, 0, .null, []), (.iinc 3 1, 3, 0, 0, .int (nI 1), []), (.goto (-21), 3, 7, 0, .null, [])]
abbrev k_B_digest_8 : List xE := [(.ldc2_w 210, 3, 0, 0, .long (lN 31), []), (.lload_n 1, 1, 0, 0, .null, []), (.lmul, 1, 0, 0, .null, []), (.aload_n 0, 1, 0, 0, .null, []), (.invokevirtual 231, 3, 53, 1, .null, [1]), (.sipush 1023, 3, 0, 0, .int (nI 1023), []), (.bipush 52, 2, 0, 0, .int (nI 52), []), (.invokestatic 235, 3, 81, 3, .null, [0]), (.ladd, 1, 0, 0, .null, []), (.lstore_n 1, 1, 0, 0, .null, []), (.ldc2_w 210, 3, 0, 0, .long (lN 31), []), (.lload_n 1, 1, 0, 0, .null, []), (.lmul, 1, 0, 0, .null, []), (.aload_n 0, 1, 0, 0, .null, []), (.invokevirtual 239, 3, 54, 1, .null, [1, 4, 799, 1]), (.f2d, 1, 0, 0, .null, []), (.bipush 127, 2, 0, 0, .int (nI 127), []), (.bipush 23, 2, 0, 0, .int (nI 23), []), (.invokestatic 235, 3, 81, 3, .null, [0]), (.ladd, 1, 0, 0, .null, []), (.lstore_n 1, 1, 0, 0, .null, []), (.ldc2_w 210, 3, 0, 0, .long (lN 31), []), (.lload_n 1, 1, 0, 0, .null, []), (.lmul, 1, 0, 0, .null, []), (.aload_n 0, 1, 0, 0, .null, []), (.getfield 23, 3, 1, 4, .null, []), (.ifCond .eq 7, 3, 9, 0, .null, []), (.lconst 1, 1, 0, 0, .long (lN 1), []), (.goto 4, 3, 10, 0, .null, [])]
abbrev k_B_digest_9 : List xE := [(.lconst 0, 1, 0, 0, .long (lN 0), [])]
abbrev k_B_digest_10 : List xE := [(.ladd, 1, 0, 0, .null, []), (.lstore_n 1, 1, 0, 0, .null, []), (.aload_n 0, 1, 0, 0, .null, []), (.lload_n 1, 1, 0, 0, .null, []), (.invokevirtual 243, 3, 80, 2, .null, [1]), (.lreturn, 1, 0, 0, .null, [])]
def b_B_digest : List xB := [(0, k_B_digest_0, 1), (6, k_B_digest_1, 11), (31, k_B_digest_2, 3), (33, k_B_digest_3, 11), (60, k_B_digest_4, 5), (62, k_B_digest_5, 11), (80, k_B_digest_6, 7), (146, k_B_digest_7, 11), (170, k_B_digest_8, 11), (224, k_B_digest_9, 10), (225, k_B_digest_10, 11)]
def m_B_digest : xM := (yX3_digest, cX3_digest, 4, (some .long), 110, 8410, true, b_B_digest)
abbrev N_B_digest : Nat := 55
abbrev k_B_isRow_0 : List xE := [(.iload_n 0, 1, 0, 0, .null, []), (.ifCond .lt 12, 3, 1, 0, .null, []), (.iload_n 0, 1, 0, 0, .null, []), (.iconst 5, 1, 0, 0, .int (nI 5), []), (.if_icmp .ge 7, 3, 1, 0, .null, []), (.iconst 1, 1, 0, 0, .int (nI 1), []), (.goto 4, 3, 2, 0, .null, [])]
abbrev k_B_isRow_1 : List xE := [(.iconst 0, 1, 0, 0, .int (nI 0), [])]
abbrev k_B_isRow_2 : List xE := [(.ireturn, 1, 0, 0, .null, [])]
def b_B_isRow : List xB := [(0, k_B_isRow_0, 3), (13, k_B_isRow_1, 2), (14, k_B_isRow_2, 3)]
def m_B_isRow : xM := (yX3_isRow, cX3_isRow, 1, (some .boolean), 0, 0, false, b_B_isRow)
abbrev N_B_isRow : Nat := 56
abbrev k_B_isPlace_0 : List xE := [(.iload_n 0, 1, 0, 0, .null, []), (.invokestatic 49, 3, 56, 1, .null, [0]), (.ifCond .eq 18, 3, 1, 0, .null, []), (.iload_n 1, 1, 0, 0, .null, []), (.ifCond .lt 14, 3, 1, 0, .null, []), (.iload_n 1, 1, 0, 0, .null, []), (.iconst 5, 1, 0, 0, .int (nI 5), []), (.iload_n 0, 1, 0, 0, .null, []), (.isub, 1, 0, 0, .null, []), (.if_icmp .ge 7, 3, 1, 0, .null, []), (.iconst 1, 1, 0, 0, .int (nI 1), []), (.goto 4, 3, 2, 0, .null, [])]
abbrev k_B_isPlace_1 : List xE := [(.iconst 0, 1, 0, 0, .int (nI 0), [])]
abbrev k_B_isPlace_2 : List xE := [(.ireturn, 1, 0, 0, .null, [])]
def b_B_isPlace : List xB := [(0, k_B_isPlace_0, 3), (22, k_B_isPlace_1, 2), (23, k_B_isPlace_2, 3)]
def m_B_isPlace : xM := (yX3_isPlace, cX3_isPlace, 2, (some .boolean), 0, 0, false, b_B_isPlace)
abbrev N_B_isPlace : Nat := 57
abbrev k_B_isSetting_0 : List xE := [(.iload_n 0, 1, 0, 0, .null, []), (.ifCond .lt 12, 3, 1, 0, .null, []), (.iload_n 0, 1, 0, 0, .null, []), (.iconst 2, 1, 0, 0, .int (nI 2), []), (.if_icmp .gt 7, 3, 1, 0, .null, []), (.iconst 1, 1, 0, 0, .int (nI 1), []), (.goto 4, 3, 2, 0, .null, [])]
abbrev k_B_isSetting_1 : List xE := [(.iconst 0, 1, 0, 0, .int (nI 0), [])]
abbrev k_B_isSetting_2 : List xE := [(.ireturn, 1, 0, 0, .null, [])]
def b_B_isSetting : List xB := [(0, k_B_isSetting_0, 3), (13, k_B_isSetting_1, 2), (14, k_B_isSetting_2, 3)]
def m_B_isSetting : xM := (yX3_isSetting, cX3_isSetting, 1, (some .boolean), 0, 0, false, b_B_isSetting)
abbrev N_B_isSetting : Nat := 58
abbrev k_B_save_0 : List xE := [(.aload_n 0, 1, 0, 0, .null, []), (.getfield 16, 3, 1, 2, .null, []), (.bipush 6, 2, 0, 0, .int (nI 6), []), (.if_icmp .lt 24, 3, 1, 0, .null, []), (.aload_n 0, 1, 0, 0, .null, []), (.getfield 13, 3, 1, 1, .null, []), (.bipush 18, 2, 0, 0, .int (nI 18), []), (.aload_n 0, 1, 0, 0, .null, []), (.getfield 13, 3, 1, 1, .null, []), (.iconst 0, 1, 0, 0, .int (nI 0), []), (.bipush 90, 2, 0, 0, .int (nI 90), []), (.invokestatic 137, 3, 900, 0, .null, []), (.aload_n 0, 1, 0, 0, .null, []), (.iconst 5, 1, 0, 0, .int (nI 5), []), (.putfield 16, 3, 1, 2, .null, [0])]
abbrev k_B_save_1 : List xE := [(.aload_n 0, 1, 0, 0, .null, []), (.getfield 9, 3, 1, 0, .null, []), (.iconst 0, 1, 0, 0, .int (nI 0), []), (.aload_n 0, 1, 0, 0, .null, []), (.getfield 13, 3, 1, 1, .null, []), (.aload_n 0, 1, 0, 0, .null, []), (.getfield 16, 3, 1, 2, .null, []), (.bipush 18, 2, 0, 0, .int (nI 18), []), (.imul, 1, 0, 0, .null, []), (.bipush 18, 2, 0, 0, .int (nI 18), []), (.invokestatic 137, 3, 900, 0, .null, []), (.aload_n 0, 1, 0, 0, .null, []), (.dup, 1, 0, 0, .null, []), (.getfield 16, 3, 1, 2, .null, []), (.iconst 1, 1, 0, 0, .int (nI 1), []), (.iadd, 1, 0, 0, .null, []), (.putfield 16, 3, 1, 2, .null, [0]), (.return_, 1, 0, 0, .null, [])]
def b_B_save : List xB := [(0, k_B_save_0, 1), (30, k_B_save_1, 2)]
def m_B_save : xM := (yX3_save, cX3_save, 1, none, 0, 0, false, b_B_save)
abbrev N_B_save : Nat := 59
abbrev k_B_isBarring_0 : List xE := [(.aload_n 0, 1, 0, 0, .null, []), (.getfield 9, 3, 1, 0, .null, []), (.iconst 4, 1, 0, 0, .int (nI 4), []), (.iaload, 1, 0, 0, .null, []), (.iconst 1, 1, 0, 0, .int (nI 1), []), (.if_icmp .ne 7, 3, 1, 0, .null, []), (.iconst 1, 1, 0, 0, .int (nI 1), []), (.goto 4, 3, 2, 0, .null, [])]
abbrev k_B_isBarring_1 : List xE := [(.iconst 0, 1, 0, 0, .int (nI 0), [])]
abbrev k_B_isBarring_2 : List xE := [(.ireturn, 1, 0, 0, .null, [])]
def b_B_isBarring : List xB := [(0, k_B_isBarring_0, 3), (14, k_B_isBarring_1, 2), (15, k_B_isBarring_2, 3)]
def m_B_isBarring : xM := (yX3_isBarring, cX3_isBarring, 1, (some .boolean), 0, 0, false, b_B_isBarring)
abbrev N_B_isBarring : Nat := 60
abbrev k_B_reasonAgainst_0 : List xE := [(.iload_n 2, 1, 0, 0, .null, []), (.aload_n 0, 1, 0, 0, .null, []), (.getfield 9, 3, 1, 0, .null, []), (.iconst 3, 1, 0, 0, .int (nI 3), []), (.iaload, 1, 0, 0, .null, []), (.if_icmp .le 5, 3, 1, 0, .null, []), (.iconst 1, 1, 0, 0, .int (nI 1), []), (.ireturn, 1, 0, 0, .null, [])]
abbrev k_B_reasonAgainst_1 : List xE := [(.aload_n 0, 1, 0, 0, .null, []), (.getfield 9, 3, 1, 0, .null, []), (.iconst 0, 1, 0, 0, .int (nI 0), []), (.iaload, 1, 0, 0, .null, []), (.aload_n 0, 1, 0, 0, .null, []), (.getfield 9, 3, 1, 0, .null, []), (.iconst 1, 1, 0, 0, .int (nI 1), []), (.iaload, 1, 0, 0, .null, []), (.iload_n 1, 1, 0, 0, .null, []), (.iload_n 2, 1, 0, 0, .null, []), (.invokestatic 178, 3, 17, 4, .null, [0]), (.istore_n 3, 1, 0, 0, .null, []), (.iload_n 3, 1, 0, 0, .null, []), (.iconst (-1), 1, 0, 0, .int (-1), []), (.if_icmp .ne 5, 3, 2, 0, .null, []), (.iconst 2, 1, 0, 0, .int (nI 2), []), (.ireturn, 1, 0, 0, .null, [])]
abbrev k_B_reasonAgainst_2 : List xE := [(.aload_n 0, 1, 0, 0, .null, []), (.invokevirtual 247, 3, 60, 1, .null, [1]), (.ifCond .eq 11, 3, 3, 0, .null, []), (.iload_n 3, 1, 0, 0, .null, []), (.ifCond .le 7, 3, 3, 0, .null, []), (.iconst 3, 1, 0, 0, .int (nI 3), []), (.goto 4, 3, 4, 0, .null, [])]
abbrev k_B_reasonAgainst_3 : List xE := [(.iconst 0, 1, 0, 0, .int (nI 0), [])]
abbrev k_B_reasonAgainst_4 : List xE := [(.ireturn, 1, 0, 0, .null, [])]
def b_B_reasonAgainst : List xB := [(0, k_B_reasonAgainst_0, 5), (12, k_B_reasonAgainst_1, 5), (37, k_B_reasonAgainst_2, 5), (52, k_B_reasonAgainst_3, 4), (53, k_B_reasonAgainst_4, 5)]
def m_B_reasonAgainst : xM := (yX3_reasonAgainst, cX3_reasonAgainst, 4, (some .int), 0, 0, false, b_B_reasonAgainst)
abbrev N_B_reasonAgainst : Nat := 61
abbrev k_B_maskBehind_0 : List xE := [(.aload_n 0, 1, 0, 0, .null, []), (.getfield 9, 3, 1, 0, .null, []), (.iconst 0, 1, 0, 0, .int (nI 0), []), (.iaload, 1, 0, 0, .null, []), (.aload_n 0, 1, 0, 0, .null, []), (.getfield 9, 3, 1, 0, .null, []), (.iconst 1, 1, 0, 0, .int (nI 1), []), (.iaload, 1, 0, 0, .null, []), (.iload_n 1, 1, 0, 0, .null, []), (.iload_n 2, 1, 0, 0, .null, []), (.invokestatic 250, 3, 16, 4, .null, [0]), (.invokestatic 253, 3, 14, 1, .null, [0]), (.ireturn, 1, 0, 0, .null, [])]
def b_B_maskBehind : List xB := [(0, k_B_maskBehind_0, 1)]
def m_B_maskBehind : xM := (yX3_maskBehind, cX3_maskBehind, 3, (some .int), 0, 0, false, b_B_maskBehind)
abbrev N_B_maskBehind : Nat := 62
abbrev k_B_steal_0 : List xE := [(.aload_n 0, 1, 0, 0, .null, []), (.getfield 9, 3, 1, 0, .null, []), (.iconst 1, 1, 0, 0, .int (nI 1), []), (.iaload, 1, 0, 0, .null, []), (.istore_n 3, 1, 0, 0, .null, []), (.aload_n 0, 1, 0, 0, .null, []), (.getfield 9, 3, 1, 0, .null, []), (.bipush 6, 2, 0, 0, .int (nI 6), []), (.iload_n 1, 1, 0, 0, .null, []), (.iadd, 1, 0, 0, .null, []), (.dup2, 1, 0, 0, .null, []), (.iaload, 1, 0, 0, .null, []), (.iload_n 2, 1, 0, 0, .null, []), (.iadd, 1, 0, 0, .null, []), (.iastore, 1, 0, 0, .null, []), (.aload_n 0, 1, 0, 0, .null, []), (.getfield 9, 3, 1, 0, .null, []), (.bipush 16, 2, 0, 0, .int (nI 16), []), (.iload_n 3, 1, 0, 0, .null, []), (.iadd, 1, 0, 0, .null, []), (.dup2, 1, 0, 0, .null, []), (.iaload, 1, 0, 0, .null, []), (.iload_n 2, 1, 0, 0, .null, []), (.iadd, 1, 0, 0, .null, []), (.iastore, 1, 0, 0, .null, []), (.aload_n 0, 1, 0, 0, .null, []), (.getfield 9, 3, 1, 0, .null, []), (.iconst 2, 1, 0, 0, .int (nI 2), []), (.dup2, 1, 0, 0, .null, []), (.iaload, 1, 0, 0, .null, []), (.iconst 1, 1, 0, 0, .int (nI 1), []), (.iadd, 1, 0, 0, .null, []), (.iastore, 1, 0, 0, .null, []), (.aload_n 0, 1, 0, 0, .null, []), (.getfield 9, 3, 1, 0, .null, []), (.iconst 1, 1, 0, 0, .int (nI 1), []), (.iconst 1, 1, 0, 0, .int (nI 1), []), (.iload_n 3, 1, 0, 0, .null, []), (.isub, 1, 0, 0, .null, []), (.iastore, 1, 0, 0, .null, []), (.aload_n 0, 1, 0, 0, .null, []), (.aload_n 0, 1, 0, 0, .null, []), (.getfield 9, 3, 1, 0, .null, []), (.iconst 0, 1, 0, 0, .int (nI 0), []), (.iaload, 1, 0, 0, .null, []), (.iload_n 3, 1, 0, 0, .null, []), (.iload_n 1, 1, 0, 0, .null, []), (.iload_n 2, 1, 0, 0, .null, []), (.invokestatic 250, 3, 16, 4, .null, [0]), (.invokevirtual 256, 3, 65, 2, .null, [1]), (.ireturn, 1, 0, 0, .null, [])]
def b_B_steal : List xB := [(0, k_B_steal_0, 1)]
def m_B_steal : xM := (yX3_steal, cX3_steal, 4, (some .int), 0, 0, false, b_B_steal)
abbrev N_B_steal : Nat := 63
abbrev k_B_knockOut_0 : List xE := [(.aload_n 0, 1, 0, 0, .null, []), (.getfield 9, 3, 1, 0, .null, []), (.bipush 11, 2, 0, 0, .int (nI 11), []), (.iload_n 1, 1, 0, 0, .null, []), (.iadd, 1, 0, 0, .null, []), (.dup2, 1, 0, 0, .null, []), (.iaload, 1, 0, 0, .null, []), (.iconst 1, 1, 0, 0, .int (nI 1), []), (.iadd, 1, 0, 0, .null, []), (.iastore, 1, 0, 0, .null, []), (.aload_n 0, 1, 0, 0, .null, []), (.aload_n 0, 1, 0, 0, .null, []), (.getfield 9, 3, 1, 0, .null, []), (.iconst 0, 1, 0, 0, .int (nI 0), []), (.iaload, 1, 0, 0, .null, []), (.iload_n 1, 1, 0, 0, .null, []), (.iload_n 2, 1, 0, 0, .null, []), (.invokestatic 259, 3, 10, 2, .null, [0]), (.iconst (-1), 1, 0, 0, .int (-1), []), (.ixor, 1, 0, 0, .null, []), (.iand, 1, 0, 0, .null, []), (.invokevirtual 256, 3, 65, 2, .null, [1]), (.ireturn, 1, 0, 0, .null, [])]
def b_B_knockOut : List xB := [(0, k_B_knockOut_0, 1)]
def m_B_knockOut : xM := (yX3_knockOut, cX3_knockOut, 3, (some .int), 0, 0, false, b_B_knockOut)
abbrev N_B_knockOut : Nat := 64
abbrev k_B_letFall_0 : List xE := [(.iload_n 1, 1, 0, 0, .null, []), (.invokestatic 253, 3, 14, 1, .null, [0]), (.istore_n 2, 1, 0, 0, .null, []), (.iload_n 1, 1, 0, 0, .null, []), (.iload_n 2, 1, 0, 0, .null, []), (.iconst (-1), 1, 0, 0, .int (-1), []), (.ixor, 1, 0, 0, .null, []), (.iand, 1, 0, 0, .null, []), (.istore_n 3, 1, 0, 0, .null, []), (.iconst 0, 1, 0, 0, .int (nI 0), []), (.istore 4, 2, 0, 0, .null, [])]
abbrev k_B_letFall_1 : List xE := [(.iload 4, 2, 0, 0, .null, []), (.iconst 5, 1, 0, 0, .int (nI 5), []), (.if_icmp .ge 31, 3, 2, 0, .null, []), (.aload_n 0, 1, 0, 0, .null, []), (.getfield 9, 3, 1, 0, .null, []), (.bipush 11, 2, 0, 0, .int (nI 11), []), (.iload 4, 2, 0, 0, .null, []), (.iadd, 1, 0, 0, .null, []), (.dup2, 1, 0, 0, .null, []), (.iaload, 1, 0, 0, .null, []), (.iload_n 3, 1, 0, 0, .null, []), (.iload 4, 2, 0, 0, .null, []), (.invokestatic 147, 3, 11, 2, .null, [0]), (.invokestatic 150, 3, 0, 1, .null, [0]), (.iadd, 1, 0, 0, .null, []), (.iastore, 1, 0, 0, .null, []), (.iinc 4 1, 3, 0, 0, .int (nI 1), []), (.goto (-31), 3, 1, 0, .null, [])]
abbrev k_B_letFall_2 : List xE := [(.aload_n 0, 1, 0, 0, .null, []), (.getfield 9, 3, 1, 0, .null, []), (.iconst 0, 1, 0, 0, .int (nI 0), []), (.iload_n 2, 1, 0, 0, .null, []), (.iastore, 1, 0, 0, .null, []), (.iload_n 3, 1, 0, 0, .null, []), (.invokestatic 150, 3, 0, 1, .null, [0]), (.ireturn, 1, 0, 0, .null, [])]
def b_B_letFall : List xB := [(0, k_B_letFall_0, 1), (14, k_B_letFall_1, 3), (48, k_B_letFall_2, 3)]
def m_B_letFall : xM := (yX3_letFall, cX3_letFall, 5, (some .int), 0, 0, false, b_B_letFall)
abbrev N_B_letFall : Nat := 65
abbrev k_B_addBottle_0 : List xE := [(.aload_n 0, 1, 0, 0, .null, []), (.getfield 9, 3, 1, 0, .null, []), (.iconst 0, 1, 0, 0, .int (nI 0), []), (.dup2, 1, 0, 0, .null, []), (.iaload, 1, 0, 0, .null, []), (.iload_n 1, 1, 0, 0, .null, []), (.iload_n 2, 1, 0, 0, .null, []), (.invokestatic 259, 3, 10, 2, .null, [0]), (.ior, 1, 0, 0, .null, []), (.iastore, 1, 0, 0, .null, []), (.aload_n 0, 1, 0, 0, .null, []), (.getfield 9, 3, 1, 0, .null, []), (.iconst 0, 1, 0, 0, .int (nI 0), []), (.iaload, 1, 0, 0, .null, []), (.invokestatic 150, 3, 0, 1, .null, [0]), (.ireturn, 1, 0, 0, .null, [])]
def b_B_addBottle : List xB := [(0, k_B_addBottle_0, 1)]
def m_B_addBottle : xM := (yX3_addBottle, cX3_addBottle, 3, (some .int), 0, 0, false, b_B_addBottle)
abbrev N_B_addBottle : Nat := 66
abbrev k_B_swapSides_0 : List xE := [(.aload_n 0, 1, 0, 0, .null, []), (.getfield 9, 3, 1, 0, .null, []), (.iconst 0, 1, 0, 0, .int (nI 0), []), (.aload_n 0, 1, 0, 0, .null, []), (.getfield 9, 3, 1, 0, .null, []), (.iconst 0, 1, 0, 0, .int (nI 0), []), (.iaload, 1, 0, 0, .null, []), (.invokestatic 262, 3, 15, 1, .null, [0]), (.iastore, 1, 0, 0, .null, []), (.aload_n 0, 1, 0, 0, .null, []), (.getfield 9, 3, 1, 0, .null, []), (.iconst 1, 1, 0, 0, .int (nI 1), []), (.iconst 1, 1, 0, 0, .int (nI 1), []), (.aload_n 0, 1, 0, 0, .null, []), (.getfield 9, 3, 1, 0, .null, []), (.iconst 1, 1, 0, 0, .int (nI 1), []), (.iaload, 1, 0, 0, .null, []), (.isub, 1, 0, 0, .null, []), (.iastore, 1, 0, 0, .null, []), (.aload_n 0, 1, 0, 0, .null, []), (.getfield 9, 3, 1, 0, .null, []), (.iconst 0, 1, 0, 0, .int (nI 0), []), (.iaload, 1, 0, 0, .null, []), (.ireturn, 1, 0, 0, .null, [])]
def b_B_swapSides : List xB := [(0, k_B_swapSides_0, 1)]
def m_B_swapSides : xM := (yX3_swapSides, cX3_swapSides, 1, (some .int), 0, 0, false, b_B_swapSides)
abbrev N_B_swapSides : Nat := 67
abbrev k_B_fillUp_0 : List xE := [(.sipush 32767, 3, 0, 0, .int (nI 32767), []), (.invokestatic 150, 3, 0, 1, .null, [0]), (.aload_n 0, 1, 0, 0, .null, []), (.getfield 9, 3, 1, 0, .null, []), (.iconst 0, 1, 0, 0, .int (nI 0), []), (.iaload, 1, 0, 0, .null, []), (.invokestatic 150, 3, 0, 1, .null, [0]), (.isub, 1, 0, 0, .null, []), (.istore_n 1, 1, 0, 0, .null, []), (.aload_n 0, 1, 0, 0, .null, []), (.getfield 9, 3, 1, 0, .null, []), (.iconst 0, 1, 0, 0, .int (nI 0), []), (.sipush 32767, 3, 0, 0, .int (nI 32767), []), (.iastore, 1, 0, 0, .null, []), (.aload_n 0, 1, 0, 0, .null, []), (.getfield 9, 3, 1, 0, .null, []), (.iconst 1, 1, 0, 0, .int (nI 1), []), (.iconst 0, 1, 0, 0, .int (nI 0), []), (.iastore, 1, 0, 0, .null, []), (.iload_n 1, 1, 0, 0, .null, []), (.ireturn, 1, 0, 0, .null, [])]
def b_B_fillUp : List xB := [(0, k_B_fillUp_0, 1)]
def m_B_fillUp : xM := (yX3_fillUp, cX3_fillUp, 2, (some .int), 0, 0, false, b_B_fillUp)
abbrev N_B_fillUp : Nat := 68
abbrev k_B_isComplete_0 : List xE := [(.iconst 0, 1, 0, 0, .int (nI 0), []), (.istore_n 1, 1, 0, 0, .null, []), (.iconst 0, 1, 0, 0, .int (nI 0), []), (.istore_n 2, 1, 0, 0, .null, [])]
abbrev k_B_isComplete_1 : List xE := [(.iload_n 2, 1, 0, 0, .null, []), (.aload_n 0, 1, 0, 0, .null, []), (.getfield 31, 3, 1, 6, .null, []), (.if_icmp .ge 20, 3, 2, 0, .null, []), (.iload_n 1, 1, 0, 0, .null, []), (.aload_n 0, 1, 0, 0, .null, []), (.getfield 27, 3, 1, 5, .null, []), (.iload_n 2, 1, 0, 0, .null, []), (.caload, 1, 0, 0, .null, []), (.invokestatic 125, 3, 7, 2, .null, [0]), (.istore_n 1, 1, 0, 0, .null, []), (.iinc 2 1, 3, 0, 0, .int (nI 1), []), (.goto (-22), 3, 1, 0, .null, [])]
abbrev k_B_isComplete_2 : List xE := [(.iload_n 1, 1, 0, 0, .null, []), (.iconst 1, 1, 0, 0, .int (nI 1), []), (.if_icmp .ne 7, 3, 3, 0, .null, []), (.iconst 1, 1, 0, 0, .int (nI 1), []), (.goto 4, 3, 4, 0, .null, [])]
abbrev k_B_isComplete_3 : List xE := [(.iconst 0, 1, 0, 0, .int (nI 0), [])]
abbrev k_B_isComplete_4 : List xE := [(.ireturn, 1, 0, 0, .null, [])]
def b_B_isComplete : List xB := [(0, k_B_isComplete_0, 1), (4, k_B_isComplete_1, 5), (29, k_B_isComplete_2, 5), (38, k_B_isComplete_3, 4), (39, k_B_isComplete_4, 5)]
def m_B_isComplete : xM := (yX3_isComplete, cX3_isComplete, 3, (some .boolean), 0, 0, false, b_B_isComplete)
abbrev N_B_isComplete : Nat := 69
abbrev k_B_doOrders_0 : List xE := [(.iconst 0, 1, 0, 0, .int (nI 0), []), (.istore_n 1, 1, 0, 0, .null, []), (.bipush 59, 2, 0, 0, .int (nI 59), []), (.istore_n 2, 1, 0, 0, .null, []), (.iconst 0, 1, 0, 0, .int (nI 0), []), (.istore_n 3, 1, 0, 0, .null, []), (.iconst 0, 1, 0, 0, .int (nI 0), []), (.istore 4, 2, 0, 0, .null, []), (.iconst 0, 1, 0, 0, .int (nI 0), []), (.istore 5, 2, 0, 0, .null, [])]
abbrev k_B_doOrders_1 : List xE := [(.iload 5, 2, 0, 0, .null, []), (.aload_n 0, 1, 0, 0, .null, []), (.getfield 31, 3, 1, 6, .null, []), (.if_icmp .gt 88, 3, 8, 0, .null, []), (.iload 5, 2, 0, 0, .null, []), (.aload_n 0, 1, 0, 0, .null, []), (.getfield 31, 3, 1, 6, .null, []), (.if_icmp .ge 13, 3, 2, 0, .null, []), (.aload_n 0, 1, 0, 0, .null, []), (.getfield 27, 3, 1, 5, .null, []), (.iload 5, 2, 0, 0, .null, []), (.caload, 1, 0, 0, .null, []), (.goto 5, 3, 3, 0, .null, [])]
abbrev k_B_doOrders_2 : List xE := [(.bipush 59, 2, 0, 0, .int (nI 59), [])]
abbrev k_B_doOrders_3 : List xE := [(.istore 6, 2, 0, 0, .null, []), (.iload 6, 2, 0, 0, .null, []), (.bipush 59, 2, 0, 0, .int (nI 59), []), (.if_icmp .ne 22, 3, 5, 0, .null, []), (.aload_n 0, 1, 0, 0, .null, []), (.iload_n 2, 1, 0, 0, .null, []), (.iload_n 3, 1, 0, 0, .null, []), (.iload 4, 2, 0, 0, .null, []), (.invokevirtual 265, 3, 71, 4, .null, [1]), (.ifCond .ne 5, 3, 4, 0, .null, []), (.iload_n 1, 1, 0, 0, .null, []), (.ireturn, 1, 0, 0, .null, [])]
abbrev k_B_doOrders_4 : List xE := [(.iinc 1 1, 3, 0, 0, .int (nI 1), []), (.goto 33, 3, 7, 0, .null, [])]
abbrev k_B_doOrders_5 : List xE := [(.iload 6, 2, 0, 0, .null, []), (.bipush 48, 2, 0, 0, .int (nI 48), []), (.if_icmp .lt 23, 3, 6, 0, .null, []), (.iload 6, 2, 0, 0, .null, []), (.bipush 52, 2, 0, 0, .int (nI 52), []), (.if_icmp .gt 16, 3, 6, 0, .null, []), (.iload 4, 2, 0, 0, .null, []), (.istore_n 3, 1, 0, 0, .null, []), (.iload 6, 2, 0, 0, .null, []), (.bipush 48, 2, 0, 0, .int (nI 48), []), (.isub, 1, 0, 0, .null, []), (.istore 4, 2, 0, 0, .null, []), (.goto 6, 3, 7, 0, .null, [])]
abbrev k_B_doOrders_6 : List xE := [(.iload 6, 2, 0, 0, .null, []), (.istore_n 2, 1, 0, 0, .null, [])]
abbrev k_B_doOrders_7 : List xE := [(.iinc 5 1, 3, 0, 0, .int (nI 1), []), (.goto (-91), 3, 1, 0, .null, [])]
abbrev k_B_doOrders_8 : List xE := [(.iload_n 1, 1, 0, 0, .null, []), (.ireturn, 1, 0, 0, .null, [])]
def b_B_doOrders : List xB := [(0, k_B_doOrders_0, 1), (13, k_B_doOrders_1, 9), (41, k_B_doOrders_2, 3), (43, k_B_doOrders_3, 9), (65, k_B_doOrders_4, 9), (71, k_B_doOrders_5, 9), (98, k_B_doOrders_6, 7), (101, k_B_doOrders_7, 9), (107, k_B_doOrders_8, 9)]
def m_B_doOrders : xM := (yX3_doOrders, cX3_doOrders, 7, (some .int), 0, 0, false, b_B_doOrders)
abbrev N_B_doOrders : Nat := 70
abbrev k_B_doOrder_0 : List xE := [(.iload_n 1, 1, 0, 0, .null, []), (.tableswitch 139 107 116 #[75, 139, 125, 139, 139, 100, 139, 132, 139, 55], 55, 9, 107, .null, [3, 9, 7, 9, 9, 5, 9, 8, 9, 1])]
abbrev k_B_doOrder_1 : List xE := [(.aload_n 0, 1, 0, 0, .null, []), (.iload_n 2, 1, 0, 0, .null, []), (.iload_n 3, 1, 0, 0, .null, []), (.invokevirtual 65, 3, 61, 3, .null, [1]), (.ifCond .eq 5, 3, 2, 0, .null, []), (.iconst 0, 1, 0, 0, .int (nI 0), []), (.ireturn, 1, 0, 0, .null, [])]
abbrev k_B_doOrder_2 : List xE := [(.aload_n 0, 1, 0, 0, .null, []), (.iload_n 2, 1, 0, 0, .null, []), (.iload_n 3, 1, 0, 0, .null, []), (.invokevirtual 77, 3, 63, 3, .null, [1]), (.pop, 1, 0, 0, .null, []), (.iconst 1, 1, 0, 0, .int (nI 1), []), (.ireturn, 1, 0, 0, .null, [])]
abbrev k_B_doOrder_3 : List xE := [(.aload_n 0, 1, 0, 0, .null, []), (.getfield 9, 3, 1, 0, .null, []), (.iconst 0, 1, 0, 0, .int (nI 0), []), (.iaload, 1, 0, 0, .null, []), (.iload_n 2, 1, 0, 0, .null, []), (.iload_n 3, 1, 0, 0, .null, []), (.invokestatic 88, 3, 12, 3, .null, [0]), (.ifCond .ne 5, 3, 4, 0, .null, []), (.iconst 0, 1, 0, 0, .int (nI 0), []), (.ireturn, 1, 0, 0, .null, [])]
abbrev k_B_doOrder_4 : List xE := [(.aload_n 0, 1, 0, 0, .null, []), (.iload_n 2, 1, 0, 0, .null, []), (.iload_n 3, 1, 0, 0, .null, []), (.invokevirtual 94, 3, 64, 3, .null, [1]), (.pop, 1, 0, 0, .null, []), (.iconst 1, 1, 0, 0, .int (nI 1), []), (.ireturn, 1, 0, 0, .null, [])]
abbrev k_B_doOrder_5 : List xE := [(.aload_n 0, 1, 0, 0, .null, []), (.getfield 9, 3, 1, 0, .null, []), (.iconst 0, 1, 0, 0, .int (nI 0), []), (.iaload, 1, 0, 0, .null, []), (.iload_n 2, 1, 0, 0, .null, []), (.iload_n 3, 1, 0, 0, .null, []), (.invokestatic 97, 3, 13, 3, .null, [0]), (.ifCond .ne 5, 3, 6, 0, .null, []), (.iconst 0, 1, 0, 0, .int (nI 0), []), (.ireturn, 1, 0, 0, .null, [])]
abbrev k_B_doOrder_6 : List xE := [(.aload_n 0, 1, 0, 0, .null, []), (.iload_n 2, 1, 0, 0, .null, []), (.iload_n 3, 1, 0, 0, .null, []), (.invokevirtual 102, 3, 66, 3, .null, [1]), (.pop, 1, 0, 0, .null, []), (.iconst 1, 1, 0, 0, .int (nI 1), []), (.ireturn, 1, 0, 0, .null, [])]
abbrev k_B_doOrder_7 : List xE := [(.aload_n 0, 1, 0, 0, .null, []), (.invokevirtual 105, 3, 67, 1, .null, [1]), (.pop, 1, 0, 0, .null, []), (.iconst 1, 1, 0, 0, .int (nI 1), []), (.ireturn, 1, 0, 0, .null, [])]
abbrev k_B_doOrder_8 : List xE := [(.aload_n 0, 1, 0, 0, .null, []), (.invokevirtual 109, 3, 68, 1, .null, [1]), (.pop, 1, 0, 0, .null, []), (.iconst 1, 1, 0, 0, .int (nI 1), []), (.ireturn, 1, 0, 0, .null, [])]
abbrev k_B_doOrder_9 : List xE := [(.iconst 0, 1, 0, 0, .int (nI 0), []), (.ireturn, 1, 0, 0, .null, [])]
def b_B_doOrder : List xB := [(0, k_B_doOrder_0, 10), (56, k_B_doOrder_1, 10), (67, k_B_doOrder_2, 10), (76, k_B_doOrder_3, 10), (92, k_B_doOrder_4, 10), (101, k_B_doOrder_5, 10), (117, k_B_doOrder_6, 10), (126, k_B_doOrder_7, 10), (133, k_B_doOrder_8, 10), (140, k_B_doOrder_9, 10)]
def m_B_doOrder : xM := (yX3_doOrder, cX3_doOrder, 4, (some .boolean), 0, 0, false, b_B_doOrder)
abbrev N_B_doOrder : Nat := 71
abbrev k_B_lowestPlace_0 : List xE := [(.iconst 0, 1, 0, 0, .int (nI 0), []), (.istore_n 2, 1, 0, 0, .null, [])]
abbrev k_B_lowestPlace_1 : List xE := [(.iload_n 2, 1, 0, 0, .null, []), (.iconst 5, 1, 0, 0, .int (nI 5), []), (.iload_n 1, 1, 0, 0, .null, []), (.isub, 1, 0, 0, .null, []), (.if_icmp .ge 25, 3, 3, 0, .null, []), (.aload_n 0, 1, 0, 0, .null, []), (.getfield 9, 3, 1, 0, .null, []), (.iconst 0, 1, 0, 0, .int (nI 0), []), (.iaload, 1, 0, 0, .null, []), (.iload_n 1, 1, 0, 0, .null, []), (.iload_n 2, 1, 0, 0, .null, []), (.invokestatic 88, 3, 12, 3, .null, [0]), (.ifCond .eq 5, 3, 2, 0, .null, []), (.iload_n 2, 1, 0, 0, .null, []), (.ireturn, 1, 0, 0, .null, [])]
abbrev k_B_lowestPlace_2 : List xE := [(.iinc 2 1, 3, 0, 0, .int (nI 1), []), (.goto (-26), 3, 1, 0, .null, [])]
abbrev k_B_lowestPlace_3 : List xE := [(.iconst (-1), 1, 0, 0, .int (-1), []), (.ireturn, 1, 0, 0, .null, [])]
def b_B_lowestPlace : List xB := [(0, k_B_lowestPlace_0, 1), (2, k_B_lowestPlace_1, 4), (25, k_B_lowestPlace_2, 4), (31, k_B_lowestPlace_3, 4)]
def m_B_lowestPlace : xM := (yX3_lowestPlace, cX3_lowestPlace, 3, (some .int), 0, 0, false, b_B_lowestPlace)
abbrev N_B_lowestPlace : Nat := 72
abbrev k_B_highestPlace_0 : List xE := [(.iconst 5, 1, 0, 0, .int (nI 5), []), (.iload_n 1, 1, 0, 0, .null, []), (.isub, 1, 0, 0, .null, []), (.iconst 1, 1, 0, 0, .int (nI 1), []), (.isub, 1, 0, 0, .null, []), (.istore_n 2, 1, 0, 0, .null, [])]
abbrev k_B_highestPlace_1 : List xE := [(.iload_n 2, 1, 0, 0, .null, []), (.ifCond .lt 25, 3, 3, 0, .null, []), (.aload_n 0, 1, 0, 0, .null, []), (.getfield 9, 3, 1, 0, .null, []), (.iconst 0, 1, 0, 0, .int (nI 0), []), (.iaload, 1, 0, 0, .null, []), (.iload_n 1, 1, 0, 0, .null, []), (.iload_n 2, 1, 0, 0, .null, []), (.invokestatic 88, 3, 12, 3, .null, [0]), (.ifCond .eq 5, 3, 2, 0, .null, []), (.iload_n 2, 1, 0, 0, .null, []), (.ireturn, 1, 0, 0, .null, [])]
abbrev k_B_highestPlace_2 : List xE := [(.iinc 2 (-1), 3, 0, 0, .int (-1), []), (.goto (-23), 3, 1, 0, .null, [])]
abbrev k_B_highestPlace_3 : List xE := [(.iconst (-1), 1, 0, 0, .int (-1), []), (.ireturn, 1, 0, 0, .null, [])]
def b_B_highestPlace : List xB := [(0, k_B_highestPlace_0, 1), (6, k_B_highestPlace_1, 4), (26, k_B_highestPlace_2, 4), (32, k_B_highestPlace_3, 4)]
def m_B_highestPlace : xM := (yX3_highestPlace, cX3_highestPlace, 3, (some .int), 0, 0, false, b_B_highestPlace)
abbrev N_B_highestPlace : Nat := 73
abbrev k_B_greatestTheft_0 : List xE := [(.aload_n 0, 1, 0, 0, .null, []), (.getfield 9, 3, 1, 0, .null, []), (.iconst 3, 1, 0, 0, .int (nI 3), []), (.iaload, 1, 0, 0, .null, []), (.istore_n 2, 1, 0, 0, .null, [])]
abbrev k_B_greatestTheft_1 : List xE := [(.iload_n 2, 1, 0, 0, .null, []), (.iconst 1, 1, 0, 0, .int (nI 1), []), (.if_icmp .lt 20, 3, 3, 0, .null, []), (.aload_n 0, 1, 0, 0, .null, []), (.iload_n 1, 1, 0, 0, .null, []), (.iload_n 2, 1, 0, 0, .null, []), (.invokevirtual 65, 3, 61, 3, .null, [1]), (.ifCond .ne 5, 3, 2, 0, .null, []), (.iload_n 2, 1, 0, 0, .null, []), (.ireturn, 1, 0, 0, .null, [])]
abbrev k_B_greatestTheft_2 : List xE := [(.iinc 2 (-1), 3, 0, 0, .int (-1), []), (.goto (-19), 3, 1, 0, .null, [])]
abbrev k_B_greatestTheft_3 : List xE := [(.iconst 0, 1, 0, 0, .int (nI 0), []), (.ireturn, 1, 0, 0, .null, [])]
def b_B_greatestTheft : List xB := [(0, k_B_greatestTheft_0, 1), (7, k_B_greatestTheft_1, 4), (23, k_B_greatestTheft_2, 4), (29, k_B_greatestTheft_3, 4)]
def m_B_greatestTheft : xM := (yX3_greatestTheft, cX3_greatestTheft, 3, (some .int), 0, 0, false, b_B_greatestTheft)
abbrev N_B_greatestTheft : Nat := 74
abbrev k_B_brokenInAll_0 : List xE := [(.iconst 0, 1, 0, 0, .int (nI 0), []), (.istore_n 1, 1, 0, 0, .null, []), (.iconst 0, 1, 0, 0, .int (nI 0), []), (.istore_n 2, 1, 0, 0, .null, [])]
abbrev k_B_brokenInAll_1 : List xE := [(.iload_n 2, 1, 0, 0, .null, []), (.iconst 5, 1, 0, 0, .int (nI 5), []), (.if_icmp .ge 21, 3, 2, 0, .null, []), (.iload_n 1, 1, 0, 0, .null, []), (.aload_n 0, 1, 0, 0, .null, []), (.getfield 9, 3, 1, 0, .null, []), (.bipush 11, 2, 0, 0, .int (nI 11), []), (.iload_n 2, 1, 0, 0, .null, []), (.iadd, 1, 0, 0, .null, []), (.iaload, 1, 0, 0, .null, []), (.iadd, 1, 0, 0, .null, []), (.istore_n 1, 1, 0, 0, .null, []), (.iinc 2 1, 3, 0, 0, .int (nI 1), []), (.goto (-20), 3, 1, 0, .null, [])]
abbrev k_B_brokenInAll_2 : List xE := [(.iload_n 1, 1, 0, 0, .null, []), (.ireturn, 1, 0, 0, .null, [])]
def b_B_brokenInAll : List xB := [(0, k_B_brokenInAll_0, 1), (4, k_B_brokenInAll_1, 3), (27, k_B_brokenInAll_2, 3)]
def m_B_brokenInAll : xM := (yX3_brokenInAll, cX3_brokenInAll, 3, (some .int), 0, 0, false, b_B_brokenInAll)
abbrev N_B_brokenInAll : Nat := 75
abbrev k_B_possibleThefts_0 : List xE := [(.iconst 0, 1, 0, 0, .int (nI 0), []), (.istore_n 1, 1, 0, 0, .null, []), (.iconst 0, 1, 0, 0, .int (nI 0), []), (.istore_n 2, 1, 0, 0, .null, [])]
abbrev k_B_possibleThefts_1 : List xE := [(.iload_n 2, 1, 0, 0, .null, []), (.iconst 5, 1, 0, 0, .int (nI 5), []), (.if_icmp .ge 39, 3, 5, 0, .null, []), (.iconst 1, 1, 0, 0, .int (nI 1), []), (.istore_n 3, 1, 0, 0, .null, [])]
abbrev k_B_possibleThefts_2 : List xE := [(.iload_n 3, 1, 0, 0, .null, []), (.aload_n 0, 1, 0, 0, .null, []), (.getfield 9, 3, 1, 0, .null, []), (.iconst 3, 1, 0, 0, .int (nI 3), []), (.iaload, 1, 0, 0, .null, []), (.if_icmp .gt 21, 3, 4, 0, .null, []), (.aload_n 0, 1, 0, 0, .null, []), (.iload_n 2, 1, 0, 0, .null, []), (.iload_n 3, 1, 0, 0, .null, []), (.invokevirtual 65, 3, 61, 3, .null, [1]), (.ifCond .ne 6, 3, 3, 0, .null, []), (.iinc 1 1, 3, 0, 0, .int (nI 1), [])]
abbrev k_B_possibleThefts_3 : List xE := [(.iinc 3 1, 3, 0, 0, .int (nI 1), []), (.goto (-25), 3, 2, 0, .null, [])]
abbrev k_B_possibleThefts_4 : List xE := [(.iinc 2 1, 3, 0, 0, .int (nI 1), []), (.goto (-38), 3, 1, 0, .null, [])]
abbrev k_B_possibleThefts_5 : List xE := [(.iload_n 1, 1, 0, 0, .null, []), (.ireturn, 1, 0, 0, .null, [])]
def b_B_possibleThefts : List xB := [(0, k_B_possibleThefts_0, 1), (4, k_B_possibleThefts_1, 2), (11, k_B_possibleThefts_2, 3), (33, k_B_possibleThefts_3, 6), (39, k_B_possibleThefts_4, 6), (45, k_B_possibleThefts_5, 6)]
def m_B_possibleThefts : xM := (yX3_possibleThefts, cX3_possibleThefts, 4, (some .int), 0, 0, false, b_B_possibleThefts)
abbrev N_B_possibleThefts : Nat := 76
abbrev k_B_winner_0 : List xE := [(.aload_n 0, 1, 0, 0, .null, []), (.invokevirtual 170, 3, 76, 1, .null, [1]), (.ifCond .le 5, 3, 1, 0, .null, []), (.iconst (-1), 1, 0, 0, .int (-1), []), (.ireturn, 1, 0, 0, .null, [])]
abbrev k_B_winner_1 : List xE := [(.aload_n 0, 1, 0, 0, .null, []), (.getfield 9, 3, 1, 0, .null, []), (.iconst 5, 1, 0, 0, .int (nI 5), []), (.iaload, 1, 0, 0, .null, []), (.iconst 1, 1, 0, 0, .int (nI 1), []), (.if_icmp .ne 12, 3, 2, 0, .null, []), (.aload_n 0, 1, 0, 0, .null, []), (.getfield 9, 3, 1, 0, .null, []), (.iconst 1, 1, 0, 0, .int (nI 1), []), (.iaload, 1, 0, 0, .null, []), (.goto 11, 3, 3, 0, .null, [])]
abbrev k_B_winner_2 : List xE := [(.iconst 1, 1, 0, 0, .int (nI 1), []), (.aload_n 0, 1, 0, 0, .null, []), (.getfield 9, 3, 1, 0, .null, []), (.iconst 1, 1, 0, 0, .int (nI 1), []), (.iaload, 1, 0, 0, .null, []), (.isub, 1, 0, 0, .null, [])]
abbrev k_B_winner_3 : List xE := [(.ireturn, 1, 0, 0, .null, [])]
def b_B_winner : List xB := [(0, k_B_winner_0, 4), (9, k_B_winner_1, 4), (28, k_B_winner_2, 3), (36, k_B_winner_3, 4)]
def m_B_winner : xM := (yX3_winner, cX3_winner, 1, (some .int), 0, 0, false, b_B_winner)
abbrev N_B_winner : Nat := 77
abbrev k_B_play_0 : List xE := [(.iconst 4, 1, 0, 0, .int (nI 4), []), (.aload_n 0, 1, 0, 0, .null, []), (.getfield 9, 3, 1, 0, .null, []), (.iconst 3, 1, 0, 0, .int (nI 3), []), (.iaload, 1, 0, 0, .null, []), (.iconst 1, 1, 0, 0, .int (nI 1), []), (.isub, 1, 0, 0, .null, []), (.imul, 1, 0, 0, .null, []), (.iconst 2, 1, 0, 0, .int (nI 2), []), (.aload_n 0, 1, 0, 0, .null, []), (.getfield 9, 3, 1, 0, .null, []), (.iconst 4, 1, 0, 0, .int (nI 4), []), (.iaload, 1, 0, 0, .null, []), (.imul, 1, 0, 0, .null, []), (.iadd, 1, 0, 0, .null, []), (.aload_n 0, 1, 0, 0, .null, []), (.getfield 9, 3, 1, 0, .null, []), (.iconst 5, 1, 0, 0, .int (nI 5), []), (.iaload, 1, 0, 0, .null, []), (.iadd, 1, 0, 0, .null, []), (.istore_n 1, 1, 0, 0, .null, []), (.aload_n 0, 1, 0, 0, .null, []), (.getfield 45, 3, 1, 8, .null, []), (.iload_n 1, 1, 0, 0, .null, []), (.aaload, 1, 0, 0, .null, []), (.astore_n 2, 1, 0, 0, .null, []), (.aload_n 2, 1, 0, 0, .null, []), (.ifnonnull 47, 3, 3, 0, .null, []), (.new 43, 3, 0, 0, .null, []), (.dup, 1, 0, 0, .null, []), (.aload_n 0, 1, 0, 0, .null, []), (.getfield 40, 3, 1, 7, .null, []), (.aload_n 0, 1, 0, 0, .null, []), (.getfield 9, 3, 1, 0, .null, []), (.iconst 3, 1, 0, 0, .int (nI 3), []), (.iaload, 1, 0, 0, .null, []), (.aload_n 0, 1, 0, 0, .null, []), (.invokevirtual 247, 3, 60, 1, .null, [1]), (.aload_n 0, 1, 0, 0, .null, []), (.getfield 9, 3, 1, 0, .null, []), (.iconst 5, 1, 0, 0, .int (nI 5), []), (.iaload, 1, 0, 0, .null, []), (.iconst 1, 1, 0, 0, .int (nI 1), []), (.if_icmp .ne 7, 3, 1, 0, .null, []), (.iconst 1, 1, 0, 0, .int (nI 1), []), (.goto 4, 3, 2, 0, .null, [])]
abbrev k_B_play_1 : List xE := [(.iconst 0, 1, 0, 0, .int (nI 0), [])]
abbrev k_B_play_2 : List xE := [(.invokespecial 268, 3, 20, 5, .null, [0, 3, 792, 1]), (.astore_n 2, 1, 0, 0, .null, []), (.aload_n 0, 1, 0, 0, .null, []), (.getfield 45, 3, 1, 8, .null, []), (.iload_n 1, 1, 0, 0, .null, []), (.aload_n 2, 1, 0, 0, .null, []), (.aastore, 1, 0, 0, .null, [])]
abbrev k_B_play_3 : List xE := [(.aload_n 2, 1, 0, 0, .null, []), (.areturn, 1, 0, 0, .null, [])]
def b_B_play : List xB := [(0, k_B_play_0, 4), (70, k_B_play_1, 2), (71, k_B_play_2, 3), (82, k_B_play_3, 4)]
def m_B_play : xM := (yX3_play, cX3_play, 3, (some (.object "BottlePyramid$Play")), 4, 799, true, b_B_play)
abbrev N_B_play : Nat := 78
abbrev k_B_hashRow_0 : List xE := [(.lload_n 1, 1, 0, 0, .null, []), (.lstore 4, 2, 0, 0, .null, []), (.iconst 0, 1, 0, 0, .int (nI 0), []), (.istore 6, 2, 0, 0, .null, [])]
abbrev k_B_hashRow_1 : List xE := [(.iload 6, 2, 0, 0, .null, []), (.iconst 5, 1, 0, 0, .int (nI 5), []), (.if_icmp .gt 26, 3, 2, 0, .null, []), (.ldc2_w 210, 3, 0, 0, .long (lN 31), []), (.lload 4, 2, 0, 0, .null, []), (.lmul, 1, 0, 0, .null, []), (.aload_n 0, 1, 0, 0, .null, []), (.iload_n 3, 1, 0, 0, .null, []), (.iload 6, 2, 0, 0, .null, []), (.invokevirtual 271, 3, 44, 3, .null, [1, 1, 6]), (.i2l, 1, 0, 0, .null, []), (.ladd, 1, 0, 0, .null, []), (.lstore 4, 2, 0, 0, .null, []), (.iinc 6 1, 3, 0, 0, .int (nI 1), []), (.goto (-26), 3, 1, 0, .null, [])]
abbrev k_B_hashRow_2 : List xE := [(.iconst 1, 1, 0, 0, .int (nI 1), []), (.istore 6, 2, 0, 0, .null, [])]
abbrev k_B_hashRow_3 : List xE := [(.iload 6, 2, 0, 0, .null, []), (.iconst 3, 1, 0, 0, .int (nI 3), []), (.if_icmp .gt 43, 3, 4, 0, .null, []), (.ldc2_w 210, 3, 0, 0, .long (lN 31), []), (.lload 4, 2, 0, 0, .null, []), (.lmul, 1, 0, 0, .null, []), (.aload_n 0, 1, 0, 0, .null, []), (.iload_n 3, 1, 0, 0, .null, []), (.iload 6, 2, 0, 0, .null, []), (.invokevirtual 274, 3, 47, 3, .null, [1, 1, 6]), (.i2l, 1, 0, 0, .null, []), (.ladd, 1, 0, 0, .null, []), (.lstore 4, 2, 0, 0, .null, []), (.ldc2_w 210, 3, 0, 0, .long (lN 31), []), (.lload 4, 2, 0, 0, .null, []), (.lmul, 1, 0, 0, .null, []), (.aload_n 0, 1, 0, 0, .null, []), (.iload_n 3, 1, 0, 0, .null, []), (.iload 6, 2, 0, 0, .null, []), (.invokevirtual 277, 3, 48, 3, .null, [1, 1, 6]), (.i2l, 1, 0, 0, .null, []), (.ladd, 1, 0, 0, .null, []), (.lstore 4, 2, 0, 0, .null, []), (.iinc 6 1, 3, 0, 0, .int (nI 1), []), (.goto (-43), 3, 3, 0, .null, [])]
abbrev k_B_hashRow_4 : List xE := [(.lload 4, 2, 0, 0, .null, []), (.lreturn, 1, 0, 0, .null, [])]
def b_B_hashRow : List xB := [(0, k_B_hashRow_0, 1), (6, k_B_hashRow_1, 5), (35, k_B_hashRow_2, 3), (38, k_B_hashRow_3, 5), (84, k_B_hashRow_4, 5)]
def m_B_hashRow : xM := (yX3_hashRow, cX3_hashRow, 7, (some .long), 12, 72, false, b_B_hashRow)
abbrev N_B_hashRow : Nat := 79
abbrev k_B_hashBuffer_0 : List xE := [(.ldc2_w 210, 3, 0, 0, .long (lN 31), []), (.lload_n 1, 1, 0, 0, .null, []), (.lmul, 1, 0, 0, .null, []), (.aload_n 0, 1, 0, 0, .null, []), (.getfield 31, 3, 1, 6, .null, []), (.i2l, 1, 0, 0, .null, []), (.ladd, 1, 0, 0, .null, []), (.lstore_n 3, 1, 0, 0, .null, []), (.iconst 0, 1, 0, 0, .int (nI 0), []), (.istore 5, 2, 0, 0, .null, [])]
abbrev k_B_hashBuffer_1 : List xE := [(.iload 5, 2, 0, 0, .null, []), (.aload_n 0, 1, 0, 0, .null, []), (.getfield 31, 3, 1, 6, .null, []), (.if_icmp .ge 24, 3, 2, 0, .null, []), (.ldc2_w 210, 3, 0, 0, .long (lN 31), []), (.lload_n 3, 1, 0, 0, .null, []), (.lmul, 1, 0, 0, .null, []), (.aload_n 0, 1, 0, 0, .null, []), (.getfield 27, 3, 1, 5, .null, []), (.iload 5, 2, 0, 0, .null, []), (.caload, 1, 0, 0, .null, []), (.i2l, 1, 0, 0, .null, []), (.ladd, 1, 0, 0, .null, []), (.lstore_n 3, 1, 0, 0, .null, []), (.iinc 5 1, 3, 0, 0, .int (nI 1), []), (.goto (-27), 3, 1, 0, .null, [])]
abbrev k_B_hashBuffer_2 : List xE := [(.lload_n 3, 1, 0, 0, .null, []), (.lreturn, 1, 0, 0, .null, [])]
def b_B_hashBuffer : List xB := [(0, k_B_hashBuffer_0, 1), (15, k_B_hashBuffer_1, 3), (45, k_B_hashBuffer_2, 3)]
def m_B_hashBuffer : xM := (yX3_hashBuffer, cX3_hashBuffer, 6, (some .long), 0, 0, false, b_B_hashBuffer)
abbrev N_B_hashBuffer : Nat := 80
abbrev k_B_bitsOfShare_0 : List xE := [(.dload_n 0, 1, 0, 0, .null, []), (.dconst 0, 1, 0, 0, .double FP.dconst0, []), (.dcmp .g, 1, 0, 0, .null, []), (.ifCond .gt 5, 3, 1, 0, .null, []), (.lconst 0, 1, 0, 0, .long (lN 0), []), (.lreturn, 1, 0, 0, .null, [])]
abbrev k_B_bitsOfShare_1 : List xE := [(.dload_n 0, 1, 0, 0, .null, []), (.dstore 4, 2, 0, 0, .null, []), (.iload_n 2, 1, 0, 0, .null, []), (.istore 6, 2, 0, 0, .null, []), (.iconst 1, 1, 0, 0, .int (nI 1), []), (.istore 7, 2, 0, 0, .null, [])]
abbrev k_B_bitsOfShare_2 : List xE := [(.iload 7, 2, 0, 0, .null, []), (.iload_n 2, 1, 0, 0, .null, []), (.if_icmp .ge 27, 3, 3, 0, .null, []), (.dload 4, 2, 0, 0, .null, []), (.dconst 1, 1, 0, 0, .double FP.dconst1, []), (.dcmp .g, 1, 0, 0, .null, []), (.ifCond .ge 20, 3, 3, 0, .null, []), (.dload 4, 2, 0, 0, .null, []), (.ldc2_w 280, 3, 0, 0, .double 4611686018427387904, []), (.dmul, 1, 0, 0, .null, []), (.dstore 4, 2, 0, 0, .null, []), (.iinc 6 (-1), 3, 0, 0, .int (-1), []), (.iinc 7 1, 3, 0, 0, .int (nI 1), []), (.goto (-27), 3, 2, 0, .null, [])]
abbrev k_B_bitsOfShare_3 : List xE := [(.iload 6, 2, 0, 0, .null, []), (.i2l, 1, 0, 0, .null, []), (.iload_n 3, 1, 0, 0, .null, []), (.lshl, 1, 0, 0, .null, []), (.dload 4, 2, 0, 0, .null, []), (.dconst 1, 1, 0, 0, .double FP.dconst1, []), (.dsub, 1, 0, 0, .null, []), (.lconst 1, 1, 0, 0, .long (lN 1), []), (.iload_n 3, 1, 0, 0, .null, []), (.lshl, 1, 0, 0, .null, []), (.l2d, 1, 0, 0, .null, []), (.dmul, 1, 0, 0, .null, []), (.d2l, 1, 0, 0, .null, []), (.ladd, 1, 0, 0, .null, []), (.lreturn, 1, 0, 0, .null, [])]
def b_B_bitsOfShare : List xB := [(0, k_B_bitsOfShare_0, 4), (8, k_B_bitsOfShare_1, 2), (17, k_B_bitsOfShare_2, 4), (47, k_B_bitsOfShare_3, 4)]
def m_B_bitsOfShare : xM := (yX3_bitsOfShare, cX3_bitsOfShare, 8, (some .long), 0, 0, false, b_B_bitsOfShare)
abbrev N_B_bitsOfShare : Nat := 81
abbrev k_M_init_0 : List xE := [(.aload_n 0, 1, 0, 0, .null, []), (.invokespecial 1, 3, 901, 0, .null, []), (.aload_n 0, 1, 0, 0, .null, []), (.bipush 19, 2, 0, 0, .int (nI 19), []), (.newarray .int, 2, 0, 0, .null, []), (.putfield 7, 3, 2, 0, .null, [2]), (.aload_n 0, 1, 0, 0, .null, []), (.bipush 114, 2, 0, 0, .int (nI 114), []), (.newarray .int, 2, 0, 0, .null, []), (.putfield 13, 3, 2, 1, .null, [2]), (.aload_n 0, 1, 0, 0, .null, []), (.bipush 19, 2, 0, 0, .int (nI 19), []), (.newarray .int, 2, 0, 0, .null, []), (.putfield 16, 3, 2, 2, .null, [2]), (.aload_n 0, 1, 0, 0, .null, []), (.bipush 60, 2, 0, 0, .int (nI 60), []), (.newarray .char, 2, 0, 0, .null, []), (.putfield 19, 3, 2, 3, .null, [2]), (.aload_n 0, 1, 0, 0, .null, []), (.bipush 120, 2, 0, 0, .int (nI 120), []), (.newarray .int, 2, 0, 0, .null, []), (.putfield 23, 3, 2, 4, .null, [2]), (.aload_n 0, 1, 0, 0, .null, []), (.sipush 132, 3, 0, 0, .int (nI 132), []), (.newarray .int, 2, 0, 0, .null, []), (.putfield 26, 3, 2, 5, .null, [2]), (.aload_n 0, 1, 0, 0, .null, []), (.sipush 1056, 3, 0, 0, .int (nI 1056), []), (.newarray .int, 2, 0, 0, .null, []), (.putfield 29, 3, 2, 6, .null, [2]), (.aload_n 0, 1, 0, 0, .null, []), (.iconst (-1), 1, 0, 0, .int (-1), []), (.putfield 32, 3, 2, 7, .null, [0]), (.aload_n 0, 1, 0, 0, .null, []), (.getfield 7, 3, 2, 0, .null, []), (.iconst 0, 1, 0, 0, .int (nI 0), []), (.sipush 32767, 3, 0, 0, .int (nI 32767), []), (.iastore, 1, 0, 0, .null, []), (.aload_n 0, 1, 0, 0, .null, []), (.getfield 7, 3, 2, 0, .null, []), (.bipush 6, 2, 0, 0, .int (nI 6), []), (.iconst 1, 1, 0, 0, .int (nI 1), []), (.iastore, 1, 0, 0, .null, []), (.iconst 0, 1, 0, 0, .int (nI 0), []), (.istore_n 1, 1, 0, 0, .null, []), (.iconst 0, 1, 0, 0, .int (nI 0), []), (.istore_n 2, 1, 0, 0, .null, [])]
abbrev k_M_init_1 : List xE := [(.iload_n 2, 1, 0, 0, .null, []), (.ldc 36, 2, 0, 0, .int (nI 32768), []), (.if_icmp .ge 27, 3, 3, 0, .null, []), (.iload_n 2, 1, 0, 0, .null, []), (.invokestatic 37, 3, 93, 1, .null, [0]), (.iload_n 2, 1, 0, 0, .null, []), (.if_icmp .ne 13, 3, 2, 0, .null, []), (.aload_n 0, 1, 0, 0, .null, []), (.getfield 26, 3, 2, 5, .null, []), (.iload_n 1, 1, 0, 0, .null, []), (.iload_n 2, 1, 0, 0, .null, []), (.iastore, 1, 0, 0, .null, []), (.iinc 1 1, 3, 0, 0, .int (nI 1), [])]
abbrev k_M_init_2 : List xE := [(.iinc 2 1, 3, 0, 0, .int (nI 1), []), (.goto (-27), 3, 1, 0, .null, [])]
abbrev k_M_init_3 : List xE := [(.return_, 1, 0, 0, .null, [])]
def b_M_init : List xB := [(0, k_M_init_0, 1), (88, k_M_init_1, 2), (112, k_M_init_2, 4), (118, k_M_init_3, 4)]
def m_M_init : xM := (yX4_init, cX4_init, 3, none, 7, 1520, true, b_M_init)
abbrev N_M_init : Nat := 82
abbrev k_M_in_0 : List xE := [(.iload_n 0, 1, 0, 0, .null, []), (.iload_n 1, 1, 0, 0, .null, []), (.if_icmp .lt 12, 3, 1, 0, .null, []), (.iload_n 0, 1, 0, 0, .null, []), (.iload_n 2, 1, 0, 0, .null, []), (.if_icmp .gt 7, 3, 1, 0, .null, []), (.iconst 1, 1, 0, 0, .int (nI 1), []), (.goto 4, 3, 2, 0, .null, [])]
abbrev k_M_in_1 : List xE := [(.iconst 0, 1, 0, 0, .int (nI 0), [])]
abbrev k_M_in_2 : List xE := [(.ireturn, 1, 0, 0, .null, [])]
def b_M_in : List xB := [(0, k_M_in_0, 3), (14, k_M_in_1, 2), (15, k_M_in_2, 3)]
def m_M_in : xM := (yX4_in, cX4_in, 3, (some .boolean), 0, 0, false, b_M_in)
abbrev N_M_in : Nat := 83
abbrev k_M_thrown_0 : List xE := [(.aload_n 0, 1, 0, 0, .null, []), (.getfield 41, 3, 2, 13, .null, []), (.ireturn, 1, 0, 0, .null, [])]
def b_M_thrown : List xB := [(0, k_M_thrown_0, 1)]
def m_M_thrown : xM := (yX4_thrown, cX4_thrown, 1, (some .int), 0, 0, false, b_M_thrown)
abbrev N_M_thrown : Nat := 84
abbrev k_M_goes_0 : List xE := [(.aload_n 0, 1, 0, 0, .null, []), (.iload_n 1, 1, 0, 0, .null, []), (.putfield 41, 3, 2, 13, .null, [0]), (.iload_n 1, 1, 0, 0, .null, []), (.ifCond .ne 7, 3, 1, 0, .null, []), (.iconst 1, 1, 0, 0, .int (nI 1), []), (.goto 4, 3, 2, 0, .null, [])]
abbrev k_M_goes_1 : List xE := [(.iconst 0, 1, 0, 0, .int (nI 0), [])]
abbrev k_M_goes_2 : List xE := [(.ireturn, 1, 0, 0, .null, [])]
def b_M_goes : List xB := [(0, k_M_goes_0, 3), (13, k_M_goes_1, 2), (14, k_M_goes_2, 3)]
def m_M_goes : xM := (yX4_goes, cX4_goes, 2, (some .boolean), 0, 0, false, b_M_goes)
abbrev N_M_goes : Nat := 85
abbrev k_M_isRow_0 : List xE := [(.iload_n 0, 1, 0, 0, .null, []), (.iconst 0, 1, 0, 0, .int (nI 0), []), (.iconst 4, 1, 0, 0, .int (nI 4), []), (.invokestatic 44, 3, 83, 3, .null, [0]), (.ireturn, 1, 0, 0, .null, [])]
def b_M_isRow : List xB := [(0, k_M_isRow_0, 1)]
def m_M_isRow : xM := (yX4_isRow, cX4_isRow, 1, (some .boolean), 0, 0, false, b_M_isRow)
abbrev N_M_isRow : Nat := 86
abbrev k_M_isPlace_0 : List xE := [(.iload_n 0, 1, 0, 0, .null, []), (.invokestatic 48, 3, 86, 1, .null, [0]), (.ifCond .eq 18, 3, 1, 0, .null, []), (.iload_n 1, 1, 0, 0, .null, []), (.iconst 0, 1, 0, 0, .int (nI 0), []), (.iconst 4, 1, 0, 0, .int (nI 4), []), (.iload_n 0, 1, 0, 0, .null, []), (.isub, 1, 0, 0, .null, []), (.invokestatic 44, 3, 83, 3, .null, [0]), (.ifCond .eq 7, 3, 1, 0, .null, []), (.iconst 1, 1, 0, 0, .int (nI 1), []), (.goto 4, 3, 2, 0, .null, [])]
abbrev k_M_isPlace_1 : List xE := [(.iconst 0, 1, 0, 0, .int (nI 0), [])]
abbrev k_M_isPlace_2 : List xE := [(.ireturn, 1, 0, 0, .null, [])]
def b_M_isPlace : List xB := [(0, k_M_isPlace_0, 3), (22, k_M_isPlace_1, 2), (23, k_M_isPlace_2, 3)]
def m_M_isPlace : xM := (yX4_isPlace, cX4_isPlace, 2, (some .boolean), 0, 0, false, b_M_isPlace)
abbrev N_M_isPlace : Nat := 87
abbrev k_M_record_0 : List xE := [(.aload_n 0, 1, 0, 0, .null, []), (.getfield 52, 3, 2, 9, .null, []), (.bipush 6, 2, 0, 0, .int (nI 6), []), (.if_icmp .ne 42, 3, 3, 0, .null, []), (.iconst 0, 1, 0, 0, .int (nI 0), []), (.istore_n 1, 1, 0, 0, .null, [])]
abbrev k_M_record_1 : List xE := [(.iload_n 1, 1, 0, 0, .null, []), (.bipush 95, 2, 0, 0, .int (nI 95), []), (.if_icmp .ge 24, 3, 2, 0, .null, []), (.aload_n 0, 1, 0, 0, .null, []), (.getfield 13, 3, 2, 1, .null, []), (.iload_n 1, 1, 0, 0, .null, []), (.aload_n 0, 1, 0, 0, .null, []), (.getfield 13, 3, 2, 1, .null, []), (.bipush 19, 2, 0, 0, .int (nI 19), []), (.iload_n 1, 1, 0, 0, .null, []), (.iadd, 1, 0, 0, .null, []), (.iaload, 1, 0, 0, .null, []), (.iastore, 1, 0, 0, .null, []), (.iinc 1 1, 3, 0, 0, .int (nI 1), []), (.goto (-24), 3, 1, 0, .null, [])]
abbrev k_M_record_2 : List xE := [(.aload_n 0, 1, 0, 0, .null, []), (.dup, 1, 0, 0, .null, []), (.getfield 52, 3, 2, 9, .null, []), (.iconst 1, 1, 0, 0, .int (nI 1), []), (.isub, 1, 0, 0, .null, []), (.putfield 52, 3, 2, 9, .null, [0])]
abbrev k_M_record_3 : List xE := [(.iconst 0, 1, 0, 0, .int (nI 0), []), (.istore_n 1, 1, 0, 0, .null, [])]
abbrev k_M_record_4 : List xE := [(.iload_n 1, 1, 0, 0, .null, []), (.bipush 19, 2, 0, 0, .int (nI 19), []), (.if_icmp .ge 29, 3, 5, 0, .null, []), (.aload_n 0, 1, 0, 0, .null, []), (.getfield 13, 3, 2, 1, .null, []), (.bipush 19, 2, 0, 0, .int (nI 19), []), (.aload_n 0, 1, 0, 0, .null, []), (.getfield 52, 3, 2, 9, .null, []), (.imul, 1, 0, 0, .null, []), (.iload_n 1, 1, 0, 0, .null, []), (.iadd, 1, 0, 0, .null, []), (.aload_n 0, 1, 0, 0, .null, []), (.getfield 7, 3, 2, 0, .null, []), (.iload_n 1, 1, 0, 0, .null, []), (.iaload, 1, 0, 0, .null, []), (.iastore, 1, 0, 0, .null, []), (.iinc 1 1, 3, 0, 0, .int (nI 1), []), (.goto (-29), 3, 4, 0, .null, [])]
abbrev k_M_record_5 : List xE := [(.aload_n 0, 1, 0, 0, .null, []), (.dup, 1, 0, 0, .null, []), (.getfield 52, 3, 2, 9, .null, []), (.iconst 1, 1, 0, 0, .int (nI 1), []), (.iadd, 1, 0, 0, .null, []), (.putfield 52, 3, 2, 9, .null, [0]), (.return_, 1, 0, 0, .null, [])]
def b_M_record : List xB := [(0, k_M_record_0, 1), (11, k_M_record_1, 6), (38, k_M_record_2, 3), (48, k_M_record_3, 4), (50, k_M_record_4, 6), (82, k_M_record_5, 6)]
def m_M_record : xM := (yX4_record, cX4_record, 2, none, 0, 0, false, b_M_record)
abbrev N_M_record : Nat := 88
abbrev k_M_first_0 : List xE := [(.iload_n 0, 1, 0, 0, .null, []), (.bipush 11, 2, 0, 0, .int (nI 11), []), (.iload_n 0, 1, 0, 0, .null, []), (.isub, 1, 0, 0, .null, []), (.imul, 1, 0, 0, .null, []), (.iconst 2, 1, 0, 0, .int (nI 2), []), (.idiv, 1, 0, 0, .null, []), (.ireturn, 1, 0, 0, .null, [])]
def b_M_first : List xB := [(0, k_M_first_0, 1)]
def m_M_first : xM := (yX4_first, cX4_first, 1, (some .int), 0, 0, false, b_M_first)
abbrev N_M_first : Nat := 89
abbrev k_M_has_0 : List xE := [(.iload_n 0, 1, 0, 0, .null, []), (.iload_n 1, 1, 0, 0, .null, []), (.invokestatic 55, 3, 89, 1, .null, [0]), (.iload_n 2, 1, 0, 0, .null, []), (.iadd, 1, 0, 0, .null, []), (.ishr, 1, 0, 0, .null, []), (.iconst 1, 1, 0, 0, .int (nI 1), []), (.iand, 1, 0, 0, .null, []), (.iconst 1, 1, 0, 0, .int (nI 1), []), (.if_icmp .ne 7, 3, 1, 0, .null, []), (.iconst 1, 1, 0, 0, .int (nI 1), []), (.goto 4, 3, 2, 0, .null, [])]
abbrev k_M_has_1 : List xE := [(.iconst 0, 1, 0, 0, .int (nI 0), [])]
abbrev k_M_has_2 : List xE := [(.ireturn, 1, 0, 0, .null, [])]
def b_M_has : List xB := [(0, k_M_has_0, 3), (18, k_M_has_1, 2), (19, k_M_has_2, 3)]
def m_M_has : xM := (yX4_has, cX4_has, 3, (some .boolean), 0, 0, false, b_M_has)
abbrev N_M_has : Nat := 90
abbrev k_M_bits_0 : List xE := [(.iconst 0, 1, 0, 0, .int (nI 0), []), (.istore_n 1, 1, 0, 0, .null, []), (.iconst 0, 1, 0, 0, .int (nI 0), []), (.istore_n 2, 1, 0, 0, .null, [])]
abbrev k_M_bits_1 : List xE := [(.iload_n 2, 1, 0, 0, .null, []), (.bipush 15, 2, 0, 0, .int (nI 15), []), (.if_icmp .ge 17, 3, 2, 0, .null, []), (.iload_n 1, 1, 0, 0, .null, []), (.iload_n 0, 1, 0, 0, .null, []), (.iload_n 2, 1, 0, 0, .null, []), (.ishr, 1, 0, 0, .null, []), (.iconst 1, 1, 0, 0, .int (nI 1), []), (.iand, 1, 0, 0, .null, []), (.iadd, 1, 0, 0, .null, []), (.istore_n 1, 1, 0, 0, .null, []), (.iinc 2 1, 3, 0, 0, .int (nI 1), []), (.goto (-17), 3, 1, 0, .null, [])]
abbrev k_M_bits_2 : List xE := [(.iload_n 1, 1, 0, 0, .null, []), (.ireturn, 1, 0, 0, .null, [])]
def b_M_bits : List xB := [(0, k_M_bits_0, 1), (4, k_M_bits_1, 3), (24, k_M_bits_2, 3)]
def m_M_bits : xM := (yX4_bits, cX4_bits, 3, (some .int), 0, 0, false, b_M_bits)
abbrev N_M_bits : Nat := 91
abbrev k_M_inRow_0 : List xE := [(.iload_n 0, 1, 0, 0, .null, []), (.iload_n 1, 1, 0, 0, .null, []), (.invokestatic 55, 3, 89, 1, .null, [0]), (.ishr, 1, 0, 0, .null, []), (.iconst 1, 1, 0, 0, .int (nI 1), []), (.iconst 5, 1, 0, 0, .int (nI 5), []), (.iload_n 1, 1, 0, 0, .null, []), (.isub, 1, 0, 0, .null, []), (.ishl, 1, 0, 0, .null, []), (.iconst 1, 1, 0, 0, .int (nI 1), []), (.isub, 1, 0, 0, .null, []), (.iand, 1, 0, 0, .null, []), (.invokestatic 58, 3, 91, 1, .null, [0]), (.ireturn, 1, 0, 0, .null, [])]
def b_M_inRow : List xB := [(0, k_M_inRow_0, 1)]
def m_M_inRow : xM := (yX4_inRow, cX4_inRow, 2, (some .int), 0, 0, false, b_M_inRow)
abbrev N_M_inRow : Nat := 92
abbrev k_M_fallen_0 : List xE := [(.iload_n 0, 1, 0, 0, .null, []), (.istore_n 1, 1, 0, 0, .null, []), (.iconst 1, 1, 0, 0, .int (nI 1), []), (.istore_n 2, 1, 0, 0, .null, [])]
abbrev k_M_fallen_1 : List xE := [(.iload_n 2, 1, 0, 0, .null, []), (.iconst 5, 1, 0, 0, .int (nI 5), []), (.if_icmp .ge 77, 3, 8, 0, .null, []), (.iconst 0, 1, 0, 0, .int (nI 0), []), (.istore_n 3, 1, 0, 0, .null, [])]
abbrev k_M_fallen_2 : List xE := [(.iload_n 3, 1, 0, 0, .null, []), (.iconst 5, 1, 0, 0, .int (nI 5), []), (.iload_n 2, 1, 0, 0, .null, []), (.isub, 1, 0, 0, .null, []), (.if_icmp .ge 62, 3, 7, 0, .null, []), (.iload_n 1, 1, 0, 0, .null, []), (.iload_n 2, 1, 0, 0, .null, []), (.iconst 1, 1, 0, 0, .int (nI 1), []), (.isub, 1, 0, 0, .null, []), (.iload_n 3, 1, 0, 0, .null, []), (.invokestatic 61, 3, 90, 3, .null, [0]), (.ifCond .eq 20, 3, 3, 0, .null, []), (.iload_n 1, 1, 0, 0, .null, []), (.iload_n 2, 1, 0, 0, .null, []), (.iconst 1, 1, 0, 0, .int (nI 1), []), (.isub, 1, 0, 0, .null, []), (.iload_n 3, 1, 0, 0, .null, []), (.iconst 1, 1, 0, 0, .int (nI 1), []), (.iadd, 1, 0, 0, .null, []), (.invokestatic 61, 3, 90, 3, .null, [0]), (.ifCond .eq 7, 3, 3, 0, .null, []), (.iconst 1, 1, 0, 0, .int (nI 1), []), (.goto 4, 3, 4, 0, .null, [])]
abbrev k_M_fallen_3 : List xE := [(.iconst 0, 1, 0, 0, .int (nI 0), [])]
abbrev k_M_fallen_4 : List xE := [(.istore 4, 2, 0, 0, .null, []), (.iload 4, 2, 0, 0, .null, []), (.ifCond .eq 7, 3, 5, 0, .null, []), (.iload_n 1, 1, 0, 0, .null, []), (.goto 15, 3, 6, 0, .null, [])]
abbrev k_M_fallen_5 : List xE := [(.iload_n 1, 1, 0, 0, .null, []), (.iconst 1, 1, 0, 0, .int (nI 1), []), (.iload_n 2, 1, 0, 0, .null, []), (.invokestatic 55, 3, 89, 1, .null, [0]), (.iload_n 3, 1, 0, 0, .null, []), (.iadd, 1, 0, 0, .null, []), (.ishl, 1, 0, 0, .null, []), (.iconst (-1), 1, 0, 0, .int (-1), []), (.ixor, 1, 0, 0, .null, []), (.iand, 1, 0, 0, .null, [])]
abbrev k_M_fallen_6 : List xE := [(.istore_n 1, 1, 0, 0, .null, []), (.iinc 3 1, 3, 0, 0, .int (nI 1), []), (.goto (-63), 3, 2, 0, .null, [])]
abbrev k_M_fallen_7 : List xE := [(.iinc 2 1, 3, 0, 0, .int (nI 1), []), (.goto (-76), 3, 1, 0, .null, [])]
abbrev k_M_fallen_8 : List xE := [(.iload_n 1, 1, 0, 0, .null, []), (.ireturn, 1, 0, 0, .null, [])]
def b_M_fallen : List xB := [(0, k_M_fallen_0, 1), (4, k_M_fallen_1, 2), (11, k_M_fallen_2, 9), (46, k_M_fallen_3, 4), (47, k_M_fallen_4, 9), (58, k_M_fallen_5, 6), (70, k_M_fallen_6, 9), (77, k_M_fallen_7, 9), (83, k_M_fallen_8, 9)]
def m_M_fallen : xM := (yX4_fallen, cX4_fallen, 5, (some .int), 0, 0, false, b_M_fallen)
abbrev N_M_fallen : Nat := 93
abbrev k_M_robbed_0 : List xE := [(.iload_n 0, 1, 0, 0, .null, []), (.istore 4, 2, 0, 0, .null, []), (.iconst 0, 1, 0, 0, .int (nI 0), []), (.istore 5, 2, 0, 0, .null, []), (.iconst 0, 1, 0, 0, .int (nI 0), []), (.istore 6, 2, 0, 0, .null, [])]
abbrev k_M_robbed_1 : List xE := [(.iload 6, 2, 0, 0, .null, []), (.iconst 5, 1, 0, 0, .int (nI 5), []), (.iload_n 2, 1, 0, 0, .null, []), (.isub, 1, 0, 0, .null, []), (.if_icmp .ge 62, 3, 5, 0, .null, []), (.iload_n 1, 1, 0, 0, .null, []), (.ifCond .ne 8, 3, 2, 0, .null, []), (.iload 6, 2, 0, 0, .null, []), (.goto 9, 3, 3, 0, .null, [])]
abbrev k_M_robbed_2 : List xE := [(.iconst 4, 1, 0, 0, .int (nI 4), []), (.iload_n 2, 1, 0, 0, .null, []), (.isub, 1, 0, 0, .null, []), (.iload 6, 2, 0, 0, .null, []), (.isub, 1, 0, 0, .null, [])]
abbrev k_M_robbed_3 : List xE := [(.istore 7, 2, 0, 0, .null, []), (.iload 5, 2, 0, 0, .null, []), (.iload_n 3, 1, 0, 0, .null, []), (.if_icmp .ge 33, 3, 4, 0, .null, []), (.iload 4, 2, 0, 0, .null, []), (.iload_n 2, 1, 0, 0, .null, []), (.iload 7, 2, 0, 0, .null, []), (.invokestatic 61, 3, 90, 3, .null, [0]), (.ifCond .eq 22, 3, 4, 0, .null, []), (.iload 4, 2, 0, 0, .null, []), (.iconst 1, 1, 0, 0, .int (nI 1), []), (.iload_n 2, 1, 0, 0, .null, []), (.invokestatic 55, 3, 89, 1, .null, [0]), (.iload 7, 2, 0, 0, .null, []), (.iadd, 1, 0, 0, .null, []), (.ishl, 1, 0, 0, .null, []), (.iconst (-1), 1, 0, 0, .int (-1), []), (.ixor, 1, 0, 0, .null, []), (.iand, 1, 0, 0, .null, []), (.istore 4, 2, 0, 0, .null, []), (.iinc 5 1, 3, 0, 0, .int (nI 1), [])]
abbrev k_M_robbed_4 : List xE := [(.iinc 6 1, 3, 0, 0, .int (nI 1), []), (.goto (-64), 3, 1, 0, .null, [])]
abbrev k_M_robbed_5 : List xE := [(.iload 4, 2, 0, 0, .null, []), (.ireturn, 1, 0, 0, .null, [])]
def b_M_robbed : List xB := [(0, k_M_robbed_0, 1), (9, k_M_robbed_1, 6), (26, k_M_robbed_2, 3), (32, k_M_robbed_3, 4), (70, k_M_robbed_4, 6), (76, k_M_robbed_5, 6)]
def m_M_robbed : xM := (yX4_robbed, cX4_robbed, 8, (some .int), 0, 0, false, b_M_robbed)
abbrev N_M_robbed : Nat := 94
abbrev k_M_reason_0 : List xE := [(.iload 4, 2, 0, 0, .null, []), (.aload_n 0, 1, 0, 0, .null, []), (.getfield 7, 3, 2, 0, .null, []), (.bipush 6, 2, 0, 0, .int (nI 6), []), (.iaload, 1, 0, 0, .null, []), (.if_icmp .le 5, 3, 1, 0, .null, []), (.iconst 1, 1, 0, 0, .int (nI 1), []), (.ireturn, 1, 0, 0, .null, [])]
abbrev k_M_reason_1 : List xE := [(.iload_n 1, 1, 0, 0, .null, []), (.iload_n 3, 1, 0, 0, .null, []), (.invokestatic 64, 3, 92, 2, .null, [0]), (.iload 4, 2, 0, 0, .null, []), (.if_icmp .ge 5, 3, 2, 0, .null, []), (.iconst 2, 1, 0, 0, .int (nI 2), []), (.ireturn, 1, 0, 0, .null, [])]
abbrev k_M_reason_2 : List xE := [(.iload_n 1, 1, 0, 0, .null, []), (.iload_n 2, 1, 0, 0, .null, []), (.iload_n 3, 1, 0, 0, .null, []), (.iload 4, 2, 0, 0, .null, []), (.invokestatic 68, 3, 94, 4, .null, [0]), (.istore 5, 2, 0, 0, .null, []), (.aload_n 0, 1, 0, 0, .null, []), (.getfield 7, 3, 2, 0, .null, []), (.bipush 7, 2, 0, 0, .int (nI 7), []), (.iaload, 1, 0, 0, .null, []), (.iconst 1, 1, 0, 0, .int (nI 1), []), (.if_icmp .ne 17, 3, 3, 0, .null, []), (.iload 5, 2, 0, 0, .null, []), (.invokestatic 37, 3, 93, 1, .null, [0]), (.iload 5, 2, 0, 0, .null, []), (.if_icmp .eq 7, 3, 3, 0, .null, []), (.iconst 3, 1, 0, 0, .int (nI 3), []), (.goto 4, 3, 4, 0, .null, [])]
abbrev k_M_reason_3 : List xE := [(.iconst 0, 1, 0, 0, .int (nI 0), [])]
abbrev k_M_reason_4 : List xE := [(.ireturn, 1, 0, 0, .null, [])]
def b_M_reason : List xB := [(0, k_M_reason_0, 5), (14, k_M_reason_1, 5), (26, k_M_reason_2, 5), (61, k_M_reason_3, 4), (62, k_M_reason_4, 5)]
def m_M_reason : xM := (yX4_reason, cX4_reason, 6, (some .int), 0, 0, false, b_M_reason)
abbrev N_M_reason : Nat := 95
abbrev k_M_thefts_0 : List xE := [(.iconst 0, 1, 0, 0, .int (nI 0), []), (.istore_n 3, 1, 0, 0, .null, []), (.iconst 0, 1, 0, 0, .int (nI 0), []), (.istore 4, 2, 0, 0, .null, [])]
abbrev k_M_thefts_1 : List xE := [(.iload 4, 2, 0, 0, .null, []), (.bipush 15, 2, 0, 0, .int (nI 15), []), (.if_icmp .ge 36, 3, 4, 0, .null, []), (.iload_n 3, 1, 0, 0, .null, []), (.aload_n 0, 1, 0, 0, .null, []), (.iload_n 1, 1, 0, 0, .null, []), (.iload_n 2, 1, 0, 0, .null, []), (.iload 4, 2, 0, 0, .null, []), (.iconst 3, 1, 0, 0, .int (nI 3), []), (.idiv, 1, 0, 0, .null, []), (.iconst 1, 1, 0, 0, .int (nI 1), []), (.iload 4, 2, 0, 0, .null, []), (.iconst 3, 1, 0, 0, .int (nI 3), []), (.irem, 1, 0, 0, .null, []), (.iadd, 1, 0, 0, .null, []), (.invokevirtual 72, 3, 95, 5, .null, [2]), (.ifCond .ne 7, 3, 2, 0, .null, []), (.iconst 1, 1, 0, 0, .int (nI 1), []), (.goto 4, 3, 3, 0, .null, [])]
abbrev k_M_thefts_2 : List xE := [(.iconst 0, 1, 0, 0, .int (nI 0), [])]
abbrev k_M_thefts_3 : List xE := [(.iadd, 1, 0, 0, .null, []), (.istore_n 3, 1, 0, 0, .null, []), (.iinc 4 1, 3, 0, 0, .int (nI 1), []), (.goto (-37), 3, 1, 0, .null, [])]
abbrev k_M_thefts_4 : List xE := [(.iload_n 3, 1, 0, 0, .null, []), (.ireturn, 1, 0, 0, .null, [])]
def b_M_thefts : List xB := [(0, k_M_thefts_0, 1), (5, k_M_thefts_1, 5), (36, k_M_thefts_2, 3), (37, k_M_thefts_3, 5), (45, k_M_thefts_4, 5)]
def m_M_thefts : xM := (yX4_thefts, cX4_thefts, 5, (some .int), 0, 0, false, b_M_thefts)
abbrev N_M_thefts : Nat := 96
abbrev k_M_numberOf_0 : List xE := [(.iconst 0, 1, 0, 0, .int (nI 0), []), (.istore_n 2, 1, 0, 0, .null, [])]
abbrev k_M_numberOf_1 : List xE := [(.aload_n 0, 1, 0, 0, .null, []), (.getfield 26, 3, 2, 5, .null, []), (.iload_n 2, 1, 0, 0, .null, []), (.iaload, 1, 0, 0, .null, []), (.iload_n 1, 1, 0, 0, .null, []), (.if_icmp .eq 9, 3, 2, 0, .null, []), (.iinc 2 1, 3, 0, 0, .int (nI 1), []), (.goto (-13), 3, 1, 0, .null, [])]
abbrev k_M_numberOf_2 : List xE := [(.iload_n 2, 1, 0, 0, .null, []), (.ireturn, 1, 0, 0, .null, [])]
def b_M_numberOf : List xB := [(0, k_M_numberOf_0, 1), (2, k_M_numberOf_1, 3), (18, k_M_numberOf_2, 3)]
def m_M_numberOf : xM := (yX4_numberOf, cX4_numberOf, 3, (some .int), 0, 0, false, b_M_numberOf)
abbrev N_M_numberOf : Nat := 97
abbrev k_M_lay_0 : List xE := [(.bipush 100, 2, 0, 0, .int (nI 100), []), (.aload_n 0, 1, 0, 0, .null, []), (.getfield 7, 3, 2, 0, .null, []), (.bipush 6, 2, 0, 0, .int (nI 6), []), (.iaload, 1, 0, 0, .null, []), (.imul, 1, 0, 0, .null, []), (.bipush 10, 2, 0, 0, .int (nI 10), []), (.aload_n 0, 1, 0, 0, .null, []), (.getfield 7, 3, 2, 0, .null, []), (.bipush 7, 2, 0, 0, .int (nI 7), []), (.iaload, 1, 0, 0, .null, []), (.imul, 1, 0, 0, .null, []), (.iadd, 1, 0, 0, .null, []), (.aload_n 0, 1, 0, 0, .null, []), (.getfield 7, 3, 2, 0, .null, []), (.bipush 8, 2, 0, 0, .int (nI 8), []), (.iaload, 1, 0, 0, .null, []), (.iadd, 1, 0, 0, .null, []), (.istore_n 1, 1, 0, 0, .null, []), (.iconst 0, 1, 0, 0, .int (nI 0), []), (.istore_n 2, 1, 0, 0, .null, [])]
abbrev k_M_lay_1 : List xE := [(.iload_n 2, 1, 0, 0, .null, []), (.sipush 264, 3, 0, 0, .int (nI 264), []), (.if_icmp .ge 27, 3, 2, 0, .null, []), (.iload_n 1, 1, 0, 0, .null, []), (.aload_n 0, 1, 0, 0, .null, []), (.getfield 32, 3, 2, 7, .null, []), (.if_icmp .eq 19, 3, 2, 0, .null, []), (.aload_n 0, 1, 0, 0, .null, []), (.iload_n 2, 1, 0, 0, .null, []), (.iconst 2, 1, 0, 0, .int (nI 2), []), (.idiv, 1, 0, 0, .null, []), (.iload_n 2, 1, 0, 0, .null, []), (.iconst 2, 1, 0, 0, .int (nI 2), []), (.irem, 1, 0, 0, .null, []), (.invokevirtual 75, 3, 99, 3, .null, [2]), (.iinc 2 1, 3, 0, 0, .int (nI 1), []), (.goto (-28), 3, 1, 0, .null, [])]
abbrev k_M_lay_2 : List xE := [(.aload_n 0, 1, 0, 0, .null, []), (.iload_n 1, 1, 0, 0, .null, []), (.putfield 32, 3, 2, 7, .null, [0]), (.return_, 1, 0, 0, .null, [])]
def b_M_lay : List xB := [(0, k_M_lay_0, 1), (32, k_M_lay_1, 3), (63, k_M_lay_2, 3)]
def m_M_lay : xM := (yX4_lay, cX4_lay, 3, none, 0, 0, false, b_M_lay)
abbrev N_M_lay : Nat := 98
abbrev k_M_layOne_0 : List xE := [(.bipush 8, 2, 0, 0, .int (nI 8), []), (.iload_n 1, 1, 0, 0, .null, []), (.imul, 1, 0, 0, .null, []), (.iconst 4, 1, 0, 0, .int (nI 4), []), (.iload_n 2, 1, 0, 0, .null, []), (.imul, 1, 0, 0, .null, []), (.iadd, 1, 0, 0, .null, []), (.istore_n 3, 1, 0, 0, .null, []), (.aload_n 0, 1, 0, 0, .null, []), (.getfield 26, 3, 2, 5, .null, []), (.iload_n 1, 1, 0, 0, .null, []), (.iaload, 1, 0, 0, .null, []), (.istore 4, 2, 0, 0, .null, []), (.aload_n 0, 1, 0, 0, .null, []), (.iload 4, 2, 0, 0, .null, []), (.iload_n 2, 1, 0, 0, .null, []), (.invokevirtual 79, 3, 96, 3, .null, [2]), (.ifCond .ne 7, 3, 1, 0, .null, []), (.iconst 1, 1, 0, 0, .int (nI 1), []), (.goto 4, 3, 2, 0, .null, [])]
abbrev k_M_layOne_1 : List xE := [(.iconst 0, 1, 0, 0, .int (nI 0), [])]
abbrev k_M_layOne_2 : List xE := [(.istore 5, 2, 0, 0, .null, []), (.iload 5, 2, 0, 0, .null, []), (.ifCond .eq 18, 3, 3, 0, .null, []), (.aload_n 0, 1, 0, 0, .null, []), (.getfield 7, 3, 2, 0, .null, []), (.bipush 8, 2, 0, 0, .int (nI 8), []), (.iaload, 1, 0, 0, .null, []), (.iconst 1, 1, 0, 0, .int (nI 1), []), (.if_icmp .ne 7, 3, 3, 0, .null, []), (.iconst 1, 1, 0, 0, .int (nI 1), []), (.goto 4, 3, 4, 0, .null, [])]
abbrev k_M_layOne_3 : List xE := [(.iconst 0, 1, 0, 0, .int (nI 0), [])]
abbrev k_M_layOne_4 : List xE := [(.istore 6, 2, 0, 0, .null, []), (.iconst 0, 1, 0, 0, .int (nI 0), []), (.istore 7, 2, 0, 0, .null, []), (.iload 5, 2, 0, 0, .null, []), (.ifCond .eq 7, 3, 5, 0, .null, []), (.iconst 0, 1, 0, 0, .int (nI 0), []), (.goto 5, 3, 6, 0, .null, [])]
abbrev k_M_layOne_5 : List xE := [(.bipush 100, 2, 0, 0, .int (nI 100), [])]
abbrev k_M_layOne_6 : List xE := [(.istore 8, 2, 0, 0, .null, []), (.iconst 0, 1, 0, 0, .int (nI 0), []), (.istore 9, 2, 0, 0, .null, [])]
abbrev k_M_layOne_7 : List xE := [(.iload 9, 2, 0, 0, .null, []), (.bipush 15, 2, 0, 0, .int (nI 15), []), (.if_icmp .ge 158, 3, 16, 0, .null, []), (.iload 5, 2, 0, 0, .null, []), (.ifCond .ne 153, 3, 16, 0, .null, []), (.aload_n 0, 1, 0, 0, .null, []), (.iload 4, 2, 0, 0, .null, []), (.iload_n 2, 1, 0, 0, .null, []), (.iload 9, 2, 0, 0, .null, []), (.iconst 3, 1, 0, 0, .int (nI 3), []), (.idiv, 1, 0, 0, .null, []), (.iconst 1, 1, 0, 0, .int (nI 1), []), (.iload 9, 2, 0, 0, .null, []), (.iconst 3, 1, 0, 0, .int (nI 3), []), (.irem, 1, 0, 0, .null, []), (.iadd, 1, 0, 0, .null, []), (.invokevirtual 72, 3, 95, 5, .null, [2]), (.ifCond .ne 127, 3, 15, 0, .null, []), (.bipush 8, 2, 0, 0, .int (nI 8), []), (.aload_n 0, 1, 0, 0, .null, []), (.iload 4, 2, 0, 0, .null, []), (.iload_n 2, 1, 0, 0, .null, []), (.iload 9, 2, 0, 0, .null, []), (.iconst 3, 1, 0, 0, .int (nI 3), []), (.idiv, 1, 0, 0, .null, []), (.iconst 1, 1, 0, 0, .int (nI 1), []), (.iload 9, 2, 0, 0, .null, []), (.iconst 3, 1, 0, 0, .int (nI 3), []), (.irem, 1, 0, 0, .null, []), (.iadd, 1, 0, 0, .null, []), (.invokestatic 68, 3, 94, 4, .null, [0]), (.invokestatic 37, 3, 93, 1, .null, [0]), (.invokevirtual 82, 3, 97, 2, .null, [2]), (.imul, 1, 0, 0, .null, []), (.iconst 4, 1, 0, 0, .int (nI 4), []), (.iadd, 1, 0, 0, .null, []), (.iconst 4, 1, 0, 0, .int (nI 4), []), (.iload_n 2, 1, 0, 0, .null, []), (.imul, 1, 0, 0, .null, []), (.isub, 1, 0, 0, .null, []), (.istore 10, 2, 0, 0, .null, []), (.iload 6, 2, 0, 0, .null, []), (.ifCond .ne 13, 3, 8, 0, .null, []), (.aload_n 0, 1, 0, 0, .null, []), (.getfield 29, 3, 2, 6, .null, []), (.iload 10, 2, 0, 0, .null, []), (.iaload, 1, 0, 0, .null, []), (.ifCond .ne 7, 3, 9, 0, .null, [])]
abbrev k_M_layOne_8 : List xE := [(.iconst 1, 1, 0, 0, .int (nI 1), []), (.goto 4, 3, 10, 0, .null, [])]
abbrev k_M_layOne_9 : List xE := [(.iconst 0, 1, 0, 0, .int (nI 0), [])]
abbrev k_M_layOne_10 : List xE := [(.istore 6, 2, 0, 0, .null, []), (.aload_n 0, 1, 0, 0, .null, []), (.getfield 29, 3, 2, 6, .null, []), (.iload 10, 2, 0, 0, .null, []), (.iconst 2, 1, 0, 0, .int (nI 2), []), (.iadd, 1, 0, 0, .null, []), (.iaload, 1, 0, 0, .null, []), (.iconst 1, 1, 0, 0, .int (nI 1), []), (.iadd, 1, 0, 0, .null, []), (.iload 7, 2, 0, 0, .null, []), (.if_icmp .le 17, 3, 11, 0, .null, []), (.aload_n 0, 1, 0, 0, .null, []), (.getfield 29, 3, 2, 6, .null, []), (.iload 10, 2, 0, 0, .null, []), (.iconst 2, 1, 0, 0, .int (nI 2), []), (.iadd, 1, 0, 0, .null, []), (.iaload, 1, 0, 0, .null, []), (.iconst 1, 1, 0, 0, .int (nI 1), []), (.iadd, 1, 0, 0, .null, []), (.goto 5, 3, 12, 0, .null, [])]
abbrev k_M_layOne_11 : List xE := [(.iload 7, 2, 0, 0, .null, [])]
abbrev k_M_layOne_12 : List xE := [(.istore 7, 2, 0, 0, .null, []), (.aload_n 0, 1, 0, 0, .null, []), (.getfield 29, 3, 2, 6, .null, []), (.iload 10, 2, 0, 0, .null, []), (.iconst 3, 1, 0, 0, .int (nI 3), []), (.iadd, 1, 0, 0, .null, []), (.iaload, 1, 0, 0, .null, []), (.iconst 1, 1, 0, 0, .int (nI 1), []), (.iadd, 1, 0, 0, .null, []), (.iload 8, 2, 0, 0, .null, []), (.if_icmp .ge 17, 3, 13, 0, .null, []), (.aload_n 0, 1, 0, 0, .null, []), (.getfield 29, 3, 2, 6, .null, []), (.iload 10, 2, 0, 0, .null, []), (.iconst 3, 1, 0, 0, .int (nI 3), []), (.iadd, 1, 0, 0, .null, []), (.iaload, 1, 0, 0, .null, []), (.iconst 1, 1, 0, 0, .int (nI 1), []), (.iadd, 1, 0, 0, .null, []), (.goto 5, 3, 14, 0, .null, [])]
abbrev k_M_layOne_13 : List xE := [(.iload 8, 2, 0, 0, .null, [])]
abbrev k_M_layOne_14 : List xE := [(.istore 8, 2, 0, 0, .null, [])]
abbrev k_M_layOne_15 : List xE := [(.iinc 9 1, 3, 0, 0, .int (nI 1), []), (.goto (-159), 3, 7, 0, .null, [])]
abbrev k_M_layOne_16 : List xE := [(.aload_n 0, 1, 0, 0, .null, []), (.getfield 29, 3, 2, 6, .null, []), (.iload_n 3, 1, 0, 0, .null, []), (.iload 6, 2, 0, 0, .null, []), (.ifCond .eq 7, 3, 17, 0, .null, []), (.iconst 1, 1, 0, 0, .int (nI 1), []), (.goto 4, 3, 18, 0, .null, [])]
abbrev k_M_layOne_17 : List xE := [(.iconst 0, 1, 0, 0, .int (nI 0), [])]
abbrev k_M_layOne_18 : List xE := [(.iastore, 1, 0, 0, .null, []), (.aload_n 0, 1, 0, 0, .null, []), (.getfield 29, 3, 2, 6, .null, []), (.iload_n 3, 1, 0, 0, .null, []), (.iconst 1, 1, 0, 0, .int (nI 1), []), (.iadd, 1, 0, 0, .null, []), (.iload 5, 2, 0, 0, .null, []), (.ifCond .eq 7, 3, 19, 0, .null, []), (.iconst 1, 1, 0, 0, .int (nI 1), []), (.goto 4, 3, 20, 0, .null, [])]
abbrev k_M_layOne_19 : List xE := [(.iconst 0, 1, 0, 0, .int (nI 0), [])]
abbrev k_M_layOne_20 : List xE := [(.iastore, 1, 0, 0, .null, []), (.aload_n 0, 1, 0, 0, .null, []), (.getfield 29, 3, 2, 6, .null, []), (.iload_n 3, 1, 0, 0, .null, []), (.iconst 2, 1, 0, 0, .int (nI 2), []), (.iadd, 1, 0, 0, .null, []), (.iload 7, 2, 0, 0, .null, []), (.iastore, 1, 0, 0, .null, []), (.aload_n 0, 1, 0, 0, .null, []), (.getfield 29, 3, 2, 6, .null, []), (.iload_n 3, 1, 0, 0, .null, []), (.iconst 3, 1, 0, 0, .int (nI 3), []), (.iadd, 1, 0, 0, .null, []), (.iload 8, 2, 0, 0, .null, []), (.iastore, 1, 0, 0, .null, []), (.return_, 1, 0, 0, .null, [])]
def b_M_layOne : List xB := [(0, k_M_layOne_0, 21), (31, k_M_layOne_1, 2), (32, k_M_layOne_2, 21), (54, k_M_layOne_3, 4), (55, k_M_layOne_4, 21), (69, k_M_layOne_5, 6), (71, k_M_layOne_6, 7), (76, k_M_layOne_7, 8), (157, k_M_layOne_8, 21), (161, k_M_layOne_9, 10), (162, k_M_layOne_10, 21), (194, k_M_layOne_11, 12), (196, k_M_layOne_12, 21), (228, k_M_layOne_13, 14), (230, k_M_layOne_14, 15), (232, k_M_layOne_15, 21), (238, k_M_layOne_16, 21), (252, k_M_layOne_17, 18), (253, k_M_layOne_18, 21), (270, k_M_layOne_19, 20), (271, k_M_layOne_20, 21)]
def m_M_layOne : xM := (yX4_layOne, cX4_layOne, 11, none, 0, 0, false, b_M_layOne)
abbrev N_M_layOne : Nat := 99
abbrev k_M_of_0 : List xE := [(.aload_n 0, 1, 0, 0, .null, []), (.invokevirtual 85, 3, 98, 1, .null, [2]), (.aload_n 0, 1, 0, 0, .null, []), (.getfield 29, 3, 2, 6, .null, []), (.bipush 8, 2, 0, 0, .int (nI 8), []), (.aload_n 0, 1, 0, 0, .null, []), (.aload_n 0, 1, 0, 0, .null, []), (.getfield 7, 3, 2, 0, .null, []), (.iconst 0, 1, 0, 0, .int (nI 0), []), (.iaload, 1, 0, 0, .null, []), (.invokevirtual 82, 3, 97, 2, .null, [2]), (.imul, 1, 0, 0, .null, []), (.iconst 4, 1, 0, 0, .int (nI 4), []), (.iload_n 1, 1, 0, 0, .null, []), (.imul, 1, 0, 0, .null, []), (.iadd, 1, 0, 0, .null, []), (.iload_n 2, 1, 0, 0, .null, []), (.iadd, 1, 0, 0, .null, []), (.iaload, 1, 0, 0, .null, []), (.ireturn, 1, 0, 0, .null, [])]
def b_M_of : List xB := [(0, k_M_of_0, 1)]
def m_M_of : xM := (yX4_of, cX4_of, 3, (some .int), 0, 0, false, b_M_of)
abbrev N_M_of : Nat := 100
abbrev k_M_breaks_0 : List xE := [(.iconst 0, 1, 0, 0, .int (nI 0), []), (.istore_n 3, 1, 0, 0, .null, [])]
abbrev k_M_breaks_1 : List xE := [(.iload_n 3, 1, 0, 0, .null, []), (.iconst 5, 1, 0, 0, .int (nI 5), []), (.if_icmp .ge 47, 3, 2, 0, .null, []), (.iload_n 1, 1, 0, 0, .null, []), (.iload_n 3, 1, 0, 0, .null, []), (.invokestatic 64, 3, 92, 2, .null, [0]), (.iload_n 2, 1, 0, 0, .null, []), (.iload_n 3, 1, 0, 0, .null, []), (.invokestatic 64, 3, 92, 2, .null, [0]), (.isub, 1, 0, 0, .null, []), (.istore 4, 2, 0, 0, .null, []), (.aload_n 0, 1, 0, 0, .null, []), (.getfield 7, 3, 2, 0, .null, []), (.bipush 14, 2, 0, 0, .int (nI 14), []), (.iload_n 3, 1, 0, 0, .null, []), (.iadd, 1, 0, 0, .null, []), (.dup2, 1, 0, 0, .null, []), (.iaload, 1, 0, 0, .null, []), (.iload 4, 2, 0, 0, .null, []), (.iadd, 1, 0, 0, .null, []), (.iastore, 1, 0, 0, .null, []), (.aload_n 0, 1, 0, 0, .null, []), (.getfield 7, 3, 2, 0, .null, []), (.iconst 4, 1, 0, 0, .int (nI 4), []), (.dup2, 1, 0, 0, .null, []), (.iaload, 1, 0, 0, .null, []), (.iload 4, 2, 0, 0, .null, []), (.iadd, 1, 0, 0, .null, []), (.iastore, 1, 0, 0, .null, []), (.iinc 3 1, 3, 0, 0, .int (nI 1), []), (.goto (-46), 3, 1, 0, .null, [])]
abbrev k_M_breaks_2 : List xE := [(.aload_n 0, 1, 0, 0, .null, []), (.getfield 7, 3, 2, 0, .null, []), (.iconst 0, 1, 0, 0, .int (nI 0), []), (.iload_n 2, 1, 0, 0, .null, []), (.iastore, 1, 0, 0, .null, []), (.iload_n 1, 1, 0, 0, .null, []), (.invokestatic 58, 3, 91, 1, .null, [0]), (.iload_n 2, 1, 0, 0, .null, []), (.invokestatic 58, 3, 91, 1, .null, [0]), (.isub, 1, 0, 0, .null, []), (.ireturn, 1, 0, 0, .null, [])]
def b_M_breaks : List xB := [(0, k_M_breaks_0, 1), (2, k_M_breaks_1, 3), (51, k_M_breaks_2, 3)]
def m_M_breaks : xM := (yX4_breaks, cX4_breaks, 5, (some .int), 0, 0, false, b_M_breaks)
abbrev N_M_breaks : Nat := 101
abbrev k_M_takes_0 : List xE := [(.aload_n 0, 1, 0, 0, .null, []), (.getfield 7, 3, 2, 0, .null, []), (.iconst 0, 1, 0, 0, .int (nI 0), []), (.iaload, 1, 0, 0, .null, []), (.aload_n 0, 1, 0, 0, .null, []), (.getfield 7, 3, 2, 0, .null, []), (.iconst 1, 1, 0, 0, .int (nI 1), []), (.iaload, 1, 0, 0, .null, []), (.iload_n 1, 1, 0, 0, .null, []), (.iload_n 2, 1, 0, 0, .null, []), (.invokestatic 68, 3, 94, 4, .null, [0]), (.istore_n 3, 1, 0, 0, .null, []), (.aload_n 0, 1, 0, 0, .null, []), (.getfield 7, 3, 2, 0, .null, []), (.iconst 2, 1, 0, 0, .int (nI 2), []), (.aload_n 0, 1, 0, 0, .null, []), (.getfield 7, 3, 2, 0, .null, []), (.iconst 1, 1, 0, 0, .int (nI 1), []), (.iaload, 1, 0, 0, .null, []), (.iadd, 1, 0, 0, .null, []), (.dup2, 1, 0, 0, .null, []), (.iaload, 1, 0, 0, .null, []), (.iload_n 2, 1, 0, 0, .null, []), (.iadd, 1, 0, 0, .null, []), (.iastore, 1, 0, 0, .null, []), (.aload_n 0, 1, 0, 0, .null, []), (.getfield 7, 3, 2, 0, .null, []), (.bipush 9, 2, 0, 0, .int (nI 9), []), (.iload_n 1, 1, 0, 0, .null, []), (.iadd, 1, 0, 0, .null, []), (.dup2, 1, 0, 0, .null, []), (.iaload, 1, 0, 0, .null, []), (.iload_n 2, 1, 0, 0, .null, []), (.iadd, 1, 0, 0, .null, []), (.iastore, 1, 0, 0, .null, []), (.aload_n 0, 1, 0, 0, .null, []), (.getfield 7, 3, 2, 0, .null, []), (.iconst 5, 1, 0, 0, .int (nI 5), []), (.dup2, 1, 0, 0, .null, []), (.iaload, 1, 0, 0, .null, []), (.iconst 1, 1, 0, 0, .int (nI 1), []), (.iadd, 1, 0, 0, .null, []), (.iastore, 1, 0, 0, .null, []), (.aload_n 0, 1, 0, 0, .null, []), (.getfield 7, 3, 2, 0, .null, []), (.iconst 1, 1, 0, 0, .int (nI 1), []), (.iconst 1, 1, 0, 0, .int (nI 1), []), (.aload_n 0, 1, 0, 0, .null, []), (.getfield 7, 3, 2, 0, .null, []), (.iconst 1, 1, 0, 0, .int (nI 1), []), (.iaload, 1, 0, 0, .null, []), (.isub, 1, 0, 0, .null, []), (.iastore, 1, 0, 0, .null, []), (.aload_n 0, 1, 0, 0, .null, []), (.iload_n 3, 1, 0, 0, .null, []), (.iload_n 3, 1, 0, 0, .null, []), (.invokestatic 37, 3, 93, 1, .null, [0]), (.invokevirtual 88, 3, 101, 3, .null, [2]), (.ireturn, 1, 0, 0, .null, [])]
def b_M_takes : List xB := [(0, k_M_takes_0, 1)]
def m_M_takes : xM := (yX4_takes, cX4_takes, 4, (some .int), 0, 0, false, b_M_takes)
abbrev N_M_takes : Nat := 102
abbrev k_M_knocks_0 : List xE := [(.aload_n 0, 1, 0, 0, .null, []), (.getfield 7, 3, 2, 0, .null, []), (.iconst 0, 1, 0, 0, .int (nI 0), []), (.iaload, 1, 0, 0, .null, []), (.iconst 1, 1, 0, 0, .int (nI 1), []), (.iload_n 1, 1, 0, 0, .null, []), (.invokestatic 55, 3, 89, 1, .null, [0]), (.iload_n 2, 1, 0, 0, .null, []), (.iadd, 1, 0, 0, .null, []), (.ishl, 1, 0, 0, .null, []), (.iconst (-1), 1, 0, 0, .int (-1), []), (.ixor, 1, 0, 0, .null, []), (.iand, 1, 0, 0, .null, []), (.istore_n 3, 1, 0, 0, .null, []), (.aload_n 0, 1, 0, 0, .null, []), (.aload_n 0, 1, 0, 0, .null, []), (.getfield 7, 3, 2, 0, .null, []), (.iconst 0, 1, 0, 0, .int (nI 0), []), (.iaload, 1, 0, 0, .null, []), (.iload_n 3, 1, 0, 0, .null, []), (.invokestatic 37, 3, 93, 1, .null, [0]), (.invokevirtual 88, 3, 101, 3, .null, [2]), (.iconst 1, 1, 0, 0, .int (nI 1), []), (.isub, 1, 0, 0, .null, []), (.ireturn, 1, 0, 0, .null, [])]
def b_M_knocks : List xB := [(0, k_M_knocks_0, 1)]
def m_M_knocks : xM := (yX4_knocks, cX4_knocks, 4, (some .int), 0, 0, false, b_M_knocks)
abbrev N_M_knocks : Nat := 103
abbrev k_M_canPut_0 : List xE := [(.iload_n 1, 1, 0, 0, .null, []), (.ifCond .eq 37, 3, 1, 0, .null, []), (.aload_n 0, 1, 0, 0, .null, []), (.getfield 7, 3, 2, 0, .null, []), (.iconst 0, 1, 0, 0, .int (nI 0), []), (.iaload, 1, 0, 0, .null, []), (.iload_n 1, 1, 0, 0, .null, []), (.iconst 1, 1, 0, 0, .int (nI 1), []), (.isub, 1, 0, 0, .null, []), (.iload_n 2, 1, 0, 0, .null, []), (.invokestatic 61, 3, 90, 3, .null, [0]), (.ifCond .eq 25, 3, 2, 0, .null, []), (.aload_n 0, 1, 0, 0, .null, []), (.getfield 7, 3, 2, 0, .null, []), (.iconst 0, 1, 0, 0, .int (nI 0), []), (.iaload, 1, 0, 0, .null, []), (.iload_n 1, 1, 0, 0, .null, []), (.iconst 1, 1, 0, 0, .int (nI 1), []), (.isub, 1, 0, 0, .null, []), (.iload_n 2, 1, 0, 0, .null, []), (.iconst 1, 1, 0, 0, .int (nI 1), []), (.iadd, 1, 0, 0, .null, []), (.invokestatic 61, 3, 90, 3, .null, [0]), (.ifCond .eq 7, 3, 2, 0, .null, [])]
abbrev k_M_canPut_1 : List xE := [(.iconst 1, 1, 0, 0, .int (nI 1), []), (.goto 4, 3, 3, 0, .null, [])]
abbrev k_M_canPut_2 : List xE := [(.iconst 0, 1, 0, 0, .int (nI 0), [])]
abbrev k_M_canPut_3 : List xE := [(.istore_n 3, 1, 0, 0, .null, []), (.iload_n 3, 1, 0, 0, .null, []), (.ifCond .eq 21, 3, 4, 0, .null, []), (.aload_n 0, 1, 0, 0, .null, []), (.getfield 7, 3, 2, 0, .null, []), (.iconst 0, 1, 0, 0, .int (nI 0), []), (.iaload, 1, 0, 0, .null, []), (.iload_n 1, 1, 0, 0, .null, []), (.iload_n 2, 1, 0, 0, .null, []), (.invokestatic 61, 3, 90, 3, .null, [0]), (.ifCond .ne 7, 3, 4, 0, .null, []), (.iconst 1, 1, 0, 0, .int (nI 1), []), (.goto 4, 3, 5, 0, .null, [])]
abbrev k_M_canPut_4 : List xE := [(.iconst 0, 1, 0, 0, .int (nI 0), [])]
abbrev k_M_canPut_5 : List xE := [(.ireturn, 1, 0, 0, .null, [])]
def b_M_canPut : List xB := [(0, k_M_canPut_0, 1), (38, k_M_canPut_1, 6), (42, k_M_canPut_2, 3), (43, k_M_canPut_3, 6), (66, k_M_canPut_4, 5), (67, k_M_canPut_5, 6)]
def m_M_canPut : xM := (yX4_canPut, cX4_canPut, 4, (some .boolean), 0, 0, false, b_M_canPut)
abbrev N_M_canPut : Nat := 104
abbrev k_M_puts_0 : List xE := [(.aload_n 0, 1, 0, 0, .null, []), (.getfield 7, 3, 2, 0, .null, []), (.iconst 0, 1, 0, 0, .int (nI 0), []), (.dup2, 1, 0, 0, .null, []), (.iaload, 1, 0, 0, .null, []), (.iconst 1, 1, 0, 0, .int (nI 1), []), (.iload_n 1, 1, 0, 0, .null, []), (.invokestatic 55, 3, 89, 1, .null, [0]), (.iload_n 2, 1, 0, 0, .null, []), (.iadd, 1, 0, 0, .null, []), (.ishl, 1, 0, 0, .null, []), (.ior, 1, 0, 0, .null, []), (.iastore, 1, 0, 0, .null, []), (.return_, 1, 0, 0, .null, [])]
def b_M_puts : List xB := [(0, k_M_puts_0, 1)]
def m_M_puts : xM := (yX4_puts, cX4_puts, 3, none, 0, 0, false, b_M_puts)
abbrev N_M_puts : Nat := 105
abbrev k_M_mirrors_0 : List xE := [(.iconst 0, 1, 0, 0, .int (nI 0), []), (.istore_n 1, 1, 0, 0, .null, []), (.iconst 0, 1, 0, 0, .int (nI 0), []), (.istore_n 2, 1, 0, 0, .null, [])]
abbrev k_M_mirrors_1 : List xE := [(.iload_n 2, 1, 0, 0, .null, []), (.iconst 5, 1, 0, 0, .int (nI 5), []), (.if_icmp .ge 57, 3, 6, 0, .null, []), (.iconst 0, 1, 0, 0, .int (nI 0), []), (.istore_n 3, 1, 0, 0, .null, [])]
abbrev k_M_mirrors_2 : List xE := [(.iload_n 3, 1, 0, 0, .null, []), (.iconst 5, 1, 0, 0, .int (nI 5), []), (.iload_n 2, 1, 0, 0, .null, []), (.isub, 1, 0, 0, .null, []), (.if_icmp .ge 42, 3, 5, 0, .null, []), (.iload_n 1, 1, 0, 0, .null, []), (.aload_n 0, 1, 0, 0, .null, []), (.getfield 7, 3, 2, 0, .null, []), (.iconst 0, 1, 0, 0, .int (nI 0), []), (.iaload, 1, 0, 0, .null, []), (.iload_n 2, 1, 0, 0, .null, []), (.iload_n 3, 1, 0, 0, .null, []), (.invokestatic 61, 3, 90, 3, .null, [0]), (.ifCond .eq 18, 3, 3, 0, .null, []), (.iconst 1, 1, 0, 0, .int (nI 1), []), (.iload_n 2, 1, 0, 0, .null, []), (.invokestatic 55, 3, 89, 1, .null, [0]), (.iconst 4, 1, 0, 0, .int (nI 4), []), (.iadd, 1, 0, 0, .null, []), (.iload_n 2, 1, 0, 0, .null, []), (.isub, 1, 0, 0, .null, []), (.iload_n 3, 1, 0, 0, .null, []), (.isub, 1, 0, 0, .null, []), (.ishl, 1, 0, 0, .null, []), (.goto 4, 3, 4, 0, .null, [])]
abbrev k_M_mirrors_3 : List xE := [(.iconst 0, 1, 0, 0, .int (nI 0), [])]
abbrev k_M_mirrors_4 : List xE := [(.ior, 1, 0, 0, .null, []), (.istore_n 1, 1, 0, 0, .null, []), (.iinc 3 1, 3, 0, 0, .int (nI 1), []), (.goto (-43), 3, 2, 0, .null, [])]
abbrev k_M_mirrors_5 : List xE := [(.iinc 2 1, 3, 0, 0, .int (nI 1), []), (.goto (-56), 3, 1, 0, .null, [])]
abbrev k_M_mirrors_6 : List xE := [(.aload_n 0, 1, 0, 0, .null, []), (.getfield 7, 3, 2, 0, .null, []), (.iconst 0, 1, 0, 0, .int (nI 0), []), (.iload_n 1, 1, 0, 0, .null, []), (.iastore, 1, 0, 0, .null, []), (.aload_n 0, 1, 0, 0, .null, []), (.getfield 7, 3, 2, 0, .null, []), (.iconst 1, 1, 0, 0, .int (nI 1), []), (.iconst 1, 1, 0, 0, .int (nI 1), []), (.aload_n 0, 1, 0, 0, .null, []), (.getfield 7, 3, 2, 0, .null, []), (.iconst 1, 1, 0, 0, .int (nI 1), []), (.iaload, 1, 0, 0, .null, []), (.isub, 1, 0, 0, .null, []), (.iastore, 1, 0, 0, .null, []), (.return_, 1, 0, 0, .null, [])]
def b_M_mirrors : List xB := [(0, k_M_mirrors_0, 1), (4, k_M_mirrors_1, 2), (11, k_M_mirrors_2, 7), (48, k_M_mirrors_3, 4), (49, k_M_mirrors_4, 7), (57, k_M_mirrors_5, 7), (63, k_M_mirrors_6, 7)]
def m_M_mirrors : xM := (yX4_mirrors, cX4_mirrors, 4, none, 0, 0, false, b_M_mirrors)
abbrev N_M_mirrors : Nat := 106
abbrev k_M_refills_0 : List xE := [(.bipush 15, 2, 0, 0, .int (nI 15), []), (.aload_n 0, 1, 0, 0, .null, []), (.getfield 7, 3, 2, 0, .null, []), (.iconst 0, 1, 0, 0, .int (nI 0), []), (.iaload, 1, 0, 0, .null, []), (.invokestatic 58, 3, 91, 1, .null, [0]), (.isub, 1, 0, 0, .null, []), (.istore_n 1, 1, 0, 0, .null, []), (.aload_n 0, 1, 0, 0, .null, []), (.getfield 7, 3, 2, 0, .null, []), (.iconst 0, 1, 0, 0, .int (nI 0), []), (.sipush 32767, 3, 0, 0, .int (nI 32767), []), (.iastore, 1, 0, 0, .null, []), (.aload_n 0, 1, 0, 0, .null, []), (.getfield 7, 3, 2, 0, .null, []), (.iconst 1, 1, 0, 0, .int (nI 1), []), (.iconst 0, 1, 0, 0, .int (nI 0), []), (.iastore, 1, 0, 0, .null, []), (.iload_n 1, 1, 0, 0, .null, []), (.ireturn, 1, 0, 0, .null, [])]
def b_M_refills : List xB := [(0, k_M_refills_0, 1)]
def m_M_refills : xM := (yX4_refills, cX4_refills, 2, (some .int), 0, 0, false, b_M_refills)
abbrev N_M_refills : Nat := 107
abbrev k_M_take_0 : List xE := [(.aload_n 0, 1, 0, 0, .null, []), (.iload_n 1, 1, 0, 0, .null, []), (.invokestatic 48, 3, 86, 1, .null, [0]), (.ifCond .ne 7, 3, 1, 0, .null, []), (.iconst 1, 1, 0, 0, .int (nI 1), []), (.goto 48, 3, 4, 0, .null, [])]
abbrev k_M_take_1 : List xE := [(.iload_n 2, 1, 0, 0, .null, []), (.iconst 1, 1, 0, 0, .int (nI 1), []), (.aload_n 0, 1, 0, 0, .null, []), (.getfield 7, 3, 2, 0, .null, []), (.bipush 6, 2, 0, 0, .int (nI 6), []), (.iaload, 1, 0, 0, .null, []), (.invokestatic 44, 3, 83, 3, .null, [0]), (.ifCond .ne 7, 3, 2, 0, .null, []), (.iconst 2, 1, 0, 0, .int (nI 2), []), (.goto 29, 3, 4, 0, .null, [])]
abbrev k_M_take_2 : List xE := [(.aload_n 0, 1, 0, 0, .null, []), (.aload_n 0, 1, 0, 0, .null, []), (.getfield 7, 3, 2, 0, .null, []), (.iconst 0, 1, 0, 0, .int (nI 0), []), (.iaload, 1, 0, 0, .null, []), (.aload_n 0, 1, 0, 0, .null, []), (.getfield 7, 3, 2, 0, .null, []), (.iconst 1, 1, 0, 0, .int (nI 1), []), (.iaload, 1, 0, 0, .null, []), (.iload_n 1, 1, 0, 0, .null, []), (.iload_n 2, 1, 0, 0, .null, []), (.invokevirtual 72, 3, 95, 5, .null, [2]), (.ifCond .eq 7, 3, 3, 0, .null, []), (.iconst 3, 1, 0, 0, .int (nI 3), []), (.goto 4, 3, 4, 0, .null, [])]
abbrev k_M_take_3 : List xE := [(.iconst 0, 1, 0, 0, .int (nI 0), [])]
abbrev k_M_take_4 : List xE := [(.invokevirtual 91, 3, 85, 2, .null, [2]), (.ifCond .ne 5, 3, 5, 0, .null, []), (.iconst 0, 1, 0, 0, .int (nI 0), []), (.ireturn, 1, 0, 0, .null, [])]
abbrev k_M_take_5 : List xE := [(.aload_n 0, 1, 0, 0, .null, []), (.invokevirtual 94, 3, 88, 1, .null, [2]), (.aload_n 0, 1, 0, 0, .null, []), (.iload_n 1, 1, 0, 0, .null, []), (.iload_n 2, 1, 0, 0, .null, []), (.invokevirtual 97, 3, 102, 3, .null, [2]), (.ireturn, 1, 0, 0, .null, [])]
def b_M_take : List xB := [(0, k_M_take_0, 6), (12, k_M_take_1, 6), (31, k_M_take_2, 6), (56, k_M_take_3, 4), (57, k_M_take_4, 6), (65, k_M_take_5, 6)]
def m_M_take : xM := (yX4_take, cX4_take, 3, (some .int), 0, 0, false, b_M_take)
abbrev N_M_take : Nat := 108
abbrev k_M_turn_0 : List xE := [(.aload_n 0, 1, 0, 0, .null, []), (.iload_n 1, 1, 0, 0, .null, []), (.iconst 0, 1, 0, 0, .int (nI 0), []), (.iconst 1, 1, 0, 0, .int (nI 1), []), (.invokestatic 44, 3, 83, 3, .null, [0]), (.ifCond .eq 7, 3, 1, 0, .null, []), (.iconst 0, 1, 0, 0, .int (nI 0), []), (.goto 4, 3, 2, 0, .null, [])]
abbrev k_M_turn_1 : List xE := [(.iconst 1, 1, 0, 0, .int (nI 1), [])]
abbrev k_M_turn_2 : List xE := [(.invokevirtual 91, 3, 85, 2, .null, [2]), (.ifCond .ne 5, 3, 3, 0, .null, []), (.iconst 0, 1, 0, 0, .int (nI 0), []), (.ireturn, 1, 0, 0, .null, [])]
abbrev k_M_turn_3 : List xE := [(.aload_n 0, 1, 0, 0, .null, []), (.invokevirtual 94, 3, 88, 1, .null, [2]), (.aload_n 0, 1, 0, 0, .null, []), (.getfield 7, 3, 2, 0, .null, []), (.iconst 1, 1, 0, 0, .int (nI 1), []), (.iaload, 1, 0, 0, .null, []), (.istore_n 2, 1, 0, 0, .null, []), (.aload_n 0, 1, 0, 0, .null, []), (.getfield 7, 3, 2, 0, .null, []), (.iconst 1, 1, 0, 0, .int (nI 1), []), (.iload_n 1, 1, 0, 0, .null, []), (.iastore, 1, 0, 0, .null, []), (.iload_n 2, 1, 0, 0, .null, []), (.ireturn, 1, 0, 0, .null, [])]
def b_M_turn : List xB := [(0, k_M_turn_0, 4), (14, k_M_turn_1, 2), (15, k_M_turn_2, 4), (23, k_M_turn_3, 4)]
def m_M_turn : xM := (yX4_turn, cX4_turn, 3, (some .int), 0, 0, false, b_M_turn)
abbrev N_M_turn : Nat := 109
abbrev k_M_knock_0 : List xE := [(.aload_n 0, 1, 0, 0, .null, []), (.iload_n 1, 1, 0, 0, .null, []), (.iload_n 2, 1, 0, 0, .null, []), (.invokestatic 100, 3, 87, 2, .null, [0]), (.ifCond .ne 7, 3, 1, 0, .null, []), (.iconst 1, 1, 0, 0, .int (nI 1), []), (.goto 22, 3, 3, 0, .null, [])]
abbrev k_M_knock_1 : List xE := [(.aload_n 0, 1, 0, 0, .null, []), (.getfield 7, 3, 2, 0, .null, []), (.iconst 0, 1, 0, 0, .int (nI 0), []), (.iaload, 1, 0, 0, .null, []), (.iload_n 1, 1, 0, 0, .null, []), (.iload_n 2, 1, 0, 0, .null, []), (.invokestatic 61, 3, 90, 3, .null, [0]), (.ifCond .eq 7, 3, 2, 0, .null, []), (.iconst 0, 1, 0, 0, .int (nI 0), []), (.goto 4, 3, 3, 0, .null, [])]
abbrev k_M_knock_2 : List xE := [(.iconst 2, 1, 0, 0, .int (nI 2), [])]
abbrev k_M_knock_3 : List xE := [(.invokevirtual 91, 3, 85, 2, .null, [2]), (.ifCond .ne 5, 3, 4, 0, .null, []), (.iconst 0, 1, 0, 0, .int (nI 0), []), (.ireturn, 1, 0, 0, .null, [])]
abbrev k_M_knock_4 : List xE := [(.aload_n 0, 1, 0, 0, .null, []), (.invokevirtual 94, 3, 88, 1, .null, [2]), (.aload_n 0, 1, 0, 0, .null, []), (.iload_n 1, 1, 0, 0, .null, []), (.iload_n 2, 1, 0, 0, .null, []), (.invokevirtual 104, 3, 103, 3, .null, [2]), (.ireturn, 1, 0, 0, .null, [])]
def b_M_knock : List xB := [(0, k_M_knock_0, 5), (13, k_M_knock_1, 5), (31, k_M_knock_2, 3), (32, k_M_knock_3, 5), (40, k_M_knock_4, 5)]
def m_M_knock : xM := (yX4_knock, cX4_knock, 3, (some .int), 0, 0, false, b_M_knock)
abbrev N_M_knock : Nat := 110
abbrev k_M_put_0 : List xE := [(.aload_n 0, 1, 0, 0, .null, []), (.iload_n 1, 1, 0, 0, .null, []), (.iload_n 2, 1, 0, 0, .null, []), (.invokestatic 100, 3, 87, 2, .null, [0]), (.ifCond .ne 7, 3, 1, 0, .null, []), (.iconst 1, 1, 0, 0, .int (nI 1), []), (.goto 17, 3, 3, 0, .null, [])]
abbrev k_M_put_1 : List xE := [(.aload_n 0, 1, 0, 0, .null, []), (.iload_n 1, 1, 0, 0, .null, []), (.iload_n 2, 1, 0, 0, .null, []), (.invokevirtual 107, 3, 104, 3, .null, [2]), (.ifCond .eq 7, 3, 2, 0, .null, []), (.iconst 0, 1, 0, 0, .int (nI 0), []), (.goto 4, 3, 3, 0, .null, [])]
abbrev k_M_put_2 : List xE := [(.iconst 2, 1, 0, 0, .int (nI 2), [])]
abbrev k_M_put_3 : List xE := [(.invokevirtual 91, 3, 85, 2, .null, [2]), (.ifCond .ne 5, 3, 4, 0, .null, []), (.iconst 0, 1, 0, 0, .int (nI 0), []), (.ireturn, 1, 0, 0, .null, [])]
abbrev k_M_put_4 : List xE := [(.aload_n 0, 1, 0, 0, .null, []), (.invokevirtual 94, 3, 88, 1, .null, [2]), (.aload_n 0, 1, 0, 0, .null, []), (.iload_n 1, 1, 0, 0, .null, []), (.iload_n 2, 1, 0, 0, .null, []), (.invokevirtual 110, 3, 105, 3, .null, [2]), (.aload_n 0, 1, 0, 0, .null, []), (.getfield 7, 3, 2, 0, .null, []), (.iconst 0, 1, 0, 0, .int (nI 0), []), (.iaload, 1, 0, 0, .null, []), (.invokestatic 58, 3, 91, 1, .null, [0]), (.ireturn, 1, 0, 0, .null, [])]
def b_M_put : List xB := [(0, k_M_put_0, 5), (13, k_M_put_1, 5), (26, k_M_put_2, 3), (27, k_M_put_3, 5), (35, k_M_put_4, 5)]
def m_M_put : xM := (yX4_put, cX4_put, 3, (some .int), 0, 0, false, b_M_put)
abbrev N_M_put : Nat := 111
abbrev k_M_mirror_0 : List xE := [(.aload_n 0, 1, 0, 0, .null, []), (.iconst 0, 1, 0, 0, .int (nI 0), []), (.putfield 41, 3, 2, 13, .null, [0]), (.aload_n 0, 1, 0, 0, .null, []), (.invokevirtual 94, 3, 88, 1, .null, [2]), (.aload_n 0, 1, 0, 0, .null, []), (.invokevirtual 113, 3, 106, 1, .null, [2]), (.aload_n 0, 1, 0, 0, .null, []), (.getfield 7, 3, 2, 0, .null, []), (.iconst 0, 1, 0, 0, .int (nI 0), []), (.iaload, 1, 0, 0, .null, []), (.ireturn, 1, 0, 0, .null, [])]
def b_M_mirror : List xB := [(0, k_M_mirror_0, 1)]
def m_M_mirror : xM := (yX4_mirror, cX4_mirror, 1, (some .int), 0, 0, false, b_M_mirror)
abbrev N_M_mirror : Nat := 112
abbrev k_M_refill_0 : List xE := [(.aload_n 0, 1, 0, 0, .null, []), (.iconst 0, 1, 0, 0, .int (nI 0), []), (.putfield 41, 3, 2, 13, .null, [0]), (.aload_n 0, 1, 0, 0, .null, []), (.invokevirtual 94, 3, 88, 1, .null, [2]), (.aload_n 0, 1, 0, 0, .null, []), (.invokevirtual 116, 3, 107, 1, .null, [2]), (.ireturn, 1, 0, 0, .null, [])]
def b_M_refill : List xB := [(0, k_M_refill_0, 1)]
def m_M_refill : xM := (yX4_refill, cX4_refill, 1, (some .int), 0, 0, false, b_M_refill)
abbrev N_M_refill : Nat := 113
abbrev k_M_set_0 : List xE := [(.iload_n 1, 1, 0, 0, .null, []), (.ifCond .ne 12, 3, 1, 0, .null, []), (.iload_n 2, 1, 0, 0, .null, []), (.iconst 1, 1, 0, 0, .int (nI 1), []), (.iconst 3, 1, 0, 0, .int (nI 3), []), (.invokestatic 44, 3, 83, 3, .null, [0]), (.goto 9, 3, 2, 0, .null, [])]
abbrev k_M_set_1 : List xE := [(.iload_n 2, 1, 0, 0, .null, []), (.iconst 0, 1, 0, 0, .int (nI 0), []), (.iconst 1, 1, 0, 0, .int (nI 1), []), (.invokestatic 44, 3, 83, 3, .null, [0])]
abbrev k_M_set_2 : List xE := [(.istore_n 3, 1, 0, 0, .null, []), (.aload_n 0, 1, 0, 0, .null, []), (.iload_n 1, 1, 0, 0, .null, []), (.iconst 0, 1, 0, 0, .int (nI 0), []), (.iconst 2, 1, 0, 0, .int (nI 2), []), (.invokestatic 44, 3, 83, 3, .null, [0]), (.ifCond .ne 7, 3, 3, 0, .null, []), (.iconst 1, 1, 0, 0, .int (nI 1), []), (.goto 12, 3, 5, 0, .null, [])]
abbrev k_M_set_3 : List xE := [(.iload_n 3, 1, 0, 0, .null, []), (.ifCond .eq 7, 3, 4, 0, .null, []), (.iconst 0, 1, 0, 0, .int (nI 0), []), (.goto 4, 3, 5, 0, .null, [])]
abbrev k_M_set_4 : List xE := [(.iconst 2, 1, 0, 0, .int (nI 2), [])]
abbrev k_M_set_5 : List xE := [(.invokevirtual 91, 3, 85, 2, .null, [2]), (.ifCond .ne 5, 3, 6, 0, .null, []), (.iconst 0, 1, 0, 0, .int (nI 0), []), (.ireturn, 1, 0, 0, .null, [])]
abbrev k_M_set_6 : List xE := [(.aload_n 0, 1, 0, 0, .null, []), (.invokevirtual 94, 3, 88, 1, .null, [2]), (.aload_n 0, 1, 0, 0, .null, []), (.getfield 7, 3, 2, 0, .null, []), (.bipush 6, 2, 0, 0, .int (nI 6), []), (.iload_n 1, 1, 0, 0, .null, []), (.iadd, 1, 0, 0, .null, []), (.iaload, 1, 0, 0, .null, []), (.istore 4, 2, 0, 0, .null, []), (.aload_n 0, 1, 0, 0, .null, []), (.getfield 7, 3, 2, 0, .null, []), (.bipush 6, 2, 0, 0, .int (nI 6), []), (.iload_n 1, 1, 0, 0, .null, []), (.iadd, 1, 0, 0, .null, []), (.iload_n 2, 1, 0, 0, .null, []), (.iastore, 1, 0, 0, .null, []), (.iload 4, 2, 0, 0, .null, []), (.ireturn, 1, 0, 0, .null, [])]
def b_M_set : List xB := [(0, k_M_set_0, 7), (13, k_M_set_1, 2), (19, k_M_set_2, 7), (34, k_M_set_3, 7), (42, k_M_set_4, 5), (43, k_M_set_5, 7), (51, k_M_set_6, 7)]
def m_M_set : xM := (yX4_set, cX4_set, 5, (some .int), 0, 0, false, b_M_set)
abbrev N_M_set : Nat := 114
abbrev k_M_append_0 : List xE := [(.aload_n 0, 1, 0, 0, .null, []), (.iload_n 1, 1, 0, 0, .null, []), (.bipush 33, 2, 0, 0, .int (nI 33), []), (.bipush 126, 2, 0, 0, .int (nI 126), []), (.invokestatic 44, 3, 83, 3, .null, [0]), (.ifCond .ne 7, 3, 1, 0, .null, []), (.iconst 1, 1, 0, 0, .int (nI 1), []), (.goto 17, 3, 3, 0, .null, [])]
abbrev k_M_append_1 : List xE := [(.aload_n 0, 1, 0, 0, .null, []), (.getfield 120, 3, 2, 8, .null, []), (.bipush 60, 2, 0, 0, .int (nI 60), []), (.if_icmp .ge 7, 3, 2, 0, .null, []), (.iconst 0, 1, 0, 0, .int (nI 0), []), (.goto 4, 3, 3, 0, .null, [])]
abbrev k_M_append_2 : List xE := [(.iconst 2, 1, 0, 0, .int (nI 2), [])]
abbrev k_M_append_3 : List xE := [(.invokevirtual 91, 3, 85, 2, .null, [2]), (.ifCond .ne 5, 3, 4, 0, .null, []), (.iconst 0, 1, 0, 0, .int (nI 0), []), (.ireturn, 1, 0, 0, .null, [])]
abbrev k_M_append_4 : List xE := [(.aload_n 0, 1, 0, 0, .null, []), (.getfield 19, 3, 2, 3, .null, []), (.aload_n 0, 1, 0, 0, .null, []), (.getfield 120, 3, 2, 8, .null, []), (.iload_n 1, 1, 0, 0, .null, []), (.i2c, 1, 0, 0, .null, []), (.castore, 1, 0, 0, .null, []), (.aload_n 0, 1, 0, 0, .null, []), (.dup, 1, 0, 0, .null, []), (.getfield 120, 3, 2, 8, .null, []), (.iconst 1, 1, 0, 0, .int (nI 1), []), (.iadd, 1, 0, 0, .null, []), (.putfield 120, 3, 2, 8, .null, [0]), (.aload_n 0, 1, 0, 0, .null, []), (.getfield 120, 3, 2, 8, .null, []), (.ireturn, 1, 0, 0, .null, [])]
def b_M_append : List xB := [(0, k_M_append_0, 5), (16, k_M_append_1, 5), (29, k_M_append_2, 3), (30, k_M_append_3, 5), (38, k_M_append_4, 5)]
def m_M_append : xM := (yX4_append, cX4_append, 2, (some .int), 0, 0, false, b_M_append)
abbrev N_M_append : Nat := 115
abbrev k_M_clearBuffer_0 : List xE := [(.aload_n 0, 1, 0, 0, .null, []), (.iconst 0, 1, 0, 0, .int (nI 0), []), (.putfield 41, 3, 2, 13, .null, [0]), (.aload_n 0, 1, 0, 0, .null, []), (.getfield 120, 3, 2, 8, .null, []), (.istore_n 1, 1, 0, 0, .null, []), (.aload_n 0, 1, 0, 0, .null, []), (.iconst 0, 1, 0, 0, .int (nI 0), []), (.putfield 120, 3, 2, 8, .null, [0]), (.iload_n 1, 1, 0, 0, .null, []), (.ireturn, 1, 0, 0, .null, [])]
def b_M_clearBuffer : List xB := [(0, k_M_clearBuffer_0, 1)]
def m_M_clearBuffer : xM := (yX4_clearBuffer, cX4_clearBuffer, 2, (some .int), 0, 0, false, b_M_clearBuffer)
abbrev N_M_clearBuffer : Nat := 116
abbrev k_M_accepts_0 : List xE := [(.aload_n 0, 1, 0, 0, .null, []), (.getfield 123, 3, 2, 11, .null, []), (.aload_n 0, 1, 0, 0, .null, []), (.getfield 120, 3, 2, 8, .null, []), (.if_icmp .ge 24, 3, 1, 0, .null, []), (.aload_n 0, 1, 0, 0, .null, []), (.getfield 19, 3, 2, 3, .null, []), (.aload_n 0, 1, 0, 0, .null, []), (.getfield 123, 3, 2, 11, .null, []), (.caload, 1, 0, 0, .null, []), (.iload_n 1, 1, 0, 0, .null, []), (.iload_n 2, 1, 0, 0, .null, []), (.invokestatic 44, 3, 83, 3, .null, [0]), (.ifCond .eq 7, 3, 1, 0, .null, []), (.iconst 1, 1, 0, 0, .int (nI 1), []), (.goto 4, 3, 2, 0, .null, [])]
abbrev k_M_accepts_1 : List xE := [(.iconst 0, 1, 0, 0, .int (nI 0), [])]
abbrev k_M_accepts_2 : List xE := [(.istore_n 3, 1, 0, 0, .null, []), (.aload_n 0, 1, 0, 0, .null, []), (.dup, 1, 0, 0, .null, []), (.getfield 123, 3, 2, 11, .null, []), (.iload_n 3, 1, 0, 0, .null, []), (.ifCond .eq 7, 3, 3, 0, .null, []), (.iconst 1, 1, 0, 0, .int (nI 1), []), (.goto 4, 3, 4, 0, .null, [])]
abbrev k_M_accepts_3 : List xE := [(.iconst 0, 1, 0, 0, .int (nI 0), [])]
abbrev k_M_accepts_4 : List xE := [(.iadd, 1, 0, 0, .null, []), (.putfield 123, 3, 2, 11, .null, [0]), (.iload_n 3, 1, 0, 0, .null, []), (.ireturn, 1, 0, 0, .null, [])]
def b_M_accepts : List xB := [(0, k_M_accepts_0, 5), (32, k_M_accepts_1, 2), (33, k_M_accepts_2, 5), (47, k_M_accepts_3, 4), (48, k_M_accepts_4, 5)]
def m_M_accepts : xM := (yX4_accepts, cX4_accepts, 4, (some .boolean), 0, 0, false, b_M_accepts)
abbrev N_M_accepts : Nat := 117
abbrev k_M_reads_0 : List xE := [(.iconst 3, 1, 0, 0, .int (nI 3), []), (.aload_n 0, 1, 0, 0, .null, []), (.getfield 126, 3, 2, 10, .null, []), (.imul, 1, 0, 0, .null, []), (.istore_n 1, 1, 0, 0, .null, []), (.aload_n 0, 1, 0, 0, .null, []), (.getfield 23, 3, 2, 4, .null, []), (.iload_n 1, 1, 0, 0, .null, []), (.aload_n 0, 1, 0, 0, .null, []), (.getfield 123, 3, 2, 11, .null, []), (.aload_n 0, 1, 0, 0, .null, []), (.getfield 120, 3, 2, 8, .null, []), (.if_icmp .ge 15, 3, 1, 0, .null, []), (.aload_n 0, 1, 0, 0, .null, []), (.getfield 19, 3, 2, 3, .null, []), (.aload_n 0, 1, 0, 0, .null, []), (.getfield 123, 3, 2, 11, .null, []), (.caload, 1, 0, 0, .null, []), (.goto 4, 3, 2, 0, .null, [])]
abbrev k_M_reads_1 : List xE := [(.iconst 0, 1, 0, 0, .int (nI 0), [])]
abbrev k_M_reads_2 : List xE := [(.iastore, 1, 0, 0, .null, []), (.aload_n 0, 1, 0, 0, .null, []), (.bipush 109, 2, 0, 0, .int (nI 109), []), (.bipush 109, 2, 0, 0, .int (nI 109), []), (.invokevirtual 129, 3, 117, 3, .null, [2]), (.ifCond .ne 14, 3, 3, 0, .null, []), (.aload_n 0, 1, 0, 0, .null, []), (.bipush 114, 2, 0, 0, .int (nI 114), []), (.bipush 114, 2, 0, 0, .int (nI 114), []), (.invokevirtual 129, 3, 117, 3, .null, [2]), (.ifCond .eq 7, 3, 4, 0, .null, [])]
abbrev k_M_reads_3 : List xE := [(.iconst 1, 1, 0, 0, .int (nI 1), []), (.goto 4, 3, 5, 0, .null, [])]
abbrev k_M_reads_4 : List xE := [(.iconst 0, 1, 0, 0, .int (nI 0), [])]
abbrev k_M_reads_5 : List xE := [(.istore_n 2, 1, 0, 0, .null, []), (.iload_n 2, 1, 0, 0, .null, []), (.ifCond .ne 139, 3, 11, 0, .null, []), (.aload_n 0, 1, 0, 0, .null, []), (.bipush 116, 2, 0, 0, .int (nI 116), []), (.bipush 116, 2, 0, 0, .int (nI 116), []), (.invokevirtual 129, 3, 117, 3, .null, [2]), (.ifCond .ne 25, 3, 6, 0, .null, []), (.aload_n 0, 1, 0, 0, .null, []), (.bipush 107, 2, 0, 0, .int (nI 107), []), (.bipush 107, 2, 0, 0, .int (nI 107), []), (.invokevirtual 129, 3, 117, 3, .null, [2]), (.ifCond .ne 14, 3, 6, 0, .null, []), (.aload_n 0, 1, 0, 0, .null, []), (.bipush 112, 2, 0, 0, .int (nI 112), []), (.bipush 112, 2, 0, 0, .int (nI 112), []), (.invokevirtual 129, 3, 117, 3, .null, [2]), (.ifCond .eq 106, 3, 11, 0, .null, [])]
abbrev k_M_reads_6 : List xE := [(.aload_n 0, 1, 0, 0, .null, []), (.bipush 48, 2, 0, 0, .int (nI 48), []), (.bipush 52, 2, 0, 0, .int (nI 52), []), (.invokevirtual 129, 3, 117, 3, .null, [2]), (.ifCond .eq 95, 3, 11, 0, .null, []), (.aload_n 0, 1, 0, 0, .null, []), (.getfield 23, 3, 2, 4, .null, []), (.iload_n 1, 1, 0, 0, .null, []), (.iconst 1, 1, 0, 0, .int (nI 1), []), (.iadd, 1, 0, 0, .null, []), (.aload_n 0, 1, 0, 0, .null, []), (.getfield 19, 3, 2, 3, .null, []), (.aload_n 0, 1, 0, 0, .null, []), (.getfield 123, 3, 2, 11, .null, []), (.iconst 1, 1, 0, 0, .int (nI 1), []), (.isub, 1, 0, 0, .null, []), (.caload, 1, 0, 0, .null, []), (.bipush 48, 2, 0, 0, .int (nI 48), []), (.isub, 1, 0, 0, .null, []), (.iastore, 1, 0, 0, .null, []), (.aload_n 0, 1, 0, 0, .null, []), (.getfield 23, 3, 2, 4, .null, []), (.iload_n 1, 1, 0, 0, .null, []), (.iaload, 1, 0, 0, .null, []), (.bipush 116, 2, 0, 0, .int (nI 116), []), (.if_icmp .ne 14, 3, 7, 0, .null, []), (.aload_n 0, 1, 0, 0, .null, []), (.bipush 49, 2, 0, 0, .int (nI 49), []), (.bipush 51, 2, 0, 0, .int (nI 51), []), (.invokevirtual 129, 3, 117, 3, .null, [2]), (.goto 20, 3, 8, 0, .null, [])]
abbrev k_M_reads_7 : List xE := [(.aload_n 0, 1, 0, 0, .null, []), (.bipush 48, 2, 0, 0, .int (nI 48), []), (.bipush 52, 2, 0, 0, .int (nI 52), []), (.aload_n 0, 1, 0, 0, .null, []), (.getfield 23, 3, 2, 4, .null, []), (.iload_n 1, 1, 0, 0, .null, []), (.iconst 1, 1, 0, 0, .int (nI 1), []), (.iadd, 1, 0, 0, .null, []), (.iaload, 1, 0, 0, .null, []), (.isub, 1, 0, 0, .null, []), (.invokevirtual 129, 3, 117, 3, .null, [2])]
abbrev k_M_reads_8 : List xE := [(.istore_n 2, 1, 0, 0, .null, []), (.aload_n 0, 1, 0, 0, .null, []), (.getfield 23, 3, 2, 4, .null, []), (.iload_n 1, 1, 0, 0, .null, []), (.iconst 2, 1, 0, 0, .int (nI 2), []), (.iadd, 1, 0, 0, .null, []), (.iload_n 2, 1, 0, 0, .null, []), (.ifCond .eq 20, 3, 9, 0, .null, []), (.aload_n 0, 1, 0, 0, .null, []), (.getfield 19, 3, 2, 3, .null, []), (.aload_n 0, 1, 0, 0, .null, []), (.getfield 123, 3, 2, 11, .null, []), (.iconst 1, 1, 0, 0, .int (nI 1), []), (.isub, 1, 0, 0, .null, []), (.caload, 1, 0, 0, .null, []), (.bipush 48, 2, 0, 0, .int (nI 48), []), (.isub, 1, 0, 0, .null, []), (.goto 4, 3, 10, 0, .null, [])]
abbrev k_M_reads_9 : List xE := [(.iconst 0, 1, 0, 0, .int (nI 0), [])]
abbrev k_M_reads_10 : List xE := [(.iastore, 1, 0, 0, .null, [])]
abbrev k_M_reads_11 : List xE := [(.aload_n 0, 1, 0, 0, .null, []), (.dup, 1, 0, 0, .null, []), (.getfield 126, 3, 2, 10, .null, []), (.iload_n 2, 1, 0, 0, .null, []), (.ifCond .eq 7, 3, 12, 0, .null, []), (.iconst 1, 1, 0, 0, .int (nI 1), []), (.goto 4, 3, 13, 0, .null, [])]
abbrev k_M_reads_12 : List xE := [(.iconst 0, 1, 0, 0, .int (nI 0), [])]
abbrev k_M_reads_13 : List xE := [(.iadd, 1, 0, 0, .null, []), (.putfield 126, 3, 2, 10, .null, [0]), (.iload_n 2, 1, 0, 0, .null, []), (.ireturn, 1, 0, 0, .null, [])]
def b_M_reads : List xB := [(0, k_M_reads_0, 14), (35, k_M_reads_1, 2), (36, k_M_reads_2, 3), (59, k_M_reads_3, 14), (63, k_M_reads_4, 5), (64, k_M_reads_5, 6), (102, k_M_reads_6, 14), (157, k_M_reads_7, 8), (174, k_M_reads_8, 14), (203, k_M_reads_9, 10), (204, k_M_reads_10, 11), (205, k_M_reads_11, 14), (218, k_M_reads_12, 13), (219, k_M_reads_13, 14)]
def m_M_reads : xM := (yX4_reads, cX4_reads, 3, (some .boolean), 0, 0, false, b_M_reads)
abbrev N_M_reads : Nat := 118
abbrev k_M_isComplete_0 : List xE := [(.aload_n 0, 1, 0, 0, .null, []), (.iconst 0, 1, 0, 0, .int (nI 0), []), (.putfield 123, 3, 2, 11, .null, [0]), (.aload_n 0, 1, 0, 0, .null, []), (.iconst 0, 1, 0, 0, .int (nI 0), []), (.putfield 126, 3, 2, 10, .null, [0]), (.aload_n 0, 1, 0, 0, .null, []), (.invokevirtual 132, 3, 118, 1, .null, [2]), (.istore_n 1, 1, 0, 0, .null, [])]
abbrev k_M_isComplete_1 : List xE := [(.iload_n 1, 1, 0, 0, .null, []), (.ifCond .eq 41, 3, 4, 0, .null, []), (.aload_n 0, 1, 0, 0, .null, []), (.getfield 123, 3, 2, 11, .null, []), (.aload_n 0, 1, 0, 0, .null, []), (.getfield 120, 3, 2, 8, .null, []), (.if_icmp .ge 30, 3, 4, 0, .null, []), (.aload_n 0, 1, 0, 0, .null, []), (.bipush 59, 2, 0, 0, .int (nI 59), []), (.bipush 59, 2, 0, 0, .int (nI 59), []), (.invokevirtual 129, 3, 117, 3, .null, [2]), (.ifCond .eq 14, 3, 2, 0, .null, []), (.aload_n 0, 1, 0, 0, .null, []), (.invokevirtual 132, 3, 118, 1, .null, [2]), (.ifCond .eq 7, 3, 2, 0, .null, []), (.iconst 1, 1, 0, 0, .int (nI 1), []), (.goto 4, 3, 3, 0, .null, [])]
abbrev k_M_isComplete_2 : List xE := [(.iconst 0, 1, 0, 0, .int (nI 0), [])]
abbrev k_M_isComplete_3 : List xE := [(.istore_n 1, 1, 0, 0, .null, []), (.goto (-39), 3, 1, 0, .null, [])]
abbrev k_M_isComplete_4 : List xE := [(.iload_n 1, 1, 0, 0, .null, []), (.ireturn, 1, 0, 0, .null, [])]
def b_M_isComplete : List xB := [(0, k_M_isComplete_0, 1), (15, k_M_isComplete_1, 5), (52, k_M_isComplete_2, 3), (53, k_M_isComplete_3, 5), (57, k_M_isComplete_4, 5)]
def m_M_isComplete : xM := (yX4_isComplete, cX4_isComplete, 2, (some .boolean), 0, 0, false, b_M_isComplete)
abbrev N_M_isComplete : Nat := 119
abbrev k_M_firstError_0 : List xE := [(.aload_n 0, 1, 0, 0, .null, []), (.iconst 0, 1, 0, 0, .int (nI 0), []), (.putfield 41, 3, 2, 13, .null, [0]), (.aload_n 0, 1, 0, 0, .null, []), (.invokevirtual 136, 3, 119, 1, .null, [2]), (.istore_n 1, 1, 0, 0, .null, []), (.aload_n 0, 1, 0, 0, .null, []), (.getfield 123, 3, 2, 11, .null, []), (.ireturn, 1, 0, 0, .null, [])]
def b_M_firstError : List xB := [(0, k_M_firstError_0, 1)]
def m_M_firstError : xM := (yX4_firstError, cX4_firstError, 2, (some .int), 0, 0, false, b_M_firstError)
abbrev N_M_firstError : Nat := 120
abbrev k_M_does_0 : List xE := [(.aload_n 0, 1, 0, 0, .null, []), (.getfield 23, 3, 2, 4, .null, []), (.iconst 3, 1, 0, 0, .int (nI 3), []), (.iload_n 1, 1, 0, 0, .null, []), (.imul, 1, 0, 0, .null, []), (.iconst 1, 1, 0, 0, .int (nI 1), []), (.iadd, 1, 0, 0, .null, []), (.iaload, 1, 0, 0, .null, []), (.istore_n 2, 1, 0, 0, .null, []), (.aload_n 0, 1, 0, 0, .null, []), (.getfield 23, 3, 2, 4, .null, []), (.iconst 3, 1, 0, 0, .int (nI 3), []), (.iload_n 1, 1, 0, 0, .null, []), (.imul, 1, 0, 0, .null, []), (.iconst 2, 1, 0, 0, .int (nI 2), []), (.iadd, 1, 0, 0, .null, []), (.iaload, 1, 0, 0, .null, []), (.istore_n 3, 1, 0, 0, .null, []), (.aload_n 0, 1, 0, 0, .null, []), (.getfield 23, 3, 2, 4, .null, []), (.iconst 3, 1, 0, 0, .int (nI 3), []), (.iload_n 1, 1, 0, 0, .null, []), (.imul, 1, 0, 0, .null, []), (.iaload, 1, 0, 0, .null, []), (.tableswitch 163 107 116 #[102, 163, 157, 163, 163, 135, 163, 163, 163, 54], 54, 12, 107, .null, [6, 12, 11, 12, 12, 9, 12, 12, 12, 1])]
abbrev k_M_does_1 : List xE := [(.aload_n 0, 1, 0, 0, .null, []), (.aload_n 0, 1, 0, 0, .null, []), (.getfield 7, 3, 2, 0, .null, []), (.iconst 0, 1, 0, 0, .int (nI 0), []), (.iaload, 1, 0, 0, .null, []), (.aload_n 0, 1, 0, 0, .null, []), (.getfield 7, 3, 2, 0, .null, []), (.iconst 1, 1, 0, 0, .int (nI 1), []), (.iaload, 1, 0, 0, .null, []), (.iload_n 2, 1, 0, 0, .null, []), (.iload_n 3, 1, 0, 0, .null, []), (.invokevirtual 72, 3, 95, 5, .null, [2]), (.ifCond .ne 7, 3, 2, 0, .null, []), (.iconst 1, 1, 0, 0, .int (nI 1), []), (.goto 4, 3, 3, 0, .null, [])]
abbrev k_M_does_2 : List xE := [(.iconst 0, 1, 0, 0, .int (nI 0), [])]
abbrev k_M_does_3 : List xE := [(.istore 4, 2, 0, 0, .null, []), (.iload 4, 2, 0, 0, .null, []), (.ifCond .eq 12, 3, 4, 0, .null, []), (.aload_n 0, 1, 0, 0, .null, []), (.iload_n 2, 1, 0, 0, .null, []), (.iload_n 3, 1, 0, 0, .null, []), (.invokevirtual 97, 3, 102, 3, .null, [2]), (.goto 4, 3, 5, 0, .null, [])]
abbrev k_M_does_4 : List xE := [(.iconst 0, 1, 0, 0, .int (nI 0), [])]
abbrev k_M_does_5 : List xE := [(.istore 5, 2, 0, 0, .null, []), (.iload 4, 2, 0, 0, .null, []), (.ireturn, 1, 0, 0, .null, [])]
abbrev k_M_does_6 : List xE := [(.aload_n 0, 1, 0, 0, .null, []), (.getfield 7, 3, 2, 0, .null, []), (.iconst 0, 1, 0, 0, .int (nI 0), []), (.iaload, 1, 0, 0, .null, []), (.iload_n 2, 1, 0, 0, .null, []), (.iload_n 3, 1, 0, 0, .null, []), (.invokestatic 61, 3, 90, 3, .null, [0]), (.istore 6, 2, 0, 0, .null, []), (.iload 6, 2, 0, 0, .null, []), (.ifCond .eq 12, 3, 7, 0, .null, []), (.aload_n 0, 1, 0, 0, .null, []), (.iload_n 2, 1, 0, 0, .null, []), (.iload_n 3, 1, 0, 0, .null, []), (.invokevirtual 104, 3, 103, 3, .null, [2]), (.goto 4, 3, 8, 0, .null, [])]
abbrev k_M_does_7 : List xE := [(.iconst 0, 1, 0, 0, .int (nI 0), [])]
abbrev k_M_does_8 : List xE := [(.istore 7, 2, 0, 0, .null, []), (.iload 6, 2, 0, 0, .null, []), (.ireturn, 1, 0, 0, .null, [])]
abbrev k_M_does_9 : List xE := [(.aload_n 0, 1, 0, 0, .null, []), (.iload_n 2, 1, 0, 0, .null, []), (.iload_n 3, 1, 0, 0, .null, []), (.invokevirtual 107, 3, 104, 3, .null, [2]), (.istore 8, 2, 0, 0, .null, []), (.iload 8, 2, 0, 0, .null, []), (.ifCond .eq 9, 3, 10, 0, .null, []), (.aload_n 0, 1, 0, 0, .null, []), (.iload_n 2, 1, 0, 0, .null, []), (.iload_n 3, 1, 0, 0, .null, []), (.invokevirtual 110, 3, 105, 3, .null, [2])]
abbrev k_M_does_10 : List xE := [(.iload 8, 2, 0, 0, .null, []), (.ireturn, 1, 0, 0, .null, [])]
abbrev k_M_does_11 : List xE := [(.aload_n 0, 1, 0, 0, .null, []), (.invokevirtual 113, 3, 106, 1, .null, [2]), (.iconst 1, 1, 0, 0, .int (nI 1), []), (.ireturn, 1, 0, 0, .null, [])]
abbrev k_M_does_12 : List xE := [(.aload_n 0, 1, 0, 0, .null, []), (.invokevirtual 116, 3, 107, 1, .null, [2]), (.istore 9, 2, 0, 0, .null, []), (.iconst 1, 1, 0, 0, .int (nI 1), []), (.ireturn, 1, 0, 0, .null, [])]
def b_M_does : List xB := [(0, k_M_does_0, 13), (84, k_M_does_1, 13), (109, k_M_does_2, 3), (110, k_M_does_3, 13), (126, k_M_does_4, 5), (127, k_M_does_5, 13), (132, k_M_does_6, 13), (159, k_M_does_7, 8), (160, k_M_does_8, 13), (165, k_M_does_9, 10), (184, k_M_does_10, 13), (187, k_M_does_11, 13), (193, k_M_does_12, 13)]
def m_M_does : xM := (yX4_does, cX4_does, 10, (some .boolean), 0, 0, false, b_M_does)
abbrev N_M_does : Nat := 121
abbrev k_M_obey_0 : List xE := [(.aload_n 0, 1, 0, 0, .null, []), (.aload_n 0, 1, 0, 0, .null, []), (.invokevirtual 136, 3, 119, 1, .null, [2]), (.ifCond .eq 7, 3, 1, 0, .null, []), (.iconst 0, 1, 0, 0, .int (nI 0), []), (.goto 4, 3, 2, 0, .null, [])]
abbrev k_M_obey_1 : List xE := [(.iconst 1, 1, 0, 0, .int (nI 1), [])]
abbrev k_M_obey_2 : List xE := [(.invokevirtual 91, 3, 85, 2, .null, [2]), (.ifCond .ne 5, 3, 3, 0, .null, []), (.iconst 0, 1, 0, 0, .int (nI 0), []), (.ireturn, 1, 0, 0, .null, [])]
abbrev k_M_obey_3 : List xE := [(.aload_n 0, 1, 0, 0, .null, []), (.invokevirtual 94, 3, 88, 1, .null, [2]), (.iconst 0, 1, 0, 0, .int (nI 0), []), (.istore_n 1, 1, 0, 0, .null, [])]
abbrev k_M_obey_4 : List xE := [(.iload_n 1, 1, 0, 0, .null, []), (.aload_n 0, 1, 0, 0, .null, []), (.getfield 126, 3, 2, 10, .null, []), (.if_icmp .ge 17, 3, 5, 0, .null, []), (.aload_n 0, 1, 0, 0, .null, []), (.iload_n 1, 1, 0, 0, .null, []), (.invokevirtual 139, 3, 121, 2, .null, [2]), (.ifCond .eq 9, 3, 5, 0, .null, []), (.iinc 1 1, 3, 0, 0, .int (nI 1), []), (.goto (-19), 3, 4, 0, .null, [])]
abbrev k_M_obey_5 : List xE := [(.aload_n 0, 1, 0, 0, .null, []), (.iconst 0, 1, 0, 0, .int (nI 0), []), (.putfield 120, 3, 2, 8, .null, [0]), (.iload_n 1, 1, 0, 0, .null, []), (.ireturn, 1, 0, 0, .null, [])]
def b_M_obey : List xB := [(0, k_M_obey_0, 6), (12, k_M_obey_1, 2), (13, k_M_obey_2, 6), (21, k_M_obey_3, 4), (27, k_M_obey_4, 6), (49, k_M_obey_5, 6)]
def m_M_obey : xM := (yX4_obey, cX4_obey, 2, (some .int), 0, 0, false, b_M_obey)
abbrev N_M_obey : Nat := 122
abbrev k_M_keep_0 : List xE := [(.aload_n 0, 1, 0, 0, .null, []), (.iconst 0, 1, 0, 0, .int (nI 0), []), (.putfield 41, 3, 2, 13, .null, [0]), (.iconst 0, 1, 0, 0, .int (nI 0), []), (.istore_n 1, 1, 0, 0, .null, [])]
abbrev k_M_keep_1 : List xE := [(.iload_n 1, 1, 0, 0, .null, []), (.bipush 19, 2, 0, 0, .int (nI 19), []), (.if_icmp .ge 21, 3, 2, 0, .null, []), (.aload_n 0, 1, 0, 0, .null, []), (.getfield 16, 3, 2, 2, .null, []), (.iload_n 1, 1, 0, 0, .null, []), (.aload_n 0, 1, 0, 0, .null, []), (.getfield 7, 3, 2, 0, .null, []), (.iload_n 1, 1, 0, 0, .null, []), (.iaload, 1, 0, 0, .null, []), (.iastore, 1, 0, 0, .null, []), (.iinc 1 1, 3, 0, 0, .int (nI 1), []), (.goto (-21), 3, 1, 0, .null, [])]
abbrev k_M_keep_2 : List xE := [(.aload_n 0, 1, 0, 0, .null, []), (.iconst 1, 1, 0, 0, .int (nI 1), []), (.putfield 142, 3, 2, 12, .null, [1]), (.aload_n 0, 1, 0, 0, .null, []), (.getfield 7, 3, 2, 0, .null, []), (.iconst 0, 1, 0, 0, .int (nI 0), []), (.iaload, 1, 0, 0, .null, []), (.ireturn, 1, 0, 0, .null, [])]
def b_M_keep : List xB := [(0, k_M_keep_0, 1), (7, k_M_keep_1, 3), (31, k_M_keep_2, 3)]
def m_M_keep : xM := (yX4_keep, cX4_keep, 2, (some .int), 0, 0, false, b_M_keep)
abbrev N_M_keep : Nat := 123
abbrev k_M_goBack_0 : List xE := [(.aload_n 0, 1, 0, 0, .null, []), (.aload_n 0, 1, 0, 0, .null, []), (.getfield 142, 3, 2, 12, .null, []), (.ifCond .eq 7, 3, 1, 0, .null, []), (.iconst 0, 1, 0, 0, .int (nI 0), []), (.goto 4, 3, 2, 0, .null, [])]
abbrev k_M_goBack_1 : List xE := [(.iconst 1, 1, 0, 0, .int (nI 1), [])]
abbrev k_M_goBack_2 : List xE := [(.invokevirtual 91, 3, 85, 2, .null, [2]), (.ifCond .ne 5, 3, 3, 0, .null, []), (.iconst 0, 1, 0, 0, .int (nI 0), []), (.ireturn, 1, 0, 0, .null, [])]
abbrev k_M_goBack_3 : List xE := [(.aload_n 0, 1, 0, 0, .null, []), (.invokevirtual 94, 3, 88, 1, .null, [2]), (.iconst 0, 1, 0, 0, .int (nI 0), []), (.istore_n 1, 1, 0, 0, .null, [])]
abbrev k_M_goBack_4 : List xE := [(.iload_n 1, 1, 0, 0, .null, []), (.bipush 19, 2, 0, 0, .int (nI 19), []), (.if_icmp .ge 21, 3, 5, 0, .null, []), (.aload_n 0, 1, 0, 0, .null, []), (.getfield 7, 3, 2, 0, .null, []), (.iload_n 1, 1, 0, 0, .null, []), (.aload_n 0, 1, 0, 0, .null, []), (.getfield 16, 3, 2, 2, .null, []), (.iload_n 1, 1, 0, 0, .null, []), (.iaload, 1, 0, 0, .null, []), (.iastore, 1, 0, 0, .null, []), (.iinc 1 1, 3, 0, 0, .int (nI 1), []), (.goto (-21), 3, 4, 0, .null, [])]
abbrev k_M_goBack_5 : List xE := [(.aload_n 0, 1, 0, 0, .null, []), (.getfield 7, 3, 2, 0, .null, []), (.iconst 0, 1, 0, 0, .int (nI 0), []), (.iaload, 1, 0, 0, .null, []), (.ireturn, 1, 0, 0, .null, [])]
def b_M_goBack : List xB := [(0, k_M_goBack_0, 6), (12, k_M_goBack_1, 2), (13, k_M_goBack_2, 6), (21, k_M_goBack_3, 4), (27, k_M_goBack_4, 6), (51, k_M_goBack_5, 6)]
def m_M_goBack : xM := (yX4_goBack, cX4_goBack, 2, (some .int), 0, 0, false, b_M_goBack)
abbrev N_M_goBack : Nat := 124
abbrev k_M_undo_0 : List xE := [(.aload_n 0, 1, 0, 0, .null, []), (.aload_n 0, 1, 0, 0, .null, []), (.getfield 52, 3, 2, 9, .null, []), (.ifCond .le 7, 3, 1, 0, .null, []), (.iconst 0, 1, 0, 0, .int (nI 0), []), (.goto 4, 3, 2, 0, .null, [])]
abbrev k_M_undo_1 : List xE := [(.iconst 1, 1, 0, 0, .int (nI 1), [])]
abbrev k_M_undo_2 : List xE := [(.invokevirtual 91, 3, 85, 2, .null, [2]), (.ifCond .ne 5, 3, 3, 0, .null, []), (.iconst 0, 1, 0, 0, .int (nI 0), []), (.ireturn, 1, 0, 0, .null, [])]
abbrev k_M_undo_3 : List xE := [(.aload_n 0, 1, 0, 0, .null, []), (.dup, 1, 0, 0, .null, []), (.getfield 52, 3, 2, 9, .null, []), (.iconst 1, 1, 0, 0, .int (nI 1), []), (.isub, 1, 0, 0, .null, []), (.putfield 52, 3, 2, 9, .null, [0]), (.iconst 0, 1, 0, 0, .int (nI 0), []), (.istore_n 1, 1, 0, 0, .null, [])]
abbrev k_M_undo_4 : List xE := [(.iload_n 1, 1, 0, 0, .null, []), (.bipush 19, 2, 0, 0, .int (nI 19), []), (.if_icmp .ge 29, 3, 5, 0, .null, []), (.aload_n 0, 1, 0, 0, .null, []), (.getfield 7, 3, 2, 0, .null, []), (.iload_n 1, 1, 0, 0, .null, []), (.aload_n 0, 1, 0, 0, .null, []), (.getfield 13, 3, 2, 1, .null, []), (.bipush 19, 2, 0, 0, .int (nI 19), []), (.aload_n 0, 1, 0, 0, .null, []), (.getfield 52, 3, 2, 9, .null, []), (.imul, 1, 0, 0, .null, []), (.iload_n 1, 1, 0, 0, .null, []), (.iadd, 1, 0, 0, .null, []), (.iaload, 1, 0, 0, .null, []), (.iastore, 1, 0, 0, .null, []), (.iinc 1 1, 3, 0, 0, .int (nI 1), []), (.goto (-29), 3, 4, 0, .null, [])]
abbrev k_M_undo_5 : List xE := [(.aload_n 0, 1, 0, 0, .null, []), (.getfield 52, 3, 2, 9, .null, []), (.ireturn, 1, 0, 0, .null, [])]
def b_M_undo : List xB := [(0, k_M_undo_0, 6), (12, k_M_undo_1, 2), (13, k_M_undo_2, 6), (21, k_M_undo_3, 4), (33, k_M_undo_4, 6), (65, k_M_undo_5, 6)]
def m_M_undo : xM := (yX4_undo, cX4_undo, 2, (some .int), 0, 0, false, b_M_undo)
abbrev N_M_undo : Nat := 125
abbrev k_M_edge_0 : List xE := [(.iconst (-1), 1, 0, 0, .int (-1), []), (.istore_n 3, 1, 0, 0, .null, []), (.iconst 0, 1, 0, 0, .int (nI 0), []), (.istore 4, 2, 0, 0, .null, [])]
abbrev k_M_edge_1 : List xE := [(.iload 4, 2, 0, 0, .null, []), (.iconst 5, 1, 0, 0, .int (nI 5), []), (.iload_n 1, 1, 0, 0, .null, []), (.isub, 1, 0, 0, .null, []), (.if_icmp .ge 48, 3, 6, 0, .null, []), (.iload_n 2, 1, 0, 0, .null, []), (.ifCond .eq 12, 3, 2, 0, .null, []), (.iconst 4, 1, 0, 0, .int (nI 4), []), (.iload_n 1, 1, 0, 0, .null, []), (.isub, 1, 0, 0, .null, []), (.iload 4, 2, 0, 0, .null, []), (.isub, 1, 0, 0, .null, []), (.goto 5, 3, 3, 0, .null, [])]
abbrev k_M_edge_2 : List xE := [(.iload 4, 2, 0, 0, .null, [])]
abbrev k_M_edge_3 : List xE := [(.istore 5, 2, 0, 0, .null, []), (.aload_n 0, 1, 0, 0, .null, []), (.getfield 7, 3, 2, 0, .null, []), (.iconst 0, 1, 0, 0, .int (nI 0), []), (.iaload, 1, 0, 0, .null, []), (.iload_n 1, 1, 0, 0, .null, []), (.iload 5, 2, 0, 0, .null, []), (.invokestatic 61, 3, 90, 3, .null, [0]), (.ifCond .eq 8, 3, 4, 0, .null, []), (.iload 5, 2, 0, 0, .null, []), (.goto 4, 3, 5, 0, .null, [])]
abbrev k_M_edge_4 : List xE := [(.iload_n 3, 1, 0, 0, .null, [])]
abbrev k_M_edge_5 : List xE := [(.istore_n 3, 1, 0, 0, .null, []), (.iinc 4 1, 3, 0, 0, .int (nI 1), []), (.goto (-50), 3, 1, 0, .null, [])]
abbrev k_M_edge_6 : List xE := [(.iload_n 3, 1, 0, 0, .null, []), (.ireturn, 1, 0, 0, .null, [])]
def b_M_edge : List xB := [(0, k_M_edge_0, 1), (5, k_M_edge_1, 7), (26, k_M_edge_2, 3), (28, k_M_edge_3, 7), (50, k_M_edge_4, 5), (51, k_M_edge_5, 7), (58, k_M_edge_6, 7)]
def m_M_edge : xM := (yX4_edge, cX4_edge, 6, (some .int), 0, 0, false, b_M_edge)
abbrev N_M_edge : Nat := 126
abbrev k_M_mostIn_0 : List xE := [(.iconst 0, 1, 0, 0, .int (nI 0), []), (.istore_n 2, 1, 0, 0, .null, []), (.iconst 1, 1, 0, 0, .int (nI 1), []), (.istore_n 3, 1, 0, 0, .null, [])]
abbrev k_M_mostIn_1 : List xE := [(.iload_n 3, 1, 0, 0, .null, []), (.iconst 4, 1, 0, 0, .int (nI 4), []), (.if_icmp .ge 36, 3, 4, 0, .null, []), (.aload_n 0, 1, 0, 0, .null, []), (.aload_n 0, 1, 0, 0, .null, []), (.getfield 7, 3, 2, 0, .null, []), (.iconst 0, 1, 0, 0, .int (nI 0), []), (.iaload, 1, 0, 0, .null, []), (.aload_n 0, 1, 0, 0, .null, []), (.getfield 7, 3, 2, 0, .null, []), (.iconst 1, 1, 0, 0, .int (nI 1), []), (.iaload, 1, 0, 0, .null, []), (.iload_n 1, 1, 0, 0, .null, []), (.iload_n 3, 1, 0, 0, .null, []), (.invokevirtual 72, 3, 95, 5, .null, [2]), (.ifCond .ne 7, 3, 2, 0, .null, []), (.iload_n 3, 1, 0, 0, .null, []), (.goto 4, 3, 3, 0, .null, [])]
abbrev k_M_mostIn_2 : List xE := [(.iload_n 2, 1, 0, 0, .null, [])]
abbrev k_M_mostIn_3 : List xE := [(.istore_n 2, 1, 0, 0, .null, []), (.iinc 3 1, 3, 0, 0, .int (nI 1), []), (.goto (-35), 3, 1, 0, .null, [])]
abbrev k_M_mostIn_4 : List xE := [(.iload_n 2, 1, 0, 0, .null, []), (.ireturn, 1, 0, 0, .null, [])]
def b_M_mostIn : List xB := [(0, k_M_mostIn_0, 1), (4, k_M_mostIn_1, 5), (34, k_M_mostIn_2, 3), (35, k_M_mostIn_3, 5), (42, k_M_mostIn_4, 5)]
def m_M_mostIn : xM := (yX4_mostIn, cX4_mostIn, 4, (some .int), 0, 0, false, b_M_mostIn)
abbrev N_M_mostIn : Nat := 127
abbrev k_M_row_0 : List xE := [(.aload_n 0, 1, 0, 0, .null, []), (.iload_n 1, 1, 0, 0, .null, []), (.invokestatic 48, 3, 86, 1, .null, [0]), (.ifCond .ne 7, 3, 1, 0, .null, []), (.iconst 1, 1, 0, 0, .int (nI 1), []), (.goto 17, 3, 3, 0, .null, [])]
abbrev k_M_row_1 : List xE := [(.iload_n 2, 1, 0, 0, .null, []), (.iconst 0, 1, 0, 0, .int (nI 0), []), (.iconst 5, 1, 0, 0, .int (nI 5), []), (.invokestatic 44, 3, 83, 3, .null, [0]), (.ifCond .eq 7, 3, 2, 0, .null, []), (.iconst 0, 1, 0, 0, .int (nI 0), []), (.goto 4, 3, 3, 0, .null, [])]
abbrev k_M_row_2 : List xE := [(.iconst 2, 1, 0, 0, .int (nI 2), [])]
abbrev k_M_row_3 : List xE := [(.invokevirtual 91, 3, 85, 2, .null, [2]), (.ifCond .ne 5, 3, 4, 0, .null, []), (.iconst 0, 1, 0, 0, .int (nI 0), []), (.ireturn, 1, 0, 0, .null, [])]
abbrev k_M_row_4 : List xE := [(.iload_n 2, 1, 0, 0, .null, []), (.tableswitch 76 0 4 #[33, 44, 44, 60, 66], 33, 11, 0, .null, [5, 6, 6, 9, 10])]
abbrev k_M_row_5 : List xE := [(.aload_n 0, 1, 0, 0, .null, []), (.getfield 7, 3, 2, 0, .null, []), (.iconst 0, 1, 0, 0, .int (nI 0), []), (.iaload, 1, 0, 0, .null, []), (.iload_n 1, 1, 0, 0, .null, []), (.invokestatic 64, 3, 92, 2, .null, [0]), (.ireturn, 1, 0, 0, .null, [])]
abbrev k_M_row_6 : List xE := [(.aload_n 0, 1, 0, 0, .null, []), (.iload_n 1, 1, 0, 0, .null, []), (.iload_n 2, 1, 0, 0, .null, []), (.iconst 1, 1, 0, 0, .int (nI 1), []), (.if_icmp .ne 7, 3, 7, 0, .null, []), (.iconst 1, 1, 0, 0, .int (nI 1), []), (.goto 4, 3, 8, 0, .null, [])]
abbrev k_M_row_7 : List xE := [(.iconst 0, 1, 0, 0, .int (nI 0), [])]
abbrev k_M_row_8 : List xE := [(.invokevirtual 146, 3, 126, 3, .null, [2]), (.ireturn, 1, 0, 0, .null, [])]
abbrev k_M_row_9 : List xE := [(.aload_n 0, 1, 0, 0, .null, []), (.iload_n 1, 1, 0, 0, .null, []), (.invokevirtual 150, 3, 127, 2, .null, [2]), (.ireturn, 1, 0, 0, .null, [])]
abbrev k_M_row_10 : List xE := [(.aload_n 0, 1, 0, 0, .null, []), (.getfield 7, 3, 2, 0, .null, []), (.bipush 9, 2, 0, 0, .int (nI 9), []), (.iload_n 1, 1, 0, 0, .null, []), (.iadd, 1, 0, 0, .null, []), (.iaload, 1, 0, 0, .null, []), (.ireturn, 1, 0, 0, .null, [])]
abbrev k_M_row_11 : List xE := [(.aload_n 0, 1, 0, 0, .null, []), (.getfield 7, 3, 2, 0, .null, []), (.bipush 14, 2, 0, 0, .int (nI 14), []), (.iload_n 1, 1, 0, 0, .null, []), (.iadd, 1, 0, 0, .null, []), (.iaload, 1, 0, 0, .null, []), (.ireturn, 1, 0, 0, .null, [])]
def b_M_row : List xB := [(0, k_M_row_0, 12), (12, k_M_row_1, 12), (25, k_M_row_2, 3), (26, k_M_row_3, 12), (34, k_M_row_4, 12), (68, k_M_row_5, 12), (79, k_M_row_6, 12), (90, k_M_row_7, 8), (91, k_M_row_8, 12), (95, k_M_row_9, 12), (101, k_M_row_10, 12), (111, k_M_row_11, 12)]
def m_M_row : xM := (yX4_row, cX4_row, 3, (some .int), 0, 0, false, b_M_row)
abbrev N_M_row : Nat := 128
abbrev k_M_winner_0 : List xE := [(.aload_n 0, 1, 0, 0, .null, []), (.aload_n 0, 1, 0, 0, .null, []), (.getfield 7, 3, 2, 0, .null, []), (.iconst 1, 1, 0, 0, .int (nI 1), []), (.iaload, 1, 0, 0, .null, []), (.iconst 1, 1, 0, 0, .int (nI 1), []), (.invokevirtual 153, 3, 100, 3, .null, [2]), (.ifCond .ne 7, 3, 1, 0, .null, []), (.iconst (-1), 1, 0, 0, .int (-1), []), (.goto 31, 3, 3, 0, .null, [])]
abbrev k_M_winner_1 : List xE := [(.aload_n 0, 1, 0, 0, .null, []), (.getfield 7, 3, 2, 0, .null, []), (.bipush 8, 2, 0, 0, .int (nI 8), []), (.iaload, 1, 0, 0, .null, []), (.iconst 1, 1, 0, 0, .int (nI 1), []), (.if_icmp .ne 12, 3, 2, 0, .null, []), (.aload_n 0, 1, 0, 0, .null, []), (.getfield 7, 3, 2, 0, .null, []), (.iconst 1, 1, 0, 0, .int (nI 1), []), (.iaload, 1, 0, 0, .null, []), (.goto 11, 3, 3, 0, .null, [])]
abbrev k_M_winner_2 : List xE := [(.iconst 1, 1, 0, 0, .int (nI 1), []), (.aload_n 0, 1, 0, 0, .null, []), (.getfield 7, 3, 2, 0, .null, []), (.iconst 1, 1, 0, 0, .int (nI 1), []), (.iaload, 1, 0, 0, .null, []), (.isub, 1, 0, 0, .null, [])]
abbrev k_M_winner_3 : List xE := [(.ireturn, 1, 0, 0, .null, [])]
def b_M_winner : List xB := [(0, k_M_winner_0, 4), (18, k_M_winner_1, 4), (38, k_M_winner_2, 3), (46, k_M_winner_3, 4)]
def m_M_winner : xM := (yX4_winner, cX4_winner, 1, (some .int), 0, 0, false, b_M_winner)
abbrev N_M_winner : Nat := 129
abbrev k_M_count_0 : List xE := [(.aload_n 0, 1, 0, 0, .null, []), (.iload_n 1, 1, 0, 0, .null, []), (.iconst 0, 1, 0, 0, .int (nI 0), []), (.bipush 9, 2, 0, 0, .int (nI 9), []), (.invokestatic 44, 3, 83, 3, .null, [0]), (.ifCond .eq 7, 3, 1, 0, .null, []), (.iconst 0, 1, 0, 0, .int (nI 0), []), (.goto 4, 3, 2, 0, .null, [])]
abbrev k_M_count_1 : List xE := [(.iconst 1, 1, 0, 0, .int (nI 1), [])]
abbrev k_M_count_2 : List xE := [(.invokevirtual 91, 3, 85, 2, .null, [2]), (.ifCond .ne 5, 3, 3, 0, .null, []), (.iconst 0, 1, 0, 0, .int (nI 0), []), (.ireturn, 1, 0, 0, .null, [])]
abbrev k_M_count_3 : List xE := [(.iload_n 1, 1, 0, 0, .null, []), (.tableswitch 122 0 8 #[51, 58, 68, 75, 75, 86, 93, 100, 117], 51, 12, 0, .null, [4, 5, 6, 7, 7, 8, 9, 10, 11])]
abbrev k_M_count_4 : List xE := [(.aload_n 0, 1, 0, 0, .null, []), (.getfield 7, 3, 2, 0, .null, []), (.iconst 0, 1, 0, 0, .int (nI 0), []), (.iaload, 1, 0, 0, .null, []), (.ireturn, 1, 0, 0, .null, [])]
abbrev k_M_count_5 : List xE := [(.aload_n 0, 1, 0, 0, .null, []), (.getfield 7, 3, 2, 0, .null, []), (.iconst 0, 1, 0, 0, .int (nI 0), []), (.iaload, 1, 0, 0, .null, []), (.invokestatic 58, 3, 91, 1, .null, [0]), (.ireturn, 1, 0, 0, .null, [])]
abbrev k_M_count_6 : List xE := [(.aload_n 0, 1, 0, 0, .null, []), (.getfield 7, 3, 2, 0, .null, []), (.iconst 1, 1, 0, 0, .int (nI 1), []), (.iaload, 1, 0, 0, .null, []), (.ireturn, 1, 0, 0, .null, [])]
abbrev k_M_count_7 : List xE := [(.aload_n 0, 1, 0, 0, .null, []), (.getfield 7, 3, 2, 0, .null, []), (.iconst 2, 1, 0, 0, .int (nI 2), []), (.iload_n 1, 1, 0, 0, .null, []), (.iadd, 1, 0, 0, .null, []), (.iconst 3, 1, 0, 0, .int (nI 3), []), (.isub, 1, 0, 0, .null, []), (.iaload, 1, 0, 0, .null, []), (.ireturn, 1, 0, 0, .null, [])]
abbrev k_M_count_8 : List xE := [(.aload_n 0, 1, 0, 0, .null, []), (.getfield 7, 3, 2, 0, .null, []), (.iconst 4, 1, 0, 0, .int (nI 4), []), (.iaload, 1, 0, 0, .null, []), (.ireturn, 1, 0, 0, .null, [])]
abbrev k_M_count_9 : List xE := [(.aload_n 0, 1, 0, 0, .null, []), (.getfield 7, 3, 2, 0, .null, []), (.iconst 5, 1, 0, 0, .int (nI 5), []), (.iaload, 1, 0, 0, .null, []), (.ireturn, 1, 0, 0, .null, [])]
abbrev k_M_count_10 : List xE := [(.aload_n 0, 1, 0, 0, .null, []), (.aload_n 0, 1, 0, 0, .null, []), (.getfield 7, 3, 2, 0, .null, []), (.iconst 0, 1, 0, 0, .int (nI 0), []), (.iaload, 1, 0, 0, .null, []), (.aload_n 0, 1, 0, 0, .null, []), (.getfield 7, 3, 2, 0, .null, []), (.iconst 1, 1, 0, 0, .int (nI 1), []), (.iaload, 1, 0, 0, .null, []), (.invokevirtual 79, 3, 96, 3, .null, [2]), (.ireturn, 1, 0, 0, .null, [])]
abbrev k_M_count_11 : List xE := [(.aload_n 0, 1, 0, 0, .null, []), (.invokevirtual 156, 3, 129, 1, .null, [2]), (.ireturn, 1, 0, 0, .null, [])]
abbrev k_M_count_12 : List xE := [(.aload_n 0, 1, 0, 0, .null, []), (.getfield 52, 3, 2, 9, .null, []), (.ireturn, 1, 0, 0, .null, [])]
def b_M_count : List xB := [(0, k_M_count_0, 13), (15, k_M_count_1, 2), (16, k_M_count_2, 13), (24, k_M_count_3, 13), (76, k_M_count_4, 13), (83, k_M_count_5, 13), (93, k_M_count_6, 13), (100, k_M_count_7, 13), (111, k_M_count_8, 13), (118, k_M_count_9, 13), (125, k_M_count_10, 13), (142, k_M_count_11, 13), (147, k_M_count_12, 13)]
def m_M_count : xM := (yX4_count, cX4_count, 2, (some .int), 0, 0, false, b_M_count)
abbrev N_M_count : Nat := 130
abbrev k_M_setting_0 : List xE := [(.aload_n 0, 1, 0, 0, .null, []), (.iload_n 1, 1, 0, 0, .null, []), (.iconst 0, 1, 0, 0, .int (nI 0), []), (.iconst 2, 1, 0, 0, .int (nI 2), []), (.invokestatic 44, 3, 83, 3, .null, [0]), (.ifCond .eq 7, 3, 1, 0, .null, []), (.iconst 0, 1, 0, 0, .int (nI 0), []), (.goto 4, 3, 2, 0, .null, [])]
abbrev k_M_setting_1 : List xE := [(.iconst 1, 1, 0, 0, .int (nI 1), [])]
abbrev k_M_setting_2 : List xE := [(.invokevirtual 91, 3, 85, 2, .null, [2]), (.ifCond .eq 15, 3, 3, 0, .null, []), (.aload_n 0, 1, 0, 0, .null, []), (.getfield 7, 3, 2, 0, .null, []), (.bipush 6, 2, 0, 0, .int (nI 6), []), (.iload_n 1, 1, 0, 0, .null, []), (.iadd, 1, 0, 0, .null, []), (.iaload, 1, 0, 0, .null, []), (.goto 4, 3, 4, 0, .null, [])]
abbrev k_M_setting_3 : List xE := [(.iconst 0, 1, 0, 0, .int (nI 0), [])]
abbrev k_M_setting_4 : List xE := [(.ireturn, 1, 0, 0, .null, [])]
def b_M_setting : List xB := [(0, k_M_setting_0, 5), (14, k_M_setting_1, 2), (15, k_M_setting_2, 5), (33, k_M_setting_3, 4), (34, k_M_setting_4, 5)]
def m_M_setting : xM := (yX4_setting, cX4_setting, 2, (some .int), 0, 0, false, b_M_setting)
abbrev N_M_setting : Nat := 131
abbrev k_M_why_0 : List xE := [(.aload_n 0, 1, 0, 0, .null, []), (.iload_n 1, 1, 0, 0, .null, []), (.invokestatic 48, 3, 86, 1, .null, [0]), (.ifCond .ne 7, 3, 1, 0, .null, []), (.iconst 1, 1, 0, 0, .int (nI 1), []), (.goto 17, 3, 3, 0, .null, [])]
abbrev k_M_why_1 : List xE := [(.iload_n 2, 1, 0, 0, .null, []), (.iconst 1, 1, 0, 0, .int (nI 1), []), (.iconst 5, 1, 0, 0, .int (nI 5), []), (.invokestatic 44, 3, 83, 3, .null, [0]), (.ifCond .eq 7, 3, 2, 0, .null, []), (.iconst 0, 1, 0, 0, .int (nI 0), []), (.goto 4, 3, 3, 0, .null, [])]
abbrev k_M_why_2 : List xE := [(.iconst 2, 1, 0, 0, .int (nI 2), [])]
abbrev k_M_why_3 : List xE := [(.invokevirtual 91, 3, 85, 2, .null, [2]), (.ifCond .eq 24, 3, 4, 0, .null, []), (.aload_n 0, 1, 0, 0, .null, []), (.aload_n 0, 1, 0, 0, .null, []), (.getfield 7, 3, 2, 0, .null, []), (.iconst 0, 1, 0, 0, .int (nI 0), []), (.iaload, 1, 0, 0, .null, []), (.aload_n 0, 1, 0, 0, .null, []), (.getfield 7, 3, 2, 0, .null, []), (.iconst 1, 1, 0, 0, .int (nI 1), []), (.iaload, 1, 0, 0, .null, []), (.iload_n 1, 1, 0, 0, .null, []), (.iload_n 2, 1, 0, 0, .null, []), (.invokevirtual 72, 3, 95, 5, .null, [2]), (.goto 4, 3, 5, 0, .null, [])]
abbrev k_M_why_4 : List xE := [(.iconst 0, 1, 0, 0, .int (nI 0), [])]
abbrev k_M_why_5 : List xE := [(.ireturn, 1, 0, 0, .null, [])]
def b_M_why : List xB := [(0, k_M_why_0, 6), (12, k_M_why_1, 6), (25, k_M_why_2, 3), (26, k_M_why_3, 6), (53, k_M_why_4, 5), (54, k_M_why_5, 6)]
def m_M_why : xM := (yX4_why, cX4_why, 3, (some .int), 0, 0, false, b_M_why)
abbrev N_M_why : Nat := 132
abbrev k_M_falls_0 : List xE := [(.aload_n 0, 1, 0, 0, .null, []), (.iload_n 1, 1, 0, 0, .null, []), (.invokestatic 48, 3, 86, 1, .null, [0]), (.ifCond .ne 7, 3, 1, 0, .null, []), (.iconst 1, 1, 0, 0, .int (nI 1), []), (.goto 17, 3, 3, 0, .null, [])]
abbrev k_M_falls_1 : List xE := [(.iload_n 2, 1, 0, 0, .null, []), (.iconst 1, 1, 0, 0, .int (nI 1), []), (.iconst 5, 1, 0, 0, .int (nI 5), []), (.invokestatic 44, 3, 83, 3, .null, [0]), (.ifCond .eq 7, 3, 2, 0, .null, []), (.iconst 0, 1, 0, 0, .int (nI 0), []), (.goto 4, 3, 3, 0, .null, [])]
abbrev k_M_falls_2 : List xE := [(.iconst 2, 1, 0, 0, .int (nI 2), [])]
abbrev k_M_falls_3 : List xE := [(.invokevirtual 91, 3, 85, 2, .null, [2]), (.ifCond .ne 5, 3, 4, 0, .null, []), (.iconst 0, 1, 0, 0, .int (nI 0), []), (.ireturn, 1, 0, 0, .null, [])]
abbrev k_M_falls_4 : List xE := [(.aload_n 0, 1, 0, 0, .null, []), (.getfield 7, 3, 2, 0, .null, []), (.iconst 0, 1, 0, 0, .int (nI 0), []), (.iaload, 1, 0, 0, .null, []), (.iload_n 1, 1, 0, 0, .null, []), (.invokestatic 64, 3, 92, 2, .null, [0]), (.iload_n 2, 1, 0, 0, .null, []), (.if_icmp .ge 5, 3, 5, 0, .null, []), (.iconst (-1), 1, 0, 0, .int (-1), []), (.ireturn, 1, 0, 0, .null, [])]
abbrev k_M_falls_5 : List xE := [(.aload_n 0, 1, 0, 0, .null, []), (.getfield 7, 3, 2, 0, .null, []), (.iconst 0, 1, 0, 0, .int (nI 0), []), (.iaload, 1, 0, 0, .null, []), (.aload_n 0, 1, 0, 0, .null, []), (.getfield 7, 3, 2, 0, .null, []), (.iconst 1, 1, 0, 0, .int (nI 1), []), (.iaload, 1, 0, 0, .null, []), (.iload_n 1, 1, 0, 0, .null, []), (.iload_n 2, 1, 0, 0, .null, []), (.invokestatic 68, 3, 94, 4, .null, [0]), (.istore_n 3, 1, 0, 0, .null, []), (.iload_n 3, 1, 0, 0, .null, []), (.invokestatic 58, 3, 91, 1, .null, [0]), (.iload_n 3, 1, 0, 0, .null, []), (.invokestatic 37, 3, 93, 1, .null, [0]), (.invokestatic 58, 3, 91, 1, .null, [0]), (.isub, 1, 0, 0, .null, []), (.ireturn, 1, 0, 0, .null, [])]
def b_M_falls : List xB := [(0, k_M_falls_0, 6), (12, k_M_falls_1, 6), (25, k_M_falls_2, 3), (26, k_M_falls_3, 6), (34, k_M_falls_4, 6), (50, k_M_falls_5, 6)]
def m_M_falls : xM := (yX4_falls, cX4_falls, 4, (some .int), 0, 0, false, b_M_falls)
abbrev N_M_falls : Nat := 133
abbrev k_M_wins_0 : List xE := [(.aload_n 0, 1, 0, 0, .null, []), (.iload_n 1, 1, 0, 0, .null, []), (.iconst 0, 1, 0, 0, .int (nI 0), []), (.iconst 1, 1, 0, 0, .int (nI 1), []), (.invokestatic 44, 3, 83, 3, .null, [0]), (.ifCond .eq 7, 3, 1, 0, .null, []), (.iconst 0, 1, 0, 0, .int (nI 0), []), (.goto 4, 3, 2, 0, .null, [])]
abbrev k_M_wins_1 : List xE := [(.iconst 1, 1, 0, 0, .int (nI 1), [])]
abbrev k_M_wins_2 : List xE := [(.invokevirtual 91, 3, 85, 2, .null, [2]), (.ifCond .eq 12, 3, 3, 0, .null, []), (.aload_n 0, 1, 0, 0, .null, []), (.iload_n 1, 1, 0, 0, .null, []), (.iconst 0, 1, 0, 0, .int (nI 0), []), (.invokevirtual 153, 3, 100, 3, .null, [2]), (.goto 4, 3, 4, 0, .null, [])]
abbrev k_M_wins_3 : List xE := [(.iconst 0, 1, 0, 0, .int (nI 0), [])]
abbrev k_M_wins_4 : List xE := [(.ireturn, 1, 0, 0, .null, [])]
def b_M_wins : List xB := [(0, k_M_wins_0, 5), (14, k_M_wins_1, 2), (15, k_M_wins_2, 5), (30, k_M_wins_3, 4), (31, k_M_wins_4, 5)]
def m_M_wins : xM := (yX4_wins, cX4_wins, 2, (some .int), 0, 0, false, b_M_wins)
abbrev N_M_wins : Nat := 134
abbrev k_M_best_0 : List xE := [(.aload_n 0, 1, 0, 0, .null, []), (.iconst 0, 1, 0, 0, .int (nI 0), []), (.putfield 41, 3, 2, 13, .null, [0]), (.aload_n 0, 1, 0, 0, .null, []), (.invokevirtual 85, 3, 98, 1, .null, [2]), (.iconst (-1), 1, 0, 0, .int (-1), []), (.istore_n 1, 1, 0, 0, .null, []), (.bipush 14, 2, 0, 0, .int (nI 14), []), (.istore_n 2, 1, 0, 0, .null, [])]
abbrev k_M_best_1 : List xE := [(.iload_n 2, 1, 0, 0, .null, []), (.ifCond .lt 119, 3, 7, 0, .null, []), (.aload_n 0, 1, 0, 0, .null, []), (.aload_n 0, 1, 0, 0, .null, []), (.getfield 7, 3, 2, 0, .null, []), (.iconst 0, 1, 0, 0, .int (nI 0), []), (.iaload, 1, 0, 0, .null, []), (.aload_n 0, 1, 0, 0, .null, []), (.getfield 7, 3, 2, 0, .null, []), (.iconst 1, 1, 0, 0, .int (nI 1), []), (.iaload, 1, 0, 0, .null, []), (.iload_n 2, 1, 0, 0, .null, []), (.iconst 3, 1, 0, 0, .int (nI 3), []), (.idiv, 1, 0, 0, .null, []), (.iconst 1, 1, 0, 0, .int (nI 1), []), (.iload_n 2, 1, 0, 0, .null, []), (.iconst 3, 1, 0, 0, .int (nI 3), []), (.irem, 1, 0, 0, .null, []), (.iadd, 1, 0, 0, .null, []), (.invokevirtual 72, 3, 95, 5, .null, [2]), (.ifCond .ne 86, 3, 6, 0, .null, []), (.aload_n 0, 1, 0, 0, .null, []), (.getfield 7, 3, 2, 0, .null, []), (.iconst 0, 1, 0, 0, .int (nI 0), []), (.iaload, 1, 0, 0, .null, []), (.aload_n 0, 1, 0, 0, .null, []), (.getfield 7, 3, 2, 0, .null, []), (.iconst 1, 1, 0, 0, .int (nI 1), []), (.iaload, 1, 0, 0, .null, []), (.iload_n 2, 1, 0, 0, .null, []), (.iconst 3, 1, 0, 0, .int (nI 3), []), (.idiv, 1, 0, 0, .null, []), (.iconst 1, 1, 0, 0, .int (nI 1), []), (.iload_n 2, 1, 0, 0, .null, []), (.iconst 3, 1, 0, 0, .int (nI 3), []), (.irem, 1, 0, 0, .null, []), (.iadd, 1, 0, 0, .null, []), (.invokestatic 68, 3, 94, 4, .null, [0]), (.invokestatic 37, 3, 93, 1, .null, [0]), (.istore_n 3, 1, 0, 0, .null, []), (.aload_n 0, 1, 0, 0, .null, []), (.getfield 29, 3, 2, 6, .null, []), (.bipush 8, 2, 0, 0, .int (nI 8), []), (.aload_n 0, 1, 0, 0, .null, []), (.iload_n 3, 1, 0, 0, .null, []), (.invokevirtual 82, 3, 97, 2, .null, [2]), (.imul, 1, 0, 0, .null, []), (.iconst 4, 1, 0, 0, .int (nI 4), []), (.iadd, 1, 0, 0, .null, []), (.iconst 4, 1, 0, 0, .int (nI 4), []), (.aload_n 0, 1, 0, 0, .null, []), (.getfield 7, 3, 2, 0, .null, []), (.iconst 1, 1, 0, 0, .int (nI 1), []), (.iaload, 1, 0, 0, .null, []), (.imul, 1, 0, 0, .null, []), (.isub, 1, 0, 0, .null, []), (.iaload, 1, 0, 0, .null, []), (.ifCond .ne 7, 3, 2, 0, .null, []), (.iconst 1, 1, 0, 0, .int (nI 1), []), (.goto 4, 3, 3, 0, .null, [])]
abbrev k_M_best_2 : List xE := [(.iconst 0, 1, 0, 0, .int (nI 0), [])]
abbrev k_M_best_3 : List xE := [(.istore 4, 2, 0, 0, .null, []), (.iload 4, 2, 0, 0, .null, []), (.ifCond .eq 18, 3, 4, 0, .null, []), (.bipush 10, 2, 0, 0, .int (nI 10), []), (.iload_n 2, 1, 0, 0, .null, []), (.iconst 3, 1, 0, 0, .int (nI 3), []), (.idiv, 1, 0, 0, .null, []), (.imul, 1, 0, 0, .null, []), (.iconst 1, 1, 0, 0, .int (nI 1), []), (.iadd, 1, 0, 0, .null, []), (.iload_n 2, 1, 0, 0, .null, []), (.iconst 3, 1, 0, 0, .int (nI 3), []), (.irem, 1, 0, 0, .null, []), (.iadd, 1, 0, 0, .null, []), (.goto 4, 3, 5, 0, .null, [])]
abbrev k_M_best_4 : List xE := [(.iload_n 1, 1, 0, 0, .null, [])]
abbrev k_M_best_5 : List xE := [(.istore_n 1, 1, 0, 0, .null, [])]
abbrev k_M_best_6 : List xE := [(.iinc 2 (-1), 3, 0, 0, .int (-1), []), (.goto (-117), 3, 1, 0, .null, [])]
abbrev k_M_best_7 : List xE := [(.iload_n 1, 1, 0, 0, .null, []), (.ireturn, 1, 0, 0, .null, [])]
def b_M_best : List xB := [(0, k_M_best_0, 1), (14, k_M_best_1, 8), (103, k_M_best_2, 3), (104, k_M_best_3, 8), (126, k_M_best_4, 5), (127, k_M_best_5, 6), (128, k_M_best_6, 8), (134, k_M_best_7, 8)]
def m_M_best : xM := (yX4_best, cX4_best, 5, (some .int), 0, 0, false, b_M_best)
abbrev N_M_best : Nat := 135
abbrev k_M_length_0 : List xE := [(.aload_n 0, 1, 0, 0, .null, []), (.iload_n 1, 1, 0, 0, .null, []), (.iconst 0, 1, 0, 0, .int (nI 0), []), (.iconst 1, 1, 0, 0, .int (nI 1), []), (.invokestatic 44, 3, 83, 3, .null, [0]), (.ifCond .eq 7, 3, 1, 0, .null, []), (.iconst 0, 1, 0, 0, .int (nI 0), []), (.goto 4, 3, 2, 0, .null, [])]
abbrev k_M_length_1 : List xE := [(.iconst 1, 1, 0, 0, .int (nI 1), [])]
abbrev k_M_length_2 : List xE := [(.invokevirtual 91, 3, 85, 2, .null, [2]), (.ifCond .eq 19, 3, 3, 0, .null, []), (.aload_n 0, 1, 0, 0, .null, []), (.aload_n 0, 1, 0, 0, .null, []), (.getfield 7, 3, 2, 0, .null, []), (.iconst 1, 1, 0, 0, .int (nI 1), []), (.iaload, 1, 0, 0, .null, []), (.iconst 2, 1, 0, 0, .int (nI 2), []), (.iload_n 1, 1, 0, 0, .null, []), (.iadd, 1, 0, 0, .null, []), (.invokevirtual 153, 3, 100, 3, .null, [2]), (.goto 4, 3, 4, 0, .null, [])]
abbrev k_M_length_3 : List xE := [(.iconst 0, 1, 0, 0, .int (nI 0), [])]
abbrev k_M_length_4 : List xE := [(.ireturn, 1, 0, 0, .null, [])]
def b_M_length : List xB := [(0, k_M_length_0, 5), (14, k_M_length_1, 2), (15, k_M_length_2, 5), (37, k_M_length_3, 4), (38, k_M_length_4, 5)]
def m_M_length : xM := (yX4_length, cX4_length, 2, (some .int), 0, 0, false, b_M_length)
abbrev N_M_length : Nat := 136
abbrev k_M_pyramids_0 : List xE := [(.aload_n 0, 1, 0, 0, .null, []), (.iload_n 1, 1, 0, 0, .null, []), (.iconst 0, 1, 0, 0, .int (nI 0), []), (.iconst 3, 1, 0, 0, .int (nI 3), []), (.invokestatic 44, 3, 83, 3, .null, [0]), (.ifCond .eq 7, 3, 1, 0, .null, []), (.iconst 0, 1, 0, 0, .int (nI 0), []), (.goto 4, 3, 2, 0, .null, [])]
abbrev k_M_pyramids_1 : List xE := [(.iconst 1, 1, 0, 0, .int (nI 1), [])]
abbrev k_M_pyramids_2 : List xE := [(.invokevirtual 91, 3, 85, 2, .null, [2]), (.ifCond .ne 5, 3, 3, 0, .null, []), (.iconst 0, 1, 0, 0, .int (nI 0), []), (.ireturn, 1, 0, 0, .null, [])]
abbrev k_M_pyramids_3 : List xE := [(.aload_n 0, 1, 0, 0, .null, []), (.invokevirtual 85, 3, 98, 1, .null, [2]), (.iconst 0, 1, 0, 0, .int (nI 0), []), (.istore_n 2, 1, 0, 0, .null, []), (.iconst 0, 1, 0, 0, .int (nI 0), []), (.istore_n 3, 1, 0, 0, .null, [])]
abbrev k_M_pyramids_4 : List xE := [(.iload_n 3, 1, 0, 0, .null, []), (.sipush 132, 3, 0, 0, .int (nI 132), []), (.if_icmp .ge 94, 3, 11, 0, .null, []), (.iload_n 1, 1, 0, 0, .null, []), (.ifCond .eq 64, 3, 6, 0, .null, []), (.iload_n 1, 1, 0, 0, .null, []), (.iconst 3, 1, 0, 0, .int (nI 3), []), (.if_icmp .ne 33, 3, 5, 0, .null, []), (.aload_n 0, 1, 0, 0, .null, []), (.getfield 29, 3, 2, 6, .null, []), (.bipush 8, 2, 0, 0, .int (nI 8), []), (.iload_n 3, 1, 0, 0, .null, []), (.imul, 1, 0, 0, .null, []), (.iconst 1, 1, 0, 0, .int (nI 1), []), (.iadd, 1, 0, 0, .null, []), (.iaload, 1, 0, 0, .null, []), (.iconst 1, 1, 0, 0, .int (nI 1), []), (.if_icmp .ne 18, 3, 5, 0, .null, []), (.aload_n 0, 1, 0, 0, .null, []), (.getfield 29, 3, 2, 6, .null, []), (.bipush 8, 2, 0, 0, .int (nI 8), []), (.iload_n 3, 1, 0, 0, .null, []), (.imul, 1, 0, 0, .null, []), (.iconst 5, 1, 0, 0, .int (nI 5), []), (.iadd, 1, 0, 0, .null, []), (.iaload, 1, 0, 0, .null, []), (.iconst 1, 1, 0, 0, .int (nI 1), []), (.if_icmp .eq 29, 3, 6, 0, .null, [])]
abbrev k_M_pyramids_5 : List xE := [(.iload_n 1, 1, 0, 0, .null, []), (.iconst 3, 1, 0, 0, .int (nI 3), []), (.if_icmp .ge 28, 3, 7, 0, .null, []), (.aload_n 0, 1, 0, 0, .null, []), (.getfield 29, 3, 2, 6, .null, []), (.bipush 8, 2, 0, 0, .int (nI 8), []), (.iload_n 3, 1, 0, 0, .null, []), (.imul, 1, 0, 0, .null, []), (.iconst 4, 1, 0, 0, .int (nI 4), []), (.iload_n 1, 1, 0, 0, .null, []), (.iconst 1, 1, 0, 0, .int (nI 1), []), (.isub, 1, 0, 0, .null, []), (.iconst 1, 1, 0, 0, .int (nI 1), []), (.iand, 1, 0, 0, .null, []), (.imul, 1, 0, 0, .null, []), (.iadd, 1, 0, 0, .null, []), (.iaload, 1, 0, 0, .null, []), (.iconst 1, 1, 0, 0, .int (nI 1), []), (.if_icmp .ne 7, 3, 7, 0, .null, [])]
abbrev k_M_pyramids_6 : List xE := [(.iconst 1, 1, 0, 0, .int (nI 1), []), (.goto 4, 3, 8, 0, .null, [])]
abbrev k_M_pyramids_7 : List xE := [(.iconst 0, 1, 0, 0, .int (nI 0), [])]
abbrev k_M_pyramids_8 : List xE := [(.istore 4, 2, 0, 0, .null, []), (.iload_n 2, 1, 0, 0, .null, []), (.iload 4, 2, 0, 0, .null, []), (.ifCond .eq 7, 3, 9, 0, .null, []), (.iconst 1, 1, 0, 0, .int (nI 1), []), (.goto 4, 3, 10, 0, .null, [])]
abbrev k_M_pyramids_9 : List xE := [(.iconst 0, 1, 0, 0, .int (nI 0), [])]
abbrev k_M_pyramids_10 : List xE := [(.iadd, 1, 0, 0, .null, []), (.istore_n 2, 1, 0, 0, .null, []), (.iinc 3 1, 3, 0, 0, .int (nI 1), []), (.goto (-95), 3, 4, 0, .null, [])]
abbrev k_M_pyramids_11 : List xE := [(.iload_n 2, 1, 0, 0, .null, []), (.ireturn, 1, 0, 0, .null, [])]
def b_M_pyramids : List xB := [(0, k_M_pyramids_0, 12), (14, k_M_pyramids_1, 2), (15, k_M_pyramids_2, 12), (23, k_M_pyramids_3, 4), (31, k_M_pyramids_4, 5), (77, k_M_pyramids_5, 6), (103, k_M_pyramids_6, 12), (107, k_M_pyramids_7, 8), (108, k_M_pyramids_8, 12), (120, k_M_pyramids_9, 10), (121, k_M_pyramids_10, 12), (129, k_M_pyramids_11, 12)]
def m_M_pyramids : xM := (yX4_pyramids, cX4_pyramids, 5, (some .int), 0, 0, false, b_M_pyramids)
abbrev N_M_pyramids : Nat := 137
abbrev k_M_brokenShare_0 : List xE := [(.aload_n 0, 1, 0, 0, .null, []), (.iconst 0, 1, 0, 0, .int (nI 0), []), (.putfield 41, 3, 2, 13, .null, [0]), (.aload_n 0, 1, 0, 0, .null, []), (.getfield 7, 3, 2, 0, .null, []), (.iconst 4, 1, 0, 0, .int (nI 4), []), (.iaload, 1, 0, 0, .null, []), (.aload_n 0, 1, 0, 0, .null, []), (.getfield 7, 3, 2, 0, .null, []), (.iconst 2, 1, 0, 0, .int (nI 2), []), (.iaload, 1, 0, 0, .null, []), (.iadd, 1, 0, 0, .null, []), (.aload_n 0, 1, 0, 0, .null, []), (.getfield 7, 3, 2, 0, .null, []), (.iconst 3, 1, 0, 0, .int (nI 3), []), (.iaload, 1, 0, 0, .null, []), (.iadd, 1, 0, 0, .null, []), (.istore_n 1, 1, 0, 0, .null, []), (.iload_n 1, 1, 0, 0, .null, []), (.ifCond .ne 7, 3, 1, 0, .null, []), (.dconst 0, 1, 0, 0, .double FP.dconst0, []), (.goto 13, 3, 2, 0, .null, [])]
abbrev k_M_brokenShare_1 : List xE := [(.aload_n 0, 1, 0, 0, .null, []), (.getfield 7, 3, 2, 0, .null, []), (.iconst 4, 1, 0, 0, .int (nI 4), []), (.iaload, 1, 0, 0, .null, []), (.i2d, 1, 0, 0, .null, []), (.iload_n 1, 1, 0, 0, .null, []), (.i2d, 1, 0, 0, .null, []), (.ddiv, 1, 0, 0, .null, [])]
abbrev k_M_brokenShare_2 : List xE := [(.dreturn, 1, 0, 0, .null, [])]
def b_M_brokenShare : List xB := [(0, k_M_brokenShare_0, 3), (34, k_M_brokenShare_1, 2), (44, k_M_brokenShare_2, 3)]
def m_M_brokenShare : xM := (yX4_brokenShare, cX4_brokenShare, 2, (some .double), 0, 0, false, b_M_brokenShare)
abbrev N_M_brokenShare : Nat := 138
abbrev k_M_wonShare_0 : List xE := [(.aload_n 0, 1, 0, 0, .null, []), (.iconst 1, 1, 0, 0, .int (nI 1), []), (.aload_n 0, 1, 0, 0, .null, []), (.getfield 7, 3, 2, 0, .null, []), (.iconst 1, 1, 0, 0, .int (nI 1), []), (.iaload, 1, 0, 0, .null, []), (.iadd, 1, 0, 0, .null, []), (.invokevirtual 159, 3, 137, 2, .null, [2]), (.i2f, 1, 0, 0, .null, []), (.aload_n 0, 1, 0, 0, .null, []), (.iconst 0, 1, 0, 0, .int (nI 0), []), (.invokevirtual 159, 3, 137, 2, .null, [2]), (.i2f, 1, 0, 0, .null, []), (.fdiv, 1, 0, 0, .null, []), (.freturn, 1, 0, 0, .null, [])]
def b_M_wonShare : List xB := [(0, k_M_wonShare_0, 1)]
def m_M_wonShare : xM := (yX4_wonShare, cX4_wonShare, 1, (some .float), 0, 0, false, b_M_wonShare)
abbrev N_M_wonShare : Nat := 139
abbrev k_M_digest_0 : List xE := [(.ldc2_w 162, 3, 0, 0, .long (lN 3323), []), (.lstore_n 1, 1, 0, 0, .null, []), (.iconst 0, 1, 0, 0, .int (nI 0), []), (.istore_n 3, 1, 0, 0, .null, [])]
abbrev k_M_digest_1 : List xE := [(.iload_n 3, 1, 0, 0, .null, []), (.bipush 10, 2, 0, 0, .int (nI 10), []), (.if_icmp .ge 22, 3, 2, 0, .null, []), (.ldc2_w 164, 3, 0, 0, .long (lN 31), []), (.lload_n 1, 1, 0, 0, .null, []), (.lmul, 1, 0, 0, .null, []), (.aload_n 0, 1, 0, 0, .null, []), (.iload_n 3, 1, 0, 0, .null, []), (.invokevirtual 166, 3, 130, 2, .null, [2]), (.i2l, 1, 0, 0, .null, []), (.ladd, 1, 0, 0, .null, []), (.lstore_n 1, 1, 0, 0, .null, []), (.iinc 3 1, 3, 0, 0, .int (nI 1), []), (.goto (-22), 3, 1, 0, .null, [])]
abbrev k_M_digest_2 : List xE := [(.iconst 0, 1, 0, 0, .int (nI 0), []), (.istore_n 3, 1, 0, 0, .null, [])]
abbrev k_M_digest_3 : List xE := [(.iload_n 3, 1, 0, 0, .null, []), (.iconst 3, 1, 0, 0, .int (nI 3), []), (.if_icmp .ge 26, 3, 4, 0, .null, []), (.ldc2_w 164, 3, 0, 0, .long (lN 31), []), (.lload_n 1, 1, 0, 0, .null, []), (.lmul, 1, 0, 0, .null, []), (.aload_n 0, 1, 0, 0, .null, []), (.getfield 7, 3, 2, 0, .null, []), (.bipush 6, 2, 0, 0, .int (nI 6), []), (.iload_n 3, 1, 0, 0, .null, []), (.iadd, 1, 0, 0, .null, []), (.iaload, 1, 0, 0, .null, []), (.i2l, 1, 0, 0, .null, []), (.ladd, 1, 0, 0, .null, []), (.lstore_n 1, 1, 0, 0, .null, []), (.iinc 3 1, 3, 0, 0, .int (nI 1), []), (.goto (-25), 3, 3, 0, .null, [])]
abbrev k_M_digest_4 : List xE := [(.iconst 0, 1, 0, 0, .int (nI 0), []), (.istore_n 3, 1, 0, 0, .null, [])]
abbrev k_M_digest_5 : List xE := [(.iload_n 3, 1, 0, 0, .null, []), (.iconst 5, 1, 0, 0, .int (nI 5), []), (.if_icmp .ge 83, 3, 10, 0, .null, []), (.iconst 0, 1, 0, 0, .int (nI 0), []), (.istore 4, 2, 0, 0, .null, [])]
abbrev k_M_digest_6 : List xE := [(.iload 4, 2, 0, 0, .null, []), (.bipush 6, 2, 0, 0, .int (nI 6), []), (.if_icmp .ge 24, 3, 7, 0, .null, []), (.ldc2_w 164, 3, 0, 0, .long (lN 31), []), (.lload_n 1, 1, 0, 0, .null, []), (.lmul, 1, 0, 0, .null, []), (.aload_n 0, 1, 0, 0, .null, []), (.iload_n 3, 1, 0, 0, .null, []), (.iload 4, 2, 0, 0, .null, []), (.invokevirtual 169, 3, 128, 3, .null, [2]), (.i2l, 1, 0, 0, .null, []), (.ladd, 1, 0, 0, .null, []), (.lstore_n 1, 1, 0, 0, .null, []), (.iinc 4 1, 3, 0, 0, .int (nI 1), []), (.goto (-25), 3, 6, 0, .null, [])]
abbrev k_M_digest_7 : List xE := [(.iconst 1, 1, 0, 0, .int (nI 1), []), (.istore 4, 2, 0, 0, .null, [])]
abbrev k_M_digest_8 : List xE := [(.iload 4, 2, 0, 0, .null, []), (.iconst 4, 1, 0, 0, .int (nI 4), []), (.if_icmp .ge 37, 3, 9, 0, .null, []), (.ldc2_w 164, 3, 0, 0, .long (lN 31), []), (.ldc2_w 164, 3, 0, 0, .long (lN 31), []), (.lload_n 1, 1, 0, 0, .null, []), (.lmul, 1, 0, 0, .null, []), (.aload_n 0, 1, 0, 0, .null, []), (.iload_n 3, 1, 0, 0, .null, []), (.iload 4, 2, 0, 0, .null, []), (.invokevirtual 172, 3, 132, 3, .null, [2]), (.i2l, 1, 0, 0, .null, []), (.ladd, 1, 0, 0, .null, []), (.lmul, 1, 0, 0, .null, []), (.aload_n 0, 1, 0, 0, .null, []), (.iload_n 3, 1, 0, 0, .null, []), (.iload 4, 2, 0, 0, .null, []), (.invokevirtual 175, 3, 133, 3, .null, [2]), (.i2l, 1, 0, 0, .null, []), (.ladd, 1, 0, 0, .null, []), (.lstore_n 1, 1, 0, 0, .null, []), (.iinc 4 1, 3, 0, 0, .int (nI 1), []), (.goto (-37), 3, 8, 0, .null, [])]
abbrev k_M_digest_9 : List xE := [(.iinc 3 1, 3, 0, 0, .int (nI 1), []), (.goto (-82), 3, 5, 0, .null, [])]
abbrev k_M_digest_10 : List xE := [(.ldc2_w 164, 3, 0, 0, .long (lN 31), []), (.ldc2_w 164, 3, 0, 0, .long (lN 31), []), (.lload_n 1, 1, 0, 0, .null, []), (.lmul, 1, 0, 0, .null, []), (.aload_n 0, 1, 0, 0, .null, []), (.iconst 0, 1, 0, 0, .int (nI 0), []), (.invokevirtual 178, 3, 134, 2, .null, [2]), (.i2l, 1, 0, 0, .null, []), (.ladd, 1, 0, 0, .null, []), (.lmul, 1, 0, 0, .null, []), (.aload_n 0, 1, 0, 0, .null, []), (.iconst 1, 1, 0, 0, .int (nI 1), []), (.invokevirtual 178, 3, 134, 2, .null, [2]), (.i2l, 1, 0, 0, .null, []), (.ladd, 1, 0, 0, .null, []), (.lstore_n 1, 1, 0, 0, .null, []), (.ldc2_w 164, 3, 0, 0, .long (lN 31), []), (.lload_n 1, 1, 0, 0, .null, []), (.lmul, 1, 0, 0, .null, []), (.aload_n 0, 1, 0, 0, .null, []), (.invokevirtual 181, 3, 135, 1, .null, [2]), (.i2l, 1, 0, 0, .null, []), (.ladd, 1, 0, 0, .null, []), (.lstore_n 1, 1, 0, 0, .null, []), (.ldc2_w 164, 3, 0, 0, .long (lN 31), []), (.ldc2_w 164, 3, 0, 0, .long (lN 31), []), (.lload_n 1, 1, 0, 0, .null, []), (.lmul, 1, 0, 0, .null, []), (.aload_n 0, 1, 0, 0, .null, []), (.iconst 0, 1, 0, 0, .int (nI 0), []), (.invokevirtual 184, 3, 136, 2, .null, [2]), (.i2l, 1, 0, 0, .null, []), (.ladd, 1, 0, 0, .null, []), (.lmul, 1, 0, 0, .null, []), (.aload_n 0, 1, 0, 0, .null, []), (.iconst 1, 1, 0, 0, .int (nI 1), []), (.invokevirtual 184, 3, 136, 2, .null, [2]), (.i2l, 1, 0, 0, .null, []), (.ladd, 1, 0, 0, .null, []), (.lstore_n 1, 1, 0, 0, .null, []), (.iconst 0, 1, 0, 0, .int (nI 0), []), (.istore_n 3, 1, 0, 0, .null, [])]
abbrev k_M_digest_11 : List xE := [(.iload_n 3, 1, 0, 0, .null, []), (.iconst 4, 1, 0, 0, .int (nI 4), []), (.if_icmp .ge 22, 3, 12, 0, .null, []), (.ldc2_w 164, 3, 0, 0, .long (lN 31), []), (.lload_n 1, 1, 0, 0, .null, []), (.lmul, 1, 0, 0, .null, []), (.aload_n 0, 1, 0, 0, .null, []), (.iload_n 3, 1, 0, 0, .null, []), (.invokevirtual 159, 3, 137, 2, .null, [2]), (.i2l, 1, 0, 0, .null, []), (.ladd, 1, 0, 0, .null, []), (.lstore_n 1, 1, 0, 0, .null, []), (.iinc 3 1, 3, 0, 0, .int (nI 1), []), (.goto (-21), 3, 11, 0, .null, [])]
abbrev k_M_digest_12 : List xE := [(.ldc2_w 164, 3, 0, 0, .long (lN 31), []), (.lload_n 1, 1, 0, 0, .null, []), (.lmul, 1, 0, 0, .null, []), (.aload_n 0, 1, 0, 0, .null, []), (.invokevirtual 186, 3, 138, 1, .null, [2]), (.invokestatic 190, 3, 4, 1, .null, [0]), (.ladd, 1, 0, 0, .null, []), (.lstore_n 1, 1, 0, 0, .null, []), (.ldc2_w 164, 3, 0, 0, .long (lN 31), []), (.lload_n 1, 1, 0, 0, .null, []), (.lmul, 1, 0, 0, .null, []), (.aload_n 0, 1, 0, 0, .null, []), (.invokevirtual 196, 3, 139, 1, .null, [2]), (.invokestatic 200, 3, 6, 1, .null, [0]), (.i2l, 1, 0, 0, .null, []), (.ladd, 1, 0, 0, .null, []), (.lstore_n 1, 1, 0, 0, .null, []), (.ldc2_w 164, 3, 0, 0, .long (lN 31), []), (.lload_n 1, 1, 0, 0, .null, []), (.lmul, 1, 0, 0, .null, []), (.aload_n 0, 1, 0, 0, .null, []), (.getfield 142, 3, 2, 12, .null, []), (.ifCond .eq 7, 3, 13, 0, .null, []), (.iconst 1, 1, 0, 0, .int (nI 1), []), (.goto 4, 3, 14, 0, .null, [])]
abbrev k_M_digest_13 : List xE := [(.iconst 0, 1, 0, 0, .int (nI 0), [])]
abbrev k_M_digest_14 : List xE := [(.i2l, 1, 0, 0, .null, []), (.ladd, 1, 0, 0, .null, []), (.lstore_n 1, 1, 0, 0, .null, []), (.ldc2_w 164, 3, 0, 0, .long (lN 31), []), (.lload_n 1, 1, 0, 0, .null, []), (.lmul, 1, 0, 0, .null, []), (.aload_n 0, 1, 0, 0, .null, []), (.getfield 120, 3, 2, 8, .null, []), (.i2l, 1, 0, 0, .null, []), (.ladd, 1, 0, 0, .null, []), (.lstore_n 1, 1, 0, 0, .null, []), (.iconst 0, 1, 0, 0, .int (nI 0), []), (.istore_n 3, 1, 0, 0, .null, [])]
abbrev k_M_digest_15 : List xE := [(.iload_n 3, 1, 0, 0, .null, []), (.aload_n 0, 1, 0, 0, .null, []), (.getfield 120, 3, 2, 8, .null, []), (.if_icmp .ge 23, 3, 16, 0, .null, []), (.ldc2_w 164, 3, 0, 0, .long (lN 31), []), (.lload_n 1, 1, 0, 0, .null, []), (.lmul, 1, 0, 0, .null, []), (.aload_n 0, 1, 0, 0, .null, []), (.getfield 19, 3, 2, 3, .null, []), (.iload_n 3, 1, 0, 0, .null, []), (.caload, 1, 0, 0, .null, []), (.i2l, 1, 0, 0, .null, []), (.ladd, 1, 0, 0, .null, []), (.lstore_n 1, 1, 0, 0, .null, []), (.iinc 3 1, 3, 0, 0, .int (nI 1), []), (.goto (-25), 3, 15, 0, .null, [])]
abbrev k_M_digest_16 : List xE := [(.lload_n 1, 1, 0, 0, .null, []), (.lreturn, 1, 0, 0, .null, [])]
def b_M_digest : List xB := [(0, k_M_digest_0, 1), (6, k_M_digest_1, 17), (31, k_M_digest_2, 3), (33, k_M_digest_3, 17), (61, k_M_digest_4, 5), (63, k_M_digest_5, 6), (71, k_M_digest_6, 17), (99, k_M_digest_7, 8), (102, k_M_digest_8, 17), (142, k_M_digest_9, 17), (148, k_M_digest_10, 11), (210, k_M_digest_11, 17), (234, k_M_digest_12, 17), (279, k_M_digest_13, 14), (280, k_M_digest_14, 15), (297, k_M_digest_15, 17), (325, k_M_digest_16, 17)]
def m_M_digest : xM := (yX4_digest, cX4_digest, 5, (some .long), 0, 0, false, b_M_digest)
abbrev N_M_digest : Nat := 140
def xT : List xM := [m_J_bitCount, m_J_max, m_J_min, m_J_isNaND, m_J_doubleToLongBits, m_J_isNaNF, m_J_floatToIntBits, m_G_next, m_G_afterLetter, m_G_isDigit, m_P_bit, m_P_bitsOf, m_P_hasBottle, m_P_hasRoom, m_P_settled, m_P_mirrored, m_P_robbed, m_P_fallenBy, m_P_allShapes, m_P_addShapes, m_L_init, m_L_playOut, m_L_slotBehind, m_L_slotOf, m_L_isWonBy, m_L_longestGame, m_L_shortestGame, m_L_shapesWonBy, m_L_shapesOver, m_B_init, m_B_take, m_B_turn, m_B_knock, m_B_put, m_B_mirror, m_B_refill, m_B_set, m_B_append, m_B_clearBuffer, m_B_firstError, m_B_obey, m_B_keep, m_B_goBack, m_B_undo, m_B_row, m_B_count, m_B_setting, m_B_why, m_B_falls, m_B_wins, m_B_best, m_B_length, m_B_pyramids, m_B_brokenShare, m_B_wonShare, m_B_digest, m_B_isRow, m_B_isPlace, m_B_isSetting, m_B_save, m_B_isBarring, m_B_reasonAgainst, m_B_maskBehind, m_B_steal, m_B_knockOut, m_B_letFall, m_B_addBottle, m_B_swapSides, m_B_fillUp, m_B_isComplete, m_B_doOrders, m_B_doOrder, m_B_lowestPlace, m_B_highestPlace, m_B_greatestTheft, m_B_brokenInAll, m_B_possibleThefts, m_B_winner, m_B_play, m_B_hashRow, m_B_hashBuffer, m_B_bitsOfShare, m_M_init, m_M_in, m_M_thrown, m_M_goes, m_M_isRow, m_M_isPlace, m_M_record, m_M_first, m_M_has, m_M_bits, m_M_inRow, m_M_fallen, m_M_robbed, m_M_reason, m_M_thefts, m_M_numberOf, m_M_lay, m_M_layOne, m_M_of, m_M_breaks, m_M_takes, m_M_knocks, m_M_canPut, m_M_puts, m_M_mirrors, m_M_refills, m_M_take, m_M_turn, m_M_knock, m_M_put, m_M_mirror, m_M_refill, m_M_set, m_M_append, m_M_clearBuffer, m_M_accepts, m_M_reads, m_M_isComplete, m_M_firstError, m_M_does, m_M_obey, m_M_keep, m_M_goBack, m_M_undo, m_M_edge, m_M_mostIn, m_M_row, m_M_winner, m_M_count, m_M_setting, m_M_why, m_M_falls, m_M_wins, m_M_best, m_M_length, m_M_pyramids, m_M_brokenShare, m_M_wonShare, m_M_digest]
theorem t_J_bitCount : xT[0]? = some m_J_bitCount := rfl
theorem t_J_max : xT[1]? = some m_J_max := rfl
theorem t_J_min : xT[2]? = some m_J_min := rfl
theorem t_J_isNaND : xT[3]? = some m_J_isNaND := rfl
theorem t_J_doubleToLongBits : xT[4]? = some m_J_doubleToLongBits := rfl
theorem t_J_isNaNF : xT[5]? = some m_J_isNaNF := rfl
theorem t_J_floatToIntBits : xT[6]? = some m_J_floatToIntBits := rfl
theorem t_G_next : xT[7]? = some m_G_next := rfl
theorem t_G_afterLetter : xT[8]? = some m_G_afterLetter := rfl
theorem t_G_isDigit : xT[9]? = some m_G_isDigit := rfl
theorem t_P_bit : xT[10]? = some m_P_bit := rfl
theorem t_P_bitsOf : xT[11]? = some m_P_bitsOf := rfl
theorem t_P_hasBottle : xT[12]? = some m_P_hasBottle := rfl
theorem t_P_hasRoom : xT[13]? = some m_P_hasRoom := rfl
theorem t_P_settled : xT[14]? = some m_P_settled := rfl
theorem t_P_mirrored : xT[15]? = some m_P_mirrored := rfl
theorem t_P_robbed : xT[16]? = some m_P_robbed := rfl
theorem t_P_fallenBy : xT[17]? = some m_P_fallenBy := rfl
theorem t_P_allShapes : xT[18]? = some m_P_allShapes := rfl
theorem t_P_addShapes : xT[19]? = some m_P_addShapes := rfl
theorem t_L_init : xT[20]? = some m_L_init := rfl
theorem t_L_playOut : xT[21]? = some m_L_playOut := rfl
theorem t_L_slotBehind : xT[22]? = some m_L_slotBehind := rfl
theorem t_L_slotOf : xT[23]? = some m_L_slotOf := rfl
theorem t_L_isWonBy : xT[24]? = some m_L_isWonBy := rfl
theorem t_L_longestGame : xT[25]? = some m_L_longestGame := rfl
theorem t_L_shortestGame : xT[26]? = some m_L_shortestGame := rfl
theorem t_L_shapesWonBy : xT[27]? = some m_L_shapesWonBy := rfl
theorem t_L_shapesOver : xT[28]? = some m_L_shapesOver := rfl
theorem t_B_init : xT[29]? = some m_B_init := rfl
theorem t_B_take : xT[30]? = some m_B_take := rfl
theorem t_B_turn : xT[31]? = some m_B_turn := rfl
theorem t_B_knock : xT[32]? = some m_B_knock := rfl
theorem t_B_put : xT[33]? = some m_B_put := rfl
theorem t_B_mirror : xT[34]? = some m_B_mirror := rfl
theorem t_B_refill : xT[35]? = some m_B_refill := rfl
theorem t_B_set : xT[36]? = some m_B_set := rfl
theorem t_B_append : xT[37]? = some m_B_append := rfl
theorem t_B_clearBuffer : xT[38]? = some m_B_clearBuffer := rfl
theorem t_B_firstError : xT[39]? = some m_B_firstError := rfl
theorem t_B_obey : xT[40]? = some m_B_obey := rfl
theorem t_B_keep : xT[41]? = some m_B_keep := rfl
theorem t_B_goBack : xT[42]? = some m_B_goBack := rfl
theorem t_B_undo : xT[43]? = some m_B_undo := rfl
theorem t_B_row : xT[44]? = some m_B_row := rfl
theorem t_B_count : xT[45]? = some m_B_count := rfl
theorem t_B_setting : xT[46]? = some m_B_setting := rfl
theorem t_B_why : xT[47]? = some m_B_why := rfl
theorem t_B_falls : xT[48]? = some m_B_falls := rfl
theorem t_B_wins : xT[49]? = some m_B_wins := rfl
theorem t_B_best : xT[50]? = some m_B_best := rfl
theorem t_B_length : xT[51]? = some m_B_length := rfl
theorem t_B_pyramids : xT[52]? = some m_B_pyramids := rfl
theorem t_B_brokenShare : xT[53]? = some m_B_brokenShare := rfl
theorem t_B_wonShare : xT[54]? = some m_B_wonShare := rfl
theorem t_B_digest : xT[55]? = some m_B_digest := rfl
theorem t_B_isRow : xT[56]? = some m_B_isRow := rfl
theorem t_B_isPlace : xT[57]? = some m_B_isPlace := rfl
theorem t_B_isSetting : xT[58]? = some m_B_isSetting := rfl
theorem t_B_save : xT[59]? = some m_B_save := rfl
theorem t_B_isBarring : xT[60]? = some m_B_isBarring := rfl
theorem t_B_reasonAgainst : xT[61]? = some m_B_reasonAgainst := rfl
theorem t_B_maskBehind : xT[62]? = some m_B_maskBehind := rfl
theorem t_B_steal : xT[63]? = some m_B_steal := rfl
theorem t_B_knockOut : xT[64]? = some m_B_knockOut := rfl
theorem t_B_letFall : xT[65]? = some m_B_letFall := rfl
theorem t_B_addBottle : xT[66]? = some m_B_addBottle := rfl
theorem t_B_swapSides : xT[67]? = some m_B_swapSides := rfl
theorem t_B_fillUp : xT[68]? = some m_B_fillUp := rfl
theorem t_B_isComplete : xT[69]? = some m_B_isComplete := rfl
theorem t_B_doOrders : xT[70]? = some m_B_doOrders := rfl
theorem t_B_doOrder : xT[71]? = some m_B_doOrder := rfl
theorem t_B_lowestPlace : xT[72]? = some m_B_lowestPlace := rfl
theorem t_B_highestPlace : xT[73]? = some m_B_highestPlace := rfl
theorem t_B_greatestTheft : xT[74]? = some m_B_greatestTheft := rfl
theorem t_B_brokenInAll : xT[75]? = some m_B_brokenInAll := rfl
theorem t_B_possibleThefts : xT[76]? = some m_B_possibleThefts := rfl
theorem t_B_winner : xT[77]? = some m_B_winner := rfl
theorem t_B_play : xT[78]? = some m_B_play := rfl
theorem t_B_hashRow : xT[79]? = some m_B_hashRow := rfl
theorem t_B_hashBuffer : xT[80]? = some m_B_hashBuffer := rfl
theorem t_B_bitsOfShare : xT[81]? = some m_B_bitsOfShare := rfl
theorem t_M_init : xT[82]? = some m_M_init := rfl
theorem t_M_in : xT[83]? = some m_M_in := rfl
theorem t_M_thrown : xT[84]? = some m_M_thrown := rfl
theorem t_M_goes : xT[85]? = some m_M_goes := rfl
theorem t_M_isRow : xT[86]? = some m_M_isRow := rfl
theorem t_M_isPlace : xT[87]? = some m_M_isPlace := rfl
theorem t_M_record : xT[88]? = some m_M_record := rfl
theorem t_M_first : xT[89]? = some m_M_first := rfl
theorem t_M_has : xT[90]? = some m_M_has := rfl
theorem t_M_bits : xT[91]? = some m_M_bits := rfl
theorem t_M_inRow : xT[92]? = some m_M_inRow := rfl
theorem t_M_fallen : xT[93]? = some m_M_fallen := rfl
theorem t_M_robbed : xT[94]? = some m_M_robbed := rfl
theorem t_M_reason : xT[95]? = some m_M_reason := rfl
theorem t_M_thefts : xT[96]? = some m_M_thefts := rfl
theorem t_M_numberOf : xT[97]? = some m_M_numberOf := rfl
theorem t_M_lay : xT[98]? = some m_M_lay := rfl
theorem t_M_layOne : xT[99]? = some m_M_layOne := rfl
theorem t_M_of : xT[100]? = some m_M_of := rfl
theorem t_M_breaks : xT[101]? = some m_M_breaks := rfl
theorem t_M_takes : xT[102]? = some m_M_takes := rfl
theorem t_M_knocks : xT[103]? = some m_M_knocks := rfl
theorem t_M_canPut : xT[104]? = some m_M_canPut := rfl
theorem t_M_puts : xT[105]? = some m_M_puts := rfl
theorem t_M_mirrors : xT[106]? = some m_M_mirrors := rfl
theorem t_M_refills : xT[107]? = some m_M_refills := rfl
theorem t_M_take : xT[108]? = some m_M_take := rfl
theorem t_M_turn : xT[109]? = some m_M_turn := rfl
theorem t_M_knock : xT[110]? = some m_M_knock := rfl
theorem t_M_put : xT[111]? = some m_M_put := rfl
theorem t_M_mirror : xT[112]? = some m_M_mirror := rfl
theorem t_M_refill : xT[113]? = some m_M_refill := rfl
theorem t_M_set : xT[114]? = some m_M_set := rfl
theorem t_M_append : xT[115]? = some m_M_append := rfl
theorem t_M_clearBuffer : xT[116]? = some m_M_clearBuffer := rfl
theorem t_M_accepts : xT[117]? = some m_M_accepts := rfl
theorem t_M_reads : xT[118]? = some m_M_reads := rfl
theorem t_M_isComplete : xT[119]? = some m_M_isComplete := rfl
theorem t_M_firstError : xT[120]? = some m_M_firstError := rfl
theorem t_M_does : xT[121]? = some m_M_does := rfl
theorem t_M_obey : xT[122]? = some m_M_obey := rfl
theorem t_M_keep : xT[123]? = some m_M_keep := rfl
theorem t_M_goBack : xT[124]? = some m_M_goBack := rfl
theorem t_M_undo : xT[125]? = some m_M_undo := rfl
theorem t_M_edge : xT[126]? = some m_M_edge := rfl
theorem t_M_mostIn : xT[127]? = some m_M_mostIn := rfl
theorem t_M_row : xT[128]? = some m_M_row := rfl
theorem t_M_winner : xT[129]? = some m_M_winner := rfl
theorem t_M_count : xT[130]? = some m_M_count := rfl
theorem t_M_setting : xT[131]? = some m_M_setting := rfl
theorem t_M_why : xT[132]? = some m_M_why := rfl
theorem t_M_falls : xT[133]? = some m_M_falls := rfl
theorem t_M_wins : xT[134]? = some m_M_wins := rfl
theorem t_M_best : xT[135]? = some m_M_best := rfl
theorem t_M_length : xT[136]? = some m_M_length := rfl
theorem t_M_pyramids : xT[137]? = some m_M_pyramids := rfl
theorem t_M_brokenShare : xT[138]? = some m_M_brokenShare := rfl
theorem t_M_wonShare : xT[139]? = some m_M_wonShare := rfl
theorem t_M_digest : xT[140]? = some m_M_digest := rfl
