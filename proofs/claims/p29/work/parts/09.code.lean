/-! ===== the methods as blocks: written by program out of the listing ===== -/
abbrev k_J_bitCount_0 : List xE := [(.iload_n 0, 1, 0, 0, .null, []), (.iload_n 0, 1, 0, 0, .null, []), (.iconst 1, 1, 0, 0, .int (nI 1), []), (.iushr, 1, 0, 0, .null, []), (.ldc_w 265, 3, 0, 0, .int (nI 1431655765), []), (.iand, 1, 0, 0, .null, []), (.isub, 1, 0, 0, .null, []), (.istore_n 0, 1, 0, 0, .null, []), (.iload_n 0, 1, 0, 0, .null, []), (.ldc_w 266, 3, 0, 0, .int (nI 858993459), []), (.iand, 1, 0, 0, .null, []), (.iload_n 0, 1, 0, 0, .null, []), (.iconst 2, 1, 0, 0, .int (nI 2), []), (.iushr, 1, 0, 0, .null, []), (.ldc_w 266, 3, 0, 0, .int (nI 858993459), []), (.iand, 1, 0, 0, .null, []), (.iadd, 1, 0, 0, .null, []), (.istore_n 0, 1, 0, 0, .null, []), (.iload_n 0, 1, 0, 0, .null, []), (.iload_n 0, 1, 0, 0, .null, []), (.iconst 4, 1, 0, 0, .int (nI 4), []), (.iushr, 1, 0, 0, .null, []), (.iadd, 1, 0, 0, .null, []), (.ldc_w 267, 3, 0, 0, .int (nI 252645135), []), (.iand, 1, 0, 0, .null, []), (.istore_n 0, 1, 0, 0, .null, []), (.iload_n 0, 1, 0, 0, .null, []), (.iload_n 0, 1, 0, 0, .null, []), (.bipush 8, 2, 0, 0, .int (nI 8), []), (.iushr, 1, 0, 0, .null, []), (.iadd, 1, 0, 0, .null, []), (.istore_n 0, 1, 0, 0, .null, []), (.iload_n 0, 1, 0, 0, .null, []), (.iload_n 0, 1, 0, 0, .null, []), (.bipush 16, 2, 0, 0, .int (nI 16), []), (.iushr, 1, 0, 0, .null, []), (.iadd, 1, 0, 0, .null, []), (.istore_n 0, 1, 0, 0, .null, []), (.iload_n 0, 1, 0, 0, .null, []), (.bipush 63, 2, 0, 0, .int (nI 63), []), (.iand, 1, 0, 0, .null, []), (.ireturn, 1, 0, 0, .null, [])]
def b_J_bitCount : List xB := [(0, k_J_bitCount_0, 1)]
def m_J_bitCount : xM := (yJ6_bitCount_0f7a4, cJ6_bitCount_0f7a4, 1, (some .int), 0, 0, false, b_J_bitCount)
abbrev N_J_bitCount : Nat := 0
abbrev k_J_max_0 : List xE := [(.iload_n 0, 1, 0, 0, .null, []), (.iload_n 1, 1, 0, 0, .null, []), (.if_icmp .lt 7, 3, 1, 0, .null, []), (.iload_n 0, 1, 0, 0, .null, []), (.goto 4, 3, 2, 0, .null, [])]
abbrev k_J_max_1 : List xE := [(.iload_n 1, 1, 0, 0, .null, [])]
abbrev k_J_max_2 : List xE := [(.ireturn, 1, 0, 0, .null, [])]
def b_J_max : List xB := [(0, k_J_max_0, 3), (9, k_J_max_1, 2), (10, k_J_max_2, 3)]
def m_J_max : xM := (yJ9_max_7cf53, cJ9_max_7cf53, 2, (some .int), 0, 0, false, b_J_max)
abbrev N_J_max : Nat := 1
abbrev k_J_min_0 : List xE := [(.iload_n 0, 1, 0, 0, .null, []), (.iload_n 1, 1, 0, 0, .null, []), (.if_icmp .gt 7, 3, 1, 0, .null, []), (.iload_n 0, 1, 0, 0, .null, []), (.goto 4, 3, 2, 0, .null, [])]
abbrev k_J_min_1 : List xE := [(.iload_n 1, 1, 0, 0, .null, [])]
abbrev k_J_min_2 : List xE := [(.ireturn, 1, 0, 0, .null, [])]
def b_J_min : List xB := [(0, k_J_min_0, 3), (9, k_J_min_1, 2), (10, k_J_min_2, 3)]
def m_J_min : xM := (yJ9_min_7cf53, cJ9_min_7cf53, 2, (some .int), 0, 0, false, b_J_min)
abbrev N_J_min : Nat := 2
abbrev k_P_bit_0 : List xE := [(.iconst 1, 1, 0, 0, .int (nI 1), []), (.getstatic 9, 3, 0, 0, .ref 56, []), (.iload_n 0, 1, 0, 0, .null, []), (.iaload, 1, 0, 0, .null, []), (.iload_n 1, 1, 0, 0, .null, []), (.iadd, 1, 0, 0, .null, []), (.ishl, 1, 0, 0, .null, []), (.ireturn, 1, 0, 0, .null, [])]
def b_P_bit : List xB := [(0, k_P_bit_0, 1)]
def m_P_bit : xM := (yX1_bit, cX1_bit, 2, (some .int), 0, 0, false, b_P_bit)
abbrev N_P_bit : Nat := 3
abbrev k_P_bitsOf_0 : List xE := [(.iload_n 0, 1, 0, 0, .null, []), (.getstatic 9, 3, 0, 0, .ref 56, []), (.iload_n 1, 1, 0, 0, .null, []), (.iaload, 1, 0, 0, .null, []), (.ishr, 1, 0, 0, .null, []), (.iconst 1, 1, 0, 0, .int (nI 1), []), (.iconst 5, 1, 0, 0, .int (nI 5), []), (.iload_n 1, 1, 0, 0, .null, []), (.isub, 1, 0, 0, .null, []), (.ishl, 1, 0, 0, .null, []), (.iconst 1, 1, 0, 0, .int (nI 1), []), (.isub, 1, 0, 0, .null, []), (.iand, 1, 0, 0, .null, []), (.ireturn, 1, 0, 0, .null, [])]
def b_P_bitsOf : List xB := [(0, k_P_bitsOf_0, 1)]
def m_P_bitsOf : xM := (yX1_bitsOf, cX1_bitsOf, 2, (some .int), 0, 0, false, b_P_bitsOf)
abbrev N_P_bitsOf : Nat := 4
abbrev k_P_hasBottle_0 : List xE := [(.iload_n 0, 1, 0, 0, .null, []), (.iload_n 1, 1, 0, 0, .null, []), (.iload_n 2, 1, 0, 0, .null, []), (.invokestatic 15, 3, 3, 2, .ref 369, [0]), (.iand, 1, 0, 0, .null, []), (.ifCond .eq 7, 3, 1, 0, .null, []), (.iconst 1, 1, 0, 0, .int (nI 1), []), (.goto 4, 3, 2, 0, .null, [])]
abbrev k_P_hasBottle_1 : List xE := [(.iconst 0, 1, 0, 0, .int (nI 0), [])]
abbrev k_P_hasBottle_2 : List xE := [(.ireturn, 1, 0, 0, .null, [])]
def b_P_hasBottle : List xB := [(0, k_P_hasBottle_0, 3), (14, k_P_hasBottle_1, 2), (15, k_P_hasBottle_2, 3)]
def m_P_hasBottle : xM := (yX1_hasBottle, cX1_hasBottle, 3, (some .boolean), 0, 0, false, b_P_hasBottle)
abbrev N_P_hasBottle : Nat := 5
abbrev k_P_hasRoom_0 : List xE := [(.iload_n 0, 1, 0, 0, .null, []), (.iload_n 1, 1, 0, 0, .null, []), (.iload_n 2, 1, 0, 0, .null, []), (.invokestatic 19, 3, 5, 3, .ref 388, [0]), (.ifCond .eq 5, 3, 1, 0, .null, []), (.iconst 0, 1, 0, 0, .int (nI 0), []), (.ireturn, 1, 0, 0, .null, [])]
abbrev k_P_hasRoom_1 : List xE := [(.iload_n 1, 1, 0, 0, .null, []), (.ifCond .eq 27, 3, 2, 0, .null, []), (.iload_n 0, 1, 0, 0, .null, []), (.iload_n 1, 1, 0, 0, .null, []), (.iconst 1, 1, 0, 0, .int (nI 1), []), (.isub, 1, 0, 0, .null, []), (.iload_n 2, 1, 0, 0, .null, []), (.invokestatic 19, 3, 5, 3, .ref 388, [0]), (.ifCond .eq 20, 3, 3, 0, .null, []), (.iload_n 0, 1, 0, 0, .null, []), (.iload_n 1, 1, 0, 0, .null, []), (.iconst 1, 1, 0, 0, .int (nI 1), []), (.isub, 1, 0, 0, .null, []), (.iload_n 2, 1, 0, 0, .null, []), (.iconst 1, 1, 0, 0, .int (nI 1), []), (.iadd, 1, 0, 0, .null, []), (.invokestatic 19, 3, 5, 3, .ref 388, [0]), (.ifCond .eq 7, 3, 3, 0, .null, [])]
abbrev k_P_hasRoom_2 : List xE := [(.iconst 1, 1, 0, 0, .int (nI 1), []), (.goto 4, 3, 4, 0, .null, [])]
abbrev k_P_hasRoom_3 : List xE := [(.iconst 0, 1, 0, 0, .int (nI 0), [])]
abbrev k_P_hasRoom_4 : List xE := [(.ireturn, 1, 0, 0, .null, [])]
def b_P_hasRoom : List xB := [(0, k_P_hasRoom_0, 5), (11, k_P_hasRoom_1, 2), (39, k_P_hasRoom_2, 5), (43, k_P_hasRoom_3, 4), (44, k_P_hasRoom_4, 5)]
def m_P_hasRoom : xM := (yX1_hasRoom, cX1_hasRoom, 3, (some .boolean), 0, 0, false, b_P_hasRoom)
abbrev N_P_hasRoom : Nat := 6
abbrev k_P_settled_0 : List xE := [(.iload_n 0, 1, 0, 0, .null, []), (.bipush 31, 2, 0, 0, .int (nI 31), []), (.iand, 1, 0, 0, .null, []), (.istore_n 1, 1, 0, 0, .null, []), (.iload_n 1, 1, 0, 0, .null, []), (.istore_n 2, 1, 0, 0, .null, []), (.iconst 1, 1, 0, 0, .int (nI 1), []), (.istore_n 3, 1, 0, 0, .null, [])]
abbrev k_P_settled_1 : List xE := [(.iload_n 3, 1, 0, 0, .null, []), (.iconst 5, 1, 0, 0, .int (nI 5), []), (.if_icmp .ge 33, 3, 2, 0, .null, []), (.iload_n 0, 1, 0, 0, .null, []), (.getstatic 9, 3, 0, 0, .ref 56, []), (.iload_n 3, 1, 0, 0, .null, []), (.iaload, 1, 0, 0, .null, []), (.ishr, 1, 0, 0, .null, []), (.iload_n 2, 1, 0, 0, .null, []), (.iand, 1, 0, 0, .null, []), (.iload_n 2, 1, 0, 0, .null, []), (.iconst 1, 1, 0, 0, .int (nI 1), []), (.ishr, 1, 0, 0, .null, []), (.iand, 1, 0, 0, .null, []), (.istore_n 2, 1, 0, 0, .null, []), (.iload_n 1, 1, 0, 0, .null, []), (.iload_n 2, 1, 0, 0, .null, []), (.getstatic 9, 3, 0, 0, .ref 56, []), (.iload_n 3, 1, 0, 0, .null, []), (.iaload, 1, 0, 0, .null, []), (.ishl, 1, 0, 0, .null, []), (.ior, 1, 0, 0, .null, []), (.istore_n 1, 1, 0, 0, .null, []), (.iinc 3 1, 3, 0, 0, .int (nI 1), []), (.goto (-32), 3, 1, 0, .null, [])]
abbrev k_P_settled_2 : List xE := [(.iload_n 1, 1, 0, 0, .null, []), (.ireturn, 1, 0, 0, .null, [])]
def b_P_settled : List xB := [(0, k_P_settled_0, 1), (9, k_P_settled_1, 3), (44, k_P_settled_2, 3)]
def m_P_settled : xM := (yX1_settled, cX1_settled, 4, (some .int), 0, 0, false, b_P_settled)
abbrev N_P_settled : Nat := 7
abbrev k_P_mirrored_0 : List xE := [(.iconst 0, 1, 0, 0, .int (nI 0), []), (.istore_n 1, 1, 0, 0, .null, []), (.iconst 0, 1, 0, 0, .int (nI 0), []), (.istore_n 2, 1, 0, 0, .null, [])]
abbrev k_P_mirrored_1 : List xE := [(.iload_n 2, 1, 0, 0, .null, []), (.iconst 5, 1, 0, 0, .int (nI 5), []), (.if_icmp .ge 45, 3, 5, 0, .null, []), (.iconst 0, 1, 0, 0, .int (nI 0), []), (.istore_n 3, 1, 0, 0, .null, [])]
abbrev k_P_mirrored_2 : List xE := [(.iload_n 3, 1, 0, 0, .null, []), (.iconst 5, 1, 0, 0, .int (nI 5), []), (.iload_n 2, 1, 0, 0, .null, []), (.isub, 1, 0, 0, .null, []), (.if_icmp .ge 30, 3, 4, 0, .null, []), (.iload_n 0, 1, 0, 0, .null, []), (.iload_n 2, 1, 0, 0, .null, []), (.iload_n 3, 1, 0, 0, .null, []), (.invokestatic 19, 3, 5, 3, .ref 388, [0]), (.ifCond .eq 15, 3, 3, 0, .null, []), (.iload_n 1, 1, 0, 0, .null, []), (.iload_n 2, 1, 0, 0, .null, []), (.iconst 4, 1, 0, 0, .int (nI 4), []), (.iload_n 2, 1, 0, 0, .null, []), (.isub, 1, 0, 0, .null, []), (.iload_n 3, 1, 0, 0, .null, []), (.isub, 1, 0, 0, .null, []), (.invokestatic 15, 3, 3, 2, .ref 369, [0]), (.ior, 1, 0, 0, .null, []), (.istore_n 1, 1, 0, 0, .null, [])]
abbrev k_P_mirrored_3 : List xE := [(.iinc 3 1, 3, 0, 0, .int (nI 1), []), (.goto (-31), 3, 2, 0, .null, [])]
abbrev k_P_mirrored_4 : List xE := [(.iinc 2 1, 3, 0, 0, .int (nI 1), []), (.goto (-44), 3, 1, 0, .null, [])]
abbrev k_P_mirrored_5 : List xE := [(.iload_n 1, 1, 0, 0, .null, []), (.ireturn, 1, 0, 0, .null, [])]
def b_P_mirrored : List xB := [(0, k_P_mirrored_0, 1), (4, k_P_mirrored_1, 2), (11, k_P_mirrored_2, 3), (39, k_P_mirrored_3, 6), (45, k_P_mirrored_4, 6), (51, k_P_mirrored_5, 6)]
def m_P_mirrored : xM := (yX1_mirrored, cX1_mirrored, 4, (some .int), 0, 0, false, b_P_mirrored)
abbrev N_P_mirrored : Nat := 8
abbrev k_P_robbed_0 : List xE := [(.iload_n 0, 1, 0, 0, .null, []), (.istore 4, 2, 0, 0, .null, []), (.iload_n 3, 1, 0, 0, .null, []), (.istore 5, 2, 0, 0, .null, []), (.iconst 0, 1, 0, 0, .int (nI 0), []), (.istore 6, 2, 0, 0, .null, [])]
abbrev k_P_robbed_1 : List xE := [(.iload 6, 2, 0, 0, .null, []), (.iconst 5, 1, 0, 0, .int (nI 5), []), (.iload_n 2, 1, 0, 0, .null, []), (.isub, 1, 0, 0, .null, []), (.if_icmp .ge 63, 3, 5, 0, .null, []), (.iload 5, 2, 0, 0, .null, []), (.ifCond .le 58, 3, 5, 0, .null, []), (.iload_n 1, 1, 0, 0, .null, []), (.ifCond .ne 8, 3, 2, 0, .null, []), (.iload 6, 2, 0, 0, .null, []), (.goto 9, 3, 3, 0, .null, [])]
abbrev k_P_robbed_2 : List xE := [(.iconst 4, 1, 0, 0, .int (nI 4), []), (.iload_n 2, 1, 0, 0, .null, []), (.isub, 1, 0, 0, .null, []), (.iload 6, 2, 0, 0, .null, []), (.isub, 1, 0, 0, .null, [])]
abbrev k_P_robbed_3 : List xE := [(.istore 7, 2, 0, 0, .null, []), (.iconst 1, 1, 0, 0, .int (nI 1), []), (.getstatic 9, 3, 0, 0, .ref 56, []), (.iload_n 2, 1, 0, 0, .null, []), (.iaload, 1, 0, 0, .null, []), (.iload 7, 2, 0, 0, .null, []), (.iadd, 1, 0, 0, .null, []), (.ishl, 1, 0, 0, .null, []), (.istore 8, 2, 0, 0, .null, []), (.iload 4, 2, 0, 0, .null, []), (.iload 8, 2, 0, 0, .null, []), (.iand, 1, 0, 0, .null, []), (.ifCond .eq 15, 3, 4, 0, .null, []), (.iload 4, 2, 0, 0, .null, []), (.iload 8, 2, 0, 0, .null, []), (.iconst (-1), 1, 0, 0, .int (-1), []), (.ixor, 1, 0, 0, .null, []), (.iand, 1, 0, 0, .null, []), (.istore 4, 2, 0, 0, .null, []), (.iinc 5 (-1), 3, 0, 0, .int (-1), [])]
abbrev k_P_robbed_4 : List xE := [(.iinc 6 1, 3, 0, 0, .int (nI 1), []), (.goto (-65), 3, 1, 0, .null, [])]
abbrev k_P_robbed_5 : List xE := [(.iload 5, 2, 0, 0, .null, []), (.ifCond .ne 8, 3, 6, 0, .null, []), (.iload 4, 2, 0, 0, .null, []), (.goto 4, 3, 7, 0, .null, [])]
abbrev k_P_robbed_6 : List xE := [(.iconst (-1), 1, 0, 0, .int (-1), [])]
abbrev k_P_robbed_7 : List xE := [(.ireturn, 1, 0, 0, .null, [])]
def b_P_robbed : List xB := [(0, k_P_robbed_0, 1), (9, k_P_robbed_1, 8), (31, k_P_robbed_2, 3), (37, k_P_robbed_3, 4), (71, k_P_robbed_4, 8), (77, k_P_robbed_5, 8), (87, k_P_robbed_6, 7), (88, k_P_robbed_7, 8)]
def m_P_robbed : xM := (yX1_robbed, cX1_robbed, 9, (some .int), 0, 0, false, b_P_robbed)
abbrev N_P_robbed : Nat := 9
abbrev k_P_fallenBy_0 : List xE := [(.iload_n 0, 1, 0, 0, .null, []), (.iload_n 1, 1, 0, 0, .null, []), (.iload_n 2, 1, 0, 0, .null, []), (.iload_n 3, 1, 0, 0, .null, []), (.invokestatic 23, 3, 9, 4, .ref 134, [0]), (.istore 4, 2, 0, 0, .null, []), (.iload 4, 2, 0, 0, .null, []), (.iconst (-1), 1, 0, 0, .int (-1), []), (.if_icmp .ne 7, 3, 1, 0, .null, []), (.iconst (-1), 1, 0, 0, .int (-1), []), (.goto 17, 3, 2, 0, .null, [])]
abbrev k_P_fallenBy_1 : List xE := [(.iload 4, 2, 0, 0, .null, []), (.invokestatic 27, 3, 0, 1, .ref 137, [0]), (.iload 4, 2, 0, 0, .null, []), (.invokestatic 33, 3, 7, 1, .ref 138, [0]), (.invokestatic 27, 3, 0, 1, .ref 137, [0]), (.isub, 1, 0, 0, .null, [])]
abbrev k_P_fallenBy_2 : List xE := [(.ireturn, 1, 0, 0, .null, [])]
def b_P_fallenBy : List xB := [(0, k_P_fallenBy_0, 3), (19, k_P_fallenBy_1, 2), (33, k_P_fallenBy_2, 3)]
def m_P_fallenBy : xM := (yX1_fallenBy, cX1_fallenBy, 5, (some .int), 0, 0, false, b_P_fallenBy)
abbrev N_P_fallenBy : Nat := 10
abbrev k_P_allShapes_0 : List xE := [(.sipush 132, 3, 0, 0, .int (nI 132), []), (.newarray .int, 2, 0, 0, .null, []), (.astore_n 0, 1, 0, 0, .null, []), (.aload_n 0, 1, 0, 0, .null, []), (.iconst 0, 1, 0, 0, .int (nI 0), []), (.iconst 4, 1, 0, 0, .int (nI 4), []), (.iconst 0, 1, 0, 0, .int (nI 0), []), (.invokestatic 36, 3, 12, 4, .ref 50, [0]), (.pop, 1, 0, 0, .null, []), (.aload_n 0, 1, 0, 0, .null, []), (.areturn, 1, 0, 0, .null, [])]
def b_P_allShapes : List xB := [(0, k_P_allShapes_0, 1)]
def m_P_allShapes : xM := (yX1_allShapes, cX1_allShapes, 1, (some (.array .int)), 1, 132, true, b_P_allShapes)
abbrev N_P_allShapes : Nat := 11
abbrev k_P_addShapes_0 : List xE := [(.iload_n 2, 1, 0, 0, .null, []), (.ifCond .ge 17, 3, 2, 0, .null, []), (.iload_n 1, 1, 0, 0, .null, []), (.aload_n 0, 1, 0, 0, .null, []), (.arraylength, 1, 0, 0, .null, []), (.if_icmp .ge 7, 3, 1, 0, .null, []), (.aload_n 0, 1, 0, 0, .null, []), (.iload_n 1, 1, 0, 0, .null, []), (.iload_n 3, 1, 0, 0, .null, []), (.iastore, 1, 0, 0, .null, [])]
abbrev k_P_addShapes_1 : List xE := [(.iload_n 1, 1, 0, 0, .null, []), (.iconst 1, 1, 0, 0, .int (nI 1), []), (.iadd, 1, 0, 0, .null, []), (.ireturn, 1, 0, 0, .null, [])]
abbrev k_P_addShapes_2 : List xE := [(.iload_n 2, 1, 0, 0, .null, []), (.iconst 4, 1, 0, 0, .int (nI 4), []), (.if_icmp .ne 7, 3, 3, 0, .null, []), (.iconst 0, 1, 0, 0, .int (nI 0), []), (.goto 10, 3, 4, 0, .null, [])]
abbrev k_P_addShapes_3 : List xE := [(.iload_n 3, 1, 0, 0, .null, []), (.iload_n 2, 1, 0, 0, .null, []), (.iconst 1, 1, 0, 0, .int (nI 1), []), (.iadd, 1, 0, 0, .null, []), (.invokestatic 40, 3, 4, 2, .ref 53, [0])]
abbrev k_P_addShapes_4 : List xE := [(.istore 4, 2, 0, 0, .null, []), (.iload 4, 2, 0, 0, .null, []), (.iload 4, 2, 0, 0, .null, []), (.iconst 1, 1, 0, 0, .int (nI 1), []), (.ishl, 1, 0, 0, .null, []), (.ior, 1, 0, 0, .null, []), (.istore 5, 2, 0, 0, .null, []), (.iload_n 1, 1, 0, 0, .null, []), (.istore 6, 2, 0, 0, .null, []), (.iconst 0, 1, 0, 0, .int (nI 0), []), (.istore 7, 2, 0, 0, .null, [])]
abbrev k_P_addShapes_5 : List xE := [(.iload 7, 2, 0, 0, .null, []), (.iconst 1, 1, 0, 0, .int (nI 1), []), (.iconst 5, 1, 0, 0, .int (nI 5), []), (.iload_n 2, 1, 0, 0, .null, []), (.isub, 1, 0, 0, .null, []), (.ishl, 1, 0, 0, .null, []), (.if_icmp .ge 40, 3, 7, 0, .null, []), (.iload 7, 2, 0, 0, .null, []), (.iload 5, 2, 0, 0, .null, []), (.iand, 1, 0, 0, .null, []), (.iload 5, 2, 0, 0, .null, []), (.if_icmp .ne 24, 3, 6, 0, .null, []), (.aload_n 0, 1, 0, 0, .null, []), (.iload 6, 2, 0, 0, .null, []), (.iload_n 2, 1, 0, 0, .null, []), (.iconst 1, 1, 0, 0, .int (nI 1), []), (.isub, 1, 0, 0, .null, []), (.iload_n 3, 1, 0, 0, .null, []), (.iload 7, 2, 0, 0, .null, []), (.getstatic 9, 3, 0, 0, .ref 56, []), (.iload_n 2, 1, 0, 0, .null, []), (.iaload, 1, 0, 0, .null, []), (.ishl, 1, 0, 0, .null, []), (.ior, 1, 0, 0, .null, []), (.invokestatic 36, 3, 12, 4, .ref 50, [0]), (.istore 6, 2, 0, 0, .null, [])]
abbrev k_P_addShapes_6 : List xE := [(.iinc 7 1, 3, 0, 0, .int (nI 1), []), (.goto (-44), 3, 5, 0, .null, [])]
abbrev k_P_addShapes_7 : List xE := [(.iload 6, 2, 0, 0, .null, []), (.ireturn, 1, 0, 0, .null, [])]
def b_P_addShapes : List xB := [(0, k_P_addShapes_0, 1), (14, k_P_addShapes_1, 8), (18, k_P_addShapes_2, 8), (27, k_P_addShapes_3, 4), (34, k_P_addShapes_4, 5), (51, k_P_addShapes_5, 6), (92, k_P_addShapes_6, 8), (98, k_P_addShapes_7, 8)]
def m_P_addShapes : xM := (yX1_addShapes, cX1_addShapes, 8, (some .int), 0, 0, false, b_P_addShapes)
abbrev N_P_addShapes : Nat := 12
abbrev k_L_init_0 : List xE := [(.aload_n 0, 1, 0, 0, .null, []), (.invokespecial 3, 3, 901, 0, .null, []), (.aload_n 0, 1, 0, 0, .null, []), (.aload_n 1, 1, 0, 0, .null, []), (.putfield 9, 3, 0, 0, .ref 250, [2]), (.aload_n 0, 1, 0, 0, .null, []), (.iload_n 2, 1, 0, 0, .null, []), (.putfield 15, 3, 0, 1, .ref 251, [0]), (.aload_n 0, 1, 0, 0, .null, []), (.iload_n 3, 1, 0, 0, .null, []), (.putfield 19, 3, 0, 2, .ref 252, [1]), (.aload_n 0, 1, 0, 0, .null, []), (.iload 4, 2, 0, 0, .null, []), (.putfield 23, 3, 0, 3, .ref 253, [1]), (.aload_n 0, 1, 0, 0, .null, []), (.iconst 2, 1, 0, 0, .int (nI 2), []), (.aload_n 1, 1, 0, 0, .null, []), (.arraylength, 1, 0, 0, .null, []), (.imul, 1, 0, 0, .null, []), (.newarray .boolean, 2, 0, 0, .null, []), (.putfield 26, 3, 0, 4, .ref 254, [2]), (.aload_n 0, 1, 0, 0, .null, []), (.iconst 2, 1, 0, 0, .int (nI 2), []), (.aload_n 1, 1, 0, 0, .null, []), (.arraylength, 1, 0, 0, .null, []), (.imul, 1, 0, 0, .null, []), (.newarray .int, 2, 0, 0, .null, []), (.putfield 30, 3, 0, 5, .ref 255, [2]), (.aload_n 0, 1, 0, 0, .null, []), (.iconst 2, 1, 0, 0, .int (nI 2), []), (.aload_n 1, 1, 0, 0, .null, []), (.arraylength, 1, 0, 0, .null, []), (.imul, 1, 0, 0, .null, []), (.newarray .int, 2, 0, 0, .null, []), (.putfield 33, 3, 0, 6, .ref 256, [2]), (.iconst 0, 1, 0, 0, .int (nI 0), []), (.istore 5, 2, 0, 0, .null, [])]
abbrev k_L_init_1 : List xE := [(.iload 5, 2, 0, 0, .null, []), (.aload_n 1, 1, 0, 0, .null, []), (.arraylength, 1, 0, 0, .null, []), (.if_icmp .ge 23, 3, 2, 0, .null, []), (.aload_n 0, 1, 0, 0, .null, []), (.iconst 0, 1, 0, 0, .int (nI 0), []), (.iload 5, 2, 0, 0, .null, []), (.invokevirtual 36, 3, 14, 3, .ref 230, [0]), (.aload_n 0, 1, 0, 0, .null, []), (.iconst 1, 1, 0, 0, .int (nI 1), []), (.iload 5, 2, 0, 0, .null, []), (.invokevirtual 36, 3, 14, 3, .ref 230, [0]), (.iinc 5 1, 3, 0, 0, .int (nI 1), []), (.goto (-24), 3, 1, 0, .null, [])]
abbrev k_L_init_2 : List xE := [(.return_, 1, 0, 0, .null, [])]
def b_L_init : List xB := [(0, k_L_init_0, 1), (58, k_L_init_1, 3), (85, k_L_init_2, 3)]
def m_L_init : xM := (yX2_init, cX2_init, 6, none, 3, 792, true, b_L_init)
abbrev N_L_init : Nat := 13
abbrev k_L_playOut_0 : List xE := [(.iconst 1, 1, 0, 0, .int (nI 1), []), (.istore_n 3, 1, 0, 0, .null, []), (.iconst 0, 1, 0, 0, .int (nI 0), []), (.istore 4, 2, 0, 0, .null, []), (.iconst 0, 1, 0, 0, .int (nI 0), []), (.istore 5, 2, 0, 0, .null, []), (.iconst 0, 1, 0, 0, .int (nI 0), []), (.istore 6, 2, 0, 0, .null, []), (.iconst 0, 1, 0, 0, .int (nI 0), []), (.istore 7, 2, 0, 0, .null, [])]
abbrev k_L_playOut_1 : List xE := [(.iload 7, 2, 0, 0, .null, []), (.iconst 5, 1, 0, 0, .int (nI 5), []), (.if_icmp .ge 122, 3, 10, 0, .null, []), (.iconst 1, 1, 0, 0, .int (nI 1), []), (.istore 8, 2, 0, 0, .null, [])]
abbrev k_L_playOut_2 : List xE := [(.iload 8, 2, 0, 0, .null, []), (.aload_n 0, 1, 0, 0, .null, []), (.getfield 15, 3, 0, 1, .ref 251, []), (.if_icmp .gt 104, 3, 9, 0, .null, []), (.aload_n 0, 1, 0, 0, .null, []), (.iload_n 1, 1, 0, 0, .null, []), (.aload_n 0, 1, 0, 0, .null, []), (.getfield 9, 3, 0, 0, .ref 250, []), (.iload_n 2, 1, 0, 0, .null, []), (.iaload, 1, 0, 0, .null, []), (.iload 7, 2, 0, 0, .null, []), (.iload 8, 2, 0, 0, .null, []), (.invokevirtual 40, 3, 15, 5, .ref 234, [0]), (.istore 9, 2, 0, 0, .null, []), (.iload 9, 2, 0, 0, .null, []), (.iconst (-1), 1, 0, 0, .int (-1), []), (.if_icmp .eq 75, 3, 8, 0, .null, []), (.iload 4, 2, 0, 0, .null, []), (.ifCond .ne 13, 3, 3, 0, .null, []), (.aload_n 0, 1, 0, 0, .null, []), (.getfield 26, 3, 0, 4, .ref 254, []), (.iload 9, 2, 0, 0, .null, []), (.baload, 1, 0, 0, .null, []), (.ifCond .ne 7, 3, 4, 0, .null, [])]
abbrev k_L_playOut_3 : List xE := [(.iconst 1, 1, 0, 0, .int (nI 1), []), (.goto 4, 3, 5, 0, .null, [])]
abbrev k_L_playOut_4 : List xE := [(.iconst 0, 1, 0, 0, .int (nI 0), [])]
abbrev k_L_playOut_5 : List xE := [(.istore 4, 2, 0, 0, .null, []), (.iload 5, 2, 0, 0, .null, []), (.aload_n 0, 1, 0, 0, .null, []), (.getfield 30, 3, 0, 5, .ref 255, []), (.iload 9, 2, 0, 0, .null, []), (.iaload, 1, 0, 0, .null, []), (.iconst 1, 1, 0, 0, .int (nI 1), []), (.iadd, 1, 0, 0, .null, []), (.invokestatic 44, 3, 1, 2, .ref 244, [0]), (.istore 5, 2, 0, 0, .null, []), (.iload_n 3, 1, 0, 0, .null, []), (.ifCond .eq 15, 3, 6, 0, .null, []), (.aload_n 0, 1, 0, 0, .null, []), (.getfield 33, 3, 0, 6, .ref 256, []), (.iload 9, 2, 0, 0, .null, []), (.iaload, 1, 0, 0, .null, []), (.iconst 1, 1, 0, 0, .int (nI 1), []), (.iadd, 1, 0, 0, .null, []), (.goto 17, 3, 7, 0, .null, [])]
abbrev k_L_playOut_6 : List xE := [(.iload 6, 2, 0, 0, .null, []), (.aload_n 0, 1, 0, 0, .null, []), (.getfield 33, 3, 0, 6, .ref 256, []), (.iload 9, 2, 0, 0, .null, []), (.iaload, 1, 0, 0, .null, []), (.iconst 1, 1, 0, 0, .int (nI 1), []), (.iadd, 1, 0, 0, .null, []), (.invokestatic 50, 3, 2, 2, .ref 247, [0])]
abbrev k_L_playOut_7 : List xE := [(.istore 6, 2, 0, 0, .null, []), (.iconst 0, 1, 0, 0, .int (nI 0), []), (.istore_n 3, 1, 0, 0, .null, [])]
abbrev k_L_playOut_8 : List xE := [(.iinc 8 1, 3, 0, 0, .int (nI 1), []), (.goto (-107), 3, 2, 0, .null, [])]
abbrev k_L_playOut_9 : List xE := [(.iinc 7 1, 3, 0, 0, .int (nI 1), []), (.goto (-122), 3, 1, 0, .null, [])]
abbrev k_L_playOut_10 : List xE := [(.iconst 2, 1, 0, 0, .int (nI 2), []), (.iload_n 2, 1, 0, 0, .null, []), (.imul, 1, 0, 0, .null, []), (.iload_n 1, 1, 0, 0, .null, []), (.iadd, 1, 0, 0, .null, []), (.istore 7, 2, 0, 0, .null, []), (.aload_n 0, 1, 0, 0, .null, []), (.getfield 26, 3, 0, 4, .ref 254, []), (.iload 7, 2, 0, 0, .null, []), (.iload_n 3, 1, 0, 0, .null, []), (.ifCond .eq 10, 3, 11, 0, .null, []), (.aload_n 0, 1, 0, 0, .null, []), (.getfield 23, 3, 0, 3, .ref 253, []), (.goto 5, 3, 12, 0, .null, [])]
abbrev k_L_playOut_11 : List xE := [(.iload 4, 2, 0, 0, .null, [])]
abbrev k_L_playOut_12 : List xE := [(.bastore, 1, 0, 0, .null, []), (.aload_n 0, 1, 0, 0, .null, []), (.getfield 30, 3, 0, 5, .ref 255, []), (.iload 7, 2, 0, 0, .null, []), (.iload 5, 2, 0, 0, .null, []), (.iastore, 1, 0, 0, .null, []), (.aload_n 0, 1, 0, 0, .null, []), (.getfield 33, 3, 0, 6, .ref 256, []), (.iload 7, 2, 0, 0, .null, []), (.iload 6, 2, 0, 0, .null, []), (.iastore, 1, 0, 0, .null, []), (.return_, 1, 0, 0, .null, [])]
def b_L_playOut : List xB := [(0, k_L_playOut_0, 1), (14, k_L_playOut_1, 2), (23, k_L_playOut_2, 3), (70, k_L_playOut_3, 13), (74, k_L_playOut_4, 5), (75, k_L_playOut_5, 13), (109, k_L_playOut_6, 7), (123, k_L_playOut_7, 8), (127, k_L_playOut_8, 13), (133, k_L_playOut_9, 13), (139, k_L_playOut_10, 13), (163, k_L_playOut_11, 12), (165, k_L_playOut_12, 13)]
def m_L_playOut : xM := (yX2_playOut, cX2_playOut, 10, none, 0, 0, false, b_L_playOut)
abbrev N_L_playOut : Nat := 14
abbrev k_L_slotBehind_0 : List xE := [(.iload_n 2, 1, 0, 0, .null, []), (.iload_n 1, 1, 0, 0, .null, []), (.iload_n 3, 1, 0, 0, .null, []), (.iload 4, 2, 0, 0, .null, []), (.invokestatic 53, 3, 9, 4, .retAddr 3, [0]), (.istore 5, 2, 0, 0, .null, []), (.iload 5, 2, 0, 0, .null, []), (.iconst (-1), 1, 0, 0, .int (-1), []), (.if_icmp .ne 5, 3, 1, 0, .null, []), (.iconst (-1), 1, 0, 0, .int (-1), []), (.ireturn, 1, 0, 0, .null, [])]
abbrev k_L_slotBehind_1 : List xE := [(.iload 5, 2, 0, 0, .null, []), (.invokestatic 58, 3, 7, 1, .retAddr 4, [0]), (.istore 6, 2, 0, 0, .null, []), (.aload_n 0, 1, 0, 0, .null, []), (.getfield 19, 3, 0, 2, .ref 252, []), (.ifCond .eq 14, 3, 2, 0, .null, []), (.iload 6, 2, 0, 0, .null, []), (.iload 5, 2, 0, 0, .null, []), (.if_icmp .eq 7, 3, 2, 0, .null, []), (.iconst (-1), 1, 0, 0, .int (-1), []), (.goto 12, 3, 3, 0, .null, [])]
abbrev k_L_slotBehind_2 : List xE := [(.aload_n 0, 1, 0, 0, .null, []), (.iconst 1, 1, 0, 0, .int (nI 1), []), (.iload_n 1, 1, 0, 0, .null, []), (.isub, 1, 0, 0, .null, []), (.iload 6, 2, 0, 0, .null, []), (.invokevirtual 62, 3, 16, 3, .ref 240, [0])]
abbrev k_L_slotBehind_3 : List xE := [(.ireturn, 1, 0, 0, .null, [])]
def b_L_slotBehind : List xB := [(0, k_L_slotBehind_0, 4), (18, k_L_slotBehind_1, 4), (43, k_L_slotBehind_2, 3), (52, k_L_slotBehind_3, 4)]
def m_L_slotBehind : xM := (yX2_slotBehind, cX2_slotBehind, 7, (some .int), 0, 0, false, b_L_slotBehind)
abbrev N_L_slotBehind : Nat := 15
abbrev k_L_slotOf_0 : List xE := [(.iconst 0, 1, 0, 0, .int (nI 0), []), (.istore_n 3, 1, 0, 0, .null, []), (.aload_n 0, 1, 0, 0, .null, []), (.getfield 9, 3, 0, 0, .ref 250, []), (.arraylength, 1, 0, 0, .null, []), (.iconst 1, 1, 0, 0, .int (nI 1), []), (.isub, 1, 0, 0, .null, []), (.istore 4, 2, 0, 0, .null, []), (.iconst 0, 1, 0, 0, .int (nI 0), []), (.istore 5, 2, 0, 0, .null, [])]
abbrev k_L_slotOf_1 : List xE := [(.iload 5, 2, 0, 0, .null, []), (.aload_n 0, 1, 0, 0, .null, []), (.getfield 9, 3, 0, 0, .ref 250, []), (.arraylength, 1, 0, 0, .null, []), (.if_icmp .ge 66, 3, 5, 0, .null, []), (.iload_n 3, 1, 0, 0, .null, []), (.iload 4, 2, 0, 0, .null, []), (.if_icmp .gt 60, 3, 5, 0, .null, []), (.iload_n 3, 1, 0, 0, .null, []), (.iload 4, 2, 0, 0, .null, []), (.iadd, 1, 0, 0, .null, []), (.iconst 2, 1, 0, 0, .int (nI 2), []), (.idiv, 1, 0, 0, .null, []), (.istore 6, 2, 0, 0, .null, []), (.aload_n 0, 1, 0, 0, .null, []), (.getfield 9, 3, 0, 0, .ref 250, []), (.iload 6, 2, 0, 0, .null, []), (.iaload, 1, 0, 0, .null, []), (.iload_n 2, 1, 0, 0, .null, []), (.if_icmp .ne 10, 3, 2, 0, .null, []), (.iconst 2, 1, 0, 0, .int (nI 2), []), (.iload 6, 2, 0, 0, .null, []), (.imul, 1, 0, 0, .null, []), (.iload_n 1, 1, 0, 0, .null, []), (.iadd, 1, 0, 0, .null, []), (.ireturn, 1, 0, 0, .null, [])]
abbrev k_L_slotOf_2 : List xE := [(.aload_n 0, 1, 0, 0, .null, []), (.getfield 9, 3, 0, 0, .ref 250, []), (.iload 6, 2, 0, 0, .null, []), (.iaload, 1, 0, 0, .null, []), (.iload_n 2, 1, 0, 0, .null, []), (.if_icmp .ge 11, 3, 3, 0, .null, []), (.iload 6, 2, 0, 0, .null, []), (.iconst 1, 1, 0, 0, .int (nI 1), []), (.iadd, 1, 0, 0, .null, []), (.istore_n 3, 1, 0, 0, .null, []), (.goto 9, 3, 4, 0, .null, [])]
abbrev k_L_slotOf_3 : List xE := [(.iload 6, 2, 0, 0, .null, []), (.iconst 1, 1, 0, 0, .int (nI 1), []), (.isub, 1, 0, 0, .null, []), (.istore 4, 2, 0, 0, .null, [])]
abbrev k_L_slotOf_4 : List xE := [(.iinc 5 1, 3, 0, 0, .int (nI 1), []), (.goto (-70), 3, 1, 0, .null, [])]
abbrev k_L_slotOf_5 : List xE := [(.iconst (-1), 1, 0, 0, .int (-1), []), (.ireturn, 1, 0, 0, .null, [])]
def b_L_slotOf : List xB := [(0, k_L_slotOf_0, 1), (14, k_L_slotOf_1, 6), (56, k_L_slotOf_2, 6), (75, k_L_slotOf_3, 4), (81, k_L_slotOf_4, 6), (87, k_L_slotOf_5, 6)]
def m_L_slotOf : xM := (yX2_slotOf, cX2_slotOf, 7, (some .int), 0, 0, false, b_L_slotOf)
abbrev N_L_slotOf : Nat := 16
abbrev k_L_isWonBy_0 : List xE := [(.aload_n 0, 1, 0, 0, .null, []), (.iload_n 1, 1, 0, 0, .null, []), (.iload_n 2, 1, 0, 0, .null, []), (.invokevirtual 62, 3, 16, 3, .ref 240, [0]), (.istore_n 3, 1, 0, 0, .null, []), (.iload_n 3, 1, 0, 0, .null, []), (.iconst (-1), 1, 0, 0, .int (-1), []), (.if_icmp .eq 16, 3, 1, 0, .null, []), (.aload_n 0, 1, 0, 0, .null, []), (.getfield 26, 3, 0, 4, .ref 254, []), (.iload_n 3, 1, 0, 0, .null, []), (.baload, 1, 0, 0, .null, []), (.ifCond .eq 7, 3, 1, 0, .null, []), (.iconst 1, 1, 0, 0, .int (nI 1), []), (.goto 4, 3, 2, 0, .null, [])]
abbrev k_L_isWonBy_1 : List xE := [(.iconst 0, 1, 0, 0, .int (nI 0), [])]
abbrev k_L_isWonBy_2 : List xE := [(.ireturn, 1, 0, 0, .null, [])]
def b_L_isWonBy : List xB := [(0, k_L_isWonBy_0, 3), (25, k_L_isWonBy_1, 2), (26, k_L_isWonBy_2, 3)]
def m_L_isWonBy : xM := (yX2_isWonBy, cX2_isWonBy, 4, (some .boolean), 0, 0, false, b_L_isWonBy)
abbrev N_L_isWonBy : Nat := 17
abbrev k_L_longestGame_0 : List xE := [(.aload_n 0, 1, 0, 0, .null, []), (.iload_n 1, 1, 0, 0, .null, []), (.iload_n 2, 1, 0, 0, .null, []), (.invokevirtual 62, 3, 16, 3, .ref 240, [0]), (.istore_n 3, 1, 0, 0, .null, []), (.iload_n 3, 1, 0, 0, .null, []), (.iconst (-1), 1, 0, 0, .int (-1), []), (.if_icmp .ne 7, 3, 1, 0, .null, []), (.iconst 0, 1, 0, 0, .int (nI 0), []), (.goto 9, 3, 2, 0, .null, [])]
abbrev k_L_longestGame_1 : List xE := [(.aload_n 0, 1, 0, 0, .null, []), (.getfield 30, 3, 0, 5, .ref 255, []), (.iload_n 3, 1, 0, 0, .null, []), (.iaload, 1, 0, 0, .null, [])]
abbrev k_L_longestGame_2 : List xE := [(.ireturn, 1, 0, 0, .null, [])]
def b_L_longestGame : List xB := [(0, k_L_longestGame_0, 3), (16, k_L_longestGame_1, 2), (22, k_L_longestGame_2, 3)]
def m_L_longestGame : xM := (yX2_longestGame, cX2_longestGame, 4, (some .int), 0, 0, false, b_L_longestGame)
abbrev N_L_longestGame : Nat := 18
abbrev k_L_shortestGame_0 : List xE := [(.aload_n 0, 1, 0, 0, .null, []), (.iload_n 1, 1, 0, 0, .null, []), (.iload_n 2, 1, 0, 0, .null, []), (.invokevirtual 62, 3, 16, 3, .ref 240, [0]), (.istore_n 3, 1, 0, 0, .null, []), (.iload_n 3, 1, 0, 0, .null, []), (.iconst (-1), 1, 0, 0, .int (-1), []), (.if_icmp .ne 7, 3, 1, 0, .null, []), (.iconst 0, 1, 0, 0, .int (nI 0), []), (.goto 9, 3, 2, 0, .null, [])]
abbrev k_L_shortestGame_1 : List xE := [(.aload_n 0, 1, 0, 0, .null, []), (.getfield 33, 3, 0, 6, .ref 256, []), (.iload_n 3, 1, 0, 0, .null, []), (.iaload, 1, 0, 0, .null, [])]
abbrev k_L_shortestGame_2 : List xE := [(.ireturn, 1, 0, 0, .null, [])]
def b_L_shortestGame : List xB := [(0, k_L_shortestGame_0, 3), (16, k_L_shortestGame_1, 2), (22, k_L_shortestGame_2, 3)]
def m_L_shortestGame : xM := (yX2_shortestGame, cX2_shortestGame, 4, (some .int), 0, 0, false, b_L_shortestGame)
abbrev N_L_shortestGame : Nat := 19
abbrev k_L_shapesWonBy_0 : List xE := [(.iconst 0, 1, 0, 0, .int (nI 0), []), (.istore_n 2, 1, 0, 0, .null, []), (.iconst 0, 1, 0, 0, .int (nI 0), []), (.istore_n 3, 1, 0, 0, .null, [])]
abbrev k_L_shapesWonBy_1 : List xE := [(.iload_n 3, 1, 0, 0, .null, []), (.aload_n 0, 1, 0, 0, .null, []), (.getfield 9, 3, 0, 0, .ref 250, []), (.arraylength, 1, 0, 0, .null, []), (.if_icmp .ge 30, 3, 4, 0, .null, []), (.iload_n 2, 1, 0, 0, .null, []), (.aload_n 0, 1, 0, 0, .null, []), (.getfield 26, 3, 0, 4, .ref 254, []), (.iconst 2, 1, 0, 0, .int (nI 2), []), (.iload_n 3, 1, 0, 0, .null, []), (.imul, 1, 0, 0, .null, []), (.iload_n 1, 1, 0, 0, .null, []), (.iadd, 1, 0, 0, .null, []), (.baload, 1, 0, 0, .null, []), (.ifCond .eq 7, 3, 2, 0, .null, []), (.iconst 1, 1, 0, 0, .int (nI 1), []), (.goto 4, 3, 3, 0, .null, [])]
abbrev k_L_shapesWonBy_2 : List xE := [(.iconst 0, 1, 0, 0, .int (nI 0), [])]
abbrev k_L_shapesWonBy_3 : List xE := [(.iadd, 1, 0, 0, .null, []), (.istore_n 2, 1, 0, 0, .null, []), (.iinc 3 1, 3, 0, 0, .int (nI 1), []), (.goto (-33), 3, 1, 0, .null, [])]
abbrev k_L_shapesWonBy_4 : List xE := [(.iload_n 2, 1, 0, 0, .null, []), (.ireturn, 1, 0, 0, .null, [])]
def b_L_shapesWonBy : List xB := [(0, k_L_shapesWonBy_0, 1), (4, k_L_shapesWonBy_1, 5), (31, k_L_shapesWonBy_2, 3), (32, k_L_shapesWonBy_3, 5), (40, k_L_shapesWonBy_4, 5)]
def m_L_shapesWonBy : xM := (yX2_shapesWonBy, cX2_shapesWonBy, 4, (some .int), 0, 0, false, b_L_shapesWonBy)
abbrev N_L_shapesWonBy : Nat := 20
abbrev k_L_shapesOver_0 : List xE := [(.iconst 0, 1, 0, 0, .int (nI 0), []), (.istore_n 1, 1, 0, 0, .null, []), (.iconst 0, 1, 0, 0, .int (nI 0), []), (.istore_n 2, 1, 0, 0, .null, [])]
abbrev k_L_shapesOver_1 : List xE := [(.iload_n 2, 1, 0, 0, .null, []), (.aload_n 0, 1, 0, 0, .null, []), (.getfield 9, 3, 0, 0, .ref 250, []), (.arraylength, 1, 0, 0, .null, []), (.if_icmp .ge 41, 3, 4, 0, .null, []), (.iload_n 1, 1, 0, 0, .null, []), (.aload_n 0, 1, 0, 0, .null, []), (.getfield 30, 3, 0, 5, .ref 255, []), (.iconst 2, 1, 0, 0, .int (nI 2), []), (.iload_n 2, 1, 0, 0, .null, []), (.imul, 1, 0, 0, .null, []), (.iaload, 1, 0, 0, .null, []), (.ifCond .ne 20, 3, 2, 0, .null, []), (.aload_n 0, 1, 0, 0, .null, []), (.getfield 30, 3, 0, 5, .ref 255, []), (.iconst 2, 1, 0, 0, .int (nI 2), []), (.iload_n 2, 1, 0, 0, .null, []), (.imul, 1, 0, 0, .null, []), (.iconst 1, 1, 0, 0, .int (nI 1), []), (.iadd, 1, 0, 0, .null, []), (.iaload, 1, 0, 0, .null, []), (.ifCond .ne 7, 3, 2, 0, .null, []), (.iconst 1, 1, 0, 0, .int (nI 1), []), (.goto 4, 3, 3, 0, .null, [])]
abbrev k_L_shapesOver_2 : List xE := [(.iconst 0, 1, 0, 0, .int (nI 0), [])]
abbrev k_L_shapesOver_3 : List xE := [(.iadd, 1, 0, 0, .null, []), (.istore_n 1, 1, 0, 0, .null, []), (.iinc 2 1, 3, 0, 0, .int (nI 1), []), (.goto (-44), 3, 1, 0, .null, [])]
abbrev k_L_shapesOver_4 : List xE := [(.iload_n 1, 1, 0, 0, .null, []), (.ireturn, 1, 0, 0, .null, [])]
def b_L_shapesOver : List xB := [(0, k_L_shapesOver_0, 1), (4, k_L_shapesOver_1, 5), (42, k_L_shapesOver_2, 3), (43, k_L_shapesOver_3, 5), (51, k_L_shapesOver_4, 5)]
def m_L_shapesOver : xM := (yX2_shapesOver, cX2_shapesOver, 3, (some .int), 0, 0, false, b_L_shapesOver)
abbrev N_L_shapesOver : Nat := 21
abbrev k_B_init_0 : List xE := [(.aload_n 0, 1, 0, 0, .null, []), (.invokespecial 1, 3, 901, 0, .null, []), (.aload_n 0, 1, 0, 0, .null, []), (.bipush 18, 2, 0, 0, .int (nI 18), []), (.newarray .int, 2, 0, 0, .null, []), (.putfield 9, 3, 1, 0, .ref 60, [2]), (.aload_n 0, 1, 0, 0, .null, []), (.bipush 108, 2, 0, 0, .int (nI 108), []), (.newarray .int, 2, 0, 0, .null, []), (.putfield 13, 3, 1, 1, .ref 61, [2]), (.aload_n 0, 1, 0, 0, .null, []), (.iconst 0, 1, 0, 0, .int (nI 0), []), (.putfield 16, 3, 1, 2, .ref 62, [0]), (.aload_n 0, 1, 0, 0, .null, []), (.bipush 18, 2, 0, 0, .int (nI 18), []), (.newarray .int, 2, 0, 0, .null, []), (.putfield 20, 3, 1, 3, .ref 63, [2]), (.aload_n 0, 1, 0, 0, .null, []), (.iconst 0, 1, 0, 0, .int (nI 0), []), (.putfield 23, 3, 1, 4, .ref 64, [1]), (.aload_n 0, 1, 0, 0, .null, []), (.bipush 60, 2, 0, 0, .int (nI 60), []), (.newarray .char, 2, 0, 0, .null, []), (.putfield 27, 3, 1, 5, .ref 65, [2]), (.aload_n 0, 1, 0, 0, .null, []), (.iconst 0, 1, 0, 0, .int (nI 0), []), (.putfield 31, 3, 1, 6, .ref 66, [0]), (.aload_n 0, 1, 0, 0, .null, []), (.invokestatic 34, 3, 11, 0, .retAddr 0, [0, 1, 132, 1]), (.putfield 40, 3, 1, 7, .ref 67, [2]), (.aload_n 0, 1, 0, 0, .null, []), (.bipush 12, 2, 0, 0, .int (nI 12), []), (.anewarray 43, 3, 0, 0, .null, []), (.putfield 45, 3, 1, 8, .ref 68, [2]), (.aload_n 0, 1, 0, 0, .null, []), (.getfield 9, 3, 1, 0, .ref 60, []), (.iconst 0, 1, 0, 0, .int (nI 0), []), (.sipush 32767, 3, 0, 0, .int (nI 32767), []), (.iastore, 1, 0, 0, .null, []), (.aload_n 0, 1, 0, 0, .null, []), (.getfield 9, 3, 1, 0, .ref 60, []), (.iconst 3, 1, 0, 0, .int (nI 3), []), (.iconst 1, 1, 0, 0, .int (nI 1), []), (.iastore, 1, 0, 0, .null, []), (.return_, 1, 0, 0, .null, [])]
def b_B_init : List xB := [(0, k_B_init_0, 1)]
def m_B_init : xM := (yX3_init, cX3_init, 1, none, 6, 348, true, b_B_init)
abbrev N_B_init : Nat := 22
abbrev k_B_take_0 : List xE := [(.iload_n 1, 1, 0, 0, .null, []), (.invokestatic 49, 3, 44, 1, .ref 308, [0]), (.ifCond .ne 13, 3, 1, 0, .null, []), (.new 53, 3, 10, 0, .null, []), (.dup, 1, 0, 0, .null, []), (.ldc 55, 2, 0, 0, .null, []), (.invokespecial 57, 3, 0, 0, .null, []), (.athrow, 1, 0, 0, .null, [])]
abbrev k_B_take_1 : List xE := [(.iload_n 2, 1, 0, 0, .null, []), (.iconst 1, 1, 0, 0, .int (nI 1), []), (.if_icmp .lt 13, 3, 2, 0, .null, []), (.iload_n 2, 1, 0, 0, .null, []), (.aload_n 0, 1, 0, 0, .null, []), (.getfield 9, 3, 1, 0, .ref 60, []), (.iconst 3, 1, 0, 0, .int (nI 3), []), (.iaload, 1, 0, 0, .null, []), (.if_icmp .le 13, 3, 3, 0, .null, [])]
abbrev k_B_take_2 : List xE := [(.new 60, 3, 11, 0, .null, []), (.dup, 1, 0, 0, .null, []), (.ldc 62, 2, 0, 0, .null, []), (.invokespecial 64, 3, 0, 0, .null, []), (.athrow, 1, 0, 0, .null, [])]
abbrev k_B_take_3 : List xE := [(.aload_n 0, 1, 0, 0, .null, []), (.iload_n 1, 1, 0, 0, .null, []), (.iload_n 2, 1, 0, 0, .null, []), (.invokevirtual 65, 3, 49, 3, .ref 127, [1]), (.ifCond .eq 13, 3, 4, 0, .null, []), (.new 69, 3, 12, 0, .null, []), (.dup, 1, 0, 0, .null, []), (.ldc 71, 2, 0, 0, .null, []), (.invokespecial 73, 3, 0, 0, .null, []), (.athrow, 1, 0, 0, .null, [])]
abbrev k_B_take_4 : List xE := [(.aload_n 0, 1, 0, 0, .null, []), (.invokevirtual 74, 3, 47, 1, .ref 94, [1]), (.aload_n 0, 1, 0, 0, .null, []), (.iload_n 1, 1, 0, 0, .null, []), (.iload_n 2, 1, 0, 0, .null, []), (.invokevirtual 77, 3, 51, 3, .ref 344, [1]), (.ireturn, 1, 0, 0, .null, [])]
def b_B_take : List xB := [(0, k_B_take_0, 5), (17, k_B_take_1, 2), (32, k_B_take_2, 5), (42, k_B_take_3, 5), (61, k_B_take_4, 5)]
def m_B_take : xM := (yX3_take, cX3_take, 3, (some .int), 1, 6, false, b_B_take)
abbrev N_B_take : Nat := 23
abbrev k_B_turn_0 : List xE := [(.iload_n 1, 1, 0, 0, .null, []), (.ifCond .lt 8, 3, 1, 0, .null, []), (.iload_n 1, 1, 0, 0, .null, []), (.iconst 1, 1, 0, 0, .int (nI 1), []), (.if_icmp .le 13, 3, 2, 0, .null, [])]
abbrev k_B_turn_1 : List xE := [(.new 60, 3, 11, 0, .null, []), (.dup, 1, 0, 0, .null, []), (.ldc 80, 2, 0, 0, .null, []), (.invokespecial 64, 3, 0, 0, .null, []), (.athrow, 1, 0, 0, .null, [])]
abbrev k_B_turn_2 : List xE := [(.aload_n 0, 1, 0, 0, .null, []), (.invokevirtual 74, 3, 47, 1, .ref 94, [1]), (.aload_n 0, 1, 0, 0, .null, []), (.getfield 9, 3, 1, 0, .ref 60, []), (.iconst 1, 1, 0, 0, .int (nI 1), []), (.iaload, 1, 0, 0, .null, []), (.istore_n 2, 1, 0, 0, .null, []), (.aload_n 0, 1, 0, 0, .null, []), (.getfield 9, 3, 1, 0, .ref 60, []), (.iconst 1, 1, 0, 0, .int (nI 1), []), (.iload_n 1, 1, 0, 0, .null, []), (.iastore, 1, 0, 0, .null, []), (.iload_n 2, 1, 0, 0, .null, []), (.ireturn, 1, 0, 0, .null, [])]
def b_B_turn : List xB := [(0, k_B_turn_0, 1), (9, k_B_turn_1, 3), (19, k_B_turn_2, 3)]
def m_B_turn : xM := (yX3_turn, cX3_turn, 3, (some .int), 1, 6, false, b_B_turn)
abbrev N_B_turn : Nat := 24
abbrev k_B_knock_0 : List xE := [(.iload_n 1, 1, 0, 0, .null, []), (.iload_n 2, 1, 0, 0, .null, []), (.invokestatic 82, 3, 45, 2, .ref 362, [0]), (.ifCond .ne 13, 3, 1, 0, .null, []), (.new 53, 3, 10, 0, .null, []), (.dup, 1, 0, 0, .null, []), (.ldc 86, 2, 0, 0, .null, []), (.invokespecial 57, 3, 0, 0, .null, []), (.athrow, 1, 0, 0, .null, [])]
abbrev k_B_knock_1 : List xE := [(.aload_n 0, 1, 0, 0, .null, []), (.getfield 9, 3, 1, 0, .ref 60, []), (.iconst 0, 1, 0, 0, .int (nI 0), []), (.iaload, 1, 0, 0, .null, []), (.iload_n 1, 1, 0, 0, .null, []), (.iload_n 2, 1, 0, 0, .null, []), (.invokestatic 88, 3, 5, 3, .retAddr 11, [0]), (.ifCond .ne 13, 3, 2, 0, .null, []), (.new 69, 3, 12, 0, .null, []), (.dup, 1, 0, 0, .null, []), (.ldc 92, 2, 0, 0, .null, []), (.invokespecial 73, 3, 0, 0, .null, []), (.athrow, 1, 0, 0, .null, [])]
abbrev k_B_knock_2 : List xE := [(.aload_n 0, 1, 0, 0, .null, []), (.invokevirtual 74, 3, 47, 1, .ref 94, [1]), (.aload_n 0, 1, 0, 0, .null, []), (.iload_n 1, 1, 0, 0, .null, []), (.iload_n 2, 1, 0, 0, .null, []), (.invokevirtual 94, 3, 52, 3, .ref 373, [1]), (.ireturn, 1, 0, 0, .null, [])]
def b_B_knock : List xB := [(0, k_B_knock_0, 3), (18, k_B_knock_1, 3), (42, k_B_knock_2, 3)]
def m_B_knock : xM := (yX3_knock, cX3_knock, 3, (some .int), 1, 6, false, b_B_knock)
abbrev N_B_knock : Nat := 25
abbrev k_B_put_0 : List xE := [(.iload_n 1, 1, 0, 0, .null, []), (.iload_n 2, 1, 0, 0, .null, []), (.invokestatic 82, 3, 45, 2, .ref 362, [0]), (.ifCond .ne 13, 3, 1, 0, .null, []), (.new 53, 3, 10, 0, .null, []), (.dup, 1, 0, 0, .null, []), (.ldc 86, 2, 0, 0, .null, []), (.invokespecial 57, 3, 0, 0, .null, []), (.athrow, 1, 0, 0, .null, [])]
abbrev k_B_put_1 : List xE := [(.aload_n 0, 1, 0, 0, .null, []), (.getfield 9, 3, 1, 0, .ref 60, []), (.iconst 0, 1, 0, 0, .int (nI 0), []), (.iaload, 1, 0, 0, .null, []), (.iload_n 1, 1, 0, 0, .null, []), (.iload_n 2, 1, 0, 0, .null, []), (.invokestatic 97, 3, 6, 3, .retAddr 16, [0]), (.ifCond .ne 13, 3, 2, 0, .null, []), (.new 69, 3, 12, 0, .null, []), (.dup, 1, 0, 0, .null, []), (.ldc 100, 2, 0, 0, .null, []), (.invokespecial 73, 3, 0, 0, .null, []), (.athrow, 1, 0, 0, .null, [])]
abbrev k_B_put_2 : List xE := [(.aload_n 0, 1, 0, 0, .null, []), (.invokevirtual 74, 3, 47, 1, .ref 94, [1]), (.aload_n 0, 1, 0, 0, .null, []), (.iload_n 1, 1, 0, 0, .null, []), (.iload_n 2, 1, 0, 0, .null, []), (.invokevirtual 102, 3, 54, 3, .ref 390, [1]), (.ireturn, 1, 0, 0, .null, [])]
def b_B_put : List xB := [(0, k_B_put_0, 3), (18, k_B_put_1, 3), (42, k_B_put_2, 3)]
def m_B_put : xM := (yX3_put, cX3_put, 3, (some .int), 1, 6, false, b_B_put)
abbrev N_B_put : Nat := 26
abbrev k_B_mirror_0 : List xE := [(.aload_n 0, 1, 0, 0, .null, []), (.invokevirtual 74, 3, 47, 1, .ref 94, [1]), (.aload_n 0, 1, 0, 0, .null, []), (.invokevirtual 105, 3, 55, 1, .ref 507, [1]), (.ireturn, 1, 0, 0, .null, [])]
def b_B_mirror : List xB := [(0, k_B_mirror_0, 1)]
def m_B_mirror : xM := (yX3_mirror, cX3_mirror, 1, (some .int), 0, 0, false, b_B_mirror)
abbrev N_B_mirror : Nat := 27
abbrev k_B_refill_0 : List xE := [(.aload_n 0, 1, 0, 0, .null, []), (.invokevirtual 74, 3, 47, 1, .ref 94, [1]), (.aload_n 0, 1, 0, 0, .null, []), (.invokevirtual 109, 3, 56, 1, .ref 101, [1]), (.ireturn, 1, 0, 0, .null, [])]
def b_B_refill : List xB := [(0, k_B_refill_0, 1)]
def m_B_refill : xM := (yX3_refill, cX3_refill, 1, (some .int), 0, 0, false, b_B_refill)
abbrev N_B_refill : Nat := 28
abbrev k_B_set_0 : List xE := [(.iload_n 1, 1, 0, 0, .null, []), (.invokestatic 112, 3, 46, 1, .ref 401, [0]), (.ifCond .ne 13, 3, 1, 0, .null, []), (.new 53, 3, 10, 0, .null, []), (.dup, 1, 0, 0, .null, []), (.ldc 115, 2, 0, 0, .null, []), (.invokespecial 57, 3, 0, 0, .null, []), (.athrow, 1, 0, 0, .null, [])]
abbrev k_B_set_1 : List xE := [(.iload_n 1, 1, 0, 0, .null, []), (.ifCond .ne 7, 3, 2, 0, .null, []), (.iconst 1, 1, 0, 0, .int (nI 1), []), (.goto 4, 3, 3, 0, .null, [])]
abbrev k_B_set_2 : List xE := [(.iconst 0, 1, 0, 0, .int (nI 0), [])]
abbrev k_B_set_3 : List xE := [(.istore_n 3, 1, 0, 0, .null, []), (.iload_n 1, 1, 0, 0, .null, []), (.ifCond .ne 7, 3, 4, 0, .null, []), (.iconst 3, 1, 0, 0, .int (nI 3), []), (.goto 4, 3, 5, 0, .null, [])]
abbrev k_B_set_4 : List xE := [(.iconst 1, 1, 0, 0, .int (nI 1), [])]
abbrev k_B_set_5 : List xE := [(.istore 4, 2, 0, 0, .null, []), (.iload_n 2, 1, 0, 0, .null, []), (.iload_n 3, 1, 0, 0, .null, []), (.if_icmp .lt 9, 3, 6, 0, .null, []), (.iload_n 2, 1, 0, 0, .null, []), (.iload 4, 2, 0, 0, .null, []), (.if_icmp .le 13, 3, 7, 0, .null, [])]
abbrev k_B_set_6 : List xE := [(.new 60, 3, 11, 0, .null, []), (.dup, 1, 0, 0, .null, []), (.ldc 117, 2, 0, 0, .null, []), (.invokespecial 64, 3, 0, 0, .null, []), (.athrow, 1, 0, 0, .null, [])]
abbrev k_B_set_7 : List xE := [(.aload_n 0, 1, 0, 0, .null, []), (.invokevirtual 74, 3, 47, 1, .ref 94, [1]), (.aload_n 0, 1, 0, 0, .null, []), (.getfield 9, 3, 1, 0, .ref 60, []), (.iconst 3, 1, 0, 0, .int (nI 3), []), (.iload_n 1, 1, 0, 0, .null, []), (.iadd, 1, 0, 0, .null, []), (.iaload, 1, 0, 0, .null, []), (.istore 5, 2, 0, 0, .null, []), (.aload_n 0, 1, 0, 0, .null, []), (.getfield 9, 3, 1, 0, .ref 60, []), (.iconst 3, 1, 0, 0, .int (nI 3), []), (.iload_n 1, 1, 0, 0, .null, []), (.iadd, 1, 0, 0, .null, []), (.iload_n 2, 1, 0, 0, .null, []), (.iastore, 1, 0, 0, .null, []), (.iload 5, 2, 0, 0, .null, []), (.ireturn, 1, 0, 0, .null, [])]
def b_B_set : List xB := [(0, k_B_set_0, 8), (17, k_B_set_1, 8), (25, k_B_set_2, 3), (26, k_B_set_3, 8), (35, k_B_set_4, 5), (36, k_B_set_5, 6), (49, k_B_set_6, 8), (59, k_B_set_7, 8)]
def m_B_set : xM := (yX3_set, cX3_set, 6, (some .int), 1, 6, false, b_B_set)
abbrev N_B_set : Nat := 29
abbrev k_B_keep_0 : List xE := [(.aload_n 0, 1, 0, 0, .null, []), (.getfield 9, 3, 1, 0, .ref 60, []), (.iconst 0, 1, 0, 0, .int (nI 0), []), (.aload_n 0, 1, 0, 0, .null, []), (.getfield 20, 3, 1, 3, .ref 63, []), (.iconst 0, 1, 0, 0, .int (nI 0), []), (.bipush 18, 2, 0, 0, .int (nI 18), []), (.invokestatic 137, 3, 900, 0, .null, []), (.aload_n 0, 1, 0, 0, .null, []), (.iconst 1, 1, 0, 0, .int (nI 1), []), (.putfield 23, 3, 1, 4, .ref 64, [1]), (.aload_n 0, 1, 0, 0, .null, []), (.getfield 9, 3, 1, 0, .ref 60, []), (.iconst 0, 1, 0, 0, .int (nI 0), []), (.iaload, 1, 0, 0, .null, []), (.ireturn, 1, 0, 0, .null, [])]
def b_B_keep : List xB := [(0, k_B_keep_0, 1)]
def m_B_keep : xM := (yX3_keep, cX3_keep, 1, (some .int), 0, 0, false, b_B_keep)
abbrev N_B_keep : Nat := 30
abbrev k_B_goBack_0 : List xE := [(.aload_n 0, 1, 0, 0, .null, []), (.getfield 23, 3, 1, 4, .ref 64, []), (.ifCond .ne 13, 3, 1, 0, .null, []), (.new 69, 3, 12, 0, .null, []), (.dup, 1, 0, 0, .null, []), (.ldc 143, 2, 0, 0, .null, []), (.invokespecial 73, 3, 0, 0, .null, []), (.athrow, 1, 0, 0, .null, [])]
abbrev k_B_goBack_1 : List xE := [(.aload_n 0, 1, 0, 0, .null, []), (.invokevirtual 74, 3, 47, 1, .ref 94, [1]), (.aload_n 0, 1, 0, 0, .null, []), (.getfield 20, 3, 1, 3, .ref 63, []), (.iconst 0, 1, 0, 0, .int (nI 0), []), (.aload_n 0, 1, 0, 0, .null, []), (.getfield 9, 3, 1, 0, .ref 60, []), (.iconst 0, 1, 0, 0, .int (nI 0), []), (.bipush 18, 2, 0, 0, .int (nI 18), []), (.invokestatic 137, 3, 900, 0, .null, []), (.aload_n 0, 1, 0, 0, .null, []), (.getfield 9, 3, 1, 0, .ref 60, []), (.iconst 0, 1, 0, 0, .int (nI 0), []), (.iaload, 1, 0, 0, .null, []), (.ireturn, 1, 0, 0, .null, [])]
def b_B_goBack : List xB := [(0, k_B_goBack_0, 2), (17, k_B_goBack_1, 2)]
def m_B_goBack : xM := (yX3_goBack, cX3_goBack, 1, (some .int), 1, 6, false, b_B_goBack)
abbrev N_B_goBack : Nat := 31
abbrev k_B_undo_0 : List xE := [(.aload_n 0, 1, 0, 0, .null, []), (.getfield 16, 3, 1, 2, .ref 62, []), (.ifCond .gt 13, 3, 1, 0, .null, []), (.new 69, 3, 12, 0, .null, []), (.dup, 1, 0, 0, .null, []), (.ldc 145, 2, 0, 0, .null, []), (.invokespecial 73, 3, 0, 0, .null, []), (.athrow, 1, 0, 0, .null, [])]
abbrev k_B_undo_1 : List xE := [(.aload_n 0, 1, 0, 0, .null, []), (.dup, 1, 0, 0, .null, []), (.getfield 16, 3, 1, 2, .ref 62, []), (.iconst 1, 1, 0, 0, .int (nI 1), []), (.isub, 1, 0, 0, .null, []), (.putfield 16, 3, 1, 2, .ref 62, [0]), (.aload_n 0, 1, 0, 0, .null, []), (.getfield 13, 3, 1, 1, .ref 61, []), (.aload_n 0, 1, 0, 0, .null, []), (.getfield 16, 3, 1, 2, .ref 62, []), (.bipush 18, 2, 0, 0, .int (nI 18), []), (.imul, 1, 0, 0, .null, []), (.aload_n 0, 1, 0, 0, .null, []), (.getfield 9, 3, 1, 0, .ref 60, []), (.iconst 0, 1, 0, 0, .int (nI 0), []), (.bipush 18, 2, 0, 0, .int (nI 18), []), (.invokestatic 137, 3, 900, 0, .null, []), (.aload_n 0, 1, 0, 0, .null, []), (.getfield 16, 3, 1, 2, .ref 62, []), (.ireturn, 1, 0, 0, .null, [])]
def b_B_undo : List xB := [(0, k_B_undo_0, 2), (17, k_B_undo_1, 2)]
def m_B_undo : xM := (yX3_undo, cX3_undo, 1, (some .int), 1, 6, false, b_B_undo)
abbrev N_B_undo : Nat := 32
abbrev k_B_row_0 : List xE := [(.iload_n 1, 1, 0, 0, .null, []), (.invokestatic 49, 3, 44, 1, .ref 308, [0]), (.ifCond .ne 13, 3, 1, 0, .null, []), (.new 53, 3, 10, 0, .null, []), (.dup, 1, 0, 0, .null, []), (.ldc 55, 2, 0, 0, .null, []), (.invokespecial 57, 3, 0, 0, .null, []), (.athrow, 1, 0, 0, .null, [])]
abbrev k_B_row_1 : List xE := [(.iload_n 2, 1, 0, 0, .null, []), (.tableswitch 90 0 5 #[38, 52, 58, 64, 70, 80], 38, 8, 0, .null, [2, 3, 4, 5, 6, 7])]
abbrev k_B_row_2 : List xE := [(.aload_n 0, 1, 0, 0, .null, []), (.getfield 9, 3, 1, 0, .ref 60, []), (.iconst 0, 1, 0, 0, .int (nI 0), []), (.iaload, 1, 0, 0, .null, []), (.iload_n 1, 1, 0, 0, .null, []), (.invokestatic 147, 3, 4, 2, .retAddr 10, [0]), (.invokestatic 150, 3, 0, 1, .ref 105, [0]), (.ireturn, 1, 0, 0, .null, [])]
abbrev k_B_row_3 : List xE := [(.aload_n 0, 1, 0, 0, .null, []), (.iload_n 1, 1, 0, 0, .null, []), (.invokevirtual 156, 3, 57, 2, .ref 443, [1]), (.ireturn, 1, 0, 0, .null, [])]
abbrev k_B_row_4 : List xE := [(.aload_n 0, 1, 0, 0, .null, []), (.iload_n 1, 1, 0, 0, .null, []), (.invokevirtual 159, 3, 58, 2, .ref 447, [1]), (.ireturn, 1, 0, 0, .null, [])]
abbrev k_B_row_5 : List xE := [(.aload_n 0, 1, 0, 0, .null, []), (.iload_n 1, 1, 0, 0, .null, []), (.invokevirtual 162, 3, 59, 2, .ref 451, [1]), (.ireturn, 1, 0, 0, .null, [])]
abbrev k_B_row_6 : List xE := [(.aload_n 0, 1, 0, 0, .null, []), (.getfield 9, 3, 1, 0, .ref 60, []), (.bipush 6, 2, 0, 0, .int (nI 6), []), (.iload_n 1, 1, 0, 0, .null, []), (.iadd, 1, 0, 0, .null, []), (.iaload, 1, 0, 0, .null, []), (.ireturn, 1, 0, 0, .null, [])]
abbrev k_B_row_7 : List xE := [(.aload_n 0, 1, 0, 0, .null, []), (.getfield 9, 3, 1, 0, .ref 60, []), (.bipush 11, 2, 0, 0, .int (nI 11), []), (.iload_n 1, 1, 0, 0, .null, []), (.iadd, 1, 0, 0, .null, []), (.iaload, 1, 0, 0, .null, []), (.ireturn, 1, 0, 0, .null, [])]
abbrev k_B_row_8 : List xE := [(.new 60, 3, 11, 0, .null, []), (.dup, 1, 0, 0, .null, []), (.ldc 165, 2, 0, 0, .null, []), (.invokespecial 64, 3, 0, 0, .null, []), (.athrow, 1, 0, 0, .null, [])]
def b_B_row : List xB := [(0, k_B_row_0, 9), (17, k_B_row_1, 9), (56, k_B_row_2, 9), (70, k_B_row_3, 9), (76, k_B_row_4, 9), (82, k_B_row_5, 9), (88, k_B_row_6, 9), (98, k_B_row_7, 9), (108, k_B_row_8, 9)]
def m_B_row : xM := (yX3_row, cX3_row, 3, (some .int), 1, 6, false, b_B_row)
abbrev N_B_row : Nat := 33
abbrev k_B_count_0 : List xE := [(.iload_n 1, 1, 0, 0, .null, []), (.tableswitch 122 0 9 #[55, 62, 72, 79, 87, 95, 100, 107, 112, 117], 55, 11, 0, .null, [1, 2, 3, 4, 5, 6, 7, 8, 9, 10])]
abbrev k_B_count_1 : List xE := [(.aload_n 0, 1, 0, 0, .null, []), (.getfield 9, 3, 1, 0, .ref 60, []), (.iconst 0, 1, 0, 0, .int (nI 0), []), (.iaload, 1, 0, 0, .null, []), (.ireturn, 1, 0, 0, .null, [])]
abbrev k_B_count_2 : List xE := [(.aload_n 0, 1, 0, 0, .null, []), (.getfield 9, 3, 1, 0, .ref 60, []), (.iconst 0, 1, 0, 0, .int (nI 0), []), (.iaload, 1, 0, 0, .null, []), (.invokestatic 150, 3, 0, 1, .ref 105, [0]), (.ireturn, 1, 0, 0, .null, [])]
abbrev k_B_count_3 : List xE := [(.aload_n 0, 1, 0, 0, .null, []), (.getfield 9, 3, 1, 0, .ref 60, []), (.iconst 1, 1, 0, 0, .int (nI 1), []), (.iaload, 1, 0, 0, .null, []), (.ireturn, 1, 0, 0, .null, [])]
abbrev k_B_count_4 : List xE := [(.aload_n 0, 1, 0, 0, .null, []), (.getfield 9, 3, 1, 0, .ref 60, []), (.bipush 16, 2, 0, 0, .int (nI 16), []), (.iaload, 1, 0, 0, .null, []), (.ireturn, 1, 0, 0, .null, [])]
abbrev k_B_count_5 : List xE := [(.aload_n 0, 1, 0, 0, .null, []), (.getfield 9, 3, 1, 0, .ref 60, []), (.bipush 17, 2, 0, 0, .int (nI 17), []), (.iaload, 1, 0, 0, .null, []), (.ireturn, 1, 0, 0, .null, [])]
abbrev k_B_count_6 : List xE := [(.aload_n 0, 1, 0, 0, .null, []), (.invokevirtual 167, 3, 60, 1, .ref 119, [1]), (.ireturn, 1, 0, 0, .null, [])]
abbrev k_B_count_7 : List xE := [(.aload_n 0, 1, 0, 0, .null, []), (.getfield 9, 3, 1, 0, .ref 60, []), (.iconst 2, 1, 0, 0, .int (nI 2), []), (.iaload, 1, 0, 0, .null, []), (.ireturn, 1, 0, 0, .null, [])]
abbrev k_B_count_8 : List xE := [(.aload_n 0, 1, 0, 0, .null, []), (.invokevirtual 170, 3, 61, 1, .ref 123, [1]), (.ireturn, 1, 0, 0, .null, [])]
abbrev k_B_count_9 : List xE := [(.aload_n 0, 1, 0, 0, .null, []), (.invokevirtual 173, 3, 62, 1, .ref 145, [1]), (.ireturn, 1, 0, 0, .null, [])]
abbrev k_B_count_10 : List xE := [(.aload_n 0, 1, 0, 0, .null, []), (.getfield 16, 3, 1, 2, .ref 62, []), (.ireturn, 1, 0, 0, .null, [])]
abbrev k_B_count_11 : List xE := [(.new 60, 3, 11, 0, .null, []), (.dup, 1, 0, 0, .null, []), (.ldc 176, 2, 0, 0, .null, []), (.invokespecial 64, 3, 0, 0, .null, []), (.athrow, 1, 0, 0, .null, [])]
def b_B_count : List xB := [(0, k_B_count_0, 12), (56, k_B_count_1, 12), (63, k_B_count_2, 12), (73, k_B_count_3, 12), (80, k_B_count_4, 12), (88, k_B_count_5, 12), (96, k_B_count_6, 12), (101, k_B_count_7, 12), (108, k_B_count_8, 12), (113, k_B_count_9, 12), (118, k_B_count_10, 12), (123, k_B_count_11, 12)]
def m_B_count : xM := (yX3_count, cX3_count, 2, (some .int), 1, 6, false, b_B_count)
abbrev N_B_count : Nat := 34
abbrev k_B_setting_0 : List xE := [(.iload_n 1, 1, 0, 0, .null, []), (.invokestatic 112, 3, 46, 1, .ref 401, [0]), (.ifCond .ne 13, 3, 1, 0, .null, []), (.new 53, 3, 10, 0, .null, []), (.dup, 1, 0, 0, .null, []), (.ldc 115, 2, 0, 0, .null, []), (.invokespecial 57, 3, 0, 0, .null, []), (.athrow, 1, 0, 0, .null, [])]
abbrev k_B_setting_1 : List xE := [(.aload_n 0, 1, 0, 0, .null, []), (.getfield 9, 3, 1, 0, .ref 60, []), (.iconst 3, 1, 0, 0, .int (nI 3), []), (.iload_n 1, 1, 0, 0, .null, []), (.iadd, 1, 0, 0, .null, []), (.iaload, 1, 0, 0, .null, []), (.ireturn, 1, 0, 0, .null, [])]
def b_B_setting : List xB := [(0, k_B_setting_0, 2), (17, k_B_setting_1, 2)]
def m_B_setting : xM := (yX3_setting, cX3_setting, 2, (some .int), 1, 6, false, b_B_setting)
abbrev N_B_setting : Nat := 35
abbrev k_B_why_0 : List xE := [(.iload_n 1, 1, 0, 0, .null, []), (.invokestatic 49, 3, 44, 1, .ref 308, [0]), (.ifCond .ne 13, 3, 1, 0, .null, []), (.new 53, 3, 10, 0, .null, []), (.dup, 1, 0, 0, .null, []), (.ldc 55, 2, 0, 0, .null, []), (.invokespecial 57, 3, 0, 0, .null, []), (.athrow, 1, 0, 0, .null, [])]
abbrev k_B_why_1 : List xE := [(.iload_n 2, 1, 0, 0, .null, []), (.iconst 1, 1, 0, 0, .int (nI 1), []), (.if_icmp .lt 8, 3, 2, 0, .null, []), (.iload_n 2, 1, 0, 0, .null, []), (.iconst 5, 1, 0, 0, .int (nI 5), []), (.if_icmp .le 13, 3, 3, 0, .null, [])]
abbrev k_B_why_2 : List xE := [(.new 60, 3, 11, 0, .null, []), (.dup, 1, 0, 0, .null, []), (.ldc 62, 2, 0, 0, .null, []), (.invokespecial 64, 3, 0, 0, .null, []), (.athrow, 1, 0, 0, .null, [])]
abbrev k_B_why_3 : List xE := [(.aload_n 0, 1, 0, 0, .null, []), (.iload_n 1, 1, 0, 0, .null, []), (.iload_n 2, 1, 0, 0, .null, []), (.invokevirtual 65, 3, 49, 3, .ref 127, [1]), (.ireturn, 1, 0, 0, .null, [])]
def b_B_why : List xB := [(0, k_B_why_0, 4), (17, k_B_why_1, 2), (27, k_B_why_2, 4), (37, k_B_why_3, 4)]
def m_B_why : xM := (yX3_why, cX3_why, 3, (some .int), 1, 6, false, b_B_why)
abbrev N_B_why : Nat := 36
abbrev k_B_falls_0 : List xE := [(.iload_n 1, 1, 0, 0, .null, []), (.invokestatic 49, 3, 44, 1, .ref 308, [0]), (.ifCond .ne 13, 3, 1, 0, .null, []), (.new 53, 3, 10, 0, .null, []), (.dup, 1, 0, 0, .null, []), (.ldc 55, 2, 0, 0, .null, []), (.invokespecial 57, 3, 0, 0, .null, []), (.athrow, 1, 0, 0, .null, [])]
abbrev k_B_falls_1 : List xE := [(.iload_n 2, 1, 0, 0, .null, []), (.iconst 1, 1, 0, 0, .int (nI 1), []), (.if_icmp .lt 8, 3, 2, 0, .null, []), (.iload_n 2, 1, 0, 0, .null, []), (.iconst 5, 1, 0, 0, .int (nI 5), []), (.if_icmp .le 13, 3, 3, 0, .null, [])]
abbrev k_B_falls_2 : List xE := [(.new 60, 3, 11, 0, .null, []), (.dup, 1, 0, 0, .null, []), (.ldc 62, 2, 0, 0, .null, []), (.invokespecial 64, 3, 0, 0, .null, []), (.athrow, 1, 0, 0, .null, [])]
abbrev k_B_falls_3 : List xE := [(.aload_n 0, 1, 0, 0, .null, []), (.getfield 9, 3, 1, 0, .ref 60, []), (.iconst 0, 1, 0, 0, .int (nI 0), []), (.iaload, 1, 0, 0, .null, []), (.aload_n 0, 1, 0, 0, .null, []), (.getfield 9, 3, 1, 0, .ref 60, []), (.iconst 1, 1, 0, 0, .int (nI 1), []), (.iaload, 1, 0, 0, .null, []), (.iload_n 1, 1, 0, 0, .null, []), (.iload_n 2, 1, 0, 0, .null, []), (.invokestatic 178, 3, 10, 4, .retAddr 5, [0]), (.ireturn, 1, 0, 0, .null, [])]
def b_B_falls : List xB := [(0, k_B_falls_0, 4), (17, k_B_falls_1, 2), (27, k_B_falls_2, 4), (37, k_B_falls_3, 4)]
def m_B_falls : xM := (yX3_falls, cX3_falls, 3, (some .int), 1, 6, false, b_B_falls)
abbrev N_B_falls : Nat := 37
abbrev k_B_wins_0 : List xE := [(.iload_n 1, 1, 0, 0, .null, []), (.ifCond .lt 8, 3, 1, 0, .null, []), (.iload_n 1, 1, 0, 0, .null, []), (.iconst 1, 1, 0, 0, .int (nI 1), []), (.if_icmp .le 13, 3, 2, 0, .null, [])]
abbrev k_B_wins_1 : List xE := [(.new 60, 3, 11, 0, .null, []), (.dup, 1, 0, 0, .null, []), (.ldc 80, 2, 0, 0, .null, []), (.invokespecial 64, 3, 0, 0, .null, []), (.athrow, 1, 0, 0, .null, [])]
abbrev k_B_wins_2 : List xE := [(.aload_n 0, 1, 0, 0, .null, []), (.invokevirtual 182, 3, 63, 1, .ref 221, [1, 4, 799, 1]), (.iload_n 1, 1, 0, 0, .null, []), (.aload_n 0, 1, 0, 0, .null, []), (.getfield 9, 3, 1, 0, .ref 60, []), (.iconst 0, 1, 0, 0, .int (nI 0), []), (.iaload, 1, 0, 0, .null, []), (.invokevirtual 186, 3, 17, 3, .retAddr 8, [0]), (.ifCond .eq 7, 3, 3, 0, .null, []), (.iconst 1, 1, 0, 0, .int (nI 1), []), (.goto 4, 3, 4, 0, .null, [])]
abbrev k_B_wins_3 : List xE := [(.iconst 0, 1, 0, 0, .int (nI 0), [])]
abbrev k_B_wins_4 : List xE := [(.ireturn, 1, 0, 0, .null, [])]
def b_B_wins : List xB := [(0, k_B_wins_0, 1), (9, k_B_wins_1, 5), (19, k_B_wins_2, 5), (40, k_B_wins_3, 4), (41, k_B_wins_4, 5)]
def m_B_wins : xM := (yX3_wins, cX3_wins, 2, (some .int), 4, 799, true, b_B_wins)
abbrev N_B_wins : Nat := 38
abbrev k_B_best_0 : List xE := [(.aload_n 0, 1, 0, 0, .null, []), (.invokevirtual 182, 3, 63, 1, .ref 221, [1, 4, 799, 1]), (.astore_n 1, 1, 0, 0, .null, []), (.iconst 1, 1, 0, 0, .int (nI 1), []), (.aload_n 0, 1, 0, 0, .null, []), (.getfield 9, 3, 1, 0, .ref 60, []), (.iconst 1, 1, 0, 0, .int (nI 1), []), (.iaload, 1, 0, 0, .null, []), (.isub, 1, 0, 0, .null, []), (.istore_n 2, 1, 0, 0, .null, []), (.iconst 0, 1, 0, 0, .int (nI 0), []), (.istore_n 3, 1, 0, 0, .null, [])]
abbrev k_B_best_1 : List xE := [(.iload_n 3, 1, 0, 0, .null, []), (.iconst 5, 1, 0, 0, .int (nI 5), []), (.if_icmp .ge 62, 3, 5, 0, .null, []), (.iconst 1, 1, 0, 0, .int (nI 1), []), (.istore 4, 2, 0, 0, .null, [])]
abbrev k_B_best_2 : List xE := [(.iload 4, 2, 0, 0, .null, []), (.aload_n 0, 1, 0, 0, .null, []), (.getfield 9, 3, 1, 0, .ref 60, []), (.iconst 3, 1, 0, 0, .int (nI 3), []), (.iaload, 1, 0, 0, .null, []), (.if_icmp .gt 42, 3, 4, 0, .null, []), (.aload_n 0, 1, 0, 0, .null, []), (.iload_n 3, 1, 0, 0, .null, []), (.iload 4, 2, 0, 0, .null, []), (.invokevirtual 65, 3, 49, 3, .ref 127, [1]), (.ifCond .ne 26, 3, 3, 0, .null, []), (.aload_n 1, 1, 0, 0, .null, []), (.iload_n 2, 1, 0, 0, .null, []), (.aload_n 0, 1, 0, 0, .null, []), (.iload_n 3, 1, 0, 0, .null, []), (.iload 4, 2, 0, 0, .null, []), (.invokevirtual 189, 3, 50, 3, .ref 475, [1]), (.invokevirtual 186, 3, 17, 3, .retAddr 8, [0]), (.ifCond .ne 11, 3, 3, 0, .null, []), (.bipush 10, 2, 0, 0, .int (nI 10), []), (.iload_n 3, 1, 0, 0, .null, []), (.imul, 1, 0, 0, .null, []), (.iload 4, 2, 0, 0, .null, []), (.iadd, 1, 0, 0, .null, []), (.ireturn, 1, 0, 0, .null, [])]
abbrev k_B_best_3 : List xE := [(.iinc 4 1, 3, 0, 0, .int (nI 1), []), (.goto (-47), 3, 2, 0, .null, [])]
abbrev k_B_best_4 : List xE := [(.iinc 3 1, 3, 0, 0, .int (nI 1), []), (.goto (-61), 3, 1, 0, .null, [])]
abbrev k_B_best_5 : List xE := [(.iconst (-1), 1, 0, 0, .int (-1), []), (.ireturn, 1, 0, 0, .null, [])]
def b_B_best : List xB := [(0, k_B_best_0, 1), (16, k_B_best_1, 2), (24, k_B_best_2, 6), (68, k_B_best_3, 6), (74, k_B_best_4, 6), (80, k_B_best_5, 6)]
def m_B_best : xM := (yX3_best, cX3_best, 5, (some .int), 4, 799, true, b_B_best)
abbrev N_B_best : Nat := 39
abbrev k_B_length_0 : List xE := [(.iload_n 1, 1, 0, 0, .null, []), (.ifCond .lt 8, 3, 1, 0, .null, []), (.iload_n 1, 1, 0, 0, .null, []), (.iconst 1, 1, 0, 0, .int (nI 1), []), (.if_icmp .le 13, 3, 2, 0, .null, [])]
abbrev k_B_length_1 : List xE := [(.new 60, 3, 11, 0, .null, []), (.dup, 1, 0, 0, .null, []), (.ldc 192, 2, 0, 0, .null, []), (.invokespecial 64, 3, 0, 0, .null, []), (.athrow, 1, 0, 0, .null, [])]
abbrev k_B_length_2 : List xE := [(.iload_n 1, 1, 0, 0, .null, []), (.ifCond .ne 25, 3, 3, 0, .null, []), (.aload_n 0, 1, 0, 0, .null, []), (.invokevirtual 182, 3, 63, 1, .ref 221, [1, 4, 799, 1]), (.aload_n 0, 1, 0, 0, .null, []), (.getfield 9, 3, 1, 0, .ref 60, []), (.iconst 1, 1, 0, 0, .int (nI 1), []), (.iaload, 1, 0, 0, .null, []), (.aload_n 0, 1, 0, 0, .null, []), (.getfield 9, 3, 1, 0, .ref 60, []), (.iconst 0, 1, 0, 0, .int (nI 0), []), (.iaload, 1, 0, 0, .null, []), (.invokevirtual 194, 3, 18, 3, .retAddr 12, [0]), (.goto 22, 3, 4, 0, .null, [])]
abbrev k_B_length_3 : List xE := [(.aload_n 0, 1, 0, 0, .null, []), (.invokevirtual 182, 3, 63, 1, .ref 221, [1, 4, 799, 1]), (.aload_n 0, 1, 0, 0, .null, []), (.getfield 9, 3, 1, 0, .ref 60, []), (.iconst 1, 1, 0, 0, .int (nI 1), []), (.iaload, 1, 0, 0, .null, []), (.aload_n 0, 1, 0, 0, .null, []), (.getfield 9, 3, 1, 0, .ref 60, []), (.iconst 0, 1, 0, 0, .int (nI 0), []), (.iaload, 1, 0, 0, .null, []), (.invokevirtual 197, 3, 19, 3, .retAddr 13, [0])]
abbrev k_B_length_4 : List xE := [(.ireturn, 1, 0, 0, .null, [])]
def b_B_length : List xB := [(0, k_B_length_0, 1), (9, k_B_length_1, 5), (19, k_B_length_2, 5), (45, k_B_length_3, 4), (64, k_B_length_4, 5)]
def m_B_length : xM := (yX3_length, cX3_length, 2, (some .int), 4, 799, true, b_B_length)
abbrev N_B_length : Nat := 40
abbrev k_B_pyramids_0 : List xE := [(.iload_n 1, 1, 0, 0, .null, []), (.tableswitch 63 0 3 #[31, 37, 46, 55], 31, 5, 0, .null, [1, 2, 3, 4])]
abbrev k_B_pyramids_1 : List xE := [(.aload_n 0, 1, 0, 0, .null, []), (.getfield 40, 3, 1, 7, .ref 67, []), (.arraylength, 1, 0, 0, .null, []), (.ireturn, 1, 0, 0, .null, [])]
abbrev k_B_pyramids_2 : List xE := [(.aload_n 0, 1, 0, 0, .null, []), (.invokevirtual 182, 3, 63, 1, .ref 221, [1, 4, 799, 1]), (.iconst 0, 1, 0, 0, .int (nI 0), []), (.invokevirtual 200, 3, 20, 2, .retAddr 9, [0]), (.ireturn, 1, 0, 0, .null, [])]
abbrev k_B_pyramids_3 : List xE := [(.aload_n 0, 1, 0, 0, .null, []), (.invokevirtual 182, 3, 63, 1, .ref 221, [1, 4, 799, 1]), (.iconst 1, 1, 0, 0, .int (nI 1), []), (.invokevirtual 200, 3, 20, 2, .retAddr 9, [0]), (.ireturn, 1, 0, 0, .null, [])]
abbrev k_B_pyramids_4 : List xE := [(.aload_n 0, 1, 0, 0, .null, []), (.invokevirtual 182, 3, 63, 1, .ref 221, [1, 4, 799, 1]), (.invokevirtual 203, 3, 21, 1, .retAddr 14, [0]), (.ireturn, 1, 0, 0, .null, [])]
abbrev k_B_pyramids_5 : List xE := [(.new 60, 3, 11, 0, .null, []), (.dup, 1, 0, 0, .null, []), (.ldc 206, 2, 0, 0, .null, []), (.invokespecial 64, 3, 0, 0, .null, []), (.athrow, 1, 0, 0, .null, [])]
def b_B_pyramids : List xB := [(0, k_B_pyramids_0, 6), (32, k_B_pyramids_1, 6), (38, k_B_pyramids_2, 6), (47, k_B_pyramids_3, 6), (56, k_B_pyramids_4, 6), (64, k_B_pyramids_5, 6)]
def m_B_pyramids : xM := (yX3_pyramids, cX3_pyramids, 2, (some .int), 4, 799, true, b_B_pyramids)
abbrev N_B_pyramids : Nat := 41
abbrev k_B_brokenShare_0 : List xE := [(.aload_n 0, 1, 0, 0, .null, []), (.invokevirtual 167, 3, 60, 1, .ref 119, [1]), (.istore_n 1, 1, 0, 0, .null, []), (.iload_n 1, 1, 0, 0, .null, []), (.aload_n 0, 1, 0, 0, .null, []), (.getfield 9, 3, 1, 0, .ref 60, []), (.bipush 16, 2, 0, 0, .int (nI 16), []), (.iaload, 1, 0, 0, .null, []), (.iadd, 1, 0, 0, .null, []), (.aload_n 0, 1, 0, 0, .null, []), (.getfield 9, 3, 1, 0, .ref 60, []), (.bipush 17, 2, 0, 0, .int (nI 17), []), (.iaload, 1, 0, 0, .null, []), (.iadd, 1, 0, 0, .null, []), (.istore_n 2, 1, 0, 0, .null, []), (.iload_n 2, 1, 0, 0, .null, []), (.ifCond .ne 7, 3, 1, 0, .null, []), (.dconst 0, 1, 0, 0, .double FP.dconst0, []), (.goto 8, 3, 2, 0, .null, [])]
abbrev k_B_brokenShare_1 : List xE := [(.iload_n 1, 1, 0, 0, .null, []), (.i2d, 1, 0, 0, .null, []), (.iload_n 2, 1, 0, 0, .null, []), (.i2d, 1, 0, 0, .null, []), (.ddiv, 1, 0, 0, .null, [])]
abbrev k_B_brokenShare_2 : List xE := [(.dreturn, 1, 0, 0, .null, [])]
def b_B_brokenShare : List xB := [(0, k_B_brokenShare_0, 3), (31, k_B_brokenShare_1, 2), (36, k_B_brokenShare_2, 3)]
def m_B_brokenShare : xM := (yX3_brokenShare, cX3_brokenShare, 3, (some .double), 0, 0, false, b_B_brokenShare)
abbrev N_B_brokenShare : Nat := 42
abbrev k_B_wonShare_0 : List xE := [(.aload_n 0, 1, 0, 0, .null, []), (.getfield 40, 3, 1, 7, .ref 67, []), (.arraylength, 1, 0, 0, .null, []), (.istore_n 1, 1, 0, 0, .null, []), (.iload_n 1, 1, 0, 0, .null, []), (.ifCond .ne 7, 3, 1, 0, .null, []), (.fconst 0, 1, 0, 0, .float FP.fconst0, []), (.goto 20, 3, 2, 0, .null, [])]
abbrev k_B_wonShare_1 : List xE := [(.aload_n 0, 1, 0, 0, .null, []), (.invokevirtual 182, 3, 63, 1, .ref 221, [1, 4, 799, 1]), (.aload_n 0, 1, 0, 0, .null, []), (.getfield 9, 3, 1, 0, .ref 60, []), (.iconst 1, 1, 0, 0, .int (nI 1), []), (.iaload, 1, 0, 0, .null, []), (.invokevirtual 200, 3, 20, 2, .retAddr 9, [0]), (.i2f, 1, 0, 0, .null, []), (.iload_n 1, 1, 0, 0, .null, []), (.i2f, 1, 0, 0, .null, []), (.fdiv, 1, 0, 0, .null, [])]
abbrev k_B_wonShare_2 : List xE := [(.freturn, 1, 0, 0, .null, [])]
def b_B_wonShare : List xB := [(0, k_B_wonShare_0, 3), (14, k_B_wonShare_1, 2), (31, k_B_wonShare_2, 3)]
def m_B_wonShare : xM := (yX3_wonShare, cX3_wonShare, 2, (some .float), 4, 799, true, b_B_wonShare)
abbrev N_B_wonShare : Nat := 43
abbrev k_B_isRow_0 : List xE := [(.iload_n 0, 1, 0, 0, .null, []), (.ifCond .lt 12, 3, 1, 0, .null, []), (.iload_n 0, 1, 0, 0, .null, []), (.iconst 5, 1, 0, 0, .int (nI 5), []), (.if_icmp .ge 7, 3, 1, 0, .null, []), (.iconst 1, 1, 0, 0, .int (nI 1), []), (.goto 4, 3, 2, 0, .null, [])]
abbrev k_B_isRow_1 : List xE := [(.iconst 0, 1, 0, 0, .int (nI 0), [])]
abbrev k_B_isRow_2 : List xE := [(.ireturn, 1, 0, 0, .null, [])]
def b_B_isRow : List xB := [(0, k_B_isRow_0, 3), (13, k_B_isRow_1, 2), (14, k_B_isRow_2, 3)]
def m_B_isRow : xM := (yX3_isRow, cX3_isRow, 1, (some .boolean), 0, 0, false, b_B_isRow)
abbrev N_B_isRow : Nat := 44
abbrev k_B_isPlace_0 : List xE := [(.iload_n 0, 1, 0, 0, .null, []), (.invokestatic 49, 3, 44, 1, .ref 308, [0]), (.ifCond .eq 18, 3, 1, 0, .null, []), (.iload_n 1, 1, 0, 0, .null, []), (.ifCond .lt 14, 3, 1, 0, .null, []), (.iload_n 1, 1, 0, 0, .null, []), (.iconst 5, 1, 0, 0, .int (nI 5), []), (.iload_n 0, 1, 0, 0, .null, []), (.isub, 1, 0, 0, .null, []), (.if_icmp .ge 7, 3, 1, 0, .null, []), (.iconst 1, 1, 0, 0, .int (nI 1), []), (.goto 4, 3, 2, 0, .null, [])]
abbrev k_B_isPlace_1 : List xE := [(.iconst 0, 1, 0, 0, .int (nI 0), [])]
abbrev k_B_isPlace_2 : List xE := [(.ireturn, 1, 0, 0, .null, [])]
def b_B_isPlace : List xB := [(0, k_B_isPlace_0, 3), (22, k_B_isPlace_1, 2), (23, k_B_isPlace_2, 3)]
def m_B_isPlace : xM := (yX3_isPlace, cX3_isPlace, 2, (some .boolean), 0, 0, false, b_B_isPlace)
abbrev N_B_isPlace : Nat := 45
abbrev k_B_isSetting_0 : List xE := [(.iload_n 0, 1, 0, 0, .null, []), (.ifCond .lt 12, 3, 1, 0, .null, []), (.iload_n 0, 1, 0, 0, .null, []), (.iconst 2, 1, 0, 0, .int (nI 2), []), (.if_icmp .gt 7, 3, 1, 0, .null, []), (.iconst 1, 1, 0, 0, .int (nI 1), []), (.goto 4, 3, 2, 0, .null, [])]
abbrev k_B_isSetting_1 : List xE := [(.iconst 0, 1, 0, 0, .int (nI 0), [])]
abbrev k_B_isSetting_2 : List xE := [(.ireturn, 1, 0, 0, .null, [])]
def b_B_isSetting : List xB := [(0, k_B_isSetting_0, 3), (13, k_B_isSetting_1, 2), (14, k_B_isSetting_2, 3)]
def m_B_isSetting : xM := (yX3_isSetting, cX3_isSetting, 1, (some .boolean), 0, 0, false, b_B_isSetting)
abbrev N_B_isSetting : Nat := 46
abbrev k_B_save_0 : List xE := [(.aload_n 0, 1, 0, 0, .null, []), (.getfield 16, 3, 1, 2, .ref 62, []), (.bipush 6, 2, 0, 0, .int (nI 6), []), (.if_icmp .lt 24, 3, 1, 0, .null, []), (.aload_n 0, 1, 0, 0, .null, []), (.getfield 13, 3, 1, 1, .ref 61, []), (.bipush 18, 2, 0, 0, .int (nI 18), []), (.aload_n 0, 1, 0, 0, .null, []), (.getfield 13, 3, 1, 1, .ref 61, []), (.iconst 0, 1, 0, 0, .int (nI 0), []), (.bipush 90, 2, 0, 0, .int (nI 90), []), (.invokestatic 137, 3, 900, 0, .null, []), (.aload_n 0, 1, 0, 0, .null, []), (.iconst 5, 1, 0, 0, .int (nI 5), []), (.putfield 16, 3, 1, 2, .ref 62, [0])]
abbrev k_B_save_1 : List xE := [(.aload_n 0, 1, 0, 0, .null, []), (.getfield 9, 3, 1, 0, .ref 60, []), (.iconst 0, 1, 0, 0, .int (nI 0), []), (.aload_n 0, 1, 0, 0, .null, []), (.getfield 13, 3, 1, 1, .ref 61, []), (.aload_n 0, 1, 0, 0, .null, []), (.getfield 16, 3, 1, 2, .ref 62, []), (.bipush 18, 2, 0, 0, .int (nI 18), []), (.imul, 1, 0, 0, .null, []), (.bipush 18, 2, 0, 0, .int (nI 18), []), (.invokestatic 137, 3, 900, 0, .null, []), (.aload_n 0, 1, 0, 0, .null, []), (.dup, 1, 0, 0, .null, []), (.getfield 16, 3, 1, 2, .ref 62, []), (.iconst 1, 1, 0, 0, .int (nI 1), []), (.iadd, 1, 0, 0, .null, []), (.putfield 16, 3, 1, 2, .ref 62, [0]), (.return_, 1, 0, 0, .null, [])]
def b_B_save : List xB := [(0, k_B_save_0, 1), (30, k_B_save_1, 2)]
def m_B_save : xM := (yX3_save, cX3_save, 1, none, 0, 0, false, b_B_save)
abbrev N_B_save : Nat := 47
abbrev k_B_isBarring_0 : List xE := [(.aload_n 0, 1, 0, 0, .null, []), (.getfield 9, 3, 1, 0, .ref 60, []), (.iconst 4, 1, 0, 0, .int (nI 4), []), (.iaload, 1, 0, 0, .null, []), (.iconst 1, 1, 0, 0, .int (nI 1), []), (.if_icmp .ne 7, 3, 1, 0, .null, []), (.iconst 1, 1, 0, 0, .int (nI 1), []), (.goto 4, 3, 2, 0, .null, [])]
abbrev k_B_isBarring_1 : List xE := [(.iconst 0, 1, 0, 0, .int (nI 0), [])]
abbrev k_B_isBarring_2 : List xE := [(.ireturn, 1, 0, 0, .null, [])]
def b_B_isBarring : List xB := [(0, k_B_isBarring_0, 3), (14, k_B_isBarring_1, 2), (15, k_B_isBarring_2, 3)]
def m_B_isBarring : xM := (yX3_isBarring, cX3_isBarring, 1, (some .boolean), 0, 0, false, b_B_isBarring)
abbrev N_B_isBarring : Nat := 48
abbrev k_B_reasonAgainst_0 : List xE := [(.iload_n 2, 1, 0, 0, .null, []), (.aload_n 0, 1, 0, 0, .null, []), (.getfield 9, 3, 1, 0, .ref 60, []), (.iconst 3, 1, 0, 0, .int (nI 3), []), (.iaload, 1, 0, 0, .null, []), (.if_icmp .le 5, 3, 1, 0, .null, []), (.iconst 1, 1, 0, 0, .int (nI 1), []), (.ireturn, 1, 0, 0, .null, [])]
abbrev k_B_reasonAgainst_1 : List xE := [(.aload_n 0, 1, 0, 0, .null, []), (.getfield 9, 3, 1, 0, .ref 60, []), (.iconst 0, 1, 0, 0, .int (nI 0), []), (.iaload, 1, 0, 0, .null, []), (.aload_n 0, 1, 0, 0, .null, []), (.getfield 9, 3, 1, 0, .ref 60, []), (.iconst 1, 1, 0, 0, .int (nI 1), []), (.iaload, 1, 0, 0, .null, []), (.iload_n 1, 1, 0, 0, .null, []), (.iload_n 2, 1, 0, 0, .null, []), (.invokestatic 178, 3, 10, 4, .retAddr 5, [0]), (.istore_n 3, 1, 0, 0, .null, []), (.iload_n 3, 1, 0, 0, .null, []), (.iconst (-1), 1, 0, 0, .int (-1), []), (.if_icmp .ne 5, 3, 2, 0, .null, []), (.iconst 2, 1, 0, 0, .int (nI 2), []), (.ireturn, 1, 0, 0, .null, [])]
abbrev k_B_reasonAgainst_2 : List xE := [(.aload_n 0, 1, 0, 0, .null, []), (.invokevirtual 247, 3, 48, 1, .ref 141, [1]), (.ifCond .eq 11, 3, 3, 0, .null, []), (.iload_n 3, 1, 0, 0, .null, []), (.ifCond .le 7, 3, 3, 0, .null, []), (.iconst 3, 1, 0, 0, .int (nI 3), []), (.goto 4, 3, 4, 0, .null, [])]
abbrev k_B_reasonAgainst_3 : List xE := [(.iconst 0, 1, 0, 0, .int (nI 0), [])]
abbrev k_B_reasonAgainst_4 : List xE := [(.ireturn, 1, 0, 0, .null, [])]
def b_B_reasonAgainst : List xB := [(0, k_B_reasonAgainst_0, 5), (12, k_B_reasonAgainst_1, 5), (37, k_B_reasonAgainst_2, 5), (52, k_B_reasonAgainst_3, 4), (53, k_B_reasonAgainst_4, 5)]
def m_B_reasonAgainst : xM := (yX3_reasonAgainst, cX3_reasonAgainst, 4, (some .int), 0, 0, false, b_B_reasonAgainst)
abbrev N_B_reasonAgainst : Nat := 49
abbrev k_B_maskBehind_0 : List xE := [(.aload_n 0, 1, 0, 0, .null, []), (.getfield 9, 3, 1, 0, .ref 60, []), (.iconst 0, 1, 0, 0, .int (nI 0), []), (.iaload, 1, 0, 0, .null, []), (.aload_n 0, 1, 0, 0, .null, []), (.getfield 9, 3, 1, 0, .ref 60, []), (.iconst 1, 1, 0, 0, .int (nI 1), []), (.iaload, 1, 0, 0, .null, []), (.iload_n 1, 1, 0, 0, .null, []), (.iload_n 2, 1, 0, 0, .null, []), (.invokestatic 250, 3, 9, 4, .retAddr 6, [0]), (.invokestatic 253, 3, 7, 1, .retAddr 7, [0]), (.ireturn, 1, 0, 0, .null, [])]
def b_B_maskBehind : List xB := [(0, k_B_maskBehind_0, 1)]
def m_B_maskBehind : xM := (yX3_maskBehind, cX3_maskBehind, 3, (some .int), 0, 0, false, b_B_maskBehind)
abbrev N_B_maskBehind : Nat := 50
abbrev k_B_steal_0 : List xE := [(.aload_n 0, 1, 0, 0, .null, []), (.getfield 9, 3, 1, 0, .ref 60, []), (.iconst 1, 1, 0, 0, .int (nI 1), []), (.iaload, 1, 0, 0, .null, []), (.istore_n 3, 1, 0, 0, .null, []), (.aload_n 0, 1, 0, 0, .null, []), (.getfield 9, 3, 1, 0, .ref 60, []), (.bipush 6, 2, 0, 0, .int (nI 6), []), (.iload_n 1, 1, 0, 0, .null, []), (.iadd, 1, 0, 0, .null, []), (.dup2, 1, 0, 0, .null, []), (.iaload, 1, 0, 0, .null, []), (.iload_n 2, 1, 0, 0, .null, []), (.iadd, 1, 0, 0, .null, []), (.iastore, 1, 0, 0, .null, []), (.aload_n 0, 1, 0, 0, .null, []), (.getfield 9, 3, 1, 0, .ref 60, []), (.bipush 16, 2, 0, 0, .int (nI 16), []), (.iload_n 3, 1, 0, 0, .null, []), (.iadd, 1, 0, 0, .null, []), (.dup2, 1, 0, 0, .null, []), (.iaload, 1, 0, 0, .null, []), (.iload_n 2, 1, 0, 0, .null, []), (.iadd, 1, 0, 0, .null, []), (.iastore, 1, 0, 0, .null, []), (.aload_n 0, 1, 0, 0, .null, []), (.getfield 9, 3, 1, 0, .ref 60, []), (.iconst 2, 1, 0, 0, .int (nI 2), []), (.dup2, 1, 0, 0, .null, []), (.iaload, 1, 0, 0, .null, []), (.iconst 1, 1, 0, 0, .int (nI 1), []), (.iadd, 1, 0, 0, .null, []), (.iastore, 1, 0, 0, .null, []), (.aload_n 0, 1, 0, 0, .null, []), (.getfield 9, 3, 1, 0, .ref 60, []), (.iconst 1, 1, 0, 0, .int (nI 1), []), (.iconst 1, 1, 0, 0, .int (nI 1), []), (.iload_n 3, 1, 0, 0, .null, []), (.isub, 1, 0, 0, .null, []), (.iastore, 1, 0, 0, .null, []), (.aload_n 0, 1, 0, 0, .null, []), (.aload_n 0, 1, 0, 0, .null, []), (.getfield 9, 3, 1, 0, .ref 60, []), (.iconst 0, 1, 0, 0, .int (nI 0), []), (.iaload, 1, 0, 0, .null, []), (.iload_n 3, 1, 0, 0, .null, []), (.iload_n 1, 1, 0, 0, .null, []), (.iload_n 2, 1, 0, 0, .null, []), (.invokestatic 250, 3, 9, 4, .retAddr 6, [0]), (.invokevirtual 256, 3, 53, 2, .ref 349, [1]), (.ireturn, 1, 0, 0, .null, [])]
def b_B_steal : List xB := [(0, k_B_steal_0, 1)]
def m_B_steal : xM := (yX3_steal, cX3_steal, 4, (some .int), 0, 0, false, b_B_steal)
abbrev N_B_steal : Nat := 51
abbrev k_B_knockOut_0 : List xE := [(.aload_n 0, 1, 0, 0, .null, []), (.getfield 9, 3, 1, 0, .ref 60, []), (.bipush 11, 2, 0, 0, .int (nI 11), []), (.iload_n 1, 1, 0, 0, .null, []), (.iadd, 1, 0, 0, .null, []), (.dup2, 1, 0, 0, .null, []), (.iaload, 1, 0, 0, .null, []), (.iconst 1, 1, 0, 0, .int (nI 1), []), (.iadd, 1, 0, 0, .null, []), (.iastore, 1, 0, 0, .null, []), (.aload_n 0, 1, 0, 0, .null, []), (.aload_n 0, 1, 0, 0, .null, []), (.getfield 9, 3, 1, 0, .ref 60, []), (.iconst 0, 1, 0, 0, .int (nI 0), []), (.iaload, 1, 0, 0, .null, []), (.iload_n 1, 1, 0, 0, .null, []), (.iload_n 2, 1, 0, 0, .null, []), (.invokestatic 259, 3, 3, 2, .retAddr 15, [0]), (.iconst (-1), 1, 0, 0, .int (-1), []), (.ixor, 1, 0, 0, .null, []), (.iand, 1, 0, 0, .null, []), (.invokevirtual 256, 3, 53, 2, .ref 349, [1]), (.ireturn, 1, 0, 0, .null, [])]
def b_B_knockOut : List xB := [(0, k_B_knockOut_0, 1)]
def m_B_knockOut : xM := (yX3_knockOut, cX3_knockOut, 3, (some .int), 0, 0, false, b_B_knockOut)
abbrev N_B_knockOut : Nat := 52
abbrev k_B_letFall_0 : List xE := [(.iload_n 1, 1, 0, 0, .null, []), (.invokestatic 253, 3, 7, 1, .retAddr 7, [0]), (.istore_n 2, 1, 0, 0, .null, []), (.iload_n 1, 1, 0, 0, .null, []), (.iload_n 2, 1, 0, 0, .null, []), (.iconst (-1), 1, 0, 0, .int (-1), []), (.ixor, 1, 0, 0, .null, []), (.iand, 1, 0, 0, .null, []), (.istore_n 3, 1, 0, 0, .null, []), (.iconst 0, 1, 0, 0, .int (nI 0), []), (.istore 4, 2, 0, 0, .null, [])]
abbrev k_B_letFall_1 : List xE := [(.iload 4, 2, 0, 0, .null, []), (.iconst 5, 1, 0, 0, .int (nI 5), []), (.if_icmp .ge 31, 3, 2, 0, .null, []), (.aload_n 0, 1, 0, 0, .null, []), (.getfield 9, 3, 1, 0, .ref 60, []), (.bipush 11, 2, 0, 0, .int (nI 11), []), (.iload 4, 2, 0, 0, .null, []), (.iadd, 1, 0, 0, .null, []), (.dup2, 1, 0, 0, .null, []), (.iaload, 1, 0, 0, .null, []), (.iload_n 3, 1, 0, 0, .null, []), (.iload 4, 2, 0, 0, .null, []), (.invokestatic 147, 3, 4, 2, .retAddr 10, [0]), (.invokestatic 150, 3, 0, 1, .ref 105, [0]), (.iadd, 1, 0, 0, .null, []), (.iastore, 1, 0, 0, .null, []), (.iinc 4 1, 3, 0, 0, .int (nI 1), []), (.goto (-31), 3, 1, 0, .null, [])]
abbrev k_B_letFall_2 : List xE := [(.aload_n 0, 1, 0, 0, .null, []), (.getfield 9, 3, 1, 0, .ref 60, []), (.iconst 0, 1, 0, 0, .int (nI 0), []), (.iload_n 2, 1, 0, 0, .null, []), (.iastore, 1, 0, 0, .null, []), (.iload_n 3, 1, 0, 0, .null, []), (.invokestatic 150, 3, 0, 1, .ref 105, [0]), (.ireturn, 1, 0, 0, .null, [])]
def b_B_letFall : List xB := [(0, k_B_letFall_0, 1), (14, k_B_letFall_1, 3), (48, k_B_letFall_2, 3)]
def m_B_letFall : xM := (yX3_letFall, cX3_letFall, 5, (some .int), 0, 0, false, b_B_letFall)
abbrev N_B_letFall : Nat := 53
abbrev k_B_addBottle_0 : List xE := [(.aload_n 0, 1, 0, 0, .null, []), (.getfield 9, 3, 1, 0, .ref 60, []), (.iconst 0, 1, 0, 0, .int (nI 0), []), (.dup2, 1, 0, 0, .null, []), (.iaload, 1, 0, 0, .null, []), (.iload_n 1, 1, 0, 0, .null, []), (.iload_n 2, 1, 0, 0, .null, []), (.invokestatic 259, 3, 3, 2, .retAddr 15, [0]), (.ior, 1, 0, 0, .null, []), (.iastore, 1, 0, 0, .null, []), (.aload_n 0, 1, 0, 0, .null, []), (.getfield 9, 3, 1, 0, .ref 60, []), (.iconst 0, 1, 0, 0, .int (nI 0), []), (.iaload, 1, 0, 0, .null, []), (.invokestatic 150, 3, 0, 1, .ref 105, [0]), (.ireturn, 1, 0, 0, .null, [])]
def b_B_addBottle : List xB := [(0, k_B_addBottle_0, 1)]
def m_B_addBottle : xM := (yX3_addBottle, cX3_addBottle, 3, (some .int), 0, 0, false, b_B_addBottle)
abbrev N_B_addBottle : Nat := 54
abbrev k_B_swapSides_0 : List xE := [(.aload_n 0, 1, 0, 0, .null, []), (.getfield 9, 3, 1, 0, .ref 60, []), (.iconst 0, 1, 0, 0, .int (nI 0), []), (.aload_n 0, 1, 0, 0, .null, []), (.getfield 9, 3, 1, 0, .ref 60, []), (.iconst 0, 1, 0, 0, .int (nI 0), []), (.iaload, 1, 0, 0, .null, []), (.invokestatic 262, 3, 8, 1, .retAddr 1, [0]), (.iastore, 1, 0, 0, .null, []), (.aload_n 0, 1, 0, 0, .null, []), (.getfield 9, 3, 1, 0, .ref 60, []), (.iconst 1, 1, 0, 0, .int (nI 1), []), (.iconst 1, 1, 0, 0, .int (nI 1), []), (.aload_n 0, 1, 0, 0, .null, []), (.getfield 9, 3, 1, 0, .ref 60, []), (.iconst 1, 1, 0, 0, .int (nI 1), []), (.iaload, 1, 0, 0, .null, []), (.isub, 1, 0, 0, .null, []), (.iastore, 1, 0, 0, .null, []), (.aload_n 0, 1, 0, 0, .null, []), (.getfield 9, 3, 1, 0, .ref 60, []), (.iconst 0, 1, 0, 0, .int (nI 0), []), (.iaload, 1, 0, 0, .null, []), (.ireturn, 1, 0, 0, .null, [])]
def b_B_swapSides : List xB := [(0, k_B_swapSides_0, 1)]
def m_B_swapSides : xM := (yX3_swapSides, cX3_swapSides, 1, (some .int), 0, 0, false, b_B_swapSides)
abbrev N_B_swapSides : Nat := 55
abbrev k_B_fillUp_0 : List xE := [(.sipush 32767, 3, 0, 0, .int (nI 32767), []), (.invokestatic 150, 3, 0, 1, .ref 105, [0]), (.aload_n 0, 1, 0, 0, .null, []), (.getfield 9, 3, 1, 0, .ref 60, []), (.iconst 0, 1, 0, 0, .int (nI 0), []), (.iaload, 1, 0, 0, .null, []), (.invokestatic 150, 3, 0, 1, .ref 105, [0]), (.isub, 1, 0, 0, .null, []), (.istore_n 1, 1, 0, 0, .null, []), (.aload_n 0, 1, 0, 0, .null, []), (.getfield 9, 3, 1, 0, .ref 60, []), (.iconst 0, 1, 0, 0, .int (nI 0), []), (.sipush 32767, 3, 0, 0, .int (nI 32767), []), (.iastore, 1, 0, 0, .null, []), (.aload_n 0, 1, 0, 0, .null, []), (.getfield 9, 3, 1, 0, .ref 60, []), (.iconst 1, 1, 0, 0, .int (nI 1), []), (.iconst 0, 1, 0, 0, .int (nI 0), []), (.iastore, 1, 0, 0, .null, []), (.iload_n 1, 1, 0, 0, .null, []), (.ireturn, 1, 0, 0, .null, [])]
def b_B_fillUp : List xB := [(0, k_B_fillUp_0, 1)]
def m_B_fillUp : xM := (yX3_fillUp, cX3_fillUp, 2, (some .int), 0, 0, false, b_B_fillUp)
abbrev N_B_fillUp : Nat := 56
abbrev k_B_lowestPlace_0 : List xE := [(.iconst 0, 1, 0, 0, .int (nI 0), []), (.istore_n 2, 1, 0, 0, .null, [])]
abbrev k_B_lowestPlace_1 : List xE := [(.iload_n 2, 1, 0, 0, .null, []), (.iconst 5, 1, 0, 0, .int (nI 5), []), (.iload_n 1, 1, 0, 0, .null, []), (.isub, 1, 0, 0, .null, []), (.if_icmp .ge 25, 3, 3, 0, .null, []), (.aload_n 0, 1, 0, 0, .null, []), (.getfield 9, 3, 1, 0, .ref 60, []), (.iconst 0, 1, 0, 0, .int (nI 0), []), (.iaload, 1, 0, 0, .null, []), (.iload_n 1, 1, 0, 0, .null, []), (.iload_n 2, 1, 0, 0, .null, []), (.invokestatic 88, 3, 5, 3, .retAddr 11, [0]), (.ifCond .eq 5, 3, 2, 0, .null, []), (.iload_n 2, 1, 0, 0, .null, []), (.ireturn, 1, 0, 0, .null, [])]
abbrev k_B_lowestPlace_2 : List xE := [(.iinc 2 1, 3, 0, 0, .int (nI 1), []), (.goto (-26), 3, 1, 0, .null, [])]
abbrev k_B_lowestPlace_3 : List xE := [(.iconst (-1), 1, 0, 0, .int (-1), []), (.ireturn, 1, 0, 0, .null, [])]
def b_B_lowestPlace : List xB := [(0, k_B_lowestPlace_0, 1), (2, k_B_lowestPlace_1, 4), (25, k_B_lowestPlace_2, 4), (31, k_B_lowestPlace_3, 4)]
def m_B_lowestPlace : xM := (yX3_lowestPlace, cX3_lowestPlace, 3, (some .int), 0, 0, false, b_B_lowestPlace)
abbrev N_B_lowestPlace : Nat := 57
abbrev k_B_highestPlace_0 : List xE := [(.iconst 5, 1, 0, 0, .int (nI 5), []), (.iload_n 1, 1, 0, 0, .null, []), (.isub, 1, 0, 0, .null, []), (.iconst 1, 1, 0, 0, .int (nI 1), []), (.isub, 1, 0, 0, .null, []), (.istore_n 2, 1, 0, 0, .null, [])]
abbrev k_B_highestPlace_1 : List xE := [(.iload_n 2, 1, 0, 0, .null, []), (.ifCond .lt 25, 3, 3, 0, .null, []), (.aload_n 0, 1, 0, 0, .null, []), (.getfield 9, 3, 1, 0, .ref 60, []), (.iconst 0, 1, 0, 0, .int (nI 0), []), (.iaload, 1, 0, 0, .null, []), (.iload_n 1, 1, 0, 0, .null, []), (.iload_n 2, 1, 0, 0, .null, []), (.invokestatic 88, 3, 5, 3, .retAddr 11, [0]), (.ifCond .eq 5, 3, 2, 0, .null, []), (.iload_n 2, 1, 0, 0, .null, []), (.ireturn, 1, 0, 0, .null, [])]
abbrev k_B_highestPlace_2 : List xE := [(.iinc 2 (-1), 3, 0, 0, .int (-1), []), (.goto (-23), 3, 1, 0, .null, [])]
abbrev k_B_highestPlace_3 : List xE := [(.iconst (-1), 1, 0, 0, .int (-1), []), (.ireturn, 1, 0, 0, .null, [])]
def b_B_highestPlace : List xB := [(0, k_B_highestPlace_0, 1), (6, k_B_highestPlace_1, 4), (26, k_B_highestPlace_2, 4), (32, k_B_highestPlace_3, 4)]
def m_B_highestPlace : xM := (yX3_highestPlace, cX3_highestPlace, 3, (some .int), 0, 0, false, b_B_highestPlace)
abbrev N_B_highestPlace : Nat := 58
abbrev k_B_greatestTheft_0 : List xE := [(.aload_n 0, 1, 0, 0, .null, []), (.getfield 9, 3, 1, 0, .ref 60, []), (.iconst 3, 1, 0, 0, .int (nI 3), []), (.iaload, 1, 0, 0, .null, []), (.istore_n 2, 1, 0, 0, .null, [])]
abbrev k_B_greatestTheft_1 : List xE := [(.iload_n 2, 1, 0, 0, .null, []), (.iconst 1, 1, 0, 0, .int (nI 1), []), (.if_icmp .lt 20, 3, 3, 0, .null, []), (.aload_n 0, 1, 0, 0, .null, []), (.iload_n 1, 1, 0, 0, .null, []), (.iload_n 2, 1, 0, 0, .null, []), (.invokevirtual 65, 3, 49, 3, .ref 127, [1]), (.ifCond .ne 5, 3, 2, 0, .null, []), (.iload_n 2, 1, 0, 0, .null, []), (.ireturn, 1, 0, 0, .null, [])]
abbrev k_B_greatestTheft_2 : List xE := [(.iinc 2 (-1), 3, 0, 0, .int (-1), []), (.goto (-19), 3, 1, 0, .null, [])]
abbrev k_B_greatestTheft_3 : List xE := [(.iconst 0, 1, 0, 0, .int (nI 0), []), (.ireturn, 1, 0, 0, .null, [])]
def b_B_greatestTheft : List xB := [(0, k_B_greatestTheft_0, 1), (7, k_B_greatestTheft_1, 4), (23, k_B_greatestTheft_2, 4), (29, k_B_greatestTheft_3, 4)]
def m_B_greatestTheft : xM := (yX3_greatestTheft, cX3_greatestTheft, 3, (some .int), 0, 0, false, b_B_greatestTheft)
abbrev N_B_greatestTheft : Nat := 59
abbrev k_B_brokenInAll_0 : List xE := [(.iconst 0, 1, 0, 0, .int (nI 0), []), (.istore_n 1, 1, 0, 0, .null, []), (.iconst 0, 1, 0, 0, .int (nI 0), []), (.istore_n 2, 1, 0, 0, .null, [])]
abbrev k_B_brokenInAll_1 : List xE := [(.iload_n 2, 1, 0, 0, .null, []), (.iconst 5, 1, 0, 0, .int (nI 5), []), (.if_icmp .ge 21, 3, 2, 0, .null, []), (.iload_n 1, 1, 0, 0, .null, []), (.aload_n 0, 1, 0, 0, .null, []), (.getfield 9, 3, 1, 0, .ref 60, []), (.bipush 11, 2, 0, 0, .int (nI 11), []), (.iload_n 2, 1, 0, 0, .null, []), (.iadd, 1, 0, 0, .null, []), (.iaload, 1, 0, 0, .null, []), (.iadd, 1, 0, 0, .null, []), (.istore_n 1, 1, 0, 0, .null, []), (.iinc 2 1, 3, 0, 0, .int (nI 1), []), (.goto (-20), 3, 1, 0, .null, [])]
abbrev k_B_brokenInAll_2 : List xE := [(.iload_n 1, 1, 0, 0, .null, []), (.ireturn, 1, 0, 0, .null, [])]
def b_B_brokenInAll : List xB := [(0, k_B_brokenInAll_0, 1), (4, k_B_brokenInAll_1, 3), (27, k_B_brokenInAll_2, 3)]
def m_B_brokenInAll : xM := (yX3_brokenInAll, cX3_brokenInAll, 3, (some .int), 0, 0, false, b_B_brokenInAll)
abbrev N_B_brokenInAll : Nat := 60
abbrev k_B_possibleThefts_0 : List xE := [(.iconst 0, 1, 0, 0, .int (nI 0), []), (.istore_n 1, 1, 0, 0, .null, []), (.iconst 0, 1, 0, 0, .int (nI 0), []), (.istore_n 2, 1, 0, 0, .null, [])]
abbrev k_B_possibleThefts_1 : List xE := [(.iload_n 2, 1, 0, 0, .null, []), (.iconst 5, 1, 0, 0, .int (nI 5), []), (.if_icmp .ge 39, 3, 5, 0, .null, []), (.iconst 1, 1, 0, 0, .int (nI 1), []), (.istore_n 3, 1, 0, 0, .null, [])]
abbrev k_B_possibleThefts_2 : List xE := [(.iload_n 3, 1, 0, 0, .null, []), (.aload_n 0, 1, 0, 0, .null, []), (.getfield 9, 3, 1, 0, .ref 60, []), (.iconst 3, 1, 0, 0, .int (nI 3), []), (.iaload, 1, 0, 0, .null, []), (.if_icmp .gt 21, 3, 4, 0, .null, []), (.aload_n 0, 1, 0, 0, .null, []), (.iload_n 2, 1, 0, 0, .null, []), (.iload_n 3, 1, 0, 0, .null, []), (.invokevirtual 65, 3, 49, 3, .ref 127, [1]), (.ifCond .ne 6, 3, 3, 0, .null, []), (.iinc 1 1, 3, 0, 0, .int (nI 1), [])]
abbrev k_B_possibleThefts_3 : List xE := [(.iinc 3 1, 3, 0, 0, .int (nI 1), []), (.goto (-25), 3, 2, 0, .null, [])]
abbrev k_B_possibleThefts_4 : List xE := [(.iinc 2 1, 3, 0, 0, .int (nI 1), []), (.goto (-38), 3, 1, 0, .null, [])]
abbrev k_B_possibleThefts_5 : List xE := [(.iload_n 1, 1, 0, 0, .null, []), (.ireturn, 1, 0, 0, .null, [])]
def b_B_possibleThefts : List xB := [(0, k_B_possibleThefts_0, 1), (4, k_B_possibleThefts_1, 2), (11, k_B_possibleThefts_2, 3), (33, k_B_possibleThefts_3, 6), (39, k_B_possibleThefts_4, 6), (45, k_B_possibleThefts_5, 6)]
def m_B_possibleThefts : xM := (yX3_possibleThefts, cX3_possibleThefts, 4, (some .int), 0, 0, false, b_B_possibleThefts)
abbrev N_B_possibleThefts : Nat := 61
abbrev k_B_winner_0 : List xE := [(.aload_n 0, 1, 0, 0, .null, []), (.invokevirtual 170, 3, 61, 1, .ref 123, [1]), (.ifCond .le 5, 3, 1, 0, .null, []), (.iconst (-1), 1, 0, 0, .int (-1), []), (.ireturn, 1, 0, 0, .null, [])]
abbrev k_B_winner_1 : List xE := [(.aload_n 0, 1, 0, 0, .null, []), (.getfield 9, 3, 1, 0, .ref 60, []), (.iconst 5, 1, 0, 0, .int (nI 5), []), (.iaload, 1, 0, 0, .null, []), (.iconst 1, 1, 0, 0, .int (nI 1), []), (.if_icmp .ne 12, 3, 2, 0, .null, []), (.aload_n 0, 1, 0, 0, .null, []), (.getfield 9, 3, 1, 0, .ref 60, []), (.iconst 1, 1, 0, 0, .int (nI 1), []), (.iaload, 1, 0, 0, .null, []), (.goto 11, 3, 3, 0, .null, [])]
abbrev k_B_winner_2 : List xE := [(.iconst 1, 1, 0, 0, .int (nI 1), []), (.aload_n 0, 1, 0, 0, .null, []), (.getfield 9, 3, 1, 0, .ref 60, []), (.iconst 1, 1, 0, 0, .int (nI 1), []), (.iaload, 1, 0, 0, .null, []), (.isub, 1, 0, 0, .null, [])]
abbrev k_B_winner_3 : List xE := [(.ireturn, 1, 0, 0, .null, [])]
def b_B_winner : List xB := [(0, k_B_winner_0, 4), (9, k_B_winner_1, 4), (28, k_B_winner_2, 3), (36, k_B_winner_3, 4)]
def m_B_winner : xM := (yX3_winner, cX3_winner, 1, (some .int), 0, 0, false, b_B_winner)
abbrev N_B_winner : Nat := 62
abbrev k_B_play_0 : List xE := [(.iconst 4, 1, 0, 0, .int (nI 4), []), (.aload_n 0, 1, 0, 0, .null, []), (.getfield 9, 3, 1, 0, .ref 60, []), (.iconst 3, 1, 0, 0, .int (nI 3), []), (.iaload, 1, 0, 0, .null, []), (.iconst 1, 1, 0, 0, .int (nI 1), []), (.isub, 1, 0, 0, .null, []), (.imul, 1, 0, 0, .null, []), (.iconst 2, 1, 0, 0, .int (nI 2), []), (.aload_n 0, 1, 0, 0, .null, []), (.getfield 9, 3, 1, 0, .ref 60, []), (.iconst 4, 1, 0, 0, .int (nI 4), []), (.iaload, 1, 0, 0, .null, []), (.imul, 1, 0, 0, .null, []), (.iadd, 1, 0, 0, .null, []), (.aload_n 0, 1, 0, 0, .null, []), (.getfield 9, 3, 1, 0, .ref 60, []), (.iconst 5, 1, 0, 0, .int (nI 5), []), (.iaload, 1, 0, 0, .null, []), (.iadd, 1, 0, 0, .null, []), (.istore_n 1, 1, 0, 0, .null, []), (.aload_n 0, 1, 0, 0, .null, []), (.getfield 45, 3, 1, 8, .ref 68, []), (.iload_n 1, 1, 0, 0, .null, []), (.aaload, 1, 0, 0, .null, []), (.astore_n 2, 1, 0, 0, .null, []), (.aload_n 2, 1, 0, 0, .null, []), (.ifnonnull 47, 3, 3, 0, .null, []), (.new 43, 3, 0, 0, .null, []), (.dup, 1, 0, 0, .null, []), (.aload_n 0, 1, 0, 0, .null, []), (.getfield 40, 3, 1, 7, .ref 67, []), (.aload_n 0, 1, 0, 0, .null, []), (.getfield 9, 3, 1, 0, .ref 60, []), (.iconst 3, 1, 0, 0, .int (nI 3), []), (.iaload, 1, 0, 0, .null, []), (.aload_n 0, 1, 0, 0, .null, []), (.invokevirtual 247, 3, 48, 1, .ref 141, [1]), (.aload_n 0, 1, 0, 0, .null, []), (.getfield 9, 3, 1, 0, .ref 60, []), (.iconst 5, 1, 0, 0, .int (nI 5), []), (.iaload, 1, 0, 0, .null, []), (.iconst 1, 1, 0, 0, .int (nI 1), []), (.if_icmp .ne 7, 3, 1, 0, .null, []), (.iconst 1, 1, 0, 0, .int (nI 1), []), (.goto 4, 3, 2, 0, .null, [])]
abbrev k_B_play_1 : List xE := [(.iconst 0, 1, 0, 0, .int (nI 0), [])]
abbrev k_B_play_2 : List xE := [(.invokespecial 268, 3, 13, 5, .retAddr 2, [0, 3, 792, 1]), (.astore_n 2, 1, 0, 0, .null, []), (.aload_n 0, 1, 0, 0, .null, []), (.getfield 45, 3, 1, 8, .ref 68, []), (.iload_n 1, 1, 0, 0, .null, []), (.aload_n 2, 1, 0, 0, .null, []), (.aastore, 1, 0, 0, .null, [])]
abbrev k_B_play_3 : List xE := [(.aload_n 2, 1, 0, 0, .null, []), (.areturn, 1, 0, 0, .null, [])]
def b_B_play : List xB := [(0, k_B_play_0, 4), (70, k_B_play_1, 2), (71, k_B_play_2, 3), (82, k_B_play_3, 4)]
def m_B_play : xM := (yX3_play, cX3_play, 3, (some (.object "BottlePyramid$Play")), 4, 799, true, b_B_play)
abbrev N_B_play : Nat := 63
abbrev k_W_bits_0 : List xE := [(.iconst 0, 1, 0, 0, .int (nI 0), []), (.istore_n 1, 1, 0, 0, .null, []), (.iconst 0, 1, 0, 0, .int (nI 0), []), (.istore_n 2, 1, 0, 0, .null, [])]
abbrev k_W_bits_1 : List xE := [(.iload_n 2, 1, 0, 0, .null, []), (.bipush 15, 2, 0, 0, .int (nI 15), []), (.if_icmp .ge 17, 3, 2, 0, .null, []), (.iload_n 1, 1, 0, 0, .null, []), (.iload_n 0, 1, 0, 0, .null, []), (.iload_n 2, 1, 0, 0, .null, []), (.ishr, 1, 0, 0, .null, []), (.iconst 1, 1, 0, 0, .int (nI 1), []), (.iand, 1, 0, 0, .null, []), (.iadd, 1, 0, 0, .null, []), (.istore_n 1, 1, 0, 0, .null, []), (.iinc 2 1, 3, 0, 0, .int (nI 1), []), (.goto (-17), 3, 1, 0, .null, [])]
abbrev k_W_bits_2 : List xE := [(.iload_n 1, 1, 0, 0, .null, []), (.ireturn, 1, 0, 0, .null, [])]
def b_W_bits : List xB := [(0, k_W_bits_0, 1), (4, k_W_bits_1, 3), (24, k_W_bits_2, 3)]
def m_W_bits : xM := (yL_bits, cL_bits, 3, (some .int), 0, 0, false, b_W_bits)
abbrev N_W_bits : Nat := 64
abbrev k_W_first_0 : List xE := [(.iload_n 0, 1, 0, 0, .null, []), (.ifCond .ne 7, 3, 1, 0, .null, []), (.iconst 0, 1, 0, 0, .int (nI 0), []), (.goto 34, 3, 5, 0, .null, [])]
abbrev k_W_first_1 : List xE := [(.iload_n 0, 1, 0, 0, .null, []), (.iconst 1, 1, 0, 0, .int (nI 1), []), (.if_icmp .ne 7, 3, 2, 0, .null, []), (.iconst 5, 1, 0, 0, .int (nI 5), []), (.goto 25, 3, 5, 0, .null, [])]
abbrev k_W_first_2 : List xE := [(.iload_n 0, 1, 0, 0, .null, []), (.iconst 2, 1, 0, 0, .int (nI 2), []), (.if_icmp .ne 8, 3, 3, 0, .null, []), (.bipush 9, 2, 0, 0, .int (nI 9), []), (.goto 15, 3, 5, 0, .null, [])]
abbrev k_W_first_3 : List xE := [(.iload_n 0, 1, 0, 0, .null, []), (.iconst 3, 1, 0, 0, .int (nI 3), []), (.if_icmp .ne 8, 3, 4, 0, .null, []), (.bipush 12, 2, 0, 0, .int (nI 12), []), (.goto 5, 3, 5, 0, .null, [])]
abbrev k_W_first_4 : List xE := [(.bipush 14, 2, 0, 0, .int (nI 14), [])]
abbrev k_W_first_5 : List xE := [(.ireturn, 1, 0, 0, .null, [])]
def b_W_first : List xB := [(0, k_W_first_0, 6), (8, k_W_first_1, 6), (17, k_W_first_2, 6), (27, k_W_first_3, 6), (37, k_W_first_4, 5), (39, k_W_first_5, 6)]
def m_W_first : xM := (yL_first, cL_first, 1, (some .int), 0, 0, false, b_W_first)
abbrev N_W_first : Nat := 65
abbrev k_W_isPyramid_0 : List xE := [(.aload_n 0, 1, 0, 0, .null, []), (.iconst 0, 1, 0, 0, .int (nI 0), []), (.invokevirtual 60, 3, 34, 2, .ref 115, [1, 1, 6]), (.istore_n 1, 1, 0, 0, .null, []), (.iconst 0, 1, 0, 0, .int (nI 0), []), (.istore_n 2, 1, 0, 0, .null, []), (.iconst 0, 1, 0, 0, .int (nI 0), []), (.istore_n 3, 1, 0, 0, .null, []), (.iload_n 1, 1, 0, 0, .null, []), (.invokestatic 63, 3, 64, 1, .ref 433, [0]), (.aload_n 0, 1, 0, 0, .null, []), (.iconst 1, 1, 0, 0, .int (nI 1), []), (.invokevirtual 60, 3, 34, 2, .ref 115, [1, 1, 6]), (.if_icmp .ne 7, 3, 1, 0, .null, []), (.iconst 1, 1, 0, 0, .int (nI 1), []), (.goto 4, 3, 2, 0, .null, [])]
abbrev k_W_isPyramid_1 : List xE := [(.iconst 0, 1, 0, 0, .int (nI 0), [])]
abbrev k_W_isPyramid_2 : List xE := [(.istore 4, 2, 0, 0, .null, []), (.iconst 0, 1, 0, 0, .int (nI 0), []), (.istore 5, 2, 0, 0, .null, [])]
abbrev k_W_isPyramid_3 : List xE := [(.iload 5, 2, 0, 0, .null, []), (.iconst 5, 1, 0, 0, .int (nI 5), []), (.if_icmp .ge 220, 3, 19, 0, .null, []), (.iload 4, 2, 0, 0, .null, []), (.ifCond .eq 215, 3, 19, 0, .null, []), (.iconst 0, 1, 0, 0, .int (nI 0), []), (.istore 6, 2, 0, 0, .null, []), (.iconst (-1), 1, 0, 0, .int (-1), []), (.istore 7, 2, 0, 0, .null, []), (.iconst (-1), 1, 0, 0, .int (-1), []), (.istore 8, 2, 0, 0, .null, []), (.iconst 0, 1, 0, 0, .int (nI 0), []), (.istore 9, 2, 0, 0, .null, [])]
abbrev k_W_isPyramid_4 : List xE := [(.iload 9, 2, 0, 0, .null, []), (.iconst 5, 1, 0, 0, .int (nI 5), []), (.iload 5, 2, 0, 0, .null, []), (.isub, 1, 0, 0, .null, []), (.if_icmp .ge 120, 3, 16, 0, .null, []), (.iload 4, 2, 0, 0, .null, []), (.ifCond .eq 115, 3, 16, 0, .null, []), (.iload_n 1, 1, 0, 0, .null, []), (.iload 5, 2, 0, 0, .null, []), (.invokestatic 66, 3, 65, 1, .ref 436, [0]), (.iload 9, 2, 0, 0, .null, []), (.iadd, 1, 0, 0, .null, []), (.ishr, 1, 0, 0, .null, []), (.iconst 1, 1, 0, 0, .int (nI 1), []), (.iand, 1, 0, 0, .null, []), (.iconst 1, 1, 0, 0, .int (nI 1), []), (.if_icmp .ne 7, 3, 5, 0, .null, []), (.iconst 1, 1, 0, 0, .int (nI 1), []), (.goto 4, 3, 6, 0, .null, [])]
abbrev k_W_isPyramid_5 : List xE := [(.iconst 0, 1, 0, 0, .int (nI 0), [])]
abbrev k_W_isPyramid_6 : List xE := [(.istore 10, 2, 0, 0, .null, []), (.iload 6, 2, 0, 0, .null, []), (.iload 10, 2, 0, 0, .null, []), (.ifCond .eq 7, 3, 7, 0, .null, []), (.iconst 1, 1, 0, 0, .int (nI 1), []), (.goto 4, 3, 8, 0, .null, [])]
abbrev k_W_isPyramid_7 : List xE := [(.iconst 0, 1, 0, 0, .int (nI 0), [])]
abbrev k_W_isPyramid_8 : List xE := [(.iadd, 1, 0, 0, .null, []), (.istore 6, 2, 0, 0, .null, []), (.iload 10, 2, 0, 0, .null, []), (.ifCond .eq 13, 3, 9, 0, .null, []), (.iload 7, 2, 0, 0, .null, []), (.ifCond .ge 8, 3, 9, 0, .null, []), (.iload 9, 2, 0, 0, .null, []), (.goto 5, 3, 10, 0, .null, [])]
abbrev k_W_isPyramid_9 : List xE := [(.iload 7, 2, 0, 0, .null, [])]
abbrev k_W_isPyramid_10 : List xE := [(.istore 7, 2, 0, 0, .null, []), (.iload 10, 2, 0, 0, .null, []), (.ifCond .eq 8, 3, 11, 0, .null, []), (.iload 9, 2, 0, 0, .null, []), (.goto 5, 3, 12, 0, .null, [])]
abbrev k_W_isPyramid_11 : List xE := [(.iload 8, 2, 0, 0, .null, [])]
abbrev k_W_isPyramid_12 : List xE := [(.istore 8, 2, 0, 0, .null, []), (.iload 10, 2, 0, 0, .null, []), (.ifCond .eq 26, 3, 13, 0, .null, []), (.iload 5, 2, 0, 0, .null, []), (.ifCond .eq 21, 3, 13, 0, .null, []), (.iload_n 1, 1, 0, 0, .null, []), (.iload 5, 2, 0, 0, .null, []), (.iconst 1, 1, 0, 0, .int (nI 1), []), (.isub, 1, 0, 0, .null, []), (.invokestatic 66, 3, 65, 1, .ref 436, [0]), (.iload 9, 2, 0, 0, .null, []), (.iadd, 1, 0, 0, .null, []), (.ishr, 1, 0, 0, .null, []), (.iconst 3, 1, 0, 0, .int (nI 3), []), (.iand, 1, 0, 0, .null, []), (.iconst 3, 1, 0, 0, .int (nI 3), []), (.if_icmp .ne 7, 3, 14, 0, .null, [])]
abbrev k_W_isPyramid_13 : List xE := [(.iconst 1, 1, 0, 0, .int (nI 1), []), (.goto 4, 3, 15, 0, .null, [])]
abbrev k_W_isPyramid_14 : List xE := [(.iconst 0, 1, 0, 0, .int (nI 0), [])]
abbrev k_W_isPyramid_15 : List xE := [(.istore 4, 2, 0, 0, .null, []), (.iinc 9 1, 3, 0, 0, .int (nI 1), []), (.goto (-123), 3, 4, 0, .null, [])]
abbrev k_W_isPyramid_16 : List xE := [(.iload_n 2, 1, 0, 0, .null, []), (.aload_n 0, 1, 0, 0, .null, []), (.iload 5, 2, 0, 0, .null, []), (.iconst 4, 1, 0, 0, .int (nI 4), []), (.invokevirtual 69, 3, 33, 3, .ref 439, [1, 1, 6]), (.iadd, 1, 0, 0, .null, []), (.istore_n 2, 1, 0, 0, .null, []), (.iload_n 3, 1, 0, 0, .null, []), (.aload_n 0, 1, 0, 0, .null, []), (.iload 5, 2, 0, 0, .null, []), (.iconst 5, 1, 0, 0, .int (nI 5), []), (.invokevirtual 69, 3, 33, 3, .ref 439, [1, 1, 6]), (.iadd, 1, 0, 0, .null, []), (.istore_n 3, 1, 0, 0, .null, []), (.iload 4, 2, 0, 0, .null, []), (.ifCond .eq 43, 3, 17, 0, .null, []), (.aload_n 0, 1, 0, 0, .null, []), (.iload 5, 2, 0, 0, .null, []), (.iconst 0, 1, 0, 0, .int (nI 0), []), (.invokevirtual 69, 3, 33, 3, .ref 439, [1, 1, 6]), (.iload 6, 2, 0, 0, .null, []), (.if_icmp .ne 31, 3, 17, 0, .null, []), (.aload_n 0, 1, 0, 0, .null, []), (.iload 5, 2, 0, 0, .null, []), (.iconst 1, 1, 0, 0, .int (nI 1), []), (.invokevirtual 69, 3, 33, 3, .ref 439, [1, 1, 6]), (.iload 7, 2, 0, 0, .null, []), (.if_icmp .ne 19, 3, 17, 0, .null, []), (.aload_n 0, 1, 0, 0, .null, []), (.iload 5, 2, 0, 0, .null, []), (.iconst 2, 1, 0, 0, .int (nI 2), []), (.invokevirtual 69, 3, 33, 3, .ref 439, [1, 1, 6]), (.iload 8, 2, 0, 0, .null, []), (.if_icmp .ne 7, 3, 17, 0, .null, []), (.iconst 1, 1, 0, 0, .int (nI 1), []), (.goto 4, 3, 18, 0, .null, [])]
abbrev k_W_isPyramid_17 : List xE := [(.iconst 0, 1, 0, 0, .int (nI 0), [])]
abbrev k_W_isPyramid_18 : List xE := [(.istore 4, 2, 0, 0, .null, []), (.iinc 5 1, 3, 0, 0, .int (nI 1), []), (.goto (-220), 3, 3, 0, .null, [])]
abbrev k_W_isPyramid_19 : List xE := [(.iload 4, 2, 0, 0, .null, []), (.ifCond .eq 88, 3, 24, 0, .null, []), (.iload_n 2, 1, 0, 0, .null, []), (.aload_n 0, 1, 0, 0, .null, []), (.iconst 3, 1, 0, 0, .int (nI 3), []), (.invokevirtual 60, 3, 34, 2, .ref 115, [1, 1, 6]), (.aload_n 0, 1, 0, 0, .null, []), (.iconst 4, 1, 0, 0, .int (nI 4), []), (.invokevirtual 60, 3, 34, 2, .ref 115, [1, 1, 6]), (.iadd, 1, 0, 0, .null, []), (.if_icmp .ne 73, 3, 24, 0, .null, []), (.iload_n 3, 1, 0, 0, .null, []), (.aload_n 0, 1, 0, 0, .null, []), (.iconst 5, 1, 0, 0, .int (nI 5), []), (.invokevirtual 60, 3, 34, 2, .ref 115, [1, 1, 6]), (.if_icmp .ne 64, 3, 24, 0, .null, []), (.aload_n 0, 1, 0, 0, .null, []), (.bipush 6, 2, 0, 0, .int (nI 6), []), (.invokevirtual 60, 3, 34, 2, .ref 115, [1, 1, 6]), (.iload_n 2, 1, 0, 0, .null, []), (.if_icmp .gt 54, 3, 24, 0, .null, []), (.iload_n 2, 1, 0, 0, .null, []), (.iconst 3, 1, 0, 0, .int (nI 3), []), (.aload_n 0, 1, 0, 0, .null, []), (.bipush 6, 2, 0, 0, .int (nI 6), []), (.invokevirtual 60, 3, 34, 2, .ref 115, [1, 1, 6]), (.imul, 1, 0, 0, .null, []), (.if_icmp .gt 42, 3, 24, 0, .null, []), (.aload_n 0, 1, 0, 0, .null, []), (.invokevirtual 72, 3, 42, 1, .ref 282, [1]), (.dconst 0, 1, 0, 0, .double FP.dconst0, []), (.dcmp .l, 1, 0, 0, .null, []), (.ifCond .ne 7, 3, 20, 0, .null, []), (.iconst 1, 1, 0, 0, .int (nI 1), []), (.goto 4, 3, 21, 0, .null, [])]
abbrev k_W_isPyramid_20 : List xE := [(.iconst 0, 1, 0, 0, .int (nI 0), [])]
abbrev k_W_isPyramid_21 : List xE := [(.iload_n 3, 1, 0, 0, .null, []), (.ifCond .ne 7, 3, 22, 0, .null, []), (.iconst 1, 1, 0, 0, .int (nI 1), []), (.goto 4, 3, 23, 0, .null, [])]
abbrev k_W_isPyramid_22 : List xE := [(.iconst 0, 1, 0, 0, .int (nI 0), [])]
abbrev k_W_isPyramid_23 : List xE := [(.if_icmp .ne 16, 3, 24, 0, .null, []), (.aload_n 0, 1, 0, 0, .null, []), (.invokevirtual 72, 3, 42, 1, .ref 282, [1]), (.dconst 1, 1, 0, 0, .double FP.dconst1, []), (.dcmp .g, 1, 0, 0, .null, []), (.ifCond .gt 7, 3, 24, 0, .null, []), (.iconst 1, 1, 0, 0, .int (nI 1), []), (.goto 4, 3, 25, 0, .null, [])]
abbrev k_W_isPyramid_24 : List xE := [(.iconst 0, 1, 0, 0, .int (nI 0), [])]
abbrev k_W_isPyramid_25 : List xE := [(.ireturn, 1, 0, 0, .null, [])]
def b_W_isPyramid : List xB := [(0, k_W_isPyramid_0, 26), (26, k_W_isPyramid_1, 2), (27, k_W_isPyramid_2, 3), (32, k_W_isPyramid_3, 4), (55, k_W_isPyramid_4, 26), (89, k_W_isPyramid_5, 6), (90, k_W_isPyramid_6, 26), (103, k_W_isPyramid_7, 8), (104, k_W_isPyramid_8, 26), (122, k_W_isPyramid_9, 10), (124, k_W_isPyramid_10, 26), (136, k_W_isPyramid_11, 12), (138, k_W_isPyramid_12, 13), (168, k_W_isPyramid_13, 26), (172, k_W_isPyramid_14, 15), (173, k_W_isPyramid_15, 26), (181, k_W_isPyramid_16, 26), (246, k_W_isPyramid_17, 18), (247, k_W_isPyramid_18, 26), (255, k_W_isPyramid_19, 26), (319, k_W_isPyramid_20, 21), (320, k_W_isPyramid_21, 26), (328, k_W_isPyramid_22, 23), (329, k_W_isPyramid_23, 26), (345, k_W_isPyramid_24, 25), (346, k_W_isPyramid_25, 26)]
def m_W_isPyramid : xM := (yL_isPyramid, cL_isPyramid, 11, (some .boolean), 100, 600, false, b_W_isPyramid)
abbrev N_W_isPyramid : Nat := 66
abbrev k_W_isPlay_0 : List xE := [(.iconst 0, 1, 0, 0, .int (nI 0), []), (.istore_n 1, 1, 0, 0, .null, []), (.iconst 1, 1, 0, 0, .int (nI 1), []), (.istore_n 2, 1, 0, 0, .null, []), (.iconst 0, 1, 0, 0, .int (nI 0), []), (.istore_n 3, 1, 0, 0, .null, [])]
abbrev k_W_isPlay_1 : List xE := [(.iload_n 3, 1, 0, 0, .null, []), (.iconst 5, 1, 0, 0, .int (nI 5), []), (.if_icmp .ge 183, 3, 20, 0, .null, []), (.iload_n 2, 1, 0, 0, .null, []), (.ifCond .eq 179, 3, 20, 0, .null, []), (.iconst 0, 1, 0, 0, .int (nI 0), []), (.istore 4, 2, 0, 0, .null, []), (.iconst 1, 1, 0, 0, .int (nI 1), []), (.istore 5, 2, 0, 0, .null, [])]
abbrev k_W_isPlay_2 : List xE := [(.iload 5, 2, 0, 0, .null, []), (.iconst 5, 1, 0, 0, .int (nI 5), []), (.if_icmp .gt 140, 3, 17, 0, .null, []), (.iload_n 2, 1, 0, 0, .null, []), (.ifCond .eq 136, 3, 17, 0, .null, []), (.aload_n 0, 1, 0, 0, .null, []), (.iload_n 3, 1, 0, 0, .null, []), (.iload 5, 2, 0, 0, .null, []), (.invokevirtual 76, 3, 36, 3, .ref 459, [1, 1, 6]), (.istore 6, 2, 0, 0, .null, []), (.aload_n 0, 1, 0, 0, .null, []), (.iload_n 3, 1, 0, 0, .null, []), (.iload 5, 2, 0, 0, .null, []), (.invokevirtual 79, 3, 37, 3, .ref 463, [1, 1, 6]), (.istore 7, 2, 0, 0, .null, []), (.iload_n 1, 1, 0, 0, .null, []), (.iload 6, 2, 0, 0, .null, []), (.ifCond .ne 7, 3, 3, 0, .null, []), (.iconst 1, 1, 0, 0, .int (nI 1), []), (.goto 4, 3, 4, 0, .null, [])]
abbrev k_W_isPlay_3 : List xE := [(.iconst 0, 1, 0, 0, .int (nI 0), [])]
abbrev k_W_isPlay_4 : List xE := [(.iadd, 1, 0, 0, .null, []), (.istore_n 1, 1, 0, 0, .null, []), (.iload 6, 2, 0, 0, .null, []), (.ifCond .ne 8, 3, 5, 0, .null, []), (.iload 5, 2, 0, 0, .null, []), (.goto 5, 3, 6, 0, .null, [])]
abbrev k_W_isPlay_5 : List xE := [(.iload 4, 2, 0, 0, .null, [])]
abbrev k_W_isPlay_6 : List xE := [(.istore 4, 2, 0, 0, .null, []), (.iload 7, 2, 0, 0, .null, []), (.ifCond .ge 7, 3, 7, 0, .null, []), (.iconst 1, 1, 0, 0, .int (nI 1), []), (.goto 4, 3, 8, 0, .null, [])]
abbrev k_W_isPlay_7 : List xE := [(.iconst 0, 1, 0, 0, .int (nI 0), [])]
abbrev k_W_isPlay_8 : List xE := [(.iload 5, 2, 0, 0, .null, []), (.aload_n 0, 1, 0, 0, .null, []), (.iload_n 3, 1, 0, 0, .null, []), (.iconst 0, 1, 0, 0, .int (nI 0), []), (.invokevirtual 69, 3, 33, 3, .ref 439, [1, 1, 6]), (.if_icmp .le 7, 3, 9, 0, .null, []), (.iconst 1, 1, 0, 0, .int (nI 1), []), (.goto 4, 3, 10, 0, .null, [])]
abbrev k_W_isPlay_9 : List xE := [(.iconst 0, 1, 0, 0, .int (nI 0), [])]
abbrev k_W_isPlay_10 : List xE := [(.if_icmp .ne 54, 3, 15, 0, .null, []), (.iload 6, 2, 0, 0, .null, []), (.iload 5, 2, 0, 0, .null, []), (.aload_n 0, 1, 0, 0, .null, []), (.iconst 0, 1, 0, 0, .int (nI 0), []), (.invokevirtual 82, 3, 35, 2, .ref 467, [1, 1, 6]), (.if_icmp .le 7, 3, 11, 0, .null, []), (.iconst 1, 1, 0, 0, .int (nI 1), []), (.goto 31, 3, 14, 0, .null, [])]
abbrev k_W_isPlay_11 : List xE := [(.iload 7, 2, 0, 0, .null, []), (.ifCond .ge 7, 3, 12, 0, .null, []), (.iconst 2, 1, 0, 0, .int (nI 2), []), (.goto 22, 3, 14, 0, .null, [])]
abbrev k_W_isPlay_12 : List xE := [(.aload_n 0, 1, 0, 0, .null, []), (.iconst 1, 1, 0, 0, .int (nI 1), []), (.invokevirtual 82, 3, 35, 2, .ref 467, [1, 1, 6]), (.iconst 1, 1, 0, 0, .int (nI 1), []), (.if_icmp .ne 12, 3, 13, 0, .null, []), (.iload 7, 2, 0, 0, .null, []), (.ifCond .le 7, 3, 13, 0, .null, []), (.iconst 3, 1, 0, 0, .int (nI 3), []), (.goto 4, 3, 14, 0, .null, [])]
abbrev k_W_isPlay_13 : List xE := [(.iconst 0, 1, 0, 0, .int (nI 0), [])]
abbrev k_W_isPlay_14 : List xE := [(.if_icmp .ne 7, 3, 15, 0, .null, []), (.iconst 1, 1, 0, 0, .int (nI 1), []), (.goto 4, 3, 16, 0, .null, [])]
abbrev k_W_isPlay_15 : List xE := [(.iconst 0, 1, 0, 0, .int (nI 0), [])]
abbrev k_W_isPlay_16 : List xE := [(.istore_n 2, 1, 0, 0, .null, []), (.iinc 5 1, 3, 0, 0, .int (nI 1), []), (.goto (-140), 3, 2, 0, .null, [])]
abbrev k_W_isPlay_17 : List xE := [(.iload_n 2, 1, 0, 0, .null, []), (.ifCond .eq 18, 3, 18, 0, .null, []), (.aload_n 0, 1, 0, 0, .null, []), (.iload_n 3, 1, 0, 0, .null, []), (.iconst 3, 1, 0, 0, .int (nI 3), []), (.invokevirtual 69, 3, 33, 3, .ref 439, [1, 1, 6]), (.iload 4, 2, 0, 0, .null, []), (.if_icmp .ne 7, 3, 18, 0, .null, []), (.iconst 1, 1, 0, 0, .int (nI 1), []), (.goto 4, 3, 19, 0, .null, [])]
abbrev k_W_isPlay_18 : List xE := [(.iconst 0, 1, 0, 0, .int (nI 0), [])]
abbrev k_W_isPlay_19 : List xE := [(.istore_n 2, 1, 0, 0, .null, []), (.iinc 3 1, 3, 0, 0, .int (nI 1), []), (.goto (-182), 3, 1, 0, .null, [])]
abbrev k_W_isPlay_20 : List xE := [(.aload_n 0, 1, 0, 0, .null, []), (.iconst 2, 1, 0, 0, .int (nI 2), []), (.invokevirtual 60, 3, 34, 2, .ref 115, [1, 1, 6]), (.istore_n 3, 1, 0, 0, .null, []), (.aload_n 0, 1, 0, 0, .null, []), (.invokevirtual 85, 3, 39, 1, .ref 471, [1, 4, 799, 1]), (.istore 4, 2, 0, 0, .null, []), (.iload_n 1, 1, 0, 0, .null, []), (.ifCond .ne 7, 3, 21, 0, .null, []), (.iconst 1, 1, 0, 0, .int (nI 1), []), (.goto 4, 3, 22, 0, .null, [])]
abbrev k_W_isPlay_21 : List xE := [(.iconst 0, 1, 0, 0, .int (nI 0), [])]
abbrev k_W_isPlay_22 : List xE := [(.istore 5, 2, 0, 0, .null, []), (.iload_n 2, 1, 0, 0, .null, []), (.ifCond .eq 98, 3, 29, 0, .null, []), (.iload_n 1, 1, 0, 0, .null, []), (.aload_n 0, 1, 0, 0, .null, []), (.bipush 7, 2, 0, 0, .int (nI 7), []), (.invokevirtual 60, 3, 34, 2, .ref 115, [1, 1, 6]), (.if_icmp .ne 88, 3, 29, 0, .null, []), (.aload_n 0, 1, 0, 0, .null, []), (.bipush 8, 2, 0, 0, .int (nI 8), []), (.invokevirtual 60, 3, 34, 2, .ref 115, [1, 1, 6]), (.ifCond .lt 7, 3, 23, 0, .null, []), (.iconst 1, 1, 0, 0, .int (nI 1), []), (.goto 4, 3, 24, 0, .null, [])]
abbrev k_W_isPlay_23 : List xE := [(.iconst 0, 1, 0, 0, .int (nI 0), [])]
abbrev k_W_isPlay_24 : List xE := [(.iload 5, 2, 0, 0, .null, []), (.if_icmp .ne 69, 3, 29, 0, .null, []), (.aload_n 0, 1, 0, 0, .null, []), (.iconst 0, 1, 0, 0, .int (nI 0), []), (.invokevirtual 88, 3, 40, 2, .ref 483, [1, 4, 799, 1]), (.ifCond .ne 7, 3, 25, 0, .null, []), (.iconst 1, 1, 0, 0, .int (nI 1), []), (.goto 4, 3, 26, 0, .null, [])]
abbrev k_W_isPlay_25 : List xE := [(.iconst 0, 1, 0, 0, .int (nI 0), [])]
abbrev k_W_isPlay_26 : List xE := [(.iload 5, 2, 0, 0, .null, []), (.if_icmp .ne 51, 3, 29, 0, .null, []), (.aload_n 0, 1, 0, 0, .null, []), (.iconst 1, 1, 0, 0, .int (nI 1), []), (.invokevirtual 88, 3, 40, 2, .ref 483, [1, 4, 799, 1]), (.ifCond .ne 7, 3, 27, 0, .null, []), (.iconst 1, 1, 0, 0, .int (nI 1), []), (.goto 4, 3, 28, 0, .null, [])]
abbrev k_W_isPlay_27 : List xE := [(.iconst 0, 1, 0, 0, .int (nI 0), [])]
abbrev k_W_isPlay_28 : List xE := [(.iload 5, 2, 0, 0, .null, []), (.if_icmp .ne 33, 3, 29, 0, .null, []), (.aload_n 0, 1, 0, 0, .null, []), (.iconst 1, 1, 0, 0, .int (nI 1), []), (.invokevirtual 88, 3, 40, 2, .ref 483, [1, 4, 799, 1]), (.aload_n 0, 1, 0, 0, .null, []), (.iconst 0, 1, 0, 0, .int (nI 0), []), (.invokevirtual 88, 3, 40, 2, .ref 483, [1, 4, 799, 1]), (.if_icmp .gt 20, 3, 29, 0, .null, []), (.aload_n 0, 1, 0, 0, .null, []), (.iconst 0, 1, 0, 0, .int (nI 0), []), (.invokevirtual 88, 3, 40, 2, .ref 483, [1, 4, 799, 1]), (.aload_n 0, 1, 0, 0, .null, []), (.iconst 1, 1, 0, 0, .int (nI 1), []), (.invokevirtual 60, 3, 34, 2, .ref 115, [1, 1, 6]), (.if_icmp .gt 7, 3, 29, 0, .null, []), (.iconst 1, 1, 0, 0, .int (nI 1), []), (.goto 4, 3, 30, 0, .null, [])]
abbrev k_W_isPlay_29 : List xE := [(.iconst 0, 1, 0, 0, .int (nI 0), [])]
abbrev k_W_isPlay_30 : List xE := [(.istore_n 2, 1, 0, 0, .null, []), (.iload_n 2, 1, 0, 0, .null, []), (.ifCond .eq 99, 3, 37, 0, .null, []), (.iload 5, 2, 0, 0, .null, []), (.ifCond .eq 50, 3, 33, 0, .null, []), (.iload 4, 2, 0, 0, .null, []), (.iconst (-1), 1, 0, 0, .int (-1), []), (.if_icmp .ne 88, 3, 37, 0, .null, []), (.aload_n 0, 1, 0, 0, .null, []), (.iload_n 3, 1, 0, 0, .null, []), (.invokevirtual 91, 3, 38, 2, .ref 496, [1, 4, 799, 1]), (.aload_n 0, 1, 0, 0, .null, []), (.iconst 2, 1, 0, 0, .int (nI 2), []), (.invokevirtual 82, 3, 35, 2, .ref 467, [1, 1, 6]), (.if_icmp .ne 75, 3, 37, 0, .null, []), (.aload_n 0, 1, 0, 0, .null, []), (.bipush 8, 2, 0, 0, .int (nI 8), []), (.invokevirtual 60, 3, 34, 2, .ref 115, [1, 1, 6]), (.aload_n 0, 1, 0, 0, .null, []), (.iconst 2, 1, 0, 0, .int (nI 2), []), (.invokevirtual 82, 3, 35, 2, .ref 467, [1, 1, 6]), (.iconst 1, 1, 0, 0, .int (nI 1), []), (.if_icmp .ne 7, 3, 31, 0, .null, []), (.iload_n 3, 1, 0, 0, .null, []), (.goto 6, 3, 32, 0, .null, [])]
abbrev k_W_isPlay_31 : List xE := [(.iconst 1, 1, 0, 0, .int (nI 1), []), (.iload_n 3, 1, 0, 0, .null, []), (.isub, 1, 0, 0, .null, [])]
abbrev k_W_isPlay_32 : List xE := [(.if_icmp .ne 50, 3, 37, 0, .null, []), (.goto 43, 3, 36, 0, .null, [])]
abbrev k_W_isPlay_33 : List xE := [(.aload_n 0, 1, 0, 0, .null, []), (.iload_n 3, 1, 0, 0, .null, []), (.invokevirtual 91, 3, 38, 2, .ref 496, [1, 4, 799, 1]), (.iload 4, 2, 0, 0, .null, []), (.ifCond .lt 7, 3, 34, 0, .null, []), (.iconst 1, 1, 0, 0, .int (nI 1), []), (.goto 4, 3, 35, 0, .null, [])]
abbrev k_W_isPlay_34 : List xE := [(.iconst 0, 1, 0, 0, .int (nI 0), [])]
abbrev k_W_isPlay_35 : List xE := [(.if_icmp .ne 29, 3, 37, 0, .null, []), (.iload 4, 2, 0, 0, .null, []), (.ifCond .lt 20, 3, 36, 0, .null, []), (.aload_n 0, 1, 0, 0, .null, []), (.iload 4, 2, 0, 0, .null, []), (.bipush 10, 2, 0, 0, .int (nI 10), []), (.idiv, 1, 0, 0, .null, []), (.iload 4, 2, 0, 0, .null, []), (.bipush 10, 2, 0, 0, .int (nI 10), []), (.irem, 1, 0, 0, .null, []), (.invokevirtual 76, 3, 36, 3, .ref 459, [1, 1, 6]), (.ifCond .ne 7, 3, 37, 0, .null, [])]
abbrev k_W_isPlay_36 : List xE := [(.iconst 1, 1, 0, 0, .int (nI 1), []), (.goto 4, 3, 38, 0, .null, [])]
abbrev k_W_isPlay_37 : List xE := [(.iconst 0, 1, 0, 0, .int (nI 0), [])]
abbrev k_W_isPlay_38 : List xE := [(.ireturn, 1, 0, 0, .null, [])]
def b_W_isPlay : List xB := [(0, k_W_isPlay_0, 1), (6, k_W_isPlay_1, 2), (21, k_W_isPlay_2, 39), (59, k_W_isPlay_3, 4), (60, k_W_isPlay_4, 39), (72, k_W_isPlay_5, 6), (74, k_W_isPlay_6, 39), (85, k_W_isPlay_7, 8), (86, k_W_isPlay_8, 39), (101, k_W_isPlay_9, 10), (102, k_W_isPlay_10, 39), (121, k_W_isPlay_11, 39), (130, k_W_isPlay_12, 39), (148, k_W_isPlay_13, 14), (149, k_W_isPlay_14, 39), (156, k_W_isPlay_15, 16), (157, k_W_isPlay_16, 39), (164, k_W_isPlay_17, 39), (183, k_W_isPlay_18, 19), (184, k_W_isPlay_19, 39), (191, k_W_isPlay_20, 39), (211, k_W_isPlay_21, 22), (212, k_W_isPlay_22, 39), (241, k_W_isPlay_23, 24), (242, k_W_isPlay_24, 39), (259, k_W_isPlay_25, 26), (260, k_W_isPlay_26, 39), (277, k_W_isPlay_27, 28), (278, k_W_isPlay_28, 39), (313, k_W_isPlay_29, 30), (314, k_W_isPlay_30, 39), (362, k_W_isPlay_31, 32), (365, k_W_isPlay_32, 39), (371, k_W_isPlay_33, 39), (385, k_W_isPlay_34, 35), (386, k_W_isPlay_35, 36), (411, k_W_isPlay_36, 39), (415, k_W_isPlay_37, 38), (416, k_W_isPlay_38, 39)]
def m_W_isPlay : xM := (yL_isPlay, cL_isPlay, 8, (some .boolean), 300, 9000, true, b_W_isPlay)
abbrev N_W_isPlay : Nat := 67
def xT : List xM := [m_J_bitCount, m_J_max, m_J_min, m_P_bit, m_P_bitsOf, m_P_hasBottle, m_P_hasRoom, m_P_settled, m_P_mirrored, m_P_robbed, m_P_fallenBy, m_P_allShapes, m_P_addShapes, m_L_init, m_L_playOut, m_L_slotBehind, m_L_slotOf, m_L_isWonBy, m_L_longestGame, m_L_shortestGame, m_L_shapesWonBy, m_L_shapesOver, m_B_init, m_B_take, m_B_turn, m_B_knock, m_B_put, m_B_mirror, m_B_refill, m_B_set, m_B_keep, m_B_goBack, m_B_undo, m_B_row, m_B_count, m_B_setting, m_B_why, m_B_falls, m_B_wins, m_B_best, m_B_length, m_B_pyramids, m_B_brokenShare, m_B_wonShare, m_B_isRow, m_B_isPlace, m_B_isSetting, m_B_save, m_B_isBarring, m_B_reasonAgainst, m_B_maskBehind, m_B_steal, m_B_knockOut, m_B_letFall, m_B_addBottle, m_B_swapSides, m_B_fillUp, m_B_lowestPlace, m_B_highestPlace, m_B_greatestTheft, m_B_brokenInAll, m_B_possibleThefts, m_B_winner, m_B_play, m_W_bits, m_W_first, m_W_isPyramid, m_W_isPlay]
theorem t_J_bitCount : xT[0]? = some m_J_bitCount := rfl
theorem t_J_max : xT[1]? = some m_J_max := rfl
theorem t_J_min : xT[2]? = some m_J_min := rfl
theorem t_P_bit : xT[3]? = some m_P_bit := rfl
theorem t_P_bitsOf : xT[4]? = some m_P_bitsOf := rfl
theorem t_P_hasBottle : xT[5]? = some m_P_hasBottle := rfl
theorem t_P_hasRoom : xT[6]? = some m_P_hasRoom := rfl
theorem t_P_settled : xT[7]? = some m_P_settled := rfl
theorem t_P_mirrored : xT[8]? = some m_P_mirrored := rfl
theorem t_P_robbed : xT[9]? = some m_P_robbed := rfl
theorem t_P_fallenBy : xT[10]? = some m_P_fallenBy := rfl
theorem t_P_allShapes : xT[11]? = some m_P_allShapes := rfl
theorem t_P_addShapes : xT[12]? = some m_P_addShapes := rfl
theorem t_L_init : xT[13]? = some m_L_init := rfl
theorem t_L_playOut : xT[14]? = some m_L_playOut := rfl
theorem t_L_slotBehind : xT[15]? = some m_L_slotBehind := rfl
theorem t_L_slotOf : xT[16]? = some m_L_slotOf := rfl
theorem t_L_isWonBy : xT[17]? = some m_L_isWonBy := rfl
theorem t_L_longestGame : xT[18]? = some m_L_longestGame := rfl
theorem t_L_shortestGame : xT[19]? = some m_L_shortestGame := rfl
theorem t_L_shapesWonBy : xT[20]? = some m_L_shapesWonBy := rfl
theorem t_L_shapesOver : xT[21]? = some m_L_shapesOver := rfl
theorem t_B_init : xT[22]? = some m_B_init := rfl
theorem t_B_take : xT[23]? = some m_B_take := rfl
theorem t_B_turn : xT[24]? = some m_B_turn := rfl
theorem t_B_knock : xT[25]? = some m_B_knock := rfl
theorem t_B_put : xT[26]? = some m_B_put := rfl
theorem t_B_mirror : xT[27]? = some m_B_mirror := rfl
theorem t_B_refill : xT[28]? = some m_B_refill := rfl
theorem t_B_set : xT[29]? = some m_B_set := rfl
theorem t_B_keep : xT[30]? = some m_B_keep := rfl
theorem t_B_goBack : xT[31]? = some m_B_goBack := rfl
theorem t_B_undo : xT[32]? = some m_B_undo := rfl
theorem t_B_row : xT[33]? = some m_B_row := rfl
theorem t_B_count : xT[34]? = some m_B_count := rfl
theorem t_B_setting : xT[35]? = some m_B_setting := rfl
theorem t_B_why : xT[36]? = some m_B_why := rfl
theorem t_B_falls : xT[37]? = some m_B_falls := rfl
theorem t_B_wins : xT[38]? = some m_B_wins := rfl
theorem t_B_best : xT[39]? = some m_B_best := rfl
theorem t_B_length : xT[40]? = some m_B_length := rfl
theorem t_B_pyramids : xT[41]? = some m_B_pyramids := rfl
theorem t_B_brokenShare : xT[42]? = some m_B_brokenShare := rfl
theorem t_B_wonShare : xT[43]? = some m_B_wonShare := rfl
theorem t_B_isRow : xT[44]? = some m_B_isRow := rfl
theorem t_B_isPlace : xT[45]? = some m_B_isPlace := rfl
theorem t_B_isSetting : xT[46]? = some m_B_isSetting := rfl
theorem t_B_save : xT[47]? = some m_B_save := rfl
theorem t_B_isBarring : xT[48]? = some m_B_isBarring := rfl
theorem t_B_reasonAgainst : xT[49]? = some m_B_reasonAgainst := rfl
theorem t_B_maskBehind : xT[50]? = some m_B_maskBehind := rfl
theorem t_B_steal : xT[51]? = some m_B_steal := rfl
theorem t_B_knockOut : xT[52]? = some m_B_knockOut := rfl
theorem t_B_letFall : xT[53]? = some m_B_letFall := rfl
theorem t_B_addBottle : xT[54]? = some m_B_addBottle := rfl
theorem t_B_swapSides : xT[55]? = some m_B_swapSides := rfl
theorem t_B_fillUp : xT[56]? = some m_B_fillUp := rfl
theorem t_B_lowestPlace : xT[57]? = some m_B_lowestPlace := rfl
theorem t_B_highestPlace : xT[58]? = some m_B_highestPlace := rfl
theorem t_B_greatestTheft : xT[59]? = some m_B_greatestTheft := rfl
theorem t_B_brokenInAll : xT[60]? = some m_B_brokenInAll := rfl
theorem t_B_possibleThefts : xT[61]? = some m_B_possibleThefts := rfl
theorem t_B_winner : xT[62]? = some m_B_winner := rfl
theorem t_B_play : xT[63]? = some m_B_play := rfl
theorem t_W_bits : xT[64]? = some m_W_bits := rfl
theorem t_W_first : xT[65]? = some m_W_first := rfl
theorem t_W_isPyramid : xT[66]? = some m_W_isPyramid := rfl
theorem t_W_isPlay : xT[67]? = some m_W_isPlay := rfl
def xKT : List (Nat × Nat) := [(0, 1), (0, 2), (0, 2), (0, 2), (0, 2), (0, 3), (0, 3), (0, 1), (0, 1), (0, 4), (0, 4), (0, 0), (0, 4), (2, 4), (1, 2), (1, 4), (1, 2), (1, 2), (1, 2), (1, 2), (1, 1), (1, 0), (2, 0), (1, 2), (1, 1), (1, 2), (1, 2), (1, 0), (1, 0), (1, 2), (1, 0), (1, 0), (1, 0), (1, 2), (1, 1), (1, 1), (1, 2), (1, 2), (1, 1), (1, 0), (1, 1), (1, 1), (1, 0), (1, 0), (0, 1), (0, 2), (0, 1), (1, 0), (1, 0), (1, 2), (1, 2), (1, 2), (1, 2), (1, 1), (1, 2), (1, 0), (1, 0), (1, 1), (1, 1), (1, 1), (1, 0), (1, 0), (1, 0), (1, 0), (0, 1), (0, 1), (0, 1), (0, 1)]
def xHT : List (Nat × Nat × Nat × Nat) := [(107, 29, 106, 0), (246, 38, 245, 0), (249, 38, 248, 0), (371, 28, 370, 0), (55, 28, 54, 0), (368, 28, 367, 0), (387, 28, 386, 0), (140, 28, 139, 0), (513, 28, 512, 0), (136, 28, 135, 0), (133, 28, 132, 0), (49, 28, 48, 0), (52, 28, 51, 0), (228, 37, 227, 0), (233, 37, 232, 9), (237, 37, 236, 10), (243, 37, 242, 11), (482, 37, 481, 22), (491, 37, 490, 23), (495, 37, 494, 24), (276, 37, 275, 12), (280, 37, 279, 13), (43, 27, 42, 0), (307, 27, 305, 306), (412, 27, 410, 411), (361, 27, 359, 360), (384, 27, 382, 383), (506, 27, 504, 505), (93, 27, 91, 92), (400, 27, 398, 399), (114, 27, 112, 113), (420, 27, 418, 419), (428, 27, 426, 427), (442, 27, 440, 441), (118, 27, 116, 117), (470, 27, 468, 469), (462, 27, 460, 461), (466, 27, 464, 465), (499, 27, 497, 498), (474, 27, 472, 473), (486, 27, 484, 485), (220, 27, 218, 219), (285, 27, 283, 284), (289, 27, 287, 288), (310, 27, 309, 0), (364, 27, 363, 0), (403, 27, 402, 0), (97, 27, 96, 0), (144, 27, 143, 5), (130, 27, 129, 4), (478, 27, 477, 21), (347, 27, 346, 14), (376, 27, 375, 16), (352, 27, 351, 15), (393, 27, 392, 17), (510, 27, 509, 25), (104, 27, 103, 1), (446, 27, 445, 18), (450, 27, 449, 19), (454, 27, 453, 20), (122, 27, 121, 2), (126, 27, 125, 3), (148, 27, 147, 6), (224, 27, 223, 8), (435, 26, 434, 0), (438, 26, 437, 0), (432, 26, 431, 0), (458, 26, 457, 0)]
