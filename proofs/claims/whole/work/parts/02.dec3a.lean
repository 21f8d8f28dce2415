theorem dX12_init_0 : decode cX12_init 0 = .ok (.aload_n 0, 1) := by decide +kernel
theorem dX12_init_1 : decode cX12_init 1 = .ok (.invokespecial 3, 3) := by decide +kernel
theorem dX12_init_4 : decode cX12_init 4 = .ok (.aload_n 0, 1) := by decide +kernel
theorem dX12_init_5 : decode cX12_init 5 = .ok (.bipush 33, 2) := by decide +kernel
theorem dX12_init_7 : decode cX12_init 7 = .ok (.newarray .int, 2) := by decide +kernel
theorem dX12_init_9 : decode cX12_init 9 = .ok (.putfield 9, 3) := by decide +kernel
theorem dX12_init_12 : decode cX12_init 12 = .ok (.aload_n 0, 1) := by decide +kernel
theorem dX12_init_13 : decode cX12_init 13 = .ok (.bipush 80, 2) := by decide +kernel
theorem dX12_init_15 : decode cX12_init 15 = .ok (.newarray .byte, 2) := by decide +kernel
theorem dX12_init_17 : decode cX12_init 17 = .ok (.putfield 13, 3) := by decide +kernel
theorem dX12_init_20 : decode cX12_init 20 = .ok (.aload_n 0, 1) := by decide +kernel
theorem dX12_init_21 : decode cX12_init 21 = .ok (.bipush 40, 2) := by decide +kernel
theorem dX12_init_23 : decode cX12_init 23 = .ok (.newarray .long, 2) := by decide +kernel
theorem dX12_init_25 : decode cX12_init 25 = .ok (.putfield 17, 3) := by decide +kernel
theorem dX12_init_28 : decode cX12_init 28 = .ok (.aload_n 0, 1) := by decide +kernel
theorem dX12_init_29 : decode cX12_init 29 = .ok (.bipush 16, 2) := by decide +kernel
theorem dX12_init_31 : decode cX12_init 31 = .ok (.newarray .int, 2) := by decide +kernel
theorem dX12_init_33 : decode cX12_init 33 = .ok (.putfield 21, 3) := by decide +kernel
theorem dX12_init_36 : decode cX12_init 36 = .ok (.aload_n 0, 1) := by decide +kernel
theorem dX12_init_37 : decode cX12_init 37 = .ok (.bipush 16, 2) := by decide +kernel
theorem dX12_init_39 : decode cX12_init 39 = .ok (.newarray .int, 2) := by decide +kernel
theorem dX12_init_41 : decode cX12_init 41 = .ok (.putfield 24, 3) := by decide +kernel
theorem dX12_init_44 : decode cX12_init 44 = .ok (.aload_n 0, 1) := by decide +kernel
theorem dX12_init_45 : decode cX12_init 45 = .ok (.bipush 16, 2) := by decide +kernel
theorem dX12_init_47 : decode cX12_init 47 = .ok (.newarray .int, 2) := by decide +kernel
theorem dX12_init_49 : decode cX12_init 49 = .ok (.putfield 27, 3) := by decide +kernel
theorem dX12_init_52 : decode cX12_init 52 = .ok (.aload_n 0, 1) := by decide +kernel
theorem dX12_init_53 : decode cX12_init 53 = .ok (.sipush 640, 3) := by decide +kernel
theorem dX12_init_56 : decode cX12_init 56 = .ok (.newarray .int, 2) := by decide +kernel
theorem dX12_init_58 : decode cX12_init 58 = .ok (.putfield 30, 3) := by decide +kernel
theorem dX12_init_61 : decode cX12_init 61 = .ok (.aload_n 0, 1) := by decide +kernel
theorem dX12_init_62 : decode cX12_init 62 = .ok (.bipush 16, 2) := by decide +kernel
theorem dX12_init_64 : decode cX12_init 64 = .ok (.newarray .int, 2) := by decide +kernel
theorem dX12_init_66 : decode cX12_init 66 = .ok (.putfield 33, 3) := by decide +kernel
theorem dX12_init_69 : decode cX12_init 69 = .ok (.aload_n 0, 1) := by decide +kernel
theorem dX12_init_70 : decode cX12_init 70 = .ok (.bipush 16, 2) := by decide +kernel
theorem dX12_init_72 : decode cX12_init 72 = .ok (.newarray .int, 2) := by decide +kernel
theorem dX12_init_74 : decode cX12_init 74 = .ok (.putfield 36, 3) := by decide +kernel
theorem dX12_init_77 : decode cX12_init 77 = .ok (.aload_n 0, 1) := by decide +kernel
theorem dX12_init_78 : decode cX12_init 78 = .ok (.bipush 33, 2) := by decide +kernel
theorem dX12_init_80 : decode cX12_init 80 = .ok (.newarray .int, 2) := by decide +kernel
theorem dX12_init_82 : decode cX12_init 82 = .ok (.putfield 39, 3) := by decide +kernel
theorem dX12_init_85 : decode cX12_init 85 = .ok (.aload_n 0, 1) := by decide +kernel
theorem dX12_init_86 : decode cX12_init 86 = .ok (.bipush 16, 2) := by decide +kernel
theorem dX12_init_88 : decode cX12_init 88 = .ok (.newarray .int, 2) := by decide +kernel
theorem dX12_init_90 : decode cX12_init 90 = .ok (.putfield 42, 3) := by decide +kernel
theorem dX12_init_93 : decode cX12_init 93 = .ok (.aload_n 0, 1) := by decide +kernel
theorem dX12_init_94 : decode cX12_init 94 = .ok (.bipush 24, 2) := by decide +kernel
theorem dX12_init_96 : decode cX12_init 96 = .ok (.newarray .int, 2) := by decide +kernel
theorem dX12_init_98 : decode cX12_init 98 = .ok (.putfield 45, 3) := by decide +kernel
theorem dX12_init_101 : decode cX12_init 101 = .ok (.aload_n 0, 1) := by decide +kernel
theorem dX12_init_102 : decode cX12_init 102 = .ok (.sipush 240, 3) := by decide +kernel
theorem dX12_init_105 : decode cX12_init 105 = .ok (.newarray .int, 2) := by decide +kernel
theorem dX12_init_107 : decode cX12_init 107 = .ok (.putfield 48, 3) := by decide +kernel
theorem dX12_init_110 : decode cX12_init 110 = .ok (.aload_n 0, 1) := by decide +kernel
theorem dX12_init_111 : decode cX12_init 111 = .ok (.bipush 33, 2) := by decide +kernel
theorem dX12_init_113 : decode cX12_init 113 = .ok (.newarray .int, 2) := by decide +kernel
theorem dX12_init_115 : decode cX12_init 115 = .ok (.putfield 51, 3) := by decide +kernel
theorem dX12_init_118 : decode cX12_init 118 = .ok (.aload_n 0, 1) := by decide +kernel
theorem dX12_init_119 : decode cX12_init 119 = .ok (.sipush 330, 3) := by decide +kernel
theorem dX12_init_122 : decode cX12_init 122 = .ok (.newarray .int, 2) := by decide +kernel
theorem dX12_init_124 : decode cX12_init 124 = .ok (.putfield 54, 3) := by decide +kernel
theorem dX12_init_127 : decode cX12_init 127 = .ok (.aload_n 0, 1) := by decide +kernel
theorem dX12_init_128 : decode cX12_init 128 = .ok (.bipush 66, 2) := by decide +kernel
theorem dX12_init_130 : decode cX12_init 130 = .ok (.newarray .int, 2) := by decide +kernel
theorem dX12_init_132 : decode cX12_init 132 = .ok (.putfield 57, 3) := by decide +kernel
theorem dX12_init_135 : decode cX12_init 135 = .ok (.aload_n 0, 1) := by decide +kernel
theorem dX12_init_136 : decode cX12_init 136 = .ok (.iconst 2, 1) := by decide +kernel
theorem dX12_init_137 : decode cX12_init 137 = .ok (.newarray .boolean, 2) := by decide +kernel
theorem dX12_init_139 : decode cX12_init 139 = .ok (.putfield 60, 3) := by decide +kernel
theorem dX12_init_142 : decode cX12_init 142 = .ok (.aload_n 0, 1) := by decide +kernel
theorem dX12_init_143 : decode cX12_init 143 = .ok (.getfield 9, 3) := by decide +kernel
theorem dX12_init_146 : decode cX12_init 146 = .ok (.iconst 0, 1) := by decide +kernel
theorem dX12_init_147 : decode cX12_init 147 = .ok (.iconst 0, 1) := by decide +kernel
theorem dX12_init_148 : decode cX12_init 148 = .ok (.iastore, 1) := by decide +kernel
theorem dX12_init_149 : decode cX12_init 149 = .ok (.return_, 1) := by decide +kernel
theorem dX12_thrown_0 : decode cX12_thrown 0 = .ok (.aload_n 0, 1) := by decide +kernel
theorem dX12_thrown_1 : decode cX12_thrown 1 = .ok (.getfield 64, 3) := by decide +kernel
theorem dX12_thrown_4 : decode cX12_thrown 4 = .ok (.ireturn, 1) := by decide +kernel
theorem dX12_in_0 : decode cX12_in 0 = .ok (.iload_n 0, 1) := by decide +kernel
theorem dX12_in_1 : decode cX12_in 1 = .ok (.iload_n 1, 1) := by decide +kernel
theorem dX12_in_2 : decode cX12_in 2 = .ok (.if_icmp .lt 12, 3) := by decide +kernel
theorem dX12_in_5 : decode cX12_in 5 = .ok (.iload_n 0, 1) := by decide +kernel
theorem dX12_in_6 : decode cX12_in 6 = .ok (.iload_n 2, 1) := by decide +kernel
theorem dX12_in_7 : decode cX12_in 7 = .ok (.if_icmp .gt 7, 3) := by decide +kernel
theorem dX12_in_10 : decode cX12_in 10 = .ok (.iconst 1, 1) := by decide +kernel
theorem dX12_in_11 : decode cX12_in 11 = .ok (.goto 4, 3) := by decide +kernel
theorem dX12_in_14 : decode cX12_in 14 = .ok (.iconst 0, 1) := by decide +kernel
theorem dX12_in_15 : decode cX12_in 15 = .ok (.ireturn, 1) := by decide +kernel
theorem dX12_has_0 : decode cX12_has 0 = .ok (.iload_n 0, 1) := by decide +kernel
theorem dX12_has_1 : decode cX12_has 1 = .ok (.iload_n 1, 1) := by decide +kernel
theorem dX12_has_2 : decode cX12_has 2 = .ok (.ishr, 1) := by decide +kernel
theorem dX12_has_3 : decode cX12_has 3 = .ok (.iconst 1, 1) := by decide +kernel
theorem dX12_has_4 : decode cX12_has 4 = .ok (.iand, 1) := by decide +kernel
theorem dX12_has_5 : decode cX12_has 5 = .ok (.iconst 1, 1) := by decide +kernel
theorem dX12_has_6 : decode cX12_has 6 = .ok (.if_icmp .ne 7, 3) := by decide +kernel
theorem dX12_has_9 : decode cX12_has 9 = .ok (.iconst 1, 1) := by decide +kernel
theorem dX12_has_10 : decode cX12_has 10 = .ok (.goto 4, 3) := by decide +kernel
theorem dX12_has_13 : decode cX12_has 13 = .ok (.iconst 0, 1) := by decide +kernel
theorem dX12_has_14 : decode cX12_has 14 = .ok (.ireturn, 1) := by decide +kernel
theorem dX12_lost_0 : decode cX12_lost 0 = .ok (.aload_n 0, 1) := by decide +kernel
theorem dX12_lost_1 : decode cX12_lost 1 = .ok (.iconst 1, 1) := by decide +kernel
theorem dX12_lost_2 : decode cX12_lost 2 = .ok (.putfield 64, 3) := by decide +kernel
theorem dX12_lost_5 : decode cX12_lost 5 = .ok (.iconst 0, 1) := by decide +kernel
theorem dX12_lost_6 : decode cX12_lost 6 = .ok (.ireturn, 1) := by decide +kernel
theorem dX12_tell_0 : decode cX12_tell 0 = .ok (.aload_n 0, 1) := by decide +kernel
theorem dX12_tell_1 : decode cX12_tell 1 = .ok (.getfield 17, 3) := by decide +kernel
theorem dX12_tell_4 : decode cX12_tell 4 = .ok (.aload_n 0, 1) := by decide +kernel
theorem dX12_tell_5 : decode cX12_tell 5 = .ok (.getfield 68, 3) := by decide +kernel
theorem dX12_tell_8 : decode cX12_tell 8 = .ok (.lload_n 1, 1) := by decide +kernel
theorem dX12_tell_9 : decode cX12_tell 9 = .ok (.lastore, 1) := by decide +kernel
theorem dX12_tell_10 : decode cX12_tell 10 = .ok (.aload_n 0, 1) := by decide +kernel
theorem dX12_tell_11 : decode cX12_tell 11 = .ok (.dup, 1) := by decide +kernel
theorem dX12_tell_12 : decode cX12_tell 12 = .ok (.getfield 68, 3) := by decide +kernel
theorem dX12_tell_15 : decode cX12_tell 15 = .ok (.iconst 1, 1) := by decide +kernel
theorem dX12_tell_16 : decode cX12_tell 16 = .ok (.iadd, 1) := by decide +kernel
theorem dX12_tell_17 : decode cX12_tell 17 = .ok (.putfield 68, 3) := by decide +kernel
theorem dX12_tell_20 : decode cX12_tell 20 = .ok (.return_, 1) := by decide +kernel
theorem dX12_digits_0 : decode cX12_digits 0 = .ok (.iconst 0, 1) := by decide +kernel
theorem dX12_digits_1 : decode cX12_digits 1 = .ok (.istore_n 1, 1) := by decide +kernel
theorem dX12_digits_2 : decode cX12_digits 2 = .ok (.iload_n 0, 1) := by decide +kernel
theorem dX12_digits_3 : decode cX12_digits 3 = .ok (.istore_n 2, 1) := by decide +kernel
theorem dX12_digits_4 : decode cX12_digits 4 = .ok (.iload_n 2, 1) := by decide +kernel
theorem dX12_digits_5 : decode cX12_digits 5 = .ok (.ifCond .le 13, 3) := by decide +kernel
theorem dX12_digits_8 : decode cX12_digits 8 = .ok (.iinc 1 1, 3) := by decide +kernel
theorem dX12_digits_11 : decode cX12_digits 11 = .ok (.iload_n 2, 1) := by decide +kernel
theorem dX12_digits_12 : decode cX12_digits 12 = .ok (.iconst 2, 1) := by decide +kernel
theorem dX12_digits_13 : decode cX12_digits 13 = .ok (.idiv, 1) := by decide +kernel
theorem dX12_digits_14 : decode cX12_digits 14 = .ok (.istore_n 2, 1) := by decide +kernel
theorem dX12_digits_15 : decode cX12_digits 15 = .ok (.goto (-11), 3) := by decide +kernel
theorem dX12_digits_18 : decode cX12_digits 18 = .ok (.iload_n 1, 1) := by decide +kernel
theorem dX12_digits_19 : decode cX12_digits 19 = .ok (.ireturn, 1) := by decide +kernel
theorem dX12_isDocument_0 : decode cX12_isDocument 0 = .ok (.iload_n 1, 1) := by decide +kernel
theorem dX12_isDocument_1 : decode cX12_isDocument 1 = .ok (.iconst 0, 1) := by decide +kernel
theorem dX12_isDocument_2 : decode cX12_isDocument 2 = .ok (.aload_n 0, 1) := by decide +kernel
theorem dX12_isDocument_3 : decode cX12_isDocument 3 = .ok (.getfield 9, 3) := by decide +kernel
theorem dX12_isDocument_6 : decode cX12_isDocument 6 = .ok (.iconst 0, 1) := by decide +kernel
theorem dX12_isDocument_7 : decode cX12_isDocument 7 = .ok (.iaload, 1) := by decide +kernel
theorem dX12_isDocument_8 : decode cX12_isDocument 8 = .ok (.iconst 1, 1) := by decide +kernel
theorem dX12_isDocument_9 : decode cX12_isDocument 9 = .ok (.isub, 1) := by decide +kernel
theorem dX12_isDocument_10 : decode cX12_isDocument 10 = .ok (.invokestatic 71, 3) := by decide +kernel
theorem dX12_isDocument_13 : decode cX12_isDocument 13 = .ok (.ireturn, 1) := by decide +kernel
theorem dX12_isTerm_0 : decode cX12_isTerm 0 = .ok (.iload_n 0, 1) := by decide +kernel
theorem dX12_isTerm_1 : decode cX12_isTerm 1 = .ok (.iconst 0, 1) := by decide +kernel
theorem dX12_isTerm_2 : decode cX12_isTerm 2 = .ok (.bipush 7, 2) := by decide +kernel
theorem dX12_isTerm_4 : decode cX12_isTerm 4 = .ok (.invokestatic 71, 3) := by decide +kernel
theorem dX12_isTerm_7 : decode cX12_isTerm 7 = .ok (.ireturn, 1) := by decide +kernel
theorem dX12_isCode_0 : decode cX12_isCode 0 = .ok (.iload_n 0, 1) := by decide +kernel
theorem dX12_isCode_1 : decode cX12_isCode 1 = .ok (.iconst 0, 1) := by decide +kernel
theorem dX12_isCode_2 : decode cX12_isCode 2 = .ok (.iconst 3, 1) := by decide +kernel
theorem dX12_isCode_3 : decode cX12_isCode 3 = .ok (.invokestatic 71, 3) := by decide +kernel
theorem dX12_isCode_6 : decode cX12_isCode 6 = .ok (.ireturn, 1) := by decide +kernel
theorem dX12_lies_0 : decode cX12_lies 0 = .ok (.iconst 0, 1) := by decide +kernel
theorem dX12_lies_1 : decode cX12_lies 1 = .ok (.istore_n 2, 1) := by decide +kernel
theorem dX12_lies_2 : decode cX12_lies 2 = .ok (.aload_n 0, 1) := by decide +kernel
theorem dX12_lies_3 : decode cX12_lies 3 = .ok (.getfield 9, 3) := by decide +kernel
theorem dX12_lies_6 : decode cX12_lies 6 = .ok (.bipush 17, 2) := by decide +kernel
theorem dX12_lies_8 : decode cX12_lies 8 = .ok (.iload_n 2, 1) := by decide +kernel
theorem dX12_lies_9 : decode cX12_lies 9 = .ok (.iadd, 1) := by decide +kernel
theorem dX12_lies_10 : decode cX12_lies 10 = .ok (.iaload, 1) := by decide +kernel
theorem dX12_lies_11 : decode cX12_lies 11 = .ok (.iload_n 1, 1) := by decide +kernel
theorem dX12_lies_12 : decode cX12_lies 12 = .ok (.if_icmp .eq 9, 3) := by decide +kernel
theorem dX12_lies_15 : decode cX12_lies 15 = .ok (.iinc 2 1, 3) := by decide +kernel
theorem dX12_lies_18 : decode cX12_lies 18 = .ok (.goto (-16), 3) := by decide +kernel
theorem dX12_lies_21 : decode cX12_lies 21 = .ok (.iload_n 2, 1) := by decide +kernel
theorem dX12_lies_22 : decode cX12_lies 22 = .ok (.ireturn, 1) := by decide +kernel
theorem dX12_hasAt_0 : decode cX12_hasAt 0 = .ok (.aload_n 0, 1) := by decide +kernel
theorem dX12_hasAt_1 : decode cX12_hasAt 1 = .ok (.getfield 9, 3) := by decide +kernel
theorem dX12_hasAt_4 : decode cX12_hasAt 4 = .ok (.iconst 1, 1) := by decide +kernel
theorem dX12_hasAt_5 : decode cX12_hasAt 5 = .ok (.aload_n 0, 1) := by decide +kernel
theorem dX12_hasAt_6 : decode cX12_hasAt 6 = .ok (.iload_n 1, 1) := by decide +kernel
theorem dX12_hasAt_7 : decode cX12_hasAt 7 = .ok (.invokevirtual 75, 3) := by decide +kernel
theorem dX12_hasAt_10 : decode cX12_hasAt 10 = .ok (.iadd, 1) := by decide +kernel
theorem dX12_hasAt_11 : decode cX12_hasAt 11 = .ok (.iaload, 1) := by decide +kernel
theorem dX12_hasAt_12 : decode cX12_hasAt 12 = .ok (.iload_n 2, 1) := by decide +kernel
theorem dX12_hasAt_13 : decode cX12_hasAt 13 = .ok (.invokestatic 79, 3) := by decide +kernel
theorem dX12_hasAt_16 : decode cX12_hasAt 16 = .ok (.ireturn, 1) := by decide +kernel
theorem dX12_sign_0 : decode cX12_sign 0 = .ok (.aload_n 0, 1) := by decide +kernel
theorem dX12_sign_1 : decode cX12_sign 1 = .ok (.iconst 0, 1) := by decide +kernel
theorem dX12_sign_2 : decode cX12_sign 2 = .ok (.putfield 64, 3) := by decide +kernel
theorem dX12_sign_5 : decode cX12_sign 5 = .ok (.aload_n 0, 1) := by decide +kernel
theorem dX12_sign_6 : decode cX12_sign 6 = .ok (.getfield 83, 3) := by decide +kernel
theorem dX12_sign_9 : decode cX12_sign 9 = .ok (.iconst 4, 1) := by decide +kernel
theorem dX12_sign_10 : decode cX12_sign 10 = .ok (.iadd, 1) := by decide +kernel
theorem dX12_sign_11 : decode cX12_sign 11 = .ok (.bipush 80, 2) := by decide +kernel
theorem dX12_sign_13 : decode cX12_sign 13 = .ok (.if_icmp .le 5, 3) := by decide +kernel
theorem dX12_sign_16 : decode cX12_sign 16 = .ok (.iconst (-1), 1) := by decide +kernel
theorem dX12_sign_17 : decode cX12_sign 17 = .ok (.ireturn, 1) := by decide +kernel
theorem dX12_sign_18 : decode cX12_sign 18 = .ok (.iconst 3, 1) := by decide +kernel
theorem dX12_sign_19 : decode cX12_sign 19 = .ok (.istore_n 2, 1) := by decide +kernel
theorem dX12_sign_20 : decode cX12_sign 20 = .ok (.iload_n 2, 1) := by decide +kernel
theorem dX12_sign_21 : decode cX12_sign 21 = .ok (.ifCond .lt 32, 3) := by decide +kernel
theorem dX12_sign_24 : decode cX12_sign 24 = .ok (.aload_n 0, 1) := by decide +kernel
theorem dX12_sign_25 : decode cX12_sign 25 = .ok (.getfield 13, 3) := by decide +kernel
theorem dX12_sign_28 : decode cX12_sign 28 = .ok (.aload_n 0, 1) := by decide +kernel
theorem dX12_sign_29 : decode cX12_sign 29 = .ok (.dup, 1) := by decide +kernel
theorem dX12_sign_30 : decode cX12_sign 30 = .ok (.getfield 83, 3) := by decide +kernel
theorem dX12_sign_33 : decode cX12_sign 33 = .ok (.dup_x1, 1) := by decide +kernel
theorem dX12_sign_34 : decode cX12_sign 34 = .ok (.iconst 1, 1) := by decide +kernel
theorem dX12_sign_35 : decode cX12_sign 35 = .ok (.iadd, 1) := by decide +kernel
theorem dX12_sign_36 : decode cX12_sign 36 = .ok (.putfield 83, 3) := by decide +kernel
theorem dX12_sign_39 : decode cX12_sign 39 = .ok (.iload_n 1, 1) := by decide +kernel
theorem dX12_sign_40 : decode cX12_sign 40 = .ok (.bipush 8, 2) := by decide +kernel
theorem dX12_sign_42 : decode cX12_sign 42 = .ok (.iload_n 2, 1) := by decide +kernel
theorem dX12_sign_43 : decode cX12_sign 43 = .ok (.imul, 1) := by decide +kernel
theorem dX12_sign_44 : decode cX12_sign 44 = .ok (.ishr, 1) := by decide +kernel
theorem dX12_sign_45 : decode cX12_sign 45 = .ok (.i2b, 1) := by decide +kernel
theorem dX12_sign_46 : decode cX12_sign 46 = .ok (.bastore, 1) := by decide +kernel
theorem dX12_sign_47 : decode cX12_sign 47 = .ok (.iinc 2 (-1), 3) := by decide +kernel
theorem dX12_sign_50 : decode cX12_sign 50 = .ok (.goto (-30), 3) := by decide +kernel
theorem dX12_sign_53 : decode cX12_sign 53 = .ok (.aload_n 0, 1) := by decide +kernel
theorem dX12_sign_54 : decode cX12_sign 54 = .ok (.getfield 83, 3) := by decide +kernel
theorem dX12_sign_57 : decode cX12_sign 57 = .ok (.ireturn, 1) := by decide +kernel
theorem dX12_end_0 : decode cX12_end 0 = .ok (.aload_n 0, 1) := by decide +kernel
theorem dX12_end_1 : decode cX12_end 1 = .ok (.iconst 0, 1) := by decide +kernel
theorem dX12_end_2 : decode cX12_end 2 = .ok (.putfield 64, 3) := by decide +kernel
theorem dX12_end_5 : decode cX12_end 5 = .ok (.iload_n 1, 1) := by decide +kernel
theorem dX12_end_6 : decode cX12_end 6 = .ok (.iconst 0, 1) := by decide +kernel
theorem dX12_end_7 : decode cX12_end 7 = .ok (.aload_n 0, 1) := by decide +kernel
theorem dX12_end_8 : decode cX12_end 8 = .ok (.getfield 83, 3) := by decide +kernel
theorem dX12_end_11 : decode cX12_end 11 = .ok (.invokestatic 71, 3) := by decide +kernel
theorem dX12_end_14 : decode cX12_end 14 = .ok (.ifCond .ne 5, 3) := by decide +kernel
theorem dX12_end_17 : decode cX12_end 17 = .ok (.iconst 0, 1) := by decide +kernel
theorem dX12_end_18 : decode cX12_end 18 = .ok (.ireturn, 1) := by decide +kernel
theorem dX12_end_19 : decode cX12_end 19 = .ok (.aload_n 0, 1) := by decide +kernel
theorem dX12_end_20 : decode cX12_end 20 = .ok (.iload_n 1, 1) := by decide +kernel
theorem dX12_end_21 : decode cX12_end 21 = .ok (.putfield 83, 3) := by decide +kernel
theorem dX12_end_24 : decode cX12_end 24 = .ok (.iconst 1, 1) := by decide +kernel
theorem dX12_end_25 : decode cX12_end 25 = .ok (.ireturn, 1) := by decide +kernel
theorem dX12_begin_0 : decode cX12_begin 0 = .ok (.aload_n 0, 1) := by decide +kernel
theorem dX12_begin_1 : decode cX12_begin 1 = .ok (.aload_n 0, 1) := by decide +kernel
theorem dX12_begin_2 : decode cX12_begin 2 = .ok (.getfield 83, 3) := by decide +kernel
theorem dX12_begin_5 : decode cX12_begin 5 = .ok (.putfield 86, 3) := by decide +kernel
theorem dX12_begin_8 : decode cX12_begin 8 = .ok (.aload_n 0, 1) := by decide +kernel
theorem dX12_begin_9 : decode cX12_begin 9 = .ok (.iconst 0, 1) := by decide +kernel
theorem dX12_begin_10 : decode cX12_begin 10 = .ok (.putfield 89, 3) := by decide +kernel
theorem dX12_begin_13 : decode cX12_begin 13 = .ok (.aload_n 0, 1) := by decide +kernel
theorem dX12_begin_14 : decode cX12_begin 14 = .ok (.iconst (-1), 1) := by decide +kernel
theorem dX12_begin_15 : decode cX12_begin 15 = .ok (.putfield 92, 3) := by decide +kernel
theorem dX12_begin_18 : decode cX12_begin 18 = .ok (.aload_n 0, 1) := by decide +kernel
theorem dX12_begin_19 : decode cX12_begin 19 = .ok (.iconst 0, 1) := by decide +kernel
theorem dX12_begin_20 : decode cX12_begin 20 = .ok (.putfield 83, 3) := by decide +kernel
theorem dX12_begin_23 : decode cX12_begin 23 = .ok (.return_, 1) := by decide +kernel
theorem dX12_here_0 : decode cX12_here 0 = .ok (.aload_n 0, 1) := by decide +kernel
theorem dX12_here_1 : decode cX12_here 1 = .ok (.getfield 89, 3) := by decide +kernel
theorem dX12_here_4 : decode cX12_here 4 = .ok (.aload_n 0, 1) := by decide +kernel
theorem dX12_here_5 : decode cX12_here 5 = .ok (.getfield 86, 3) := by decide +kernel
theorem dX12_here_8 : decode cX12_here 8 = .ok (.if_icmp .ge 19, 3) := by decide +kernel
theorem dX12_here_11 : decode cX12_here 11 = .ok (.aload_n 0, 1) := by decide +kernel
theorem dX12_here_12 : decode cX12_here 12 = .ok (.getfield 13, 3) := by decide +kernel
theorem dX12_here_15 : decode cX12_here 15 = .ok (.aload_n 0, 1) := by decide +kernel
theorem dX12_here_16 : decode cX12_here 16 = .ok (.getfield 89, 3) := by decide +kernel
theorem dX12_here_19 : decode cX12_here 19 = .ok (.baload, 1) := by decide +kernel
theorem dX12_here_20 : decode cX12_here 20 = .ok (.sipush 255, 3) := by decide +kernel
theorem dX12_here_23 : decode cX12_here 23 = .ok (.iand, 1) := by decide +kernel
theorem dX12_here_24 : decode cX12_here 24 = .ok (.goto 4, 3) := by decide +kernel
theorem dX12_here_27 : decode cX12_here 27 = .ok (.iconst (-1), 1) := by decide +kernel
theorem dX12_here_28 : decode cX12_here 28 = .ok (.ireturn, 1) := by decide +kernel
theorem dX12_fine_0 : decode cX12_fine 0 = .ok (.aload_n 0, 1) := by decide +kernel
theorem dX12_fine_1 : decode cX12_fine 1 = .ok (.getfield 92, 3) := by decide +kernel
theorem dX12_fine_4 : decode cX12_fine 4 = .ok (.iconst (-1), 1) := by decide +kernel
theorem dX12_fine_5 : decode cX12_fine 5 = .ok (.if_icmp .ne 7, 3) := by decide +kernel
theorem dX12_fine_8 : decode cX12_fine 8 = .ok (.iconst 1, 1) := by decide +kernel
theorem dX12_fine_9 : decode cX12_fine 9 = .ok (.goto 4, 3) := by decide +kernel
theorem dX12_fine_12 : decode cX12_fine 12 = .ok (.iconst 0, 1) := by decide +kernel
theorem dX12_fine_13 : decode cX12_fine 13 = .ok (.ireturn, 1) := by decide +kernel
theorem dX12_fault_0 : decode cX12_fault 0 = .ok (.aload_n 0, 1) := by decide +kernel
theorem dX12_fault_1 : decode cX12_fault 1 = .ok (.invokevirtual 95, 3) := by decide +kernel
theorem dX12_fault_4 : decode cX12_fault 4 = .ok (.ifCond .eq 8, 3) := by decide +kernel
theorem dX12_fault_7 : decode cX12_fault 7 = .ok (.aload_n 0, 1) := by decide +kernel
theorem dX12_fault_8 : decode cX12_fault 8 = .ok (.iload_n 1, 1) := by decide +kernel
theorem dX12_fault_9 : decode cX12_fault 9 = .ok (.putfield 92, 3) := by decide +kernel
theorem dX12_fault_12 : decode cX12_fault 12 = .ok (.return_, 1) := by decide +kernel
theorem dX12_oneOf_0 : decode cX12_oneOf 0 = .ok (.aload_n 0, 1) := by decide +kernel
theorem dX12_oneOf_1 : decode cX12_oneOf 1 = .ok (.invokevirtual 95, 3) := by decide +kernel
theorem dX12_oneOf_4 : decode cX12_oneOf 4 = .ok (.ifCond .ne 5, 3) := by decide +kernel
theorem dX12_oneOf_7 : decode cX12_oneOf 7 = .ok (.iconst 0, 1) := by decide +kernel
theorem dX12_oneOf_8 : decode cX12_oneOf 8 = .ok (.ireturn, 1) := by decide +kernel
theorem dX12_oneOf_9 : decode cX12_oneOf 9 = .ok (.aload_n 0, 1) := by decide +kernel
theorem dX12_oneOf_10 : decode cX12_oneOf 10 = .ok (.invokevirtual 99, 3) := by decide +kernel
theorem dX12_oneOf_13 : decode cX12_oneOf 13 = .ok (.iload_n 1, 1) := by decide +kernel
theorem dX12_oneOf_14 : decode cX12_oneOf 14 = .ok (.iload_n 1, 1) := by decide +kernel
theorem dX12_oneOf_15 : decode cX12_oneOf 15 = .ok (.iload_n 2, 1) := by decide +kernel
theorem dX12_oneOf_16 : decode cX12_oneOf 16 = .ok (.iadd, 1) := by decide +kernel
theorem dX12_oneOf_17 : decode cX12_oneOf 17 = .ok (.iconst 1, 1) := by decide +kernel
theorem dX12_oneOf_18 : decode cX12_oneOf 18 = .ok (.isub, 1) := by decide +kernel
theorem dX12_oneOf_19 : decode cX12_oneOf 19 = .ok (.invokestatic 71, 3) := by decide +kernel
theorem dX12_oneOf_22 : decode cX12_oneOf 22 = .ok (.ifCond .ne 13, 3) := by decide +kernel
theorem dX12_oneOf_25 : decode cX12_oneOf 25 = .ok (.aload_n 0, 1) := by decide +kernel
theorem dX12_oneOf_26 : decode cX12_oneOf 26 = .ok (.aload_n 0, 1) := by decide +kernel
theorem dX12_oneOf_27 : decode cX12_oneOf 27 = .ok (.getfield 89, 3) := by decide +kernel
theorem dX12_oneOf_30 : decode cX12_oneOf 30 = .ok (.invokevirtual 103, 3) := by decide +kernel
theorem dX12_oneOf_33 : decode cX12_oneOf 33 = .ok (.iconst 0, 1) := by decide +kernel
theorem dX12_oneOf_34 : decode cX12_oneOf 34 = .ok (.ireturn, 1) := by decide +kernel
theorem dX12_oneOf_35 : decode cX12_oneOf 35 = .ok (.aload_n 0, 1) := by decide +kernel
theorem dX12_oneOf_36 : decode cX12_oneOf 36 = .ok (.dup, 1) := by decide +kernel
theorem dX12_oneOf_37 : decode cX12_oneOf 37 = .ok (.getfield 89, 3) := by decide +kernel
theorem dX12_oneOf_40 : decode cX12_oneOf 40 = .ok (.iconst 1, 1) := by decide +kernel
theorem dX12_oneOf_41 : decode cX12_oneOf 41 = .ok (.iadd, 1) := by decide +kernel
theorem dX12_oneOf_42 : decode cX12_oneOf 42 = .ok (.putfield 89, 3) := by decide +kernel
theorem dX12_oneOf_45 : decode cX12_oneOf 45 = .ok (.aload_n 0, 1) := by decide +kernel
theorem dX12_oneOf_46 : decode cX12_oneOf 46 = .ok (.getfield 13, 3) := by decide +kernel
theorem dX12_oneOf_49 : decode cX12_oneOf 49 = .ok (.aload_n 0, 1) := by decide +kernel
theorem dX12_oneOf_50 : decode cX12_oneOf 50 = .ok (.getfield 89, 3) := by decide +kernel
theorem dX12_oneOf_53 : decode cX12_oneOf 53 = .ok (.iconst 1, 1) := by decide +kernel
theorem dX12_oneOf_54 : decode cX12_oneOf 54 = .ok (.isub, 1) := by decide +kernel
theorem dX12_oneOf_55 : decode cX12_oneOf 55 = .ok (.baload, 1) := by decide +kernel
theorem dX12_oneOf_56 : decode cX12_oneOf 56 = .ok (.iload_n 1, 1) := by decide +kernel
theorem dX12_oneOf_57 : decode cX12_oneOf 57 = .ok (.isub, 1) := by decide +kernel
theorem dX12_oneOf_58 : decode cX12_oneOf 58 = .ok (.ireturn, 1) := by decide +kernel
theorem dX12_twoDigits_0 : decode cX12_twoDigits 0 = .ok (.aload_n 0, 1) := by decide +kernel
theorem dX12_twoDigits_1 : decode cX12_twoDigits 1 = .ok (.bipush 48, 2) := by decide +kernel
theorem dX12_twoDigits_3 : decode cX12_twoDigits 3 = .ok (.bipush 10, 2) := by decide +kernel
theorem dX12_twoDigits_5 : decode cX12_twoDigits 5 = .ok (.invokevirtual 107, 3) := by decide +kernel
theorem dX12_twoDigits_8 : decode cX12_twoDigits 8 = .ok (.istore_n 1, 1) := by decide +kernel
theorem dX12_twoDigits_9 : decode cX12_twoDigits 9 = .ok (.bipush 10, 2) := by decide +kernel
theorem dX12_twoDigits_11 : decode cX12_twoDigits 11 = .ok (.iload_n 1, 1) := by decide +kernel
theorem dX12_twoDigits_12 : decode cX12_twoDigits 12 = .ok (.imul, 1) := by decide +kernel
theorem dX12_twoDigits_13 : decode cX12_twoDigits 13 = .ok (.aload_n 0, 1) := by decide +kernel
theorem dX12_twoDigits_14 : decode cX12_twoDigits 14 = .ok (.bipush 48, 2) := by decide +kernel
theorem dX12_twoDigits_16 : decode cX12_twoDigits 16 = .ok (.bipush 10, 2) := by decide +kernel
theorem dX12_twoDigits_18 : decode cX12_twoDigits 18 = .ok (.invokevirtual 107, 3) := by decide +kernel
theorem dX12_twoDigits_21 : decode cX12_twoDigits 21 = .ok (.iadd, 1) := by decide +kernel
theorem dX12_twoDigits_22 : decode cX12_twoDigits 22 = .ok (.ireturn, 1) := by decide +kernel
theorem dX12_wasRight_0 : decode cX12_wasRight 0 = .ok (.aload_n 0, 1) := by decide +kernel
theorem dX12_wasRight_1 : decode cX12_wasRight 1 = .ok (.getfield 89, 3) := by decide +kernel
theorem dX12_wasRight_4 : decode cX12_wasRight 4 = .ok (.aload_n 0, 1) := by decide +kernel
theorem dX12_wasRight_5 : decode cX12_wasRight 5 = .ok (.getfield 86, 3) := by decide +kernel
theorem dX12_wasRight_8 : decode cX12_wasRight 8 = .ok (.if_icmp .ge 11, 3) := by decide +kernel
theorem dX12_wasRight_11 : decode cX12_wasRight 11 = .ok (.aload_n 0, 1) := by decide +kernel
theorem dX12_wasRight_12 : decode cX12_wasRight 12 = .ok (.aload_n 0, 1) := by decide +kernel
theorem dX12_wasRight_13 : decode cX12_wasRight 13 = .ok (.getfield 89, 3) := by decide +kernel
theorem dX12_wasRight_16 : decode cX12_wasRight 16 = .ok (.invokevirtual 103, 3) := by decide +kernel
theorem dX12_wasRight_19 : decode cX12_wasRight 19 = .ok (.aload_n 0, 1) := by decide +kernel
theorem dX12_wasRight_20 : decode cX12_wasRight 20 = .ok (.invokevirtual 95, 3) := by decide +kernel
theorem dX12_wasRight_23 : decode cX12_wasRight 23 = .ok (.ireturn, 1) := by decide +kernel
theorem dX12_readTerms_0 : decode cX12_readTerms 0 = .ok (.aload_n 0, 1) := by decide +kernel
theorem dX12_readTerms_1 : decode cX12_readTerms 1 = .ok (.invokevirtual 99, 3) := by decide +kernel
theorem dX12_readTerms_4 : decode cX12_readTerms 4 = .ok (.bipush 45, 2) := by decide +kernel
theorem dX12_readTerms_6 : decode cX12_readTerms 6 = .ok (.if_icmp .ne 15, 3) := by decide +kernel
theorem dX12_readTerms_9 : decode cX12_readTerms 9 = .ok (.aload_n 0, 1) := by decide +kernel
theorem dX12_readTerms_10 : decode cX12_readTerms 10 = .ok (.dup, 1) := by decide +kernel
theorem dX12_readTerms_11 : decode cX12_readTerms 11 = .ok (.getfield 89, 3) := by decide +kernel
theorem dX12_readTerms_14 : decode cX12_readTerms 14 = .ok (.iconst 1, 1) := by decide +kernel
theorem dX12_readTerms_15 : decode cX12_readTerms 15 = .ok (.iadd, 1) := by decide +kernel
theorem dX12_readTerms_16 : decode cX12_readTerms 16 = .ok (.putfield 89, 3) := by decide +kernel
theorem dX12_readTerms_19 : decode cX12_readTerms 19 = .ok (.iconst 0, 1) := by decide +kernel
theorem dX12_readTerms_20 : decode cX12_readTerms 20 = .ok (.ireturn, 1) := by decide +kernel
theorem dX12_readTerms_21 : decode cX12_readTerms 21 = .ok (.aload_n 0, 1) := by decide +kernel
theorem dX12_readTerms_22 : decode cX12_readTerms 22 = .ok (.bipush 97, 2) := by decide +kernel
theorem dX12_readTerms_24 : decode cX12_readTerms 24 = .ok (.bipush 8, 2) := by decide +kernel
theorem dX12_readTerms_26 : decode cX12_readTerms 26 = .ok (.invokevirtual 107, 3) := by decide +kernel
theorem dX12_readTerms_29 : decode cX12_readTerms 29 = .ok (.istore_n 1, 1) := by decide +kernel
theorem dX12_readTerms_30 : decode cX12_readTerms 30 = .ok (.iconst 1, 1) := by decide +kernel
theorem dX12_readTerms_31 : decode cX12_readTerms 31 = .ok (.iload_n 1, 1) := by decide +kernel
theorem dX12_readTerms_32 : decode cX12_readTerms 32 = .ok (.ishl, 1) := by decide +kernel
theorem dX12_readTerms_33 : decode cX12_readTerms 33 = .ok (.istore_n 2, 1) := by decide +kernel
theorem dX12_readTerms_34 : decode cX12_readTerms 34 = .ok (.aload_n 0, 1) := by decide +kernel
theorem dX12_readTerms_35 : decode cX12_readTerms 35 = .ok (.invokevirtual 95, 3) := by decide +kernel
theorem dX12_readTerms_38 : decode cX12_readTerms 38 = .ok (.ifCond .eq 52, 3) := by decide +kernel
theorem dX12_readTerms_41 : decode cX12_readTerms 41 = .ok (.aload_n 0, 1) := by decide +kernel
theorem dX12_readTerms_42 : decode cX12_readTerms 42 = .ok (.invokevirtual 99, 3) := by decide +kernel
theorem dX12_readTerms_45 : decode cX12_readTerms 45 = .ok (.bipush 97, 2) := by decide +kernel
theorem dX12_readTerms_47 : decode cX12_readTerms 47 = .ok (.bipush 104, 2) := by decide +kernel
theorem dX12_readTerms_49 : decode cX12_readTerms 49 = .ok (.invokestatic 71, 3) := by decide +kernel
theorem dX12_readTerms_52 : decode cX12_readTerms 52 = .ok (.ifCond .eq 38, 3) := by decide +kernel
theorem dX12_readTerms_55 : decode cX12_readTerms 55 = .ok (.aload_n 0, 1) := by decide +kernel
theorem dX12_readTerms_56 : decode cX12_readTerms 56 = .ok (.bipush 97, 2) := by decide +kernel
theorem dX12_readTerms_58 : decode cX12_readTerms 58 = .ok (.bipush 8, 2) := by decide +kernel
theorem dX12_readTerms_60 : decode cX12_readTerms 60 = .ok (.invokevirtual 107, 3) := by decide +kernel
theorem dX12_readTerms_63 : decode cX12_readTerms 63 = .ok (.istore_n 3, 1) := by decide +kernel
theorem dX12_readTerms_64 : decode cX12_readTerms 64 = .ok (.iload_n 3, 1) := by decide +kernel
theorem dX12_readTerms_65 : decode cX12_readTerms 65 = .ok (.iload_n 1, 1) := by decide +kernel
theorem dX12_readTerms_66 : decode cX12_readTerms 66 = .ok (.if_icmp .gt 13, 3) := by decide +kernel
theorem dX12_readTerms_69 : decode cX12_readTerms 69 = .ok (.aload_n 0, 1) := by decide +kernel
theorem dX12_readTerms_70 : decode cX12_readTerms 70 = .ok (.aload_n 0, 1) := by decide +kernel
theorem dX12_readTerms_71 : decode cX12_readTerms 71 = .ok (.getfield 89, 3) := by decide +kernel
theorem dX12_readTerms_74 : decode cX12_readTerms 74 = .ok (.iconst 1, 1) := by decide +kernel
theorem dX12_readTerms_75 : decode cX12_readTerms 75 = .ok (.isub, 1) := by decide +kernel
theorem dX12_readTerms_76 : decode cX12_readTerms 76 = .ok (.invokevirtual 103, 3) := by decide +kernel
theorem dX12_readTerms_79 : decode cX12_readTerms 79 = .ok (.iload_n 2, 1) := by decide +kernel
theorem dX12_readTerms_80 : decode cX12_readTerms 80 = .ok (.iconst 1, 1) := by decide +kernel
theorem dX12_readTerms_81 : decode cX12_readTerms 81 = .ok (.iload_n 3, 1) := by decide +kernel
theorem dX12_readTerms_82 : decode cX12_readTerms 82 = .ok (.ishl, 1) := by decide +kernel
theorem dX12_readTerms_83 : decode cX12_readTerms 83 = .ok (.ior, 1) := by decide +kernel
theorem dX12_readTerms_84 : decode cX12_readTerms 84 = .ok (.istore_n 2, 1) := by decide +kernel
theorem dX12_readTerms_85 : decode cX12_readTerms 85 = .ok (.iload_n 3, 1) := by decide +kernel
theorem dX12_readTerms_86 : decode cX12_readTerms 86 = .ok (.istore_n 1, 1) := by decide +kernel
theorem dX12_readTerms_87 : decode cX12_readTerms 87 = .ok (.goto (-53), 3) := by decide +kernel
theorem dX12_readTerms_90 : decode cX12_readTerms 90 = .ok (.iload_n 2, 1) := by decide +kernel
theorem dX12_readTerms_91 : decode cX12_readTerms 91 = .ok (.ireturn, 1) := by decide +kernel
theorem dX12_documents_0 : decode cX12_documents 0 = .ok (.aload_n 0, 1) := by decide +kernel
theorem dX12_documents_1 : decode cX12_documents 1 = .ok (.iconst 0, 1) := by decide +kernel
theorem dX12_documents_2 : decode cX12_documents 2 = .ok (.putfield 64, 3) := by decide +kernel
theorem dX12_documents_5 : decode cX12_documents 5 = .ok (.aload_n 0, 1) := by decide +kernel
theorem dX12_documents_6 : decode cX12_documents 6 = .ok (.invokevirtual 111, 3) := by decide +kernel
theorem dX12_documents_9 : decode cX12_documents 9 = .ok (.iconst 0, 1) := by decide +kernel
theorem dX12_documents_10 : decode cX12_documents 10 = .ok (.istore_n 1, 1) := by decide +kernel
theorem dX12_documents_11 : decode cX12_documents 11 = .ok (.aload_n 0, 1) := by decide +kernel
theorem dX12_documents_12 : decode cX12_documents 12 = .ok (.getfield 86, 3) := by decide +kernel
theorem dX12_documents_15 : decode cX12_documents 15 = .ok (.ifCond .le 7, 3) := by decide +kernel
theorem dX12_documents_18 : decode cX12_documents 18 = .ok (.iconst 1, 1) := by decide +kernel
theorem dX12_documents_19 : decode cX12_documents 19 = .ok (.goto 4, 3) := by decide +kernel
theorem dX12_documents_22 : decode cX12_documents 22 = .ok (.iconst 0, 1) := by decide +kernel
theorem dX12_documents_23 : decode cX12_documents 23 = .ok (.istore_n 2, 1) := by decide +kernel
theorem dX12_documents_24 : decode cX12_documents 24 = .ok (.iload_n 2, 1) := by decide +kernel
theorem dX12_documents_25 : decode cX12_documents 25 = .ok (.ifCond .eq 79, 3) := by decide +kernel
theorem dX12_documents_28 : decode cX12_documents 28 = .ok (.aload_n 0, 1) := by decide +kernel
theorem dX12_documents_29 : decode cX12_documents 29 = .ok (.invokevirtual 95, 3) := by decide +kernel
theorem dX12_documents_32 : decode cX12_documents 32 = .ok (.ifCond .eq 72, 3) := by decide +kernel
theorem dX12_documents_35 : decode cX12_documents 35 = .ok (.aload_n 0, 1) := by decide +kernel
theorem dX12_documents_36 : decode cX12_documents 36 = .ok (.getfield 21, 3) := by decide +kernel
theorem dX12_documents_39 : decode cX12_documents 39 = .ok (.iload_n 1, 1) := by decide +kernel
theorem dX12_documents_40 : decode cX12_documents 40 = .ok (.aload_n 0, 1) := by decide +kernel
theorem dX12_documents_41 : decode cX12_documents 41 = .ok (.invokevirtual 114, 3) := by decide +kernel
theorem dX12_documents_44 : decode cX12_documents 44 = .ok (.iastore, 1) := by decide +kernel
theorem dX12_documents_45 : decode cX12_documents 45 = .ok (.iinc 1 1, 3) := by decide +kernel
theorem dX12_documents_48 : decode cX12_documents 48 = .ok (.aload_n 0, 1) := by decide +kernel
theorem dX12_documents_49 : decode cX12_documents 49 = .ok (.invokevirtual 95, 3) := by decide +kernel
theorem dX12_documents_52 : decode cX12_documents 52 = .ok (.ifCond .eq 16, 3) := by decide +kernel
theorem dX12_documents_55 : decode cX12_documents 55 = .ok (.aload_n 0, 1) := by decide +kernel
theorem dX12_documents_56 : decode cX12_documents 56 = .ok (.invokevirtual 99, 3) := by decide +kernel
theorem dX12_documents_59 : decode cX12_documents 59 = .ok (.bipush 59, 2) := by decide +kernel
theorem dX12_documents_61 : decode cX12_documents 61 = .ok (.if_icmp .ne 7, 3) := by decide +kernel
theorem dX12_documents_64 : decode cX12_documents 64 = .ok (.iconst 1, 1) := by decide +kernel
theorem dX12_documents_65 : decode cX12_documents 65 = .ok (.goto 4, 3) := by decide +kernel
theorem dX12_documents_68 : decode cX12_documents 68 = .ok (.iconst 0, 1) := by decide +kernel
theorem dX12_documents_69 : decode cX12_documents 69 = .ok (.istore_n 2, 1) := by decide +kernel
theorem dX12_documents_70 : decode cX12_documents 70 = .ok (.iload_n 2, 1) := by decide +kernel
theorem dX12_documents_71 : decode cX12_documents 71 = .ok (.ifCond .ne 6, 3) := by decide +kernel
theorem dX12_documents_74 : decode cX12_documents 74 = .ok (.goto (-50), 3) := by decide +kernel
theorem dX12_documents_77 : decode cX12_documents 77 = .ok (.iload_n 1, 1) := by decide +kernel
theorem dX12_documents_78 : decode cX12_documents 78 = .ok (.bipush 16, 2) := by decide +kernel
theorem dX12_documents_80 : decode cX12_documents 80 = .ok (.if_icmp .ne 11, 3) := by decide +kernel
theorem dX12_documents_83 : decode cX12_documents 83 = .ok (.aload_n 0, 1) := by decide +kernel
theorem dX12_documents_84 : decode cX12_documents 84 = .ok (.aload_n 0, 1) := by decide +kernel
theorem dX12_documents_85 : decode cX12_documents 85 = .ok (.getfield 89, 3) := by decide +kernel
theorem dX12_documents_88 : decode cX12_documents 88 = .ok (.invokevirtual 103, 3) := by decide +kernel
theorem dX12_documents_91 : decode cX12_documents 91 = .ok (.aload_n 0, 1) := by decide +kernel
theorem dX12_documents_92 : decode cX12_documents 92 = .ok (.dup, 1) := by decide +kernel
theorem dX12_documents_93 : decode cX12_documents 93 = .ok (.getfield 89, 3) := by decide +kernel
theorem dX12_documents_96 : decode cX12_documents 96 = .ok (.iconst 1, 1) := by decide +kernel
theorem dX12_documents_97 : decode cX12_documents 97 = .ok (.iadd, 1) := by decide +kernel
theorem dX12_documents_98 : decode cX12_documents 98 = .ok (.putfield 89, 3) := by decide +kernel
theorem dX12_documents_101 : decode cX12_documents 101 = .ok (.goto (-77), 3) := by decide +kernel
theorem dX12_documents_104 : decode cX12_documents 104 = .ok (.aload_n 0, 1) := by decide +kernel
theorem dX12_documents_105 : decode cX12_documents 105 = .ok (.invokevirtual 117, 3) := by decide +kernel
theorem dX12_documents_108 : decode cX12_documents 108 = .ok (.ifCond .ne 10, 3) := by decide +kernel
theorem dX12_documents_111 : decode cX12_documents 111 = .ok (.iconst (-1), 1) := by decide +kernel
theorem dX12_documents_112 : decode cX12_documents 112 = .ok (.aload_n 0, 1) := by decide +kernel
theorem dX12_documents_113 : decode cX12_documents 113 = .ok (.getfield 92, 3) := by decide +kernel
theorem dX12_documents_116 : decode cX12_documents 116 = .ok (.isub, 1) := by decide +kernel
theorem dX12_documents_117 : decode cX12_documents 117 = .ok (.ireturn, 1) := by decide +kernel
theorem dX12_documents_118 : decode cX12_documents 118 = .ok (.aload_n 0, 1) := by decide +kernel
theorem dX12_documents_119 : decode cX12_documents 119 = .ok (.invokevirtual 120, 3) := by decide +kernel
theorem dX12_documents_122 : decode cX12_documents 122 = .ok (.aload_n 0, 1) := by decide +kernel
theorem dX12_documents_123 : decode cX12_documents 123 = .ok (.getfield 9, 3) := by decide +kernel
theorem dX12_documents_126 : decode cX12_documents 126 = .ok (.iconst 0, 1) := by decide +kernel
theorem dX12_documents_127 : decode cX12_documents 127 = .ok (.iload_n 1, 1) := by decide +kernel
theorem dX12_documents_128 : decode cX12_documents 128 = .ok (.iastore, 1) := by decide +kernel
theorem dX12_documents_129 : decode cX12_documents 129 = .ok (.iconst 0, 1) := by decide +kernel
theorem dX12_documents_130 : decode cX12_documents 130 = .ok (.istore_n 3, 1) := by decide +kernel
theorem dX12_documents_131 : decode cX12_documents 131 = .ok (.iload_n 3, 1) := by decide +kernel
theorem dX12_documents_132 : decode cX12_documents 132 = .ok (.bipush 16, 2) := by decide +kernel
theorem dX12_documents_134 : decode cX12_documents 134 = .ok (.if_icmp .ge 51, 3) := by decide +kernel
theorem dX12_documents_137 : decode cX12_documents 137 = .ok (.aload_n 0, 1) := by decide +kernel
theorem dX12_documents_138 : decode cX12_documents 138 = .ok (.getfield 9, 3) := by decide +kernel
theorem dX12_documents_141 : decode cX12_documents 141 = .ok (.iconst 1, 1) := by decide +kernel
theorem dX12_documents_142 : decode cX12_documents 142 = .ok (.iload_n 3, 1) := by decide +kernel
theorem dX12_documents_143 : decode cX12_documents 143 = .ok (.iadd, 1) := by decide +kernel
theorem dX12_documents_144 : decode cX12_documents 144 = .ok (.iload_n 3, 1) := by decide +kernel
theorem dX12_documents_145 : decode cX12_documents 145 = .ok (.iload_n 1, 1) := by decide +kernel
theorem dX12_documents_146 : decode cX12_documents 146 = .ok (.if_icmp .ge 12, 3) := by decide +kernel
theorem dX12_documents_149 : decode cX12_documents 149 = .ok (.aload_n 0, 1) := by decide +kernel
theorem dX12_documents_150 : decode cX12_documents 150 = .ok (.getfield 21, 3) := by decide +kernel
theorem dX12_documents_153 : decode cX12_documents 153 = .ok (.iload_n 3, 1) := by decide +kernel
theorem dX12_documents_154 : decode cX12_documents 154 = .ok (.iaload, 1) := by decide +kernel
theorem dX12_documents_155 : decode cX12_documents 155 = .ok (.goto 4, 3) := by decide +kernel
theorem dX12_documents_158 : decode cX12_documents 158 = .ok (.iconst 0, 1) := by decide +kernel
theorem dX12_documents_159 : decode cX12_documents 159 = .ok (.iastore, 1) := by decide +kernel
theorem dX12_documents_160 : decode cX12_documents 160 = .ok (.aload_n 0, 1) := by decide +kernel
theorem dX12_documents_161 : decode cX12_documents 161 = .ok (.getfield 9, 3) := by decide +kernel
theorem dX12_documents_164 : decode cX12_documents 164 = .ok (.bipush 17, 2) := by decide +kernel
theorem dX12_documents_166 : decode cX12_documents 166 = .ok (.iload_n 3, 1) := by decide +kernel
theorem dX12_documents_167 : decode cX12_documents 167 = .ok (.iadd, 1) := by decide +kernel
theorem dX12_documents_168 : decode cX12_documents 168 = .ok (.iload_n 3, 1) := by decide +kernel
theorem dX12_documents_169 : decode cX12_documents 169 = .ok (.iload_n 1, 1) := by decide +kernel
theorem dX12_documents_170 : decode cX12_documents 170 = .ok (.if_icmp .ge 7, 3) := by decide +kernel
theorem dX12_documents_173 : decode cX12_documents 173 = .ok (.iload_n 3, 1) := by decide +kernel
theorem dX12_documents_174 : decode cX12_documents 174 = .ok (.goto 4, 3) := by decide +kernel
theorem dX12_documents_177 : decode cX12_documents 177 = .ok (.iconst 0, 1) := by decide +kernel
theorem dX12_documents_178 : decode cX12_documents 178 = .ok (.iastore, 1) := by decide +kernel
theorem dX12_documents_179 : decode cX12_documents 179 = .ok (.iinc 3 1, 3) := by decide +kernel
theorem dX12_documents_182 : decode cX12_documents 182 = .ok (.goto (-51), 3) := by decide +kernel
theorem dX12_documents_185 : decode cX12_documents 185 = .ok (.iload_n 1, 1) := by decide +kernel
theorem dX12_documents_186 : decode cX12_documents 186 = .ok (.ireturn, 1) := by decide +kernel
theorem dX12_order_0 : decode cX12_order 0 = .ok (.aload_n 0, 1) := by decide +kernel
theorem dX12_order_1 : decode cX12_order 1 = .ok (.iconst 0, 1) := by decide +kernel
theorem dX12_order_2 : decode cX12_order 2 = .ok (.putfield 64, 3) := by decide +kernel
theorem dX12_order_5 : decode cX12_order 5 = .ok (.aload_n 0, 1) := by decide +kernel
theorem dX12_order_6 : decode cX12_order 6 = .ok (.invokevirtual 111, 3) := by decide +kernel
theorem dX12_order_9 : decode cX12_order 9 = .ok (.iconst 0, 1) := by decide +kernel
theorem dX12_order_10 : decode cX12_order 10 = .ok (.istore_n 1, 1) := by decide +kernel
theorem dX12_order_11 : decode cX12_order 11 = .ok (.iconst 0, 1) := by decide +kernel
theorem dX12_order_12 : decode cX12_order 12 = .ok (.istore_n 2, 1) := by decide +kernel
theorem dX12_order_13 : decode cX12_order 13 = .ok (.iload_n 2, 1) := by decide +kernel
theorem dX12_order_14 : decode cX12_order 14 = .ok (.aload_n 0, 1) := by decide +kernel
theorem dX12_order_15 : decode cX12_order 15 = .ok (.getfield 9, 3) := by decide +kernel
theorem dX12_order_18 : decode cX12_order 18 = .ok (.iconst 0, 1) := by decide +kernel
theorem dX12_order_19 : decode cX12_order 19 = .ok (.iaload, 1) := by decide +kernel
theorem dX12_order_20 : decode cX12_order 20 = .ok (.if_icmp .ge 70, 3) := by decide +kernel
theorem dX12_order_23 : decode cX12_order 23 = .ok (.aload_n 0, 1) := by decide +kernel
theorem dX12_order_24 : decode cX12_order 24 = .ok (.invokevirtual 95, 3) := by decide +kernel
theorem dX12_order_27 : decode cX12_order 27 = .ok (.ifCond .eq 63, 3) := by decide +kernel
theorem dX12_order_30 : decode cX12_order 30 = .ok (.aload_n 0, 1) := by decide +kernel
theorem dX12_order_31 : decode cX12_order 31 = .ok (.invokevirtual 123, 3) := by decide +kernel
theorem dX12_order_34 : decode cX12_order 34 = .ok (.istore_n 3, 1) := by decide +kernel
theorem dX12_order_35 : decode cX12_order 35 = .ok (.aload_n 0, 1) := by decide +kernel
theorem dX12_order_36 : decode cX12_order 36 = .ok (.invokevirtual 95, 3) := by decide +kernel
theorem dX12_order_39 : decode cX12_order 39 = .ok (.ifCond .ne 6, 3) := by decide +kernel
theorem dX12_order_42 : decode cX12_order 42 = .ok (.goto 42, 3) := by decide +kernel
theorem dX12_order_45 : decode cX12_order 45 = .ok (.aload_n 0, 1) := by decide +kernel
theorem dX12_order_46 : decode cX12_order 46 = .ok (.iload_n 3, 1) := by decide +kernel
theorem dX12_order_47 : decode cX12_order 47 = .ok (.invokevirtual 126, 3) := by decide +kernel
theorem dX12_order_50 : decode cX12_order 50 = .ok (.ifCond .eq 11, 3) := by decide +kernel
theorem dX12_order_53 : decode cX12_order 53 = .ok (.iload_n 1, 1) := by decide +kernel
theorem dX12_order_54 : decode cX12_order 54 = .ok (.iload_n 3, 1) := by decide +kernel
theorem dX12_order_55 : decode cX12_order 55 = .ok (.invokestatic 79, 3) := by decide +kernel
theorem dX12_order_58 : decode cX12_order 58 = .ok (.ifCond .eq 13, 3) := by decide +kernel
theorem dX12_order_61 : decode cX12_order 61 = .ok (.aload_n 0, 1) := by decide +kernel
theorem dX12_order_62 : decode cX12_order 62 = .ok (.aload_n 0, 1) := by decide +kernel
theorem dX12_order_63 : decode cX12_order 63 = .ok (.getfield 89, 3) := by decide +kernel
theorem dX12_order_66 : decode cX12_order 66 = .ok (.iconst 1, 1) := by decide +kernel
theorem dX12_order_67 : decode cX12_order 67 = .ok (.isub, 1) := by decide +kernel
theorem dX12_order_68 : decode cX12_order 68 = .ok (.invokevirtual 103, 3) := by decide +kernel
theorem dX12_order_71 : decode cX12_order 71 = .ok (.iload_n 1, 1) := by decide +kernel
theorem dX12_order_72 : decode cX12_order 72 = .ok (.iconst 1, 1) := by decide +kernel
theorem dX12_order_73 : decode cX12_order 73 = .ok (.iload_n 3, 1) := by decide +kernel
theorem dX12_order_74 : decode cX12_order 74 = .ok (.ishl, 1) := by decide +kernel
theorem dX12_order_75 : decode cX12_order 75 = .ok (.ior, 1) := by decide +kernel
theorem dX12_order_76 : decode cX12_order 76 = .ok (.istore_n 1, 1) := by decide +kernel
theorem dX12_order_77 : decode cX12_order 77 = .ok (.aload_n 0, 1) := by decide +kernel
theorem dX12_order_78 : decode cX12_order 78 = .ok (.getfield 24, 3) := by decide +kernel
theorem dX12_order_81 : decode cX12_order 81 = .ok (.iload_n 2, 1) := by decide +kernel
theorem dX12_order_82 : decode cX12_order 82 = .ok (.iload_n 3, 1) := by decide +kernel
theorem dX12_order_83 : decode cX12_order 83 = .ok (.iastore, 1) := by decide +kernel
theorem dX12_order_84 : decode cX12_order 84 = .ok (.iinc 2 1, 3) := by decide +kernel
theorem dX12_order_87 : decode cX12_order 87 = .ok (.goto (-74), 3) := by decide +kernel
theorem dX12_order_90 : decode cX12_order 90 = .ok (.aload_n 0, 1) := by decide +kernel
theorem dX12_order_91 : decode cX12_order 91 = .ok (.invokevirtual 117, 3) := by decide +kernel
theorem dX12_order_94 : decode cX12_order 94 = .ok (.ifCond .ne 10, 3) := by decide +kernel
theorem dX12_order_97 : decode cX12_order 97 = .ok (.iconst (-1), 1) := by decide +kernel
theorem dX12_order_98 : decode cX12_order 98 = .ok (.aload_n 0, 1) := by decide +kernel
theorem dX12_order_99 : decode cX12_order 99 = .ok (.getfield 92, 3) := by decide +kernel
theorem dX12_order_102 : decode cX12_order 102 = .ok (.isub, 1) := by decide +kernel
theorem dX12_order_103 : decode cX12_order 103 = .ok (.ireturn, 1) := by decide +kernel
theorem dX12_order_104 : decode cX12_order 104 = .ok (.aload_n 0, 1) := by decide +kernel
theorem dX12_order_105 : decode cX12_order 105 = .ok (.invokevirtual 120, 3) := by decide +kernel
theorem dX12_order_108 : decode cX12_order 108 = .ok (.aload_n 0, 1) := by decide +kernel
theorem dX12_order_109 : decode cX12_order 109 = .ok (.invokevirtual 130, 3) := by decide +kernel
theorem dX12_order_112 : decode cX12_order 112 = .ok (.ireturn, 1) := by decide +kernel
theorem dX12_takeOver_0 : decode cX12_takeOver 0 = .ok (.iconst 0, 1) := by decide +kernel
theorem dX12_takeOver_1 : decode cX12_takeOver 1 = .ok (.istore_n 1, 1) := by decide +kernel
theorem dX12_takeOver_2 : decode cX12_takeOver 2 = .ok (.iconst 0, 1) := by decide +kernel
theorem dX12_takeOver_3 : decode cX12_takeOver 3 = .ok (.istore_n 2, 1) := by decide +kernel
theorem dX12_takeOver_4 : decode cX12_takeOver 4 = .ok (.iload_n 2, 1) := by decide +kernel
theorem dX12_takeOver_5 : decode cX12_takeOver 5 = .ok (.aload_n 0, 1) := by decide +kernel
theorem dX12_takeOver_6 : decode cX12_takeOver 6 = .ok (.getfield 9, 3) := by decide +kernel
theorem dX12_takeOver_9 : decode cX12_takeOver 9 = .ok (.iconst 0, 1) := by decide +kernel
theorem dX12_takeOver_10 : decode cX12_takeOver 10 = .ok (.iaload, 1) := by decide +kernel
theorem dX12_takeOver_11 : decode cX12_takeOver 11 = .ok (.if_icmp .ge 45, 3) := by decide +kernel
theorem dX12_takeOver_14 : decode cX12_takeOver 14 = .ok (.aload_n 0, 1) := by decide +kernel
theorem dX12_takeOver_15 : decode cX12_takeOver 15 = .ok (.getfield 9, 3) := by decide +kernel
theorem dX12_takeOver_18 : decode cX12_takeOver 18 = .ok (.bipush 17, 2) := by decide +kernel
theorem dX12_takeOver_20 : decode cX12_takeOver 20 = .ok (.aload_n 0, 1) := by decide +kernel
theorem dX12_takeOver_21 : decode cX12_takeOver 21 = .ok (.getfield 24, 3) := by decide +kernel
theorem dX12_takeOver_24 : decode cX12_takeOver 24 = .ok (.iload_n 2, 1) := by decide +kernel
theorem dX12_takeOver_25 : decode cX12_takeOver 25 = .ok (.iaload, 1) := by decide +kernel
theorem dX12_takeOver_26 : decode cX12_takeOver 26 = .ok (.iadd, 1) := by decide +kernel
theorem dX12_takeOver_27 : decode cX12_takeOver 27 = .ok (.iaload, 1) := by decide +kernel
theorem dX12_takeOver_28 : decode cX12_takeOver 28 = .ok (.iload_n 2, 1) := by decide +kernel
theorem dX12_takeOver_29 : decode cX12_takeOver 29 = .ok (.if_icmp .eq 6, 3) := by decide +kernel
theorem dX12_takeOver_32 : decode cX12_takeOver 32 = .ok (.iinc 1 1, 3) := by decide +kernel
theorem dX12_takeOver_35 : decode cX12_takeOver 35 = .ok (.aload_n 0, 1) := by decide +kernel
theorem dX12_takeOver_36 : decode cX12_takeOver 36 = .ok (.getfield 9, 3) := by decide +kernel
theorem dX12_takeOver_39 : decode cX12_takeOver 39 = .ok (.bipush 17, 2) := by decide +kernel
theorem dX12_takeOver_41 : decode cX12_takeOver 41 = .ok (.aload_n 0, 1) := by decide +kernel
theorem dX12_takeOver_42 : decode cX12_takeOver 42 = .ok (.getfield 24, 3) := by decide +kernel
theorem dX12_takeOver_45 : decode cX12_takeOver 45 = .ok (.iload_n 2, 1) := by decide +kernel
theorem dX12_takeOver_46 : decode cX12_takeOver 46 = .ok (.iaload, 1) := by decide +kernel
theorem dX12_takeOver_47 : decode cX12_takeOver 47 = .ok (.iadd, 1) := by decide +kernel
theorem dX12_takeOver_48 : decode cX12_takeOver 48 = .ok (.iload_n 2, 1) := by decide +kernel
theorem dX12_takeOver_49 : decode cX12_takeOver 49 = .ok (.iastore, 1) := by decide +kernel
theorem dX12_takeOver_50 : decode cX12_takeOver 50 = .ok (.iinc 2 1, 3) := by decide +kernel
theorem dX12_takeOver_53 : decode cX12_takeOver 53 = .ok (.goto (-49), 3) := by decide +kernel
theorem dX12_takeOver_56 : decode cX12_takeOver 56 = .ok (.iload_n 1, 1) := by decide +kernel
theorem dX12_takeOver_57 : decode cX12_takeOver 57 = .ok (.ireturn, 1) := by decide +kernel
theorem dX12_layNow_0 : decode cX12_layNow 0 = .ok (.iconst 0, 1) := by decide +kernel
theorem dX12_layNow_1 : decode cX12_layNow 1 = .ok (.istore_n 1, 1) := by decide +kernel
theorem dX12_layNow_2 : decode cX12_layNow 2 = .ok (.iload_n 1, 1) := by decide +kernel
theorem dX12_layNow_3 : decode cX12_layNow 3 = .ok (.aload_n 0, 1) := by decide +kernel
theorem dX12_layNow_4 : decode cX12_layNow 4 = .ok (.getfield 9, 3) := by decide +kernel
theorem dX12_layNow_7 : decode cX12_layNow 7 = .ok (.iconst 0, 1) := by decide +kernel
theorem dX12_layNow_8 : decode cX12_layNow 8 = .ok (.iaload, 1) := by decide +kernel
theorem dX12_layNow_9 : decode cX12_layNow 9 = .ok (.if_icmp .ge 20, 3) := by decide +kernel
theorem dX12_layNow_12 : decode cX12_layNow 12 = .ok (.aload_n 0, 1) := by decide +kernel
theorem dX12_layNow_13 : decode cX12_layNow 13 = .ok (.getfield 24, 3) := by decide +kernel
theorem dX12_layNow_16 : decode cX12_layNow 16 = .ok (.iload_n 1, 1) := by decide +kernel
theorem dX12_layNow_17 : decode cX12_layNow 17 = .ok (.aload_n 0, 1) := by decide +kernel
theorem dX12_layNow_18 : decode cX12_layNow 18 = .ok (.iload_n 1, 1) := by decide +kernel
theorem dX12_layNow_19 : decode cX12_layNow 19 = .ok (.invokevirtual 75, 3) := by decide +kernel
theorem dX12_layNow_22 : decode cX12_layNow 22 = .ok (.iastore, 1) := by decide +kernel
theorem dX12_layNow_23 : decode cX12_layNow 23 = .ok (.iinc 1 1, 3) := by decide +kernel
theorem dX12_layNow_26 : decode cX12_layNow 26 = .ok (.goto (-24), 3) := by decide +kernel
theorem dX12_layNow_29 : decode cX12_layNow 29 = .ok (.return_, 1) := by decide +kernel
theorem dX12_countBits_0 : decode cX12_countBits 0 = .ok (.iconst 0, 1) := by decide +kernel
theorem dX12_countBits_1 : decode cX12_countBits 1 = .ok (.istore_n 1, 1) := by decide +kernel
theorem dX12_countBits_2 : decode cX12_countBits 2 = .ok (.iload_n 0, 1) := by decide +kernel
theorem dX12_countBits_3 : decode cX12_countBits 3 = .ok (.istore_n 2, 1) := by decide +kernel
theorem dX12_countBits_4 : decode cX12_countBits 4 = .ok (.iload_n 2, 1) := by decide +kernel
theorem dX12_countBits_5 : decode cX12_countBits 5 = .ok (.ifCond .eq 15, 3) := by decide +kernel
theorem dX12_countBits_8 : decode cX12_countBits 8 = .ok (.iinc 1 1, 3) := by decide +kernel
theorem dX12_countBits_11 : decode cX12_countBits 11 = .ok (.iload_n 2, 1) := by decide +kernel
theorem dX12_countBits_12 : decode cX12_countBits 12 = .ok (.iload_n 2, 1) := by decide +kernel
theorem dX12_countBits_13 : decode cX12_countBits 13 = .ok (.iconst 1, 1) := by decide +kernel
theorem dX12_countBits_14 : decode cX12_countBits 14 = .ok (.isub, 1) := by decide +kernel
theorem dX12_countBits_15 : decode cX12_countBits 15 = .ok (.iand, 1) := by decide +kernel
theorem dX12_countBits_16 : decode cX12_countBits 16 = .ok (.istore_n 2, 1) := by decide +kernel
theorem dX12_countBits_17 : decode cX12_countBits 17 = .ok (.goto (-13), 3) := by decide +kernel
theorem dX12_countBits_20 : decode cX12_countBits 20 = .ok (.iload_n 1, 1) := by decide +kernel
theorem dX12_countBits_21 : decode cX12_countBits 21 = .ok (.ireturn, 1) := by decide +kernel
theorem dX12_document_0 : decode cX12_document 0 = .ok (.aload_n 0, 1) := by decide +kernel
theorem dX12_document_1 : decode cX12_document 1 = .ok (.iconst 0, 1) := by decide +kernel
theorem dX12_document_2 : decode cX12_document 2 = .ok (.putfield 64, 3) := by decide +kernel
theorem dX12_document_5 : decode cX12_document 5 = .ok (.aload_n 0, 1) := by decide +kernel
theorem dX12_document_6 : decode cX12_document 6 = .ok (.iload_n 1, 1) := by decide +kernel
theorem dX12_document_7 : decode cX12_document 7 = .ok (.invokevirtual 126, 3) := by decide +kernel
theorem dX12_document_10 : decode cX12_document 10 = .ok (.ifCond .eq 12, 3) := by decide +kernel
theorem dX12_document_13 : decode cX12_document 13 = .ok (.iload_n 2, 1) := by decide +kernel
theorem dX12_document_14 : decode cX12_document 14 = .ok (.iconst 0, 1) := by decide +kernel
theorem dX12_document_15 : decode cX12_document 15 = .ok (.iconst 2, 1) := by decide +kernel
theorem dX12_document_16 : decode cX12_document 16 = .ok (.invokestatic 71, 3) := by decide +kernel
theorem dX12_document_19 : decode cX12_document 19 = .ok (.ifCond .ne 8, 3) := by decide +kernel
theorem dX12_document_22 : decode cX12_document 22 = .ok (.aload_n 0, 1) := by decide +kernel
theorem dX12_document_23 : decode cX12_document 23 = .ok (.invokevirtual 133, 3) := by decide +kernel
theorem dX12_document_26 : decode cX12_document 26 = .ok (.ireturn, 1) := by decide +kernel
theorem dX12_document_27 : decode cX12_document 27 = .ok (.iload_n 2, 1) := by decide +kernel
theorem dX12_document_28 : decode cX12_document 28 = .ok (.ifCond .ne 14, 3) := by decide +kernel
theorem dX12_document_31 : decode cX12_document 31 = .ok (.aload_n 0, 1) := by decide +kernel
theorem dX12_document_32 : decode cX12_document 32 = .ok (.getfield 9, 3) := by decide +kernel
theorem dX12_document_35 : decode cX12_document 35 = .ok (.iconst 1, 1) := by decide +kernel
theorem dX12_document_36 : decode cX12_document 36 = .ok (.iload_n 1, 1) := by decide +kernel
theorem dX12_document_37 : decode cX12_document 37 = .ok (.iadd, 1) := by decide +kernel
theorem dX12_document_38 : decode cX12_document 38 = .ok (.iaload, 1) := by decide +kernel
theorem dX12_document_39 : decode cX12_document 39 = .ok (.goto 31, 3) := by decide +kernel
theorem dX12_document_42 : decode cX12_document 42 = .ok (.iload_n 2, 1) := by decide +kernel
theorem dX12_document_43 : decode cX12_document 43 = .ok (.iconst 1, 1) := by decide +kernel
theorem dX12_document_44 : decode cX12_document 44 = .ok (.if_icmp .ne 15, 3) := by decide +kernel
theorem dX12_document_47 : decode cX12_document 47 = .ok (.aload_n 0, 1) := by decide +kernel
theorem dX12_document_48 : decode cX12_document 48 = .ok (.getfield 9, 3) := by decide +kernel
theorem dX12_document_51 : decode cX12_document 51 = .ok (.bipush 17, 2) := by decide +kernel
theorem dX12_document_53 : decode cX12_document 53 = .ok (.iload_n 1, 1) := by decide +kernel
theorem dX12_document_54 : decode cX12_document 54 = .ok (.iadd, 1) := by decide +kernel
theorem dX12_document_55 : decode cX12_document 55 = .ok (.iaload, 1) := by decide +kernel
theorem dX12_document_56 : decode cX12_document 56 = .ok (.goto 14, 3) := by decide +kernel
theorem dX12_document_59 : decode cX12_document 59 = .ok (.aload_n 0, 1) := by decide +kernel
theorem dX12_document_60 : decode cX12_document 60 = .ok (.getfield 9, 3) := by decide +kernel
theorem dX12_document_63 : decode cX12_document 63 = .ok (.iconst 1, 1) := by decide +kernel
theorem dX12_document_64 : decode cX12_document 64 = .ok (.iload_n 1, 1) := by decide +kernel
theorem dX12_document_65 : decode cX12_document 65 = .ok (.iadd, 1) := by decide +kernel
theorem dX12_document_66 : decode cX12_document 66 = .ok (.iaload, 1) := by decide +kernel
theorem dX12_document_67 : decode cX12_document 67 = .ok (.invokestatic 136, 3) := by decide +kernel
theorem dX12_document_70 : decode cX12_document 70 = .ok (.ireturn, 1) := by decide +kernel
theorem dX12_at_0 : decode cX12_at 0 = .ok (.aload_n 0, 1) := by decide +kernel
theorem dX12_at_1 : decode cX12_at 1 = .ok (.iconst 0, 1) := by decide +kernel
theorem dX12_at_2 : decode cX12_at 2 = .ok (.putfield 64, 3) := by decide +kernel
theorem dX12_at_5 : decode cX12_at 5 = .ok (.aload_n 0, 1) := by decide +kernel
theorem dX12_at_6 : decode cX12_at 6 = .ok (.iload_n 1, 1) := by decide +kernel
theorem dX12_at_7 : decode cX12_at 7 = .ok (.invokevirtual 126, 3) := by decide +kernel
theorem dX12_at_10 : decode cX12_at 10 = .ok (.ifCond .eq 11, 3) := by decide +kernel
theorem dX12_at_13 : decode cX12_at 13 = .ok (.aload_n 0, 1) := by decide +kernel
theorem dX12_at_14 : decode cX12_at 14 = .ok (.iload_n 1, 1) := by decide +kernel
theorem dX12_at_15 : decode cX12_at 15 = .ok (.invokevirtual 75, 3) := by decide +kernel
theorem dX12_at_18 : decode cX12_at 18 = .ok (.goto 7, 3) := by decide +kernel
theorem dX12_at_21 : decode cX12_at 21 = .ok (.aload_n 0, 1) := by decide +kernel
theorem dX12_at_22 : decode cX12_at 22 = .ok (.invokevirtual 133, 3) := by decide +kernel
theorem dX12_at_25 : decode cX12_at 25 = .ok (.ireturn, 1) := by decide +kernel
theorem dX12_sheet_0 : decode cX12_sheet 0 = .ok (.aload_n 0, 1) := by decide +kernel
theorem dX12_sheet_1 : decode cX12_sheet 1 = .ok (.iconst 0, 1) := by decide +kernel
theorem dX12_sheet_2 : decode cX12_sheet 2 = .ok (.putfield 64, 3) := by decide +kernel
theorem dX12_sheet_5 : decode cX12_sheet 5 = .ok (.iload_n 1, 1) := by decide +kernel
theorem dX12_sheet_6 : decode cX12_sheet 6 = .ok (.iconst 0, 1) := by decide +kernel
theorem dX12_sheet_7 : decode cX12_sheet 7 = .ok (.iconst 3, 1) := by decide +kernel
theorem dX12_sheet_8 : decode cX12_sheet 8 = .ok (.invokestatic 71, 3) := by decide +kernel
theorem dX12_sheet_11 : decode cX12_sheet 11 = .ok (.ifCond .eq 9, 3) := by decide +kernel
theorem dX12_sheet_14 : decode cX12_sheet 14 = .ok (.iload_n 2, 1) := by decide +kernel
theorem dX12_sheet_15 : decode cX12_sheet 15 = .ok (.bipush 16, 2) := by decide +kernel
theorem dX12_sheet_17 : decode cX12_sheet 17 = .ok (.if_icmp .le 5, 3) := by decide +kernel
theorem dX12_sheet_20 : decode cX12_sheet 20 = .ok (.iconst (-1), 1) := by decide +kernel
theorem dX12_sheet_21 : decode cX12_sheet 21 = .ok (.ireturn, 1) := by decide +kernel
theorem dX12_sheet_22 : decode cX12_sheet 22 = .ok (.iload_n 1, 1) := by decide +kernel
theorem dX12_sheet_23 : decode cX12_sheet 23 = .ok (.iconst 3, 1) := by decide +kernel
theorem dX12_sheet_24 : decode cX12_sheet 24 = .ok (.if_icmp .ge 10, 3) := by decide +kernel
theorem dX12_sheet_27 : decode cX12_sheet 27 = .ok (.iload_n 2, 1) := by decide +kernel
theorem dX12_sheet_28 : decode cX12_sheet 28 = .ok (.ifCond .ge 6, 3) := by decide +kernel
theorem dX12_sheet_31 : decode cX12_sheet 31 = .ok (.bipush (-2), 2) := by decide +kernel
theorem dX12_sheet_33 : decode cX12_sheet 33 = .ok (.ireturn, 1) := by decide +kernel
theorem dX12_sheet_34 : decode cX12_sheet 34 = .ok (.iconst 0, 1) := by decide +kernel
theorem dX12_sheet_35 : decode cX12_sheet 35 = .ok (.istore 5, 2) := by decide +kernel
theorem dX12_sheet_37 : decode cX12_sheet 37 = .ok (.iload_n 3, 1) := by decide +kernel
theorem dX12_sheet_38 : decode cX12_sheet 38 = .ok (.istore 6, 2) := by decide +kernel
theorem dX12_sheet_40 : decode cX12_sheet 40 = .ok (.iconst 0, 1) := by decide +kernel
theorem dX12_sheet_41 : decode cX12_sheet 41 = .ok (.istore 7, 2) := by decide +kernel
theorem dX12_sheet_43 : decode cX12_sheet 43 = .ok (.iload 7, 2) := by decide +kernel
theorem dX12_sheet_45 : decode cX12_sheet 45 = .ok (.aload_n 0, 1) := by decide +kernel
theorem dX12_sheet_46 : decode cX12_sheet 46 = .ok (.getfield 9, 3) := by decide +kernel
theorem dX12_sheet_49 : decode cX12_sheet 49 = .ok (.iconst 0, 1) := by decide +kernel
theorem dX12_sheet_50 : decode cX12_sheet 50 = .ok (.iaload, 1) := by decide +kernel
theorem dX12_sheet_51 : decode cX12_sheet 51 = .ok (.if_icmp .ge 93, 3) := by decide +kernel
theorem dX12_sheet_54 : decode cX12_sheet 54 = .ok (.iload_n 1, 1) := by decide +kernel
theorem dX12_sheet_55 : decode cX12_sheet 55 = .ok (.ifCond .ne 9, 3) := by decide +kernel
theorem dX12_sheet_58 : decode cX12_sheet 58 = .ok (.iload 6, 2) := by decide +kernel
theorem dX12_sheet_60 : decode cX12_sheet 60 = .ok (.i2b, 1) := by decide +kernel
theorem dX12_sheet_61 : decode cX12_sheet 61 = .ok (.goto 16, 3) := by decide +kernel
theorem dX12_sheet_64 : decode cX12_sheet 64 = .ok (.iload_n 1, 1) := by decide +kernel
theorem dX12_sheet_65 : decode cX12_sheet 65 = .ok (.iconst 1, 1) := by decide +kernel
theorem dX12_sheet_66 : decode cX12_sheet 66 = .ok (.if_icmp .ne 9, 3) := by decide +kernel
theorem dX12_sheet_69 : decode cX12_sheet 69 = .ok (.iload 6, 2) := by decide +kernel
theorem dX12_sheet_71 : decode cX12_sheet 71 = .ok (.i2s, 1) := by decide +kernel
theorem dX12_sheet_72 : decode cX12_sheet 72 = .ok (.goto 5, 3) := by decide +kernel
theorem dX12_sheet_75 : decode cX12_sheet 75 = .ok (.iload 6, 2) := by decide +kernel
theorem dX12_sheet_77 : decode cX12_sheet 77 = .ok (.istore 8, 2) := by decide +kernel
theorem dX12_sheet_79 : decode cX12_sheet 79 = .ok (.aload_n 0, 1) := by decide +kernel
theorem dX12_sheet_80 : decode cX12_sheet 80 = .ok (.getfield 9, 3) := by decide +kernel
theorem dX12_sheet_83 : decode cX12_sheet 83 = .ok (.iconst 1, 1) := by decide +kernel
theorem dX12_sheet_84 : decode cX12_sheet 84 = .ok (.iload 7, 2) := by decide +kernel
theorem dX12_sheet_86 : decode cX12_sheet 86 = .ok (.iadd, 1) := by decide +kernel
theorem dX12_sheet_87 : decode cX12_sheet 87 = .ok (.iload_n 1, 1) := by decide +kernel
theorem dX12_sheet_88 : decode cX12_sheet 88 = .ok (.iconst 3, 1) := by decide +kernel
theorem dX12_sheet_89 : decode cX12_sheet 89 = .ok (.if_icmp .eq 9, 3) := by decide +kernel
theorem dX12_sheet_92 : decode cX12_sheet 92 = .ok (.iload 7, 2) := by decide +kernel
theorem dX12_sheet_94 : decode cX12_sheet 94 = .ok (.iload_n 2, 1) := by decide +kernel
theorem dX12_sheet_95 : decode cX12_sheet 95 = .ok (.if_icmp .lt 7, 3) := by decide +kernel
theorem dX12_sheet_98 : decode cX12_sheet 98 = .ok (.iconst 0, 1) := by decide +kernel
theorem dX12_sheet_99 : decode cX12_sheet 99 = .ok (.goto 9, 3) := by decide +kernel
theorem dX12_sheet_102 : decode cX12_sheet 102 = .ok (.iload 8, 2) := by decide +kernel
theorem dX12_sheet_104 : decode cX12_sheet 104 = .ok (.sipush 255, 3) := by decide +kernel
theorem dX12_sheet_107 : decode cX12_sheet 107 = .ok (.iand, 1) := by decide +kernel
theorem dX12_sheet_108 : decode cX12_sheet 108 = .ok (.iastore, 1) := by decide +kernel
theorem dX12_sheet_109 : decode cX12_sheet 109 = .ok (.iload 5, 2) := by decide +kernel
theorem dX12_sheet_111 : decode cX12_sheet 111 = .ok (.aload_n 0, 1) := by decide +kernel
theorem dX12_sheet_112 : decode cX12_sheet 112 = .ok (.getfield 9, 3) := by decide +kernel
theorem dX12_sheet_115 : decode cX12_sheet 115 = .ok (.iconst 1, 1) := by decide +kernel
theorem dX12_sheet_116 : decode cX12_sheet 116 = .ok (.iload 7, 2) := by decide +kernel
theorem dX12_sheet_118 : decode cX12_sheet 118 = .ok (.iadd, 1) := by decide +kernel
theorem dX12_sheet_119 : decode cX12_sheet 119 = .ok (.iaload, 1) := by decide +kernel
theorem dX12_sheet_120 : decode cX12_sheet 120 = .ok (.ifCond .eq 7, 3) := by decide +kernel
theorem dX12_sheet_123 : decode cX12_sheet 123 = .ok (.iconst 1, 1) := by decide +kernel
theorem dX12_sheet_124 : decode cX12_sheet 124 = .ok (.goto 4, 3) := by decide +kernel
theorem dX12_sheet_127 : decode cX12_sheet 127 = .ok (.iconst 0, 1) := by decide +kernel
theorem dX12_sheet_128 : decode cX12_sheet 128 = .ok (.iadd, 1) := by decide +kernel
theorem dX12_sheet_129 : decode cX12_sheet 129 = .ok (.istore 5, 2) := by decide +kernel
theorem dX12_sheet_131 : decode cX12_sheet 131 = .ok (.iload 6, 2) := by decide +kernel
theorem dX12_sheet_133 : decode cX12_sheet 133 = .ok (.iload 4, 2) := by decide +kernel
theorem dX12_sheet_135 : decode cX12_sheet 135 = .ok (.iadd, 1) := by decide +kernel
theorem dX12_sheet_136 : decode cX12_sheet 136 = .ok (.istore 6, 2) := by decide +kernel
theorem dX12_sheet_138 : decode cX12_sheet 138 = .ok (.iinc 7 1, 3) := by decide +kernel
theorem dX12_sheet_141 : decode cX12_sheet 141 = .ok (.goto (-98), 3) := by decide +kernel
theorem dX12_sheet_144 : decode cX12_sheet 144 = .ok (.iload_n 1, 1) := by decide +kernel
theorem dX12_sheet_145 : decode cX12_sheet 145 = .ok (.iconst 3, 1) := by decide +kernel
theorem dX12_sheet_146 : decode cX12_sheet 146 = .ok (.if_icmp .ne 8, 3) := by decide +kernel
theorem dX12_sheet_149 : decode cX12_sheet 149 = .ok (.bipush (-3), 2) := by decide +kernel
theorem dX12_sheet_151 : decode cX12_sheet 151 = .ok (.goto 5, 3) := by decide +kernel
theorem dX12_sheet_154 : decode cX12_sheet 154 = .ok (.iload 5, 2) := by decide +kernel
theorem dX12_sheet_156 : decode cX12_sheet 156 = .ok (.ireturn, 1) := by decide +kernel
theorem dX12_layList_0 : decode cX12_layList 0 = .ok (.aload_n 0, 1) := by decide +kernel
theorem dX12_layList_1 : decode cX12_layList 1 = .ok (.iconst 0, 1) := by decide +kernel
theorem dX12_layList_2 : decode cX12_layList 2 = .ok (.putfield 139, 3) := by decide +kernel
theorem dX12_layList_5 : decode cX12_layList 5 = .ok (.iconst 0, 1) := by decide +kernel
theorem dX12_layList_6 : decode cX12_layList 6 = .ok (.istore_n 2, 1) := by decide +kernel
theorem dX12_layList_7 : decode cX12_layList 7 = .ok (.iload_n 2, 1) := by decide +kernel
theorem dX12_layList_8 : decode cX12_layList 8 = .ok (.aload_n 0, 1) := by decide +kernel
theorem dX12_layList_9 : decode cX12_layList 9 = .ok (.getfield 9, 3) := by decide +kernel
theorem dX12_layList_12 : decode cX12_layList 12 = .ok (.iconst 0, 1) := by decide +kernel
theorem dX12_layList_13 : decode cX12_layList 13 = .ok (.iaload, 1) := by decide +kernel
theorem dX12_layList_14 : decode cX12_layList 14 = .ok (.if_icmp .ge 35, 3) := by decide +kernel
theorem dX12_layList_17 : decode cX12_layList 17 = .ok (.aload_n 0, 1) := by decide +kernel
theorem dX12_layList_18 : decode cX12_layList 18 = .ok (.iload_n 2, 1) := by decide +kernel
theorem dX12_layList_19 : decode cX12_layList 19 = .ok (.iload_n 1, 1) := by decide +kernel
theorem dX12_layList_20 : decode cX12_layList 20 = .ok (.invokevirtual 142, 3) := by decide +kernel
theorem dX12_layList_23 : decode cX12_layList 23 = .ok (.ifCond .eq 20, 3) := by decide +kernel
theorem dX12_layList_26 : decode cX12_layList 26 = .ok (.aload_n 0, 1) := by decide +kernel
theorem dX12_layList_27 : decode cX12_layList 27 = .ok (.getfield 27, 3) := by decide +kernel
theorem dX12_layList_30 : decode cX12_layList 30 = .ok (.aload_n 0, 1) := by decide +kernel
theorem dX12_layList_31 : decode cX12_layList 31 = .ok (.dup, 1) := by decide +kernel
theorem dX12_layList_32 : decode cX12_layList 32 = .ok (.getfield 139, 3) := by decide +kernel
theorem dX12_layList_35 : decode cX12_layList 35 = .ok (.dup_x1, 1) := by decide +kernel
theorem dX12_layList_36 : decode cX12_layList 36 = .ok (.iconst 1, 1) := by decide +kernel
theorem dX12_layList_37 : decode cX12_layList 37 = .ok (.iadd, 1) := by decide +kernel
theorem dX12_layList_38 : decode cX12_layList 38 = .ok (.putfield 139, 3) := by decide +kernel
theorem dX12_layList_41 : decode cX12_layList 41 = .ok (.iload_n 2, 1) := by decide +kernel
theorem dX12_layList_42 : decode cX12_layList 42 = .ok (.iastore, 1) := by decide +kernel
theorem dX12_layList_43 : decode cX12_layList 43 = .ok (.iinc 2 1, 3) := by decide +kernel
theorem dX12_layList_46 : decode cX12_layList 46 = .ok (.goto (-39), 3) := by decide +kernel
theorem dX12_layList_49 : decode cX12_layList 49 = .ok (.return_, 1) := by decide +kernel
theorem dX12_gap_0 : decode cX12_gap 0 = .ok (.iload_n 1, 1) := by decide +kernel
theorem dX12_gap_1 : decode cX12_gap 1 = .ok (.ifCond .ne 14, 3) := by decide +kernel
theorem dX12_gap_4 : decode cX12_gap 4 = .ok (.aload_n 0, 1) := by decide +kernel
theorem dX12_gap_5 : decode cX12_gap 5 = .ok (.getfield 27, 3) := by decide +kernel
theorem dX12_gap_8 : decode cX12_gap 8 = .ok (.iconst 0, 1) := by decide +kernel
theorem dX12_gap_9 : decode cX12_gap 9 = .ok (.iaload, 1) := by decide +kernel
theorem dX12_gap_10 : decode cX12_gap 10 = .ok (.iconst 1, 1) := by decide +kernel
theorem dX12_gap_11 : decode cX12_gap 11 = .ok (.iadd, 1) := by decide +kernel
theorem dX12_gap_12 : decode cX12_gap 12 = .ok (.goto 18, 3) := by decide +kernel
theorem dX12_gap_15 : decode cX12_gap 15 = .ok (.aload_n 0, 1) := by decide +kernel
theorem dX12_gap_16 : decode cX12_gap 16 = .ok (.getfield 27, 3) := by decide +kernel
theorem dX12_gap_19 : decode cX12_gap 19 = .ok (.iload_n 1, 1) := by decide +kernel
theorem dX12_gap_20 : decode cX12_gap 20 = .ok (.iaload, 1) := by decide +kernel
theorem dX12_gap_21 : decode cX12_gap 21 = .ok (.aload_n 0, 1) := by decide +kernel
theorem dX12_gap_22 : decode cX12_gap 22 = .ok (.getfield 27, 3) := by decide +kernel
theorem dX12_gap_25 : decode cX12_gap 25 = .ok (.iload_n 1, 1) := by decide +kernel
theorem dX12_gap_26 : decode cX12_gap 26 = .ok (.iconst 1, 1) := by decide +kernel
theorem dX12_gap_27 : decode cX12_gap 27 = .ok (.isub, 1) := by decide +kernel
theorem dX12_gap_28 : decode cX12_gap 28 = .ok (.iaload, 1) := by decide +kernel
theorem dX12_gap_29 : decode cX12_gap 29 = .ok (.isub, 1) := by decide +kernel
theorem dX12_gap_30 : decode cX12_gap 30 = .ok (.ireturn, 1) := by decide +kernel
theorem dX12_gammaBits_0 : decode cX12_gammaBits 0 = .ok (.iconst 2, 1) := by decide +kernel
theorem dX12_gammaBits_1 : decode cX12_gammaBits 1 = .ok (.iload_n 0, 1) := by decide +kernel
theorem dX12_gammaBits_2 : decode cX12_gammaBits 2 = .ok (.invokestatic 145, 3) := by decide +kernel
theorem dX12_gammaBits_5 : decode cX12_gammaBits 5 = .ok (.imul, 1) := by decide +kernel
theorem dX12_gammaBits_6 : decode cX12_gammaBits 6 = .ok (.iconst 1, 1) := by decide +kernel
theorem dX12_gammaBits_7 : decode cX12_gammaBits 7 = .ok (.isub, 1) := by decide +kernel
theorem dX12_gammaBits_8 : decode cX12_gammaBits 8 = .ok (.ireturn, 1) := by decide +kernel
theorem dX12_gapBits_0 : decode cX12_gapBits 0 = .ok (.iload_n 2, 1) := by decide +kernel
theorem dX12_gapBits_1 : decode cX12_gapBits 1 = .ok (.ifCond .ne 5, 3) := by decide +kernel
theorem dX12_gapBits_4 : decode cX12_gapBits 4 = .ok (.iload_n 1, 1) := by decide +kernel
theorem dX12_gapBits_5 : decode cX12_gapBits 5 = .ok (.ireturn, 1) := by decide +kernel
theorem dX12_gapBits_6 : decode cX12_gapBits 6 = .ok (.iload_n 2, 1) := by decide +kernel
theorem dX12_gapBits_7 : decode cX12_gapBits 7 = .ok (.iconst 1, 1) := by decide +kernel
theorem dX12_gapBits_8 : decode cX12_gapBits 8 = .ok (.if_icmp .ne 8, 3) := by decide +kernel
theorem dX12_gapBits_11 : decode cX12_gapBits 11 = .ok (.iload_n 1, 1) := by decide +kernel
theorem dX12_gapBits_12 : decode cX12_gapBits 12 = .ok (.invokestatic 148, 3) := by decide +kernel
theorem dX12_gapBits_15 : decode cX12_gapBits 15 = .ok (.ireturn, 1) := by decide +kernel
theorem dX12_gapBits_16 : decode cX12_gapBits 16 = .ok (.iload_n 2, 1) := by decide +kernel
theorem dX12_gapBits_17 : decode cX12_gapBits 17 = .ok (.iconst 2, 1) := by decide +kernel
theorem dX12_gapBits_18 : decode cX12_gapBits 18 = .ok (.if_icmp .ne 20, 3) := by decide +kernel
theorem dX12_gapBits_21 : decode cX12_gapBits 21 = .ok (.iload_n 1, 1) := by decide +kernel
theorem dX12_gapBits_22 : decode cX12_gapBits 22 = .ok (.invokestatic 145, 3) := by decide +kernel
theorem dX12_gapBits_25 : decode cX12_gapBits 25 = .ok (.iconst 1, 1) := by decide +kernel
theorem dX12_gapBits_26 : decode cX12_gapBits 26 = .ok (.isub, 1) := by decide +kernel
theorem dX12_gapBits_27 : decode cX12_gapBits 27 = .ok (.iload_n 1, 1) := by decide +kernel
theorem dX12_gapBits_28 : decode cX12_gapBits 28 = .ok (.invokestatic 145, 3) := by decide +kernel
theorem dX12_gapBits_31 : decode cX12_gapBits 31 = .ok (.invokestatic 148, 3) := by decide +kernel
theorem dX12_gapBits_34 : decode cX12_gapBits 34 = .ok (.iadd, 1) := by decide +kernel
theorem dX12_gapBits_35 : decode cX12_gapBits 35 = .ok (.goto 12, 3) := by decide +kernel
theorem dX12_gapBits_38 : decode cX12_gapBits 38 = .ok (.aload_n 0, 1) := by decide +kernel
theorem dX12_gapBits_39 : decode cX12_gapBits 39 = .ok (.getfield 9, 3) := by decide +kernel
theorem dX12_gapBits_42 : decode cX12_gapBits 42 = .ok (.iconst 0, 1) := by decide +kernel
theorem dX12_gapBits_43 : decode cX12_gapBits 43 = .ok (.iaload, 1) := by decide +kernel
theorem dX12_gapBits_44 : decode cX12_gapBits 44 = .ok (.invokestatic 145, 3) := by decide +kernel
theorem dX12_gapBits_47 : decode cX12_gapBits 47 = .ok (.ireturn, 1) := by decide +kernel
theorem dX12_listBits_0 : decode cX12_listBits 0 = .ok (.aload_n 0, 1) := by decide +kernel
theorem dX12_listBits_1 : decode cX12_listBits 1 = .ok (.iload_n 1, 1) := by decide +kernel
theorem dX12_listBits_2 : decode cX12_listBits 2 = .ok (.invokevirtual 151, 3) := by decide +kernel
theorem dX12_listBits_5 : decode cX12_listBits 5 = .ok (.iconst 0, 1) := by decide +kernel
theorem dX12_listBits_6 : decode cX12_listBits 6 = .ok (.istore_n 3, 1) := by decide +kernel
theorem dX12_listBits_7 : decode cX12_listBits 7 = .ok (.iconst 0, 1) := by decide +kernel
theorem dX12_listBits_8 : decode cX12_listBits 8 = .ok (.istore 4, 2) := by decide +kernel
theorem dX12_listBits_10 : decode cX12_listBits 10 = .ok (.iload 4, 2) := by decide +kernel
theorem dX12_listBits_12 : decode cX12_listBits 12 = .ok (.aload_n 0, 1) := by decide +kernel
theorem dX12_listBits_13 : decode cX12_listBits 13 = .ok (.getfield 139, 3) := by decide +kernel
theorem dX12_listBits_16 : decode cX12_listBits 16 = .ok (.if_icmp .ge 23, 3) := by decide +kernel
theorem dX12_listBits_19 : decode cX12_listBits 19 = .ok (.iload_n 3, 1) := by decide +kernel
theorem dX12_listBits_20 : decode cX12_listBits 20 = .ok (.aload_n 0, 1) := by decide +kernel
theorem dX12_listBits_21 : decode cX12_listBits 21 = .ok (.aload_n 0, 1) := by decide +kernel
theorem dX12_listBits_22 : decode cX12_listBits 22 = .ok (.iload 4, 2) := by decide +kernel
theorem dX12_listBits_24 : decode cX12_listBits 24 = .ok (.invokevirtual 154, 3) := by decide +kernel
theorem dX12_listBits_27 : decode cX12_listBits 27 = .ok (.iload_n 2, 1) := by decide +kernel
theorem dX12_listBits_28 : decode cX12_listBits 28 = .ok (.invokevirtual 157, 3) := by decide +kernel
theorem dX12_listBits_31 : decode cX12_listBits 31 = .ok (.iadd, 1) := by decide +kernel
theorem dX12_listBits_32 : decode cX12_listBits 32 = .ok (.istore_n 3, 1) := by decide +kernel
theorem dX12_listBits_33 : decode cX12_listBits 33 = .ok (.iinc 4 1, 3) := by decide +kernel
theorem dX12_listBits_36 : decode cX12_listBits 36 = .ok (.goto (-26), 3) := by decide +kernel
theorem dX12_listBits_39 : decode cX12_listBits 39 = .ok (.iload_n 3, 1) := by decide +kernel
theorem dX12_listBits_40 : decode cX12_listBits 40 = .ok (.ireturn, 1) := by decide +kernel
theorem dX12_allBits_0 : decode cX12_allBits 0 = .ok (.iconst 0, 1) := by decide +kernel
theorem dX12_allBits_1 : decode cX12_allBits 1 = .ok (.istore_n 2, 1) := by decide +kernel
theorem dX12_allBits_2 : decode cX12_allBits 2 = .ok (.iconst 0, 1) := by decide +kernel
theorem dX12_allBits_3 : decode cX12_allBits 3 = .ok (.istore_n 3, 1) := by decide +kernel
theorem dX12_allBits_4 : decode cX12_allBits 4 = .ok (.iload_n 3, 1) := by decide +kernel
theorem dX12_allBits_5 : decode cX12_allBits 5 = .ok (.bipush 8, 2) := by decide +kernel
theorem dX12_allBits_7 : decode cX12_allBits 7 = .ok (.if_icmp .ge 18, 3) := by decide +kernel
theorem dX12_allBits_10 : decode cX12_allBits 10 = .ok (.iload_n 2, 1) := by decide +kernel
theorem dX12_allBits_11 : decode cX12_allBits 11 = .ok (.aload_n 0, 1) := by decide +kernel
theorem dX12_allBits_12 : decode cX12_allBits 12 = .ok (.iload_n 3, 1) := by decide +kernel
theorem dX12_allBits_13 : decode cX12_allBits 13 = .ok (.iload_n 1, 1) := by decide +kernel
theorem dX12_allBits_14 : decode cX12_allBits 14 = .ok (.invokevirtual 161, 3) := by decide +kernel
theorem dX12_allBits_17 : decode cX12_allBits 17 = .ok (.iadd, 1) := by decide +kernel
theorem dX12_allBits_18 : decode cX12_allBits 18 = .ok (.istore_n 2, 1) := by decide +kernel
theorem dX12_allBits_19 : decode cX12_allBits 19 = .ok (.iinc 3 1, 3) := by decide +kernel
theorem dX12_allBits_22 : decode cX12_allBits 22 = .ok (.goto (-18), 3) := by decide +kernel
theorem dX12_allBits_25 : decode cX12_allBits 25 = .ok (.iload_n 2, 1) := by decide +kernel
theorem dX12_allBits_26 : decode cX12_allBits 26 = .ok (.ireturn, 1) := by decide +kernel
theorem dX12_list_0 : decode cX12_list 0 = .ok (.aload_n 0, 1) := by decide +kernel
theorem dX12_list_1 : decode cX12_list 1 = .ok (.iconst 0, 1) := by decide +kernel
theorem dX12_list_2 : decode cX12_list 2 = .ok (.putfield 64, 3) := by decide +kernel
theorem dX12_list_5 : decode cX12_list 5 = .ok (.iload_n 1, 1) := by decide +kernel
theorem dX12_list_6 : decode cX12_list 6 = .ok (.invokestatic 164, 3) := by decide +kernel
theorem dX12_list_9 : decode cX12_list 9 = .ok (.ifCond .ne 5, 3) := by decide +kernel
theorem dX12_list_12 : decode cX12_list 12 = .ok (.iconst (-1), 1) := by decide +kernel
theorem dX12_list_13 : decode cX12_list 13 = .ok (.ireturn, 1) := by decide +kernel
theorem dX12_list_14 : decode cX12_list 14 = .ok (.aload_n 0, 1) := by decide +kernel
theorem dX12_list_15 : decode cX12_list 15 = .ok (.iload_n 1, 1) := by decide +kernel
theorem dX12_list_16 : decode cX12_list 16 = .ok (.invokevirtual 151, 3) := by decide +kernel
theorem dX12_list_19 : decode cX12_list 19 = .ok (.aload_n 0, 1) := by decide +kernel
theorem dX12_list_20 : decode cX12_list 20 = .ok (.iconst 0, 1) := by decide +kernel
theorem dX12_list_21 : decode cX12_list 21 = .ok (.putfield 68, 3) := by decide +kernel
theorem dX12_list_24 : decode cX12_list 24 = .ok (.iconst 0, 1) := by decide +kernel
theorem dX12_list_25 : decode cX12_list 25 = .ok (.istore_n 2, 1) := by decide +kernel
theorem dX12_list_26 : decode cX12_list 26 = .ok (.iload_n 2, 1) := by decide +kernel
theorem dX12_list_27 : decode cX12_list 27 = .ok (.aload_n 0, 1) := by decide +kernel
theorem dX12_list_28 : decode cX12_list 28 = .ok (.getfield 139, 3) := by decide +kernel
theorem dX12_list_31 : decode cX12_list 31 = .ok (.if_icmp .ge 20, 3) := by decide +kernel
theorem dX12_list_34 : decode cX12_list 34 = .ok (.aload_n 0, 1) := by decide +kernel
theorem dX12_list_35 : decode cX12_list 35 = .ok (.aload_n 0, 1) := by decide +kernel
theorem dX12_list_36 : decode cX12_list 36 = .ok (.getfield 27, 3) := by decide +kernel
theorem dX12_list_39 : decode cX12_list 39 = .ok (.iload_n 2, 1) := by decide +kernel
theorem dX12_list_40 : decode cX12_list 40 = .ok (.iaload, 1) := by decide +kernel
theorem dX12_list_41 : decode cX12_list 41 = .ok (.i2l, 1) := by decide +kernel
theorem dX12_list_42 : decode cX12_list 42 = .ok (.invokevirtual 167, 3) := by decide +kernel
theorem dX12_list_45 : decode cX12_list 45 = .ok (.iinc 2 1, 3) := by decide +kernel
theorem dX12_list_48 : decode cX12_list 48 = .ok (.goto (-22), 3) := by decide +kernel
theorem dX12_list_51 : decode cX12_list 51 = .ok (.aload_n 0, 1) := by decide +kernel
theorem dX12_list_52 : decode cX12_list 52 = .ok (.getfield 139, 3) := by decide +kernel
theorem dX12_list_55 : decode cX12_list 55 = .ok (.ireturn, 1) := by decide +kernel
theorem dX12_bits_0 : decode cX12_bits 0 = .ok (.aload_n 0, 1) := by decide +kernel
theorem dX12_bits_1 : decode cX12_bits 1 = .ok (.iconst 0, 1) := by decide +kernel
theorem dX12_bits_2 : decode cX12_bits 2 = .ok (.putfield 64, 3) := by decide +kernel
theorem dX12_bits_5 : decode cX12_bits 5 = .ok (.iload_n 1, 1) := by decide +kernel
theorem dX12_bits_6 : decode cX12_bits 6 = .ok (.invokestatic 164, 3) := by decide +kernel
theorem dX12_bits_9 : decode cX12_bits 9 = .ok (.ifCond .eq 10, 3) := by decide +kernel
theorem dX12_bits_12 : decode cX12_bits 12 = .ok (.iload_n 2, 1) := by decide +kernel
theorem dX12_bits_13 : decode cX12_bits 13 = .ok (.invokestatic 171, 3) := by decide +kernel
theorem dX12_bits_16 : decode cX12_bits 16 = .ok (.ifCond .ne 5, 3) := by decide +kernel
theorem dX12_bits_19 : decode cX12_bits 19 = .ok (.iconst (-1), 1) := by decide +kernel
theorem dX12_bits_20 : decode cX12_bits 20 = .ok (.ireturn, 1) := by decide +kernel
theorem dX12_bits_21 : decode cX12_bits 21 = .ok (.aload_n 0, 1) := by decide +kernel
theorem dX12_bits_22 : decode cX12_bits 22 = .ok (.iload_n 1, 1) := by decide +kernel
theorem dX12_bits_23 : decode cX12_bits 23 = .ok (.iload_n 2, 1) := by decide +kernel
theorem dX12_bits_24 : decode cX12_bits 24 = .ok (.invokevirtual 161, 3) := by decide +kernel
theorem dX12_bits_27 : decode cX12_bits 27 = .ok (.istore_n 3, 1) := by decide +kernel
theorem dX12_bits_28 : decode cX12_bits 28 = .ok (.iconst 0, 1) := by decide +kernel
theorem dX12_bits_29 : decode cX12_bits 29 = .ok (.istore 4, 2) := by decide +kernel
theorem dX12_bits_31 : decode cX12_bits 31 = .ok (.iconst 0, 1) := by decide +kernel
theorem dX12_bits_32 : decode cX12_bits 32 = .ok (.istore 5, 2) := by decide +kernel
theorem dX12_bits_34 : decode cX12_bits 34 = .ok (.iload 5, 2) := by decide +kernel
theorem dX12_bits_36 : decode cX12_bits 36 = .ok (.aload_n 0, 1) := by decide +kernel
theorem dX12_bits_37 : decode cX12_bits 37 = .ok (.getfield 139, 3) := by decide +kernel
theorem dX12_bits_40 : decode cX12_bits 40 = .ok (.if_icmp .ge 22, 3) := by decide +kernel
theorem dX12_bits_43 : decode cX12_bits 43 = .ok (.iload 4, 2) := by decide +kernel
theorem dX12_bits_45 : decode cX12_bits 45 = .ok (.aload_n 0, 1) := by decide +kernel
theorem dX12_bits_46 : decode cX12_bits 46 = .ok (.iload 5, 2) := by decide +kernel
theorem dX12_bits_48 : decode cX12_bits 48 = .ok (.invokevirtual 154, 3) := by decide +kernel
theorem dX12_bits_51 : decode cX12_bits 51 = .ok (.invokestatic 174, 3) := by decide +kernel
theorem dX12_bits_54 : decode cX12_bits 54 = .ok (.istore 4, 2) := by decide +kernel
theorem dX12_bits_56 : decode cX12_bits 56 = .ok (.iinc 5 1, 3) := by decide +kernel
theorem dX12_bits_59 : decode cX12_bits 59 = .ok (.goto (-25), 3) := by decide +kernel
theorem dX12_bits_62 : decode cX12_bits 62 = .ok (.aload_n 0, 1) := by decide +kernel
theorem dX12_bits_63 : decode cX12_bits 63 = .ok (.iconst 0, 1) := by decide +kernel
theorem dX12_bits_64 : decode cX12_bits 64 = .ok (.putfield 68, 3) := by decide +kernel
theorem dX12_bits_67 : decode cX12_bits 67 = .ok (.aload_n 0, 1) := by decide +kernel
theorem dX12_bits_68 : decode cX12_bits 68 = .ok (.iload 4, 2) := by decide +kernel
theorem dX12_bits_70 : decode cX12_bits 70 = .ok (.i2l, 1) := by decide +kernel
theorem dX12_bits_71 : decode cX12_bits 71 = .ok (.invokevirtual 167, 3) := by decide +kernel
theorem dX12_bits_74 : decode cX12_bits 74 = .ok (.iload_n 3, 1) := by decide +kernel
theorem dX12_bits_75 : decode cX12_bits 75 = .ok (.ireturn, 1) := by decide +kernel
theorem dX12_all_0 : decode cX12_all 0 = .ok (.aload_n 0, 1) := by decide +kernel
theorem dX12_all_1 : decode cX12_all 1 = .ok (.iconst 0, 1) := by decide +kernel
theorem dX12_all_2 : decode cX12_all 2 = .ok (.putfield 64, 3) := by decide +kernel
theorem dX12_all_5 : decode cX12_all 5 = .ok (.iload_n 1, 1) := by decide +kernel
theorem dX12_all_6 : decode cX12_all 6 = .ok (.invokestatic 171, 3) := by decide +kernel
theorem dX12_all_9 : decode cX12_all 9 = .ok (.ifCond .ne 5, 3) := by decide +kernel
theorem dX12_all_12 : decode cX12_all 12 = .ok (.iconst (-1), 1) := by decide +kernel
theorem dX12_all_13 : decode cX12_all 13 = .ok (.ireturn, 1) := by decide +kernel
theorem dX12_all_14 : decode cX12_all 14 = .ok (.aload_n 0, 1) := by decide +kernel
theorem dX12_all_15 : decode cX12_all 15 = .ok (.iconst 0, 1) := by decide +kernel
theorem dX12_all_16 : decode cX12_all 16 = .ok (.putfield 68, 3) := by decide +kernel
theorem dX12_all_19 : decode cX12_all 19 = .ok (.iconst 0, 1) := by decide +kernel
theorem dX12_all_20 : decode cX12_all 20 = .ok (.istore_n 2, 1) := by decide +kernel
theorem dX12_all_21 : decode cX12_all 21 = .ok (.iload_n 2, 1) := by decide +kernel
theorem dX12_all_22 : decode cX12_all 22 = .ok (.bipush 8, 2) := by decide +kernel
theorem dX12_all_24 : decode cX12_all 24 = .ok (.if_icmp .ge 20, 3) := by decide +kernel
theorem dX12_all_27 : decode cX12_all 27 = .ok (.aload_n 0, 1) := by decide +kernel
theorem dX12_all_28 : decode cX12_all 28 = .ok (.aload_n 0, 1) := by decide +kernel
theorem dX12_all_29 : decode cX12_all 29 = .ok (.iload_n 2, 1) := by decide +kernel
theorem dX12_all_30 : decode cX12_all 30 = .ok (.iload_n 1, 1) := by decide +kernel
theorem dX12_all_31 : decode cX12_all 31 = .ok (.invokevirtual 161, 3) := by decide +kernel
theorem dX12_all_34 : decode cX12_all 34 = .ok (.i2l, 1) := by decide +kernel
theorem dX12_all_35 : decode cX12_all 35 = .ok (.invokevirtual 167, 3) := by decide +kernel
theorem dX12_all_38 : decode cX12_all 38 = .ok (.iinc 2 1, 3) := by decide +kernel
theorem dX12_all_41 : decode cX12_all 41 = .ok (.goto (-20), 3) := by decide +kernel
theorem dX12_all_44 : decode cX12_all 44 = .ok (.aload_n 0, 1) := by decide +kernel
theorem dX12_all_45 : decode cX12_all 45 = .ok (.iload_n 1, 1) := by decide +kernel
theorem dX12_all_46 : decode cX12_all 46 = .ok (.invokevirtual 179, 3) := by decide +kernel
theorem dX12_all_49 : decode cX12_all 49 = .ok (.ireturn, 1) := by decide +kernel
theorem dX12_shortest_0 : decode cX12_shortest 0 = .ok (.aload_n 0, 1) := by decide +kernel
theorem dX12_shortest_1 : decode cX12_shortest 1 = .ok (.iconst 0, 1) := by decide +kernel
theorem dX12_shortest_2 : decode cX12_shortest 2 = .ok (.putfield 64, 3) := by decide +kernel
theorem dX12_shortest_5 : decode cX12_shortest 5 = .ok (.iload_n 1, 1) := by decide +kernel
theorem dX12_shortest_6 : decode cX12_shortest 6 = .ok (.invokestatic 164, 3) := by decide +kernel
theorem dX12_shortest_9 : decode cX12_shortest 9 = .ok (.ifCond .ne 5, 3) := by decide +kernel
theorem dX12_shortest_12 : decode cX12_shortest 12 = .ok (.iconst (-1), 1) := by decide +kernel
theorem dX12_shortest_13 : decode cX12_shortest 13 = .ok (.ireturn, 1) := by decide +kernel
theorem dX12_shortest_14 : decode cX12_shortest 14 = .ok (.aload_n 0, 1) := by decide +kernel
theorem dX12_shortest_15 : decode cX12_shortest 15 = .ok (.iload_n 1, 1) := by decide +kernel
theorem dX12_shortest_16 : decode cX12_shortest 16 = .ok (.invokevirtual 151, 3) := by decide +kernel
theorem dX12_shortest_19 : decode cX12_shortest 19 = .ok (.aload_n 0, 1) := by decide +kernel
theorem dX12_shortest_20 : decode cX12_shortest 20 = .ok (.getfield 139, 3) := by decide +kernel
theorem dX12_shortest_23 : decode cX12_shortest 23 = .ok (.ifCond .ne 6, 3) := by decide +kernel
theorem dX12_shortest_26 : decode cX12_shortest 26 = .ok (.bipush (-2), 2) := by decide +kernel
theorem dX12_shortest_28 : decode cX12_shortest 28 = .ok (.ireturn, 1) := by decide +kernel
theorem dX12_shortest_29 : decode cX12_shortest 29 = .ok (.iconst 0, 1) := by decide +kernel
theorem dX12_shortest_30 : decode cX12_shortest 30 = .ok (.istore_n 2, 1) := by decide +kernel
theorem dX12_shortest_31 : decode cX12_shortest 31 = .ok (.iconst 1, 1) := by decide +kernel
theorem dX12_shortest_32 : decode cX12_shortest 32 = .ok (.istore_n 3, 1) := by decide +kernel
theorem dX12_shortest_33 : decode cX12_shortest 33 = .ok (.iload_n 3, 1) := by decide +kernel
theorem dX12_shortest_34 : decode cX12_shortest 34 = .ok (.iconst 4, 1) := by decide +kernel
theorem dX12_shortest_35 : decode cX12_shortest 35 = .ok (.if_icmp .ge 26, 3) := by decide +kernel
theorem dX12_shortest_38 : decode cX12_shortest 38 = .ok (.aload_n 0, 1) := by decide +kernel
theorem dX12_shortest_39 : decode cX12_shortest 39 = .ok (.iload_n 1, 1) := by decide +kernel
theorem dX12_shortest_40 : decode cX12_shortest 40 = .ok (.iload_n 3, 1) := by decide +kernel
theorem dX12_shortest_41 : decode cX12_shortest 41 = .ok (.invokevirtual 161, 3) := by decide +kernel
theorem dX12_shortest_44 : decode cX12_shortest 44 = .ok (.aload_n 0, 1) := by decide +kernel
theorem dX12_shortest_45 : decode cX12_shortest 45 = .ok (.iload_n 1, 1) := by decide +kernel
theorem dX12_shortest_46 : decode cX12_shortest 46 = .ok (.iload_n 2, 1) := by decide +kernel
theorem dX12_shortest_47 : decode cX12_shortest 47 = .ok (.invokevirtual 161, 3) := by decide +kernel
theorem dX12_shortest_50 : decode cX12_shortest 50 = .ok (.if_icmp .ge 5, 3) := by decide +kernel
theorem dX12_shortest_53 : decode cX12_shortest 53 = .ok (.iload_n 3, 1) := by decide +kernel
theorem dX12_shortest_54 : decode cX12_shortest 54 = .ok (.istore_n 2, 1) := by decide +kernel
theorem dX12_shortest_55 : decode cX12_shortest 55 = .ok (.iinc 3 1, 3) := by decide +kernel
theorem dX12_shortest_58 : decode cX12_shortest 58 = .ok (.goto (-25), 3) := by decide +kernel
theorem dX12_shortest_61 : decode cX12_shortest 61 = .ok (.aload_n 0, 1) := by decide +kernel
theorem dX12_shortest_62 : decode cX12_shortest 62 = .ok (.iconst 0, 1) := by decide +kernel
theorem dX12_shortest_63 : decode cX12_shortest 63 = .ok (.putfield 68, 3) := by decide +kernel
theorem dX12_shortest_66 : decode cX12_shortest 66 = .ok (.aload_n 0, 1) := by decide +kernel
theorem dX12_shortest_67 : decode cX12_shortest 67 = .ok (.aload_n 0, 1) := by decide +kernel
theorem dX12_shortest_68 : decode cX12_shortest 68 = .ok (.iload_n 1, 1) := by decide +kernel
theorem dX12_shortest_69 : decode cX12_shortest 69 = .ok (.iload_n 2, 1) := by decide +kernel
theorem dX12_shortest_70 : decode cX12_shortest 70 = .ok (.invokevirtual 161, 3) := by decide +kernel
theorem dX12_shortest_73 : decode cX12_shortest 73 = .ok (.i2l, 1) := by decide +kernel
theorem dX12_shortest_74 : decode cX12_shortest 74 = .ok (.invokevirtual 167, 3) := by decide +kernel
theorem dX12_shortest_77 : decode cX12_shortest 77 = .ok (.iload_n 2, 1) := by decide +kernel
theorem dX12_shortest_78 : decode cX12_shortest 78 = .ok (.ireturn, 1) := by decide +kernel
theorem dX12_write_0 : decode cX12_write 0 = .ok (.iconst 0, 1) := by decide +kernel
theorem dX12_write_1 : decode cX12_write 1 = .ok (.istore_n 3, 1) := by decide +kernel
theorem dX12_write_2 : decode cX12_write 2 = .ok (.iload_n 3, 1) := by decide +kernel
theorem dX12_write_3 : decode cX12_write 3 = .ok (.iload_n 2, 1) := by decide +kernel
theorem dX12_write_4 : decode cX12_write 4 = .ok (.if_icmp .ge 26, 3) := by decide +kernel
theorem dX12_write_7 : decode cX12_write 7 = .ok (.aload_n 0, 1) := by decide +kernel
theorem dX12_write_8 : decode cX12_write 8 = .ok (.getfield 30, 3) := by decide +kernel
theorem dX12_write_11 : decode cX12_write 11 = .ok (.aload_n 0, 1) := by decide +kernel
theorem dX12_write_12 : decode cX12_write 12 = .ok (.dup, 1) := by decide +kernel
theorem dX12_write_13 : decode cX12_write 13 = .ok (.getfield 182, 3) := by decide +kernel
theorem dX12_write_16 : decode cX12_write 16 = .ok (.dup_x1, 1) := by decide +kernel
theorem dX12_write_17 : decode cX12_write 17 = .ok (.iconst 1, 1) := by decide +kernel
theorem dX12_write_18 : decode cX12_write 18 = .ok (.iadd, 1) := by decide +kernel
theorem dX12_write_19 : decode cX12_write 19 = .ok (.putfield 182, 3) := by decide +kernel
theorem dX12_write_22 : decode cX12_write 22 = .ok (.iload_n 1, 1) := by decide +kernel
theorem dX12_write_23 : decode cX12_write 23 = .ok (.iastore, 1) := by decide +kernel
theorem dX12_write_24 : decode cX12_write 24 = .ok (.iinc 3 1, 3) := by decide +kernel
theorem dX12_write_27 : decode cX12_write 27 = .ok (.goto (-25), 3) := by decide +kernel
theorem dX12_write_30 : decode cX12_write 30 = .ok (.return_, 1) := by decide +kernel
theorem dX12_writeNumber_0 : decode cX12_writeNumber 0 = .ok (.iload_n 2, 1) := by decide +kernel
theorem dX12_writeNumber_1 : decode cX12_writeNumber 1 = .ok (.iconst 1, 1) := by decide +kernel
theorem dX12_writeNumber_2 : decode cX12_writeNumber 2 = .ok (.isub, 1) := by decide +kernel
theorem dX12_writeNumber_3 : decode cX12_writeNumber 3 = .ok (.istore_n 3, 1) := by decide +kernel
theorem dX12_writeNumber_4 : decode cX12_writeNumber 4 = .ok (.iload_n 3, 1) := by decide +kernel
theorem dX12_writeNumber_5 : decode cX12_writeNumber 5 = .ok (.ifCond .lt 19, 3) := by decide +kernel
theorem dX12_writeNumber_8 : decode cX12_writeNumber 8 = .ok (.aload_n 0, 1) := by decide +kernel
theorem dX12_writeNumber_9 : decode cX12_writeNumber 9 = .ok (.iload_n 1, 1) := by decide +kernel
theorem dX12_writeNumber_10 : decode cX12_writeNumber 10 = .ok (.iload_n 3, 1) := by decide +kernel
theorem dX12_writeNumber_11 : decode cX12_writeNumber 11 = .ok (.ishr, 1) := by decide +kernel
theorem dX12_writeNumber_12 : decode cX12_writeNumber 12 = .ok (.iconst 1, 1) := by decide +kernel
theorem dX12_writeNumber_13 : decode cX12_writeNumber 13 = .ok (.iand, 1) := by decide +kernel
theorem dX12_writeNumber_14 : decode cX12_writeNumber 14 = .ok (.iconst 1, 1) := by decide +kernel
theorem dX12_writeNumber_15 : decode cX12_writeNumber 15 = .ok (.invokevirtual 185, 3) := by decide +kernel
theorem dX12_writeNumber_18 : decode cX12_writeNumber 18 = .ok (.iinc 3 (-1), 3) := by decide +kernel
theorem dX12_writeNumber_21 : decode cX12_writeNumber 21 = .ok (.goto (-17), 3) := by decide +kernel
theorem dX12_writeNumber_24 : decode cX12_writeNumber 24 = .ok (.return_, 1) := by decide +kernel
theorem dX12_writeGamma_0 : decode cX12_writeGamma 0 = .ok (.aload_n 0, 1) := by decide +kernel
theorem dX12_writeGamma_1 : decode cX12_writeGamma 1 = .ok (.iconst 0, 1) := by decide +kernel
theorem dX12_writeGamma_2 : decode cX12_writeGamma 2 = .ok (.iload_n 1, 1) := by decide +kernel
theorem dX12_writeGamma_3 : decode cX12_writeGamma 3 = .ok (.invokestatic 145, 3) := by decide +kernel
theorem dX12_writeGamma_6 : decode cX12_writeGamma 6 = .ok (.iconst 1, 1) := by decide +kernel
theorem dX12_writeGamma_7 : decode cX12_writeGamma 7 = .ok (.isub, 1) := by decide +kernel
theorem dX12_writeGamma_8 : decode cX12_writeGamma 8 = .ok (.invokevirtual 185, 3) := by decide +kernel
theorem dX12_writeGamma_11 : decode cX12_writeGamma 11 = .ok (.aload_n 0, 1) := by decide +kernel
theorem dX12_writeGamma_12 : decode cX12_writeGamma 12 = .ok (.iload_n 1, 1) := by decide +kernel
theorem dX12_writeGamma_13 : decode cX12_writeGamma 13 = .ok (.iload_n 1, 1) := by decide +kernel
theorem dX12_writeGamma_14 : decode cX12_writeGamma 14 = .ok (.invokestatic 145, 3) := by decide +kernel
theorem dX12_writeGamma_17 : decode cX12_writeGamma 17 = .ok (.invokevirtual 189, 3) := by decide +kernel
theorem dX12_writeGamma_20 : decode cX12_writeGamma 20 = .ok (.return_, 1) := by decide +kernel
theorem dX12_writeGap_0 : decode cX12_writeGap 0 = .ok (.iload_n 2, 1) := by decide +kernel
theorem dX12_writeGap_1 : decode cX12_writeGap 1 = .ok (.tableswitch 74 0 2 #[27, 44, 52], 27) := by decide +kernel
theorem dX12_writeGap_28 : decode cX12_writeGap 28 = .ok (.aload_n 0, 1) := by decide +kernel
theorem dX12_writeGap_29 : decode cX12_writeGap 29 = .ok (.iconst 1, 1) := by decide +kernel
theorem dX12_writeGap_30 : decode cX12_writeGap 30 = .ok (.iload_n 1, 1) := by decide +kernel
theorem dX12_writeGap_31 : decode cX12_writeGap 31 = .ok (.iconst 1, 1) := by decide +kernel
theorem dX12_writeGap_32 : decode cX12_writeGap 32 = .ok (.isub, 1) := by decide +kernel
theorem dX12_writeGap_33 : decode cX12_writeGap 33 = .ok (.invokevirtual 185, 3) := by decide +kernel
theorem dX12_writeGap_36 : decode cX12_writeGap 36 = .ok (.aload_n 0, 1) := by decide +kernel
theorem dX12_writeGap_37 : decode cX12_writeGap 37 = .ok (.iconst 0, 1) := by decide +kernel
theorem dX12_writeGap_38 : decode cX12_writeGap 38 = .ok (.iconst 1, 1) := by decide +kernel
theorem dX12_writeGap_39 : decode cX12_writeGap 39 = .ok (.invokevirtual 185, 3) := by decide +kernel
theorem dX12_writeGap_42 : decode cX12_writeGap 42 = .ok (.goto 47, 3) := by decide +kernel
theorem dX12_writeGap_45 : decode cX12_writeGap 45 = .ok (.aload_n 0, 1) := by decide +kernel
theorem dX12_writeGap_46 : decode cX12_writeGap 46 = .ok (.iload_n 1, 1) := by decide +kernel
theorem dX12_writeGap_47 : decode cX12_writeGap 47 = .ok (.invokevirtual 192, 3) := by decide +kernel
theorem dX12_writeGap_50 : decode cX12_writeGap 50 = .ok (.goto 39, 3) := by decide +kernel
theorem dX12_writeGap_53 : decode cX12_writeGap 53 = .ok (.aload_n 0, 1) := by decide +kernel
theorem dX12_writeGap_54 : decode cX12_writeGap 54 = .ok (.iload_n 1, 1) := by decide +kernel
theorem dX12_writeGap_55 : decode cX12_writeGap 55 = .ok (.invokestatic 145, 3) := by decide +kernel
theorem dX12_writeGap_58 : decode cX12_writeGap 58 = .ok (.invokevirtual 192, 3) := by decide +kernel
theorem dX12_writeGap_61 : decode cX12_writeGap 61 = .ok (.aload_n 0, 1) := by decide +kernel
theorem dX12_writeGap_62 : decode cX12_writeGap 62 = .ok (.iload_n 1, 1) := by decide +kernel
theorem dX12_writeGap_63 : decode cX12_writeGap 63 = .ok (.iload_n 1, 1) := by decide +kernel
theorem dX12_writeGap_64 : decode cX12_writeGap 64 = .ok (.invokestatic 145, 3) := by decide +kernel
theorem dX12_writeGap_67 : decode cX12_writeGap 67 = .ok (.iconst 1, 1) := by decide +kernel
theorem dX12_writeGap_68 : decode cX12_writeGap 68 = .ok (.isub, 1) := by decide +kernel
theorem dX12_writeGap_69 : decode cX12_writeGap 69 = .ok (.invokevirtual 189, 3) := by decide +kernel
theorem dX12_writeGap_72 : decode cX12_writeGap 72 = .ok (.goto 17, 3) := by decide +kernel
theorem dX12_writeGap_75 : decode cX12_writeGap 75 = .ok (.aload_n 0, 1) := by decide +kernel
theorem dX12_writeGap_76 : decode cX12_writeGap 76 = .ok (.iload_n 1, 1) := by decide +kernel
theorem dX12_writeGap_77 : decode cX12_writeGap 77 = .ok (.aload_n 0, 1) := by decide +kernel
theorem dX12_writeGap_78 : decode cX12_writeGap 78 = .ok (.getfield 9, 3) := by decide +kernel
theorem dX12_writeGap_81 : decode cX12_writeGap 81 = .ok (.iconst 0, 1) := by decide +kernel
theorem dX12_writeGap_82 : decode cX12_writeGap 82 = .ok (.iaload, 1) := by decide +kernel
theorem dX12_writeGap_83 : decode cX12_writeGap 83 = .ok (.invokestatic 145, 3) := by decide +kernel
theorem dX12_writeGap_86 : decode cX12_writeGap 86 = .ok (.invokevirtual 189, 3) := by decide +kernel
theorem dX12_writeGap_89 : decode cX12_writeGap 89 = .ok (.return_, 1) := by decide +kernel
theorem dX12_written_0 : decode cX12_written 0 = .ok (.aload_n 0, 1) := by decide +kernel
theorem dX12_written_1 : decode cX12_written 1 = .ok (.iconst 0, 1) := by decide +kernel
theorem dX12_written_2 : decode cX12_written 2 = .ok (.putfield 64, 3) := by decide +kernel
theorem dX12_written_5 : decode cX12_written 5 = .ok (.iload_n 1, 1) := by decide +kernel
theorem dX12_written_6 : decode cX12_written 6 = .ok (.invokestatic 164, 3) := by decide +kernel
theorem dX12_written_9 : decode cX12_written 9 = .ok (.ifCond .eq 10, 3) := by decide +kernel
theorem dX12_written_12 : decode cX12_written 12 = .ok (.iload_n 2, 1) := by decide +kernel
theorem dX12_written_13 : decode cX12_written 13 = .ok (.invokestatic 171, 3) := by decide +kernel
theorem dX12_written_16 : decode cX12_written 16 = .ok (.ifCond .ne 5, 3) := by decide +kernel
theorem dX12_written_19 : decode cX12_written 19 = .ok (.iconst (-1), 1) := by decide +kernel
theorem dX12_written_20 : decode cX12_written 20 = .ok (.ireturn, 1) := by decide +kernel
theorem dX12_written_21 : decode cX12_written 21 = .ok (.aload_n 0, 1) := by decide +kernel
theorem dX12_written_22 : decode cX12_written 22 = .ok (.iload_n 1, 1) := by decide +kernel
theorem dX12_written_23 : decode cX12_written 23 = .ok (.invokevirtual 151, 3) := by decide +kernel
theorem dX12_written_26 : decode cX12_written 26 = .ok (.aload_n 0, 1) := by decide +kernel
theorem dX12_written_27 : decode cX12_written 27 = .ok (.iconst 0, 1) := by decide +kernel
theorem dX12_written_28 : decode cX12_written 28 = .ok (.putfield 182, 3) := by decide +kernel
theorem dX12_written_31 : decode cX12_written 31 = .ok (.iconst 0, 1) := by decide +kernel
theorem dX12_written_32 : decode cX12_written 32 = .ok (.istore_n 3, 1) := by decide +kernel
theorem dX12_written_33 : decode cX12_written 33 = .ok (.iload_n 3, 1) := by decide +kernel
theorem dX12_written_34 : decode cX12_written 34 = .ok (.aload_n 0, 1) := by decide +kernel
theorem dX12_written_35 : decode cX12_written 35 = .ok (.getfield 139, 3) := by decide +kernel
theorem dX12_written_38 : decode cX12_written 38 = .ok (.if_icmp .ge 19, 3) := by decide +kernel
theorem dX12_written_41 : decode cX12_written 41 = .ok (.aload_n 0, 1) := by decide +kernel
theorem dX12_written_42 : decode cX12_written 42 = .ok (.aload_n 0, 1) := by decide +kernel
theorem dX12_written_43 : decode cX12_written 43 = .ok (.iload_n 3, 1) := by decide +kernel
theorem dX12_written_44 : decode cX12_written 44 = .ok (.invokevirtual 154, 3) := by decide +kernel
theorem dX12_written_47 : decode cX12_written 47 = .ok (.iload_n 2, 1) := by decide +kernel
theorem dX12_written_48 : decode cX12_written 48 = .ok (.invokevirtual 195, 3) := by decide +kernel
theorem dX12_written_51 : decode cX12_written 51 = .ok (.iinc 3 1, 3) := by decide +kernel
theorem dX12_written_54 : decode cX12_written 54 = .ok (.goto (-21), 3) := by decide +kernel
theorem dX12_written_57 : decode cX12_written 57 = .ok (.aload_n 0, 1) := by decide +kernel
theorem dX12_written_58 : decode cX12_written 58 = .ok (.getfield 182, 3) := by decide +kernel
theorem dX12_written_61 : decode cX12_written 61 = .ok (.bipush 8, 2) := by decide +kernel
theorem dX12_written_63 : decode cX12_written 63 = .ok (.irem, 1) := by decide +kernel
theorem dX12_written_64 : decode cX12_written 64 = .ok (.ifCond .eq 12, 3) := by decide +kernel
theorem dX12_written_67 : decode cX12_written 67 = .ok (.aload_n 0, 1) := by decide +kernel
theorem dX12_written_68 : decode cX12_written 68 = .ok (.iconst 0, 1) := by decide +kernel
theorem dX12_written_69 : decode cX12_written 69 = .ok (.iconst 1, 1) := by decide +kernel
theorem dX12_written_70 : decode cX12_written 70 = .ok (.invokevirtual 185, 3) := by decide +kernel
theorem dX12_written_73 : decode cX12_written 73 = .ok (.goto (-16), 3) := by decide +kernel
theorem dX12_written_76 : decode cX12_written 76 = .ok (.aload_n 0, 1) := by decide +kernel
theorem dX12_written_77 : decode cX12_written 77 = .ok (.iconst 0, 1) := by decide +kernel
theorem dX12_written_78 : decode cX12_written 78 = .ok (.putfield 68, 3) := by decide +kernel
theorem dX12_written_81 : decode cX12_written 81 = .ok (.iconst 0, 1) := by decide +kernel
theorem dX12_written_82 : decode cX12_written 82 = .ok (.istore_n 3, 1) := by decide +kernel
theorem dX12_written_83 : decode cX12_written 83 = .ok (.iload_n 3, 1) := by decide +kernel
theorem dX12_written_84 : decode cX12_written 84 = .ok (.aload_n 0, 1) := by decide +kernel
theorem dX12_written_85 : decode cX12_written 85 = .ok (.getfield 182, 3) := by decide +kernel
theorem dX12_written_88 : decode cX12_written 88 = .ok (.if_icmp .ge 51, 3) := by decide +kernel
theorem dX12_written_91 : decode cX12_written 91 = .ok (.iconst 0, 1) := by decide +kernel
theorem dX12_written_92 : decode cX12_written 92 = .ok (.istore 4, 2) := by decide +kernel
theorem dX12_written_94 : decode cX12_written 94 = .ok (.iconst 0, 1) := by decide +kernel
theorem dX12_written_95 : decode cX12_written 95 = .ok (.istore 5, 2) := by decide +kernel
theorem dX12_written_97 : decode cX12_written 97 = .ok (.iload 5, 2) := by decide +kernel
theorem dX12_written_99 : decode cX12_written 99 = .ok (.bipush 8, 2) := by decide +kernel
theorem dX12_written_101 : decode cX12_written 101 = .ok (.if_icmp .ge 25, 3) := by decide +kernel
theorem dX12_written_104 : decode cX12_written 104 = .ok (.iconst 2, 1) := by decide +kernel
theorem dX12_written_105 : decode cX12_written 105 = .ok (.iload 4, 2) := by decide +kernel
theorem dX12_written_107 : decode cX12_written 107 = .ok (.imul, 1) := by decide +kernel
theorem dX12_written_108 : decode cX12_written 108 = .ok (.aload_n 0, 1) := by decide +kernel
theorem dX12_written_109 : decode cX12_written 109 = .ok (.getfield 30, 3) := by decide +kernel
theorem dX12_written_112 : decode cX12_written 112 = .ok (.iload_n 3, 1) := by decide +kernel
theorem dX12_written_113 : decode cX12_written 113 = .ok (.iload 5, 2) := by decide +kernel
theorem dX12_written_115 : decode cX12_written 115 = .ok (.iadd, 1) := by decide +kernel
theorem dX12_written_116 : decode cX12_written 116 = .ok (.iaload, 1) := by decide +kernel
theorem dX12_written_117 : decode cX12_written 117 = .ok (.iadd, 1) := by decide +kernel
theorem dX12_written_118 : decode cX12_written 118 = .ok (.istore 4, 2) := by decide +kernel
theorem dX12_written_120 : decode cX12_written 120 = .ok (.iinc 5 1, 3) := by decide +kernel
theorem dX12_written_123 : decode cX12_written 123 = .ok (.goto (-26), 3) := by decide +kernel
theorem dX12_written_126 : decode cX12_written 126 = .ok (.aload_n 0, 1) := by decide +kernel
theorem dX12_written_127 : decode cX12_written 127 = .ok (.iload 4, 2) := by decide +kernel
theorem dX12_written_129 : decode cX12_written 129 = .ok (.i2l, 1) := by decide +kernel
theorem dX12_written_130 : decode cX12_written 130 = .ok (.invokevirtual 167, 3) := by decide +kernel
theorem dX12_written_133 : decode cX12_written 133 = .ok (.iinc 3 8, 3) := by decide +kernel
theorem dX12_written_136 : decode cX12_written 136 = .ok (.goto (-53), 3) := by decide +kernel
theorem dX12_written_139 : decode cX12_written 139 = .ok (.aload_n 0, 1) := by decide +kernel
theorem dX12_written_140 : decode cX12_written 140 = .ok (.getfield 68, 3) := by decide +kernel
theorem dX12_written_143 : decode cX12_written 143 = .ok (.ireturn, 1) := by decide +kernel
theorem dX12_readBit_0 : decode cX12_readBit 0 = .ok (.aload_n 0, 1) := by decide +kernel
theorem dX12_readBit_1 : decode cX12_readBit 1 = .ok (.getfield 198, 3) := by decide +kernel
theorem dX12_readBit_4 : decode cX12_readBit 4 = .ok (.bipush 8, 2) := by decide +kernel
theorem dX12_readBit_6 : decode cX12_readBit 6 = .ok (.aload_n 0, 1) := by decide +kernel
theorem dX12_readBit_7 : decode cX12_readBit 7 = .ok (.getfield 86, 3) := by decide +kernel
theorem dX12_readBit_10 : decode cX12_readBit 10 = .ok (.imul, 1) := by decide +kernel
theorem dX12_readBit_11 : decode cX12_readBit 11 = .ok (.if_icmp .lt 8, 3) := by decide +kernel
theorem dX12_readBit_14 : decode cX12_readBit 14 = .ok (.aload_n 0, 1) := by decide +kernel
theorem dX12_readBit_15 : decode cX12_readBit 15 = .ok (.iconst 0, 1) := by decide +kernel
theorem dX12_readBit_16 : decode cX12_readBit 16 = .ok (.putfield 201, 3) := by decide +kernel
theorem dX12_readBit_19 : decode cX12_readBit 19 = .ok (.aload_n 0, 1) := by decide +kernel
theorem dX12_readBit_20 : decode cX12_readBit 20 = .ok (.getfield 201, 3) := by decide +kernel
theorem dX12_readBit_23 : decode cX12_readBit 23 = .ok (.ifCond .ne 5, 3) := by decide +kernel
theorem dX12_readBit_26 : decode cX12_readBit 26 = .ok (.iconst 0, 1) := by decide +kernel
theorem dX12_readBit_27 : decode cX12_readBit 27 = .ok (.ireturn, 1) := by decide +kernel
theorem dX12_readBit_28 : decode cX12_readBit 28 = .ok (.aload_n 0, 1) := by decide +kernel
theorem dX12_readBit_29 : decode cX12_readBit 29 = .ok (.getfield 13, 3) := by decide +kernel
theorem dX12_readBit_32 : decode cX12_readBit 32 = .ok (.aload_n 0, 1) := by decide +kernel
theorem dX12_readBit_33 : decode cX12_readBit 33 = .ok (.getfield 198, 3) := by decide +kernel
theorem dX12_readBit_36 : decode cX12_readBit 36 = .ok (.bipush 8, 2) := by decide +kernel
theorem dX12_readBit_38 : decode cX12_readBit 38 = .ok (.idiv, 1) := by decide +kernel
theorem dX12_readBit_39 : decode cX12_readBit 39 = .ok (.baload, 1) := by decide +kernel
theorem dX12_readBit_40 : decode cX12_readBit 40 = .ok (.bipush 7, 2) := by decide +kernel
theorem dX12_readBit_42 : decode cX12_readBit 42 = .ok (.aload_n 0, 1) := by decide +kernel
theorem dX12_readBit_43 : decode cX12_readBit 43 = .ok (.getfield 198, 3) := by decide +kernel
theorem dX12_readBit_46 : decode cX12_readBit 46 = .ok (.bipush 8, 2) := by decide +kernel
theorem dX12_readBit_48 : decode cX12_readBit 48 = .ok (.irem, 1) := by decide +kernel
theorem dX12_readBit_49 : decode cX12_readBit 49 = .ok (.isub, 1) := by decide +kernel
theorem dX12_readBit_50 : decode cX12_readBit 50 = .ok (.ishr, 1) := by decide +kernel
theorem dX12_readBit_51 : decode cX12_readBit 51 = .ok (.iconst 1, 1) := by decide +kernel
theorem dX12_readBit_52 : decode cX12_readBit 52 = .ok (.iand, 1) := by decide +kernel
theorem dX12_readBit_53 : decode cX12_readBit 53 = .ok (.istore_n 1, 1) := by decide +kernel
theorem dX12_readBit_54 : decode cX12_readBit 54 = .ok (.aload_n 0, 1) := by decide +kernel
theorem dX12_readBit_55 : decode cX12_readBit 55 = .ok (.dup, 1) := by decide +kernel
theorem dX12_readBit_56 : decode cX12_readBit 56 = .ok (.getfield 198, 3) := by decide +kernel
theorem dX12_readBit_59 : decode cX12_readBit 59 = .ok (.iconst 1, 1) := by decide +kernel
theorem dX12_readBit_60 : decode cX12_readBit 60 = .ok (.iadd, 1) := by decide +kernel
theorem dX12_readBit_61 : decode cX12_readBit 61 = .ok (.putfield 198, 3) := by decide +kernel
theorem dX12_readBit_64 : decode cX12_readBit 64 = .ok (.iload_n 1, 1) := by decide +kernel
theorem dX12_readBit_65 : decode cX12_readBit 65 = .ok (.ireturn, 1) := by decide +kernel
theorem dX12_readNumber_0 : decode cX12_readNumber 0 = .ok (.iload_n 2, 1) := by decide +kernel
theorem dX12_readNumber_1 : decode cX12_readNumber 1 = .ok (.istore_n 3, 1) := by decide +kernel
theorem dX12_readNumber_2 : decode cX12_readNumber 2 = .ok (.iconst 0, 1) := by decide +kernel
theorem dX12_readNumber_3 : decode cX12_readNumber 3 = .ok (.istore 4, 2) := by decide +kernel
theorem dX12_readNumber_5 : decode cX12_readNumber 5 = .ok (.iload 4, 2) := by decide +kernel
theorem dX12_readNumber_7 : decode cX12_readNumber 7 = .ok (.iload_n 1, 1) := by decide +kernel
theorem dX12_readNumber_8 : decode cX12_readNumber 8 = .ok (.if_icmp .ge 37, 3) := by decide +kernel
theorem dX12_readNumber_11 : decode cX12_readNumber 11 = .ok (.aload_n 0, 1) := by decide +kernel
theorem dX12_readNumber_12 : decode cX12_readNumber 12 = .ok (.getfield 201, 3) := by decide +kernel
theorem dX12_readNumber_15 : decode cX12_readNumber 15 = .ok (.ifCond .eq 30, 3) := by decide +kernel
theorem dX12_readNumber_18 : decode cX12_readNumber 18 = .ok (.iconst 2, 1) := by decide +kernel
theorem dX12_readNumber_19 : decode cX12_readNumber 19 = .ok (.iload_n 3, 1) := by decide +kernel
theorem dX12_readNumber_20 : decode cX12_readNumber 20 = .ok (.imul, 1) := by decide +kernel
theorem dX12_readNumber_21 : decode cX12_readNumber 21 = .ok (.aload_n 0, 1) := by decide +kernel
theorem dX12_readNumber_22 : decode cX12_readNumber 22 = .ok (.invokevirtual 205, 3) := by decide +kernel
theorem dX12_readNumber_25 : decode cX12_readNumber 25 = .ok (.iadd, 1) := by decide +kernel
theorem dX12_readNumber_26 : decode cX12_readNumber 26 = .ok (.istore_n 3, 1) := by decide +kernel
theorem dX12_readNumber_27 : decode cX12_readNumber 27 = .ok (.iload_n 3, 1) := by decide +kernel
theorem dX12_readNumber_28 : decode cX12_readNumber 28 = .ok (.sipush 255, 3) := by decide +kernel
theorem dX12_readNumber_31 : decode cX12_readNumber 31 = .ok (.if_icmp .le 8, 3) := by decide +kernel
theorem dX12_readNumber_34 : decode cX12_readNumber 34 = .ok (.aload_n 0, 1) := by decide +kernel
theorem dX12_readNumber_35 : decode cX12_readNumber 35 = .ok (.iconst 0, 1) := by decide +kernel
theorem dX12_readNumber_36 : decode cX12_readNumber 36 = .ok (.putfield 201, 3) := by decide +kernel
theorem dX12_readNumber_39 : decode cX12_readNumber 39 = .ok (.iinc 4 1, 3) := by decide +kernel
theorem dX12_readNumber_42 : decode cX12_readNumber 42 = .ok (.goto (-37), 3) := by decide +kernel
theorem dX12_readNumber_45 : decode cX12_readNumber 45 = .ok (.iload_n 3, 1) := by decide +kernel
theorem dX12_readNumber_46 : decode cX12_readNumber 46 = .ok (.ireturn, 1) := by decide +kernel
theorem dX12_readRun_0 : decode cX12_readRun 0 = .ok (.iconst 0, 1) := by decide +kernel
theorem dX12_readRun_1 : decode cX12_readRun 1 = .ok (.istore_n 2, 1) := by decide +kernel
theorem dX12_readRun_2 : decode cX12_readRun 2 = .ok (.aload_n 0, 1) := by decide +kernel
theorem dX12_readRun_3 : decode cX12_readRun 3 = .ok (.getfield 201, 3) := by decide +kernel
theorem dX12_readRun_6 : decode cX12_readRun 6 = .ok (.ifCond .eq 24, 3) := by decide +kernel
theorem dX12_readRun_9 : decode cX12_readRun 9 = .ok (.aload_n 0, 1) := by decide +kernel
theorem dX12_readRun_10 : decode cX12_readRun 10 = .ok (.invokevirtual 205, 3) := by decide +kernel
theorem dX12_readRun_13 : decode cX12_readRun 13 = .ok (.iload_n 1, 1) := by decide +kernel
theorem dX12_readRun_14 : decode cX12_readRun 14 = .ok (.if_icmp .ne 16, 3) := by decide +kernel
theorem dX12_readRun_17 : decode cX12_readRun 17 = .ok (.aload_n 0, 1) := by decide +kernel
theorem dX12_readRun_18 : decode cX12_readRun 18 = .ok (.getfield 201, 3) := by decide +kernel
theorem dX12_readRun_21 : decode cX12_readRun 21 = .ok (.ifCond .eq 9, 3) := by decide +kernel
theorem dX12_readRun_24 : decode cX12_readRun 24 = .ok (.iinc 2 1, 3) := by decide +kernel
theorem dX12_readRun_27 : decode cX12_readRun 27 = .ok (.goto (-25), 3) := by decide +kernel
theorem dX12_readRun_30 : decode cX12_readRun 30 = .ok (.iload_n 2, 1) := by decide +kernel
theorem dX12_readRun_31 : decode cX12_readRun 31 = .ok (.ireturn, 1) := by decide +kernel
theorem dX12_readGamma_0 : decode cX12_readGamma 0 = .ok (.aload_n 0, 1) := by decide +kernel
theorem dX12_readGamma_1 : decode cX12_readGamma 1 = .ok (.iconst 0, 1) := by decide +kernel
theorem dX12_readGamma_2 : decode cX12_readGamma 2 = .ok (.invokevirtual 208, 3) := by decide +kernel
theorem dX12_readGamma_5 : decode cX12_readGamma 5 = .ok (.istore_n 1, 1) := by decide +kernel
theorem dX12_readGamma_6 : decode cX12_readGamma 6 = .ok (.aload_n 0, 1) := by decide +kernel
theorem dX12_readGamma_7 : decode cX12_readGamma 7 = .ok (.iload_n 1, 1) := by decide +kernel
theorem dX12_readGamma_8 : decode cX12_readGamma 8 = .ok (.iconst 1, 1) := by decide +kernel
theorem dX12_readGamma_9 : decode cX12_readGamma 9 = .ok (.invokevirtual 211, 3) := by decide +kernel
theorem dX12_readGamma_12 : decode cX12_readGamma 12 = .ok (.ireturn, 1) := by decide +kernel
theorem dX12_readGap_0 : decode cX12_readGap 0 = .ok (.iload_n 1, 1) := by decide +kernel
theorem dX12_readGap_1 : decode cX12_readGap 1 = .ok (.ifCond .ne 11, 3) := by decide +kernel
theorem dX12_readGap_4 : decode cX12_readGap 4 = .ok (.aload_n 0, 1) := by decide +kernel
theorem dX12_readGap_5 : decode cX12_readGap 5 = .ok (.iconst 1, 1) := by decide +kernel
theorem dX12_readGap_6 : decode cX12_readGap 6 = .ok (.invokevirtual 208, 3) := by decide +kernel
theorem dX12_readGap_9 : decode cX12_readGap 9 = .ok (.iconst 1, 1) := by decide +kernel
theorem dX12_readGap_10 : decode cX12_readGap 10 = .ok (.iadd, 1) := by decide +kernel
theorem dX12_readGap_11 : decode cX12_readGap 11 = .ok (.ireturn, 1) := by decide +kernel
theorem dX12_readGap_12 : decode cX12_readGap 12 = .ok (.iload_n 1, 1) := by decide +kernel
theorem dX12_readGap_13 : decode cX12_readGap 13 = .ok (.iconst 1, 1) := by decide +kernel
theorem dX12_readGap_14 : decode cX12_readGap 14 = .ok (.if_icmp .ne 8, 3) := by decide +kernel
theorem dX12_readGap_17 : decode cX12_readGap 17 = .ok (.aload_n 0, 1) := by decide +kernel
theorem dX12_readGap_18 : decode cX12_readGap 18 = .ok (.invokevirtual 214, 3) := by decide +kernel
theorem dX12_readGap_21 : decode cX12_readGap 21 = .ok (.ireturn, 1) := by decide +kernel
theorem dX12_readGap_22 : decode cX12_readGap 22 = .ok (.iload_n 1, 1) := by decide +kernel
theorem dX12_readGap_23 : decode cX12_readGap 23 = .ok (.iconst 2, 1) := by decide +kernel
theorem dX12_readGap_24 : decode cX12_readGap 24 = .ok (.if_icmp .ne 17, 3) := by decide +kernel
theorem dX12_readGap_27 : decode cX12_readGap 27 = .ok (.aload_n 0, 1) := by decide +kernel
theorem dX12_readGap_28 : decode cX12_readGap 28 = .ok (.aload_n 0, 1) := by decide +kernel
theorem dX12_readGap_29 : decode cX12_readGap 29 = .ok (.invokevirtual 214, 3) := by decide +kernel
theorem dX12_readGap_32 : decode cX12_readGap 32 = .ok (.iconst 1, 1) := by decide +kernel
theorem dX12_readGap_33 : decode cX12_readGap 33 = .ok (.isub, 1) := by decide +kernel
theorem dX12_readGap_34 : decode cX12_readGap 34 = .ok (.iconst 1, 1) := by decide +kernel
theorem dX12_readGap_35 : decode cX12_readGap 35 = .ok (.invokevirtual 211, 3) := by decide +kernel
theorem dX12_readGap_38 : decode cX12_readGap 38 = .ok (.goto 17, 3) := by decide +kernel
theorem dX12_readGap_41 : decode cX12_readGap 41 = .ok (.aload_n 0, 1) := by decide +kernel
theorem dX12_readGap_42 : decode cX12_readGap 42 = .ok (.aload_n 0, 1) := by decide +kernel
theorem dX12_readGap_43 : decode cX12_readGap 43 = .ok (.getfield 9, 3) := by decide +kernel
theorem dX12_readGap_46 : decode cX12_readGap 46 = .ok (.iconst 0, 1) := by decide +kernel
theorem dX12_readGap_47 : decode cX12_readGap 47 = .ok (.iaload, 1) := by decide +kernel
theorem dX12_readGap_48 : decode cX12_readGap 48 = .ok (.invokestatic 145, 3) := by decide +kernel
theorem dX12_readGap_51 : decode cX12_readGap 51 = .ok (.iconst 0, 1) := by decide +kernel
theorem dX12_readGap_52 : decode cX12_readGap 52 = .ok (.invokevirtual 211, 3) := by decide +kernel
theorem dX12_readGap_55 : decode cX12_readGap 55 = .ok (.ireturn, 1) := by decide +kernel
theorem dX12_read_0 : decode cX12_read 0 = .ok (.aload_n 0, 1) := by decide +kernel
theorem dX12_read_1 : decode cX12_read 1 = .ok (.iconst 0, 1) := by decide +kernel
theorem dX12_read_2 : decode cX12_read 2 = .ok (.putfield 64, 3) := by decide +kernel
theorem dX12_read_5 : decode cX12_read 5 = .ok (.aload_n 0, 1) := by decide +kernel
theorem dX12_read_6 : decode cX12_read 6 = .ok (.invokevirtual 111, 3) := by decide +kernel
theorem dX12_read_9 : decode cX12_read 9 = .ok (.iload_n 1, 1) := by decide +kernel
theorem dX12_read_10 : decode cX12_read 10 = .ok (.invokestatic 171, 3) := by decide +kernel
theorem dX12_read_13 : decode cX12_read 13 = .ok (.ifCond .eq 13, 3) := by decide +kernel
theorem dX12_read_16 : decode cX12_read 16 = .ok (.iload_n 2, 1) := by decide +kernel
theorem dX12_read_17 : decode cX12_read 17 = .ok (.iconst 0, 1) := by decide +kernel
theorem dX12_read_18 : decode cX12_read 18 = .ok (.bipush 16, 2) := by decide +kernel
theorem dX12_read_20 : decode cX12_read 20 = .ok (.invokestatic 71, 3) := by decide +kernel
theorem dX12_read_23 : decode cX12_read 23 = .ok (.ifCond .ne 6, 3) := by decide +kernel
theorem dX12_read_26 : decode cX12_read 26 = .ok (.bipush (-100), 2) := by decide +kernel
theorem dX12_read_28 : decode cX12_read 28 = .ok (.ireturn, 1) := by decide +kernel
theorem dX12_read_29 : decode cX12_read 29 = .ok (.aload_n 0, 1) := by decide +kernel
theorem dX12_read_30 : decode cX12_read 30 = .ok (.iconst 0, 1) := by decide +kernel
theorem dX12_read_31 : decode cX12_read 31 = .ok (.putfield 198, 3) := by decide +kernel
theorem dX12_read_34 : decode cX12_read 34 = .ok (.aload_n 0, 1) := by decide +kernel
theorem dX12_read_35 : decode cX12_read 35 = .ok (.iconst 1, 1) := by decide +kernel
theorem dX12_read_36 : decode cX12_read 36 = .ok (.putfield 201, 3) := by decide +kernel
theorem dX12_read_39 : decode cX12_read 39 = .ok (.iconst (-1), 1) := by decide +kernel
theorem dX12_read_40 : decode cX12_read 40 = .ok (.istore_n 3, 1) := by decide +kernel
theorem dX12_read_41 : decode cX12_read 41 = .ok (.iconst 0, 1) := by decide +kernel
theorem dX12_read_42 : decode cX12_read 42 = .ok (.istore 4, 2) := by decide +kernel
theorem dX12_read_44 : decode cX12_read 44 = .ok (.iload 4, 2) := by decide +kernel
theorem dX12_read_46 : decode cX12_read 46 = .ok (.iload_n 2, 1) := by decide +kernel
theorem dX12_read_47 : decode cX12_read 47 = .ok (.if_icmp .ge 54, 3) := by decide +kernel
theorem dX12_read_50 : decode cX12_read 50 = .ok (.aload_n 0, 1) := by decide +kernel
theorem dX12_read_51 : decode cX12_read 51 = .ok (.iload_n 1, 1) := by decide +kernel
theorem dX12_read_52 : decode cX12_read 52 = .ok (.invokevirtual 217, 3) := by decide +kernel
theorem dX12_read_55 : decode cX12_read 55 = .ok (.istore 5, 2) := by decide +kernel
theorem dX12_read_57 : decode cX12_read 57 = .ok (.aload_n 0, 1) := by decide +kernel
theorem dX12_read_58 : decode cX12_read 58 = .ok (.getfield 201, 3) := by decide +kernel
theorem dX12_read_61 : decode cX12_read 61 = .ok (.ifCond .eq 16, 3) := by decide +kernel
theorem dX12_read_64 : decode cX12_read 64 = .ok (.iload 5, 2) := by decide +kernel
theorem dX12_read_66 : decode cX12_read 66 = .ok (.ifCond .eq 11, 3) := by decide +kernel
theorem dX12_read_69 : decode cX12_read 69 = .ok (.iload 5, 2) := by decide +kernel
theorem dX12_read_71 : decode cX12_read 71 = .ok (.sipush 255, 3) := by decide +kernel
theorem dX12_read_74 : decode cX12_read 74 = .ok (.if_icmp .le 8, 3) := by decide +kernel
theorem dX12_read_77 : decode cX12_read 77 = .ok (.iconst (-1), 1) := by decide +kernel
theorem dX12_read_78 : decode cX12_read 78 = .ok (.iload 4, 2) := by decide +kernel
theorem dX12_read_80 : decode cX12_read 80 = .ok (.isub, 1) := by decide +kernel
theorem dX12_read_81 : decode cX12_read 81 = .ok (.ireturn, 1) := by decide +kernel
theorem dX12_read_82 : decode cX12_read 82 = .ok (.iload_n 3, 1) := by decide +kernel
theorem dX12_read_83 : decode cX12_read 83 = .ok (.iload 5, 2) := by decide +kernel
theorem dX12_read_85 : decode cX12_read 85 = .ok (.iadd, 1) := by decide +kernel
theorem dX12_read_86 : decode cX12_read 86 = .ok (.istore_n 3, 1) := by decide +kernel
theorem dX12_read_87 : decode cX12_read 87 = .ok (.aload_n 0, 1) := by decide +kernel
theorem dX12_read_88 : decode cX12_read 88 = .ok (.getfield 27, 3) := by decide +kernel
theorem dX12_read_91 : decode cX12_read 91 = .ok (.iload 4, 2) := by decide +kernel
theorem dX12_read_93 : decode cX12_read 93 = .ok (.iload_n 3, 1) := by decide +kernel
theorem dX12_read_94 : decode cX12_read 94 = .ok (.iastore, 1) := by decide +kernel
theorem dX12_read_95 : decode cX12_read 95 = .ok (.iinc 4 1, 3) := by decide +kernel
theorem dX12_read_98 : decode cX12_read 98 = .ok (.goto (-54), 3) := by decide +kernel
theorem dX12_read_101 : decode cX12_read 101 = .ok (.aload_n 0, 1) := by decide +kernel
theorem dX12_read_102 : decode cX12_read 102 = .ok (.iconst 0, 1) := by decide +kernel
theorem dX12_read_103 : decode cX12_read 103 = .ok (.putfield 68, 3) := by decide +kernel
theorem dX12_read_106 : decode cX12_read 106 = .ok (.iconst 0, 1) := by decide +kernel
theorem dX12_read_107 : decode cX12_read 107 = .ok (.istore 4, 2) := by decide +kernel
theorem dX12_read_109 : decode cX12_read 109 = .ok (.iload 4, 2) := by decide +kernel
theorem dX12_read_111 : decode cX12_read 111 = .ok (.iload_n 2, 1) := by decide +kernel
theorem dX12_read_112 : decode cX12_read 112 = .ok (.if_icmp .ge 21, 3) := by decide +kernel
theorem dX12_read_115 : decode cX12_read 115 = .ok (.aload_n 0, 1) := by decide +kernel
theorem dX12_read_116 : decode cX12_read 116 = .ok (.aload_n 0, 1) := by decide +kernel
theorem dX12_read_117 : decode cX12_read 117 = .ok (.getfield 27, 3) := by decide +kernel
theorem dX12_read_120 : decode cX12_read 120 = .ok (.iload 4, 2) := by decide +kernel
theorem dX12_read_122 : decode cX12_read 122 = .ok (.iaload, 1) := by decide +kernel
theorem dX12_read_123 : decode cX12_read 123 = .ok (.i2l, 1) := by decide +kernel
theorem dX12_read_124 : decode cX12_read 124 = .ok (.invokevirtual 167, 3) := by decide +kernel
theorem dX12_read_127 : decode cX12_read 127 = .ok (.iinc 4 1, 3) := by decide +kernel
theorem dX12_read_130 : decode cX12_read 130 = .ok (.goto (-21), 3) := by decide +kernel
theorem dX12_read_133 : decode cX12_read 133 = .ok (.aload_n 0, 1) := by decide +kernel
theorem dX12_read_134 : decode cX12_read 134 = .ok (.getfield 198, 3) := by decide +kernel
theorem dX12_read_137 : decode cX12_read 137 = .ok (.ireturn, 1) := by decide +kernel
theorem dX12_waysOf_0 : decode cX12_waysOf 0 = .ok (.iconst 1, 1) := by decide +kernel
theorem dX12_waysOf_1 : decode cX12_waysOf 1 = .ok (.istore_n 2, 1) := by decide +kernel
theorem dX12_waysOf_2 : decode cX12_waysOf 2 = .ok (.iconst 1, 1) := by decide +kernel
theorem dX12_waysOf_3 : decode cX12_waysOf 3 = .ok (.istore_n 3, 1) := by decide +kernel
theorem dX12_waysOf_4 : decode cX12_waysOf 4 = .ok (.iload_n 3, 1) := by decide +kernel
theorem dX12_waysOf_5 : decode cX12_waysOf 5 = .ok (.iload_n 1, 1) := by decide +kernel
theorem dX12_waysOf_6 : decode cX12_waysOf 6 = .ok (.if_icmp .gt 24, 3) := by decide +kernel
theorem dX12_waysOf_9 : decode cX12_waysOf 9 = .ok (.iload_n 2, 1) := by decide +kernel
theorem dX12_waysOf_10 : decode cX12_waysOf 10 = .ok (.aload_n 0, 1) := by decide +kernel
theorem dX12_waysOf_11 : decode cX12_waysOf 11 = .ok (.getfield 9, 3) := by decide +kernel
theorem dX12_waysOf_14 : decode cX12_waysOf 14 = .ok (.iconst 0, 1) := by decide +kernel
theorem dX12_waysOf_15 : decode cX12_waysOf 15 = .ok (.iaload, 1) := by decide +kernel
theorem dX12_waysOf_16 : decode cX12_waysOf 16 = .ok (.iload_n 1, 1) := by decide +kernel
theorem dX12_waysOf_17 : decode cX12_waysOf 17 = .ok (.isub, 1) := by decide +kernel
theorem dX12_waysOf_18 : decode cX12_waysOf 18 = .ok (.iload_n 3, 1) := by decide +kernel
theorem dX12_waysOf_19 : decode cX12_waysOf 19 = .ok (.iadd, 1) := by decide +kernel
theorem dX12_waysOf_20 : decode cX12_waysOf 20 = .ok (.imul, 1) := by decide +kernel
theorem dX12_waysOf_21 : decode cX12_waysOf 21 = .ok (.iload_n 3, 1) := by decide +kernel
theorem dX12_waysOf_22 : decode cX12_waysOf 22 = .ok (.idiv, 1) := by decide +kernel
theorem dX12_waysOf_23 : decode cX12_waysOf 23 = .ok (.istore_n 2, 1) := by decide +kernel
theorem dX12_waysOf_24 : decode cX12_waysOf 24 = .ok (.iinc 3 1, 3) := by decide +kernel
theorem dX12_waysOf_27 : decode cX12_waysOf 27 = .ok (.goto (-23), 3) := by decide +kernel
theorem dX12_waysOf_30 : decode cX12_waysOf 30 = .ok (.iload_n 2, 1) := by decide +kernel
theorem dX12_waysOf_31 : decode cX12_waysOf 31 = .ok (.ireturn, 1) := by decide +kernel
theorem dX12_leastOf_0 : decode cX12_leastOf 0 = .ok (.aload_n 0, 1) := by decide +kernel
theorem dX12_leastOf_1 : decode cX12_leastOf 1 = .ok (.iload_n 1, 1) := by decide +kernel
theorem dX12_leastOf_2 : decode cX12_leastOf 2 = .ok (.invokevirtual 151, 3) := by decide +kernel
theorem dX12_leastOf_5 : decode cX12_leastOf 5 = .ok (.iconst 0, 1) := by decide +kernel
theorem dX12_leastOf_6 : decode cX12_leastOf 6 = .ok (.istore_n 2, 1) := by decide +kernel
theorem dX12_leastOf_7 : decode cX12_leastOf 7 = .ok (.iconst 1, 1) := by decide +kernel
theorem dX12_leastOf_8 : decode cX12_leastOf 8 = .ok (.iload_n 2, 1) := by decide +kernel
theorem dX12_leastOf_9 : decode cX12_leastOf 9 = .ok (.ishl, 1) := by decide +kernel
theorem dX12_leastOf_10 : decode cX12_leastOf 10 = .ok (.aload_n 0, 1) := by decide +kernel
theorem dX12_leastOf_11 : decode cX12_leastOf 11 = .ok (.aload_n 0, 1) := by decide +kernel
theorem dX12_leastOf_12 : decode cX12_leastOf 12 = .ok (.getfield 139, 3) := by decide +kernel
theorem dX12_leastOf_15 : decode cX12_leastOf 15 = .ok (.invokevirtual 220, 3) := by decide +kernel
theorem dX12_leastOf_18 : decode cX12_leastOf 18 = .ok (.if_icmp .ge 9, 3) := by decide +kernel
theorem dX12_leastOf_21 : decode cX12_leastOf 21 = .ok (.iinc 2 1, 3) := by decide +kernel
theorem dX12_leastOf_24 : decode cX12_leastOf 24 = .ok (.goto (-17), 3) := by decide +kernel
theorem dX12_leastOf_27 : decode cX12_leastOf 27 = .ok (.iload_n 2, 1) := by decide +kernel
theorem dX12_leastOf_28 : decode cX12_leastOf 28 = .ok (.ireturn, 1) := by decide +kernel
theorem dX12_least_0 : decode cX12_least 0 = .ok (.aload_n 0, 1) := by decide +kernel
theorem dX12_least_1 : decode cX12_least 1 = .ok (.iconst 0, 1) := by decide +kernel
theorem dX12_least_2 : decode cX12_least 2 = .ok (.putfield 64, 3) := by decide +kernel
theorem dX12_least_5 : decode cX12_least 5 = .ok (.iload_n 1, 1) := by decide +kernel
theorem dX12_least_6 : decode cX12_least 6 = .ok (.invokestatic 164, 3) := by decide +kernel
theorem dX12_least_9 : decode cX12_least 9 = .ok (.ifCond .ne 5, 3) := by decide +kernel
theorem dX12_least_12 : decode cX12_least 12 = .ok (.iconst (-1), 1) := by decide +kernel
theorem dX12_least_13 : decode cX12_least 13 = .ok (.ireturn, 1) := by decide +kernel
theorem dX12_least_14 : decode cX12_least 14 = .ok (.aload_n 0, 1) := by decide +kernel
theorem dX12_least_15 : decode cX12_least 15 = .ok (.iload_n 1, 1) := by decide +kernel
theorem dX12_least_16 : decode cX12_least 16 = .ok (.invokevirtual 223, 3) := by decide +kernel
theorem dX12_least_19 : decode cX12_least 19 = .ok (.istore_n 2, 1) := by decide +kernel
theorem dX12_least_20 : decode cX12_least 20 = .ok (.aload_n 0, 1) := by decide +kernel
theorem dX12_least_21 : decode cX12_least 21 = .ok (.iconst 0, 1) := by decide +kernel
theorem dX12_least_22 : decode cX12_least 22 = .ok (.putfield 68, 3) := by decide +kernel
theorem dX12_least_25 : decode cX12_least 25 = .ok (.aload_n 0, 1) := by decide +kernel
theorem dX12_least_26 : decode cX12_least 26 = .ok (.aload_n 0, 1) := by decide +kernel
theorem dX12_least_27 : decode cX12_least 27 = .ok (.aload_n 0, 1) := by decide +kernel
theorem dX12_least_28 : decode cX12_least 28 = .ok (.getfield 139, 3) := by decide +kernel
theorem dX12_least_31 : decode cX12_least 31 = .ok (.invokevirtual 220, 3) := by decide +kernel
theorem dX12_least_34 : decode cX12_least 34 = .ok (.i2l, 1) := by decide +kernel
theorem dX12_least_35 : decode cX12_least 35 = .ok (.invokevirtual 167, 3) := by decide +kernel
theorem dX12_least_38 : decode cX12_least 38 = .ok (.iload_n 2, 1) := by decide +kernel
theorem dX12_least_39 : decode cX12_least 39 = .ok (.ireturn, 1) := by decide +kernel
theorem dX12_audit_0 : decode cX12_audit 0 = .ok (.aload_n 0, 1) := by decide +kernel
theorem dX12_audit_1 : decode cX12_audit 1 = .ok (.iconst 0, 1) := by decide +kernel
theorem dX12_audit_2 : decode cX12_audit 2 = .ok (.putfield 64, 3) := by decide +kernel
theorem dX12_audit_5 : decode cX12_audit 5 = .ok (.iconst 0, 1) := by decide +kernel
theorem dX12_audit_6 : decode cX12_audit 6 = .ok (.istore_n 1, 1) := by decide +kernel
theorem dX12_audit_7 : decode cX12_audit 7 = .ok (.iconst 0, 1) := by decide +kernel
theorem dX12_audit_8 : decode cX12_audit 8 = .ok (.istore_n 2, 1) := by decide +kernel
theorem dX12_audit_9 : decode cX12_audit 9 = .ok (.iload_n 2, 1) := by decide +kernel
theorem dX12_audit_10 : decode cX12_audit 10 = .ok (.bipush 8, 2) := by decide +kernel
theorem dX12_audit_12 : decode cX12_audit 12 = .ok (.if_icmp .ge 17, 3) := by decide +kernel
theorem dX12_audit_15 : decode cX12_audit 15 = .ok (.iload_n 1, 1) := by decide +kernel
theorem dX12_audit_16 : decode cX12_audit 16 = .ok (.aload_n 0, 1) := by decide +kernel
theorem dX12_audit_17 : decode cX12_audit 17 = .ok (.iload_n 2, 1) := by decide +kernel
theorem dX12_audit_18 : decode cX12_audit 18 = .ok (.invokevirtual 223, 3) := by decide +kernel
theorem dX12_audit_21 : decode cX12_audit 21 = .ok (.iadd, 1) := by decide +kernel
theorem dX12_audit_22 : decode cX12_audit 22 = .ok (.istore_n 1, 1) := by decide +kernel
theorem dX12_audit_23 : decode cX12_audit 23 = .ok (.iinc 2 1, 3) := by decide +kernel
theorem dX12_audit_26 : decode cX12_audit 26 = .ok (.goto (-17), 3) := by decide +kernel
theorem dX12_audit_29 : decode cX12_audit 29 = .ok (.aload_n 0, 1) := by decide +kernel
theorem dX12_audit_30 : decode cX12_audit 30 = .ok (.iconst 0, 1) := by decide +kernel
theorem dX12_audit_31 : decode cX12_audit 31 = .ok (.putfield 68, 3) := by decide +kernel
theorem dX12_audit_34 : decode cX12_audit 34 = .ok (.iconst 0, 1) := by decide +kernel
theorem dX12_audit_35 : decode cX12_audit 35 = .ok (.istore_n 2, 1) := by decide +kernel
theorem dX12_audit_36 : decode cX12_audit 36 = .ok (.iload_n 2, 1) := by decide +kernel
theorem dX12_audit_37 : decode cX12_audit 37 = .ok (.iconst 4, 1) := by decide +kernel
theorem dX12_audit_38 : decode cX12_audit 38 = .ok (.if_icmp .ge 21, 3) := by decide +kernel
theorem dX12_audit_41 : decode cX12_audit 41 = .ok (.aload_n 0, 1) := by decide +kernel
theorem dX12_audit_42 : decode cX12_audit 42 = .ok (.aload_n 0, 1) := by decide +kernel
theorem dX12_audit_43 : decode cX12_audit 43 = .ok (.iload_n 2, 1) := by decide +kernel
theorem dX12_audit_44 : decode cX12_audit 44 = .ok (.invokevirtual 179, 3) := by decide +kernel
theorem dX12_audit_47 : decode cX12_audit 47 = .ok (.iload_n 1, 1) := by decide +kernel
theorem dX12_audit_48 : decode cX12_audit 48 = .ok (.isub, 1) := by decide +kernel
theorem dX12_audit_49 : decode cX12_audit 49 = .ok (.i2l, 1) := by decide +kernel
theorem dX12_audit_50 : decode cX12_audit 50 = .ok (.invokevirtual 167, 3) := by decide +kernel
theorem dX12_audit_53 : decode cX12_audit 53 = .ok (.iinc 2 1, 3) := by decide +kernel
theorem dX12_audit_56 : decode cX12_audit 56 = .ok (.goto (-20), 3) := by decide +kernel
theorem dX12_audit_59 : decode cX12_audit 59 = .ok (.iload_n 1, 1) := by decide +kernel
theorem dX12_audit_60 : decode cX12_audit 60 = .ok (.ireturn, 1) := by decide +kernel
theorem dX12_weight_0 : decode cX12_weight 0 = .ok (.iload_n 1, 1) := by decide +kernel
theorem dX12_weight_1 : decode cX12_weight 1 = .ok (.iload_n 0, 1) := by decide +kernel
theorem dX12_weight_2 : decode cX12_weight 2 = .ok (.iload_n 1, 1) := by decide +kernel
theorem dX12_weight_3 : decode cX12_weight 3 = .ok (.iconst 1, 1) := by decide +kernel
theorem dX12_weight_4 : decode cX12_weight 4 = .ok (.iadd, 1) := by decide +kernel
theorem dX12_weight_5 : decode cX12_weight 5 = .ok (.idiv, 1) := by decide +kernel
theorem dX12_weight_6 : decode cX12_weight 6 = .ok (.invokestatic 145, 3) := by decide +kernel
theorem dX12_weight_9 : decode cX12_weight 9 = .ok (.imul, 1) := by decide +kernel
theorem dX12_weight_10 : decode cX12_weight 10 = .ok (.ireturn, 1) := by decide +kernel
theorem dX12_havingIn_0 : decode cX12_havingIn 0 = .ok (.iconst 0, 1) := by decide +kernel
theorem dX12_havingIn_1 : decode cX12_havingIn 1 = .ok (.istore 4, 2) := by decide +kernel
theorem dX12_havingIn_3 : decode cX12_havingIn 3 = .ok (.iload_n 1, 1) := by decide +kernel
theorem dX12_havingIn_4 : decode cX12_havingIn 4 = .ok (.istore 5, 2) := by decide +kernel
theorem dX12_havingIn_6 : decode cX12_havingIn 6 = .ok (.iload 5, 2) := by decide +kernel
theorem dX12_havingIn_8 : decode cX12_havingIn 8 = .ok (.iload_n 1, 1) := by decide +kernel
theorem dX12_havingIn_9 : decode cX12_havingIn 9 = .ok (.iload_n 2, 1) := by decide +kernel
theorem dX12_havingIn_10 : decode cX12_havingIn 10 = .ok (.iadd, 1) := by decide +kernel
theorem dX12_havingIn_11 : decode cX12_havingIn 11 = .ok (.if_icmp .ge 29, 3) := by decide +kernel
theorem dX12_havingIn_14 : decode cX12_havingIn 14 = .ok (.iload 4, 2) := by decide +kernel
theorem dX12_havingIn_16 : decode cX12_havingIn 16 = .ok (.aload_n 0, 1) := by decide +kernel
theorem dX12_havingIn_17 : decode cX12_havingIn 17 = .ok (.iload 5, 2) := by decide +kernel
theorem dX12_havingIn_19 : decode cX12_havingIn 19 = .ok (.iload_n 3, 1) := by decide +kernel
theorem dX12_havingIn_20 : decode cX12_havingIn 20 = .ok (.invokevirtual 142, 3) := by decide +kernel
theorem dX12_havingIn_23 : decode cX12_havingIn 23 = .ok (.ifCond .eq 7, 3) := by decide +kernel
theorem dX12_havingIn_26 : decode cX12_havingIn 26 = .ok (.iconst 1, 1) := by decide +kernel
theorem dX12_havingIn_27 : decode cX12_havingIn 27 = .ok (.goto 4, 3) := by decide +kernel
theorem dX12_havingIn_30 : decode cX12_havingIn 30 = .ok (.iconst 0, 1) := by decide +kernel
theorem dX12_havingIn_31 : decode cX12_havingIn 31 = .ok (.iadd, 1) := by decide +kernel
theorem dX12_havingIn_32 : decode cX12_havingIn 32 = .ok (.istore 4, 2) := by decide +kernel
theorem dX12_havingIn_34 : decode cX12_havingIn 34 = .ok (.iinc 5 1, 3) := by decide +kernel
theorem dX12_havingIn_37 : decode cX12_havingIn 37 = .ok (.goto (-31), 3) := by decide +kernel
theorem dX12_havingIn_40 : decode cX12_havingIn 40 = .ok (.iload 4, 2) := by decide +kernel
theorem dX12_havingIn_42 : decode cX12_havingIn 42 = .ok (.ireturn, 1) := by decide +kernel
theorem dX12_firstOf_0 : decode cX12_firstOf 0 = .ok (.iload_n 0, 1) := by decide +kernel
theorem dX12_firstOf_1 : decode cX12_firstOf 1 = .ok (.iconst 1, 1) := by decide +kernel
theorem dX12_firstOf_2 : decode cX12_firstOf 2 = .ok (.iadd, 1) := by decide +kernel
theorem dX12_firstOf_3 : decode cX12_firstOf 3 = .ok (.iconst 2, 1) := by decide +kernel
theorem dX12_firstOf_4 : decode cX12_firstOf 4 = .ok (.idiv, 1) := by decide +kernel
theorem dX12_firstOf_5 : decode cX12_firstOf 5 = .ok (.ireturn, 1) := by decide +kernel
theorem dX12_gainOf_0 : decode cX12_gainOf 0 = .ok (.iload_n 3, 1) := by decide +kernel
theorem dX12_gainOf_1 : decode cX12_gainOf 1 = .ok (.invokestatic 226, 3) := by decide +kernel
theorem dX12_gainOf_4 : decode cX12_gainOf 4 = .ok (.istore 4, 2) := by decide +kernel
theorem dX12_gainOf_6 : decode cX12_gainOf 6 = .ok (.iload_n 3, 1) := by decide +kernel
theorem dX12_gainOf_7 : decode cX12_gainOf 7 = .ok (.iload 4, 2) := by decide +kernel
theorem dX12_gainOf_9 : decode cX12_gainOf 9 = .ok (.isub, 1) := by decide +kernel
theorem dX12_gainOf_10 : decode cX12_gainOf 10 = .ok (.istore 5, 2) := by decide +kernel
theorem dX12_gainOf_12 : decode cX12_gainOf 12 = .ok (.aload_n 0, 1) := by decide +kernel
theorem dX12_gainOf_13 : decode cX12_gainOf 13 = .ok (.getfield 9, 3) := by decide +kernel
theorem dX12_gainOf_16 : decode cX12_gainOf 16 = .ok (.bipush 17, 2) := by decide +kernel
theorem dX12_gainOf_18 : decode cX12_gainOf 18 = .ok (.iload_n 1, 1) := by decide +kernel
theorem dX12_gainOf_19 : decode cX12_gainOf 19 = .ok (.iadd, 1) := by decide +kernel
theorem dX12_gainOf_20 : decode cX12_gainOf 20 = .ok (.iaload, 1) := by decide +kernel
theorem dX12_gainOf_21 : decode cX12_gainOf 21 = .ok (.iload_n 2, 1) := by decide +kernel
theorem dX12_gainOf_22 : decode cX12_gainOf 22 = .ok (.iload 4, 2) := by decide +kernel
theorem dX12_gainOf_24 : decode cX12_gainOf 24 = .ok (.iadd, 1) := by decide +kernel
theorem dX12_gainOf_25 : decode cX12_gainOf 25 = .ok (.if_icmp .ge 7, 3) := by decide +kernel
theorem dX12_gainOf_28 : decode cX12_gainOf 28 = .ok (.iconst 1, 1) := by decide +kernel
theorem dX12_gainOf_29 : decode cX12_gainOf 29 = .ok (.goto 4, 3) := by decide +kernel
theorem dX12_gainOf_32 : decode cX12_gainOf 32 = .ok (.iconst 0, 1) := by decide +kernel
theorem dX12_gainOf_33 : decode cX12_gainOf 33 = .ok (.istore 6, 2) := by decide +kernel
theorem dX12_gainOf_35 : decode cX12_gainOf 35 = .ok (.iconst 0, 1) := by decide +kernel
theorem dX12_gainOf_36 : decode cX12_gainOf 36 = .ok (.istore 7, 2) := by decide +kernel
theorem dX12_gainOf_38 : decode cX12_gainOf 38 = .ok (.iconst 0, 1) := by decide +kernel
theorem dX12_gainOf_39 : decode cX12_gainOf 39 = .ok (.istore 8, 2) := by decide +kernel
theorem dX12_gainOf_41 : decode cX12_gainOf 41 = .ok (.iload 8, 2) := by decide +kernel
theorem dX12_gainOf_43 : decode cX12_gainOf 43 = .ok (.bipush 8, 2) := by decide +kernel
theorem dX12_gainOf_45 : decode cX12_gainOf 45 = .ok (.if_icmp .ge 107, 3) := by decide +kernel
theorem dX12_gainOf_48 : decode cX12_gainOf 48 = .ok (.aload_n 0, 1) := by decide +kernel
theorem dX12_gainOf_49 : decode cX12_gainOf 49 = .ok (.getfield 9, 3) := by decide +kernel
theorem dX12_gainOf_52 : decode cX12_gainOf 52 = .ok (.iconst 1, 1) := by decide +kernel
theorem dX12_gainOf_53 : decode cX12_gainOf 53 = .ok (.iload_n 1, 1) := by decide +kernel
theorem dX12_gainOf_54 : decode cX12_gainOf 54 = .ok (.iadd, 1) := by decide +kernel
theorem dX12_gainOf_55 : decode cX12_gainOf 55 = .ok (.iaload, 1) := by decide +kernel
theorem dX12_gainOf_56 : decode cX12_gainOf 56 = .ok (.iload 8, 2) := by decide +kernel
theorem dX12_gainOf_58 : decode cX12_gainOf 58 = .ok (.invokestatic 79, 3) := by decide +kernel
theorem dX12_gainOf_61 : decode cX12_gainOf 61 = .ok (.ifCond .ne 6, 3) := by decide +kernel
theorem dX12_gainOf_64 : decode cX12_gainOf 64 = .ok (.goto 82, 3) := by decide +kernel
theorem dX12_gainOf_67 : decode cX12_gainOf 67 = .ok (.aload_n 0, 1) := by decide +kernel
theorem dX12_gainOf_68 : decode cX12_gainOf 68 = .ok (.iload_n 2, 1) := by decide +kernel
theorem dX12_gainOf_69 : decode cX12_gainOf 69 = .ok (.iload 4, 2) := by decide +kernel
theorem dX12_gainOf_71 : decode cX12_gainOf 71 = .ok (.iload 8, 2) := by decide +kernel
theorem dX12_gainOf_73 : decode cX12_gainOf 73 = .ok (.invokevirtual 229, 3) := by decide +kernel
theorem dX12_gainOf_76 : decode cX12_gainOf 76 = .ok (.istore 9, 2) := by decide +kernel
theorem dX12_gainOf_78 : decode cX12_gainOf 78 = .ok (.aload_n 0, 1) := by decide +kernel
theorem dX12_gainOf_79 : decode cX12_gainOf 79 = .ok (.iload_n 2, 1) := by decide +kernel
theorem dX12_gainOf_80 : decode cX12_gainOf 80 = .ok (.iload 4, 2) := by decide +kernel
theorem dX12_gainOf_82 : decode cX12_gainOf 82 = .ok (.iadd, 1) := by decide +kernel
theorem dX12_gainOf_83 : decode cX12_gainOf 83 = .ok (.iload 5, 2) := by decide +kernel
theorem dX12_gainOf_85 : decode cX12_gainOf 85 = .ok (.iload 8, 2) := by decide +kernel
theorem dX12_gainOf_87 : decode cX12_gainOf 87 = .ok (.invokevirtual 229, 3) := by decide +kernel
theorem dX12_gainOf_90 : decode cX12_gainOf 90 = .ok (.istore 10, 2) := by decide +kernel
theorem dX12_gainOf_92 : decode cX12_gainOf 92 = .ok (.iload 6, 2) := by decide +kernel
theorem dX12_gainOf_94 : decode cX12_gainOf 94 = .ok (.ifCond .eq 7, 3) := by decide +kernel
theorem dX12_gainOf_97 : decode cX12_gainOf 97 = .ok (.iconst 1, 1) := by decide +kernel
theorem dX12_gainOf_98 : decode cX12_gainOf 98 = .ok (.goto 4, 3) := by decide +kernel
theorem dX12_gainOf_101 : decode cX12_gainOf 101 = .ok (.iconst (-1), 1) := by decide +kernel
theorem dX12_gainOf_102 : decode cX12_gainOf 102 = .ok (.istore 11, 2) := by decide +kernel
theorem dX12_gainOf_104 : decode cX12_gainOf 104 = .ok (.iload 7, 2) := by decide +kernel
theorem dX12_gainOf_106 : decode cX12_gainOf 106 = .ok (.iload 4, 2) := by decide +kernel
theorem dX12_gainOf_108 : decode cX12_gainOf 108 = .ok (.iload 9, 2) := by decide +kernel
theorem dX12_gainOf_110 : decode cX12_gainOf 110 = .ok (.invokestatic 233, 3) := by decide +kernel
theorem dX12_gainOf_113 : decode cX12_gainOf 113 = .ok (.iload 5, 2) := by decide +kernel
theorem dX12_gainOf_115 : decode cX12_gainOf 115 = .ok (.iload 10, 2) := by decide +kernel
theorem dX12_gainOf_117 : decode cX12_gainOf 117 = .ok (.invokestatic 233, 3) := by decide +kernel
theorem dX12_gainOf_120 : decode cX12_gainOf 120 = .ok (.iadd, 1) := by decide +kernel
theorem dX12_gainOf_121 : decode cX12_gainOf 121 = .ok (.iload 4, 2) := by decide +kernel
theorem dX12_gainOf_123 : decode cX12_gainOf 123 = .ok (.iload 9, 2) := by decide +kernel
theorem dX12_gainOf_125 : decode cX12_gainOf 125 = .ok (.iload 11, 2) := by decide +kernel
theorem dX12_gainOf_127 : decode cX12_gainOf 127 = .ok (.isub, 1) := by decide +kernel
theorem dX12_gainOf_128 : decode cX12_gainOf 128 = .ok (.invokestatic 233, 3) := by decide +kernel
theorem dX12_gainOf_131 : decode cX12_gainOf 131 = .ok (.isub, 1) := by decide +kernel
theorem dX12_gainOf_132 : decode cX12_gainOf 132 = .ok (.iload 5, 2) := by decide +kernel
theorem dX12_gainOf_134 : decode cX12_gainOf 134 = .ok (.iload 10, 2) := by decide +kernel
theorem dX12_gainOf_136 : decode cX12_gainOf 136 = .ok (.iload 11, 2) := by decide +kernel
theorem dX12_gainOf_138 : decode cX12_gainOf 138 = .ok (.iadd, 1) := by decide +kernel
theorem dX12_gainOf_139 : decode cX12_gainOf 139 = .ok (.invokestatic 233, 3) := by decide +kernel
theorem dX12_gainOf_142 : decode cX12_gainOf 142 = .ok (.isub, 1) := by decide +kernel
theorem dX12_gainOf_143 : decode cX12_gainOf 143 = .ok (.iadd, 1) := by decide +kernel
theorem dX12_gainOf_144 : decode cX12_gainOf 144 = .ok (.istore 7, 2) := by decide +kernel
theorem dX12_gainOf_146 : decode cX12_gainOf 146 = .ok (.iinc 8 1, 3) := by decide +kernel
theorem dX12_gainOf_149 : decode cX12_gainOf 149 = .ok (.goto (-108), 3) := by decide +kernel
theorem dX12_gainOf_152 : decode cX12_gainOf 152 = .ok (.iload 7, 2) := by decide +kernel
theorem dX12_gainOf_154 : decode cX12_gainOf 154 = .ok (.ireturn, 1) := by decide +kernel
theorem dX12_layLine_0 : decode cX12_layLine 0 = .ok (.iload_n 1, 1) := by decide +kernel
theorem dX12_layLine_1 : decode cX12_layLine 1 = .ok (.istore_n 3, 1) := by decide +kernel
theorem dX12_layLine_2 : decode cX12_layLine 2 = .ok (.iload_n 3, 1) := by decide +kernel
theorem dX12_layLine_3 : decode cX12_layLine 3 = .ok (.iload_n 1, 1) := by decide +kernel
theorem dX12_layLine_4 : decode cX12_layLine 4 = .ok (.iload_n 2, 1) := by decide +kernel
theorem dX12_layLine_5 : decode cX12_layLine 5 = .ok (.iadd, 1) := by decide +kernel
theorem dX12_layLine_6 : decode cX12_layLine 6 = .ok (.if_icmp .ge 71, 3) := by decide +kernel
theorem dX12_layLine_9 : decode cX12_layLine 9 = .ok (.iload_n 3, 1) := by decide +kernel
theorem dX12_layLine_10 : decode cX12_layLine 10 = .ok (.istore 4, 2) := by decide +kernel
theorem dX12_layLine_12 : decode cX12_layLine 12 = .ok (.iload 4, 2) := by decide +kernel
theorem dX12_layLine_14 : decode cX12_layLine 14 = .ok (.iload_n 1, 1) := by decide +kernel
theorem dX12_layLine_15 : decode cX12_layLine 15 = .ok (.if_icmp .le 48, 3) := by decide +kernel
theorem dX12_layLine_18 : decode cX12_layLine 18 = .ok (.aload_n 0, 1) := by decide +kernel
theorem dX12_layLine_19 : decode cX12_layLine 19 = .ok (.getfield 36, 3) := by decide +kernel
theorem dX12_layLine_22 : decode cX12_layLine 22 = .ok (.aload_n 0, 1) := by decide +kernel
theorem dX12_layLine_23 : decode cX12_layLine 23 = .ok (.getfield 33, 3) := by decide +kernel
theorem dX12_layLine_26 : decode cX12_layLine 26 = .ok (.iload 4, 2) := by decide +kernel
theorem dX12_layLine_28 : decode cX12_layLine 28 = .ok (.iconst 1, 1) := by decide +kernel
theorem dX12_layLine_29 : decode cX12_layLine 29 = .ok (.isub, 1) := by decide +kernel
theorem dX12_layLine_30 : decode cX12_layLine 30 = .ok (.iaload, 1) := by decide +kernel
theorem dX12_layLine_31 : decode cX12_layLine 31 = .ok (.iaload, 1) := by decide +kernel
theorem dX12_layLine_32 : decode cX12_layLine 32 = .ok (.aload_n 0, 1) := by decide +kernel
theorem dX12_layLine_33 : decode cX12_layLine 33 = .ok (.getfield 36, 3) := by decide +kernel
theorem dX12_layLine_36 : decode cX12_layLine 36 = .ok (.iload_n 3, 1) := by decide +kernel
theorem dX12_layLine_37 : decode cX12_layLine 37 = .ok (.iaload, 1) := by decide +kernel
theorem dX12_layLine_38 : decode cX12_layLine 38 = .ok (.if_icmp .ge 25, 3) := by decide +kernel
theorem dX12_layLine_41 : decode cX12_layLine 41 = .ok (.aload_n 0, 1) := by decide +kernel
theorem dX12_layLine_42 : decode cX12_layLine 42 = .ok (.getfield 33, 3) := by decide +kernel
theorem dX12_layLine_45 : decode cX12_layLine 45 = .ok (.iload 4, 2) := by decide +kernel
theorem dX12_layLine_47 : decode cX12_layLine 47 = .ok (.aload_n 0, 1) := by decide +kernel
theorem dX12_layLine_48 : decode cX12_layLine 48 = .ok (.getfield 33, 3) := by decide +kernel
theorem dX12_layLine_51 : decode cX12_layLine 51 = .ok (.iload 4, 2) := by decide +kernel
theorem dX12_layLine_53 : decode cX12_layLine 53 = .ok (.iconst 1, 1) := by decide +kernel
theorem dX12_layLine_54 : decode cX12_layLine 54 = .ok (.isub, 1) := by decide +kernel
theorem dX12_layLine_55 : decode cX12_layLine 55 = .ok (.iaload, 1) := by decide +kernel
theorem dX12_layLine_56 : decode cX12_layLine 56 = .ok (.iastore, 1) := by decide +kernel
theorem dX12_layLine_57 : decode cX12_layLine 57 = .ok (.iinc 4 (-1), 3) := by decide +kernel
theorem dX12_layLine_60 : decode cX12_layLine 60 = .ok (.goto (-48), 3) := by decide +kernel
theorem dX12_layLine_63 : decode cX12_layLine 63 = .ok (.aload_n 0, 1) := by decide +kernel
theorem dX12_layLine_64 : decode cX12_layLine 64 = .ok (.getfield 33, 3) := by decide +kernel
theorem dX12_layLine_67 : decode cX12_layLine 67 = .ok (.iload 4, 2) := by decide +kernel
theorem dX12_layLine_69 : decode cX12_layLine 69 = .ok (.iload_n 3, 1) := by decide +kernel
theorem dX12_layLine_70 : decode cX12_layLine 70 = .ok (.iastore, 1) := by decide +kernel
theorem dX12_layLine_71 : decode cX12_layLine 71 = .ok (.iinc 3 1, 3) := by decide +kernel
theorem dX12_layLine_74 : decode cX12_layLine 74 = .ok (.goto (-72), 3) := by decide +kernel
theorem dX12_layLine_77 : decode cX12_layLine 77 = .ok (.return_, 1) := by decide +kernel
theorem dX12_goRound_0 : decode cX12_goRound 0 = .ok (.iload_n 2, 1) := by decide +kernel
theorem dX12_goRound_1 : decode cX12_goRound 1 = .ok (.invokestatic 226, 3) := by decide +kernel
theorem dX12_goRound_4 : decode cX12_goRound 4 = .ok (.istore_n 3, 1) := by decide +kernel
theorem dX12_goRound_5 : decode cX12_goRound 5 = .ok (.iload_n 1, 1) := by decide +kernel
theorem dX12_goRound_6 : decode cX12_goRound 6 = .ok (.istore 4, 2) := by decide +kernel
theorem dX12_goRound_8 : decode cX12_goRound 8 = .ok (.iload 4, 2) := by decide +kernel
theorem dX12_goRound_10 : decode cX12_goRound 10 = .ok (.iload_n 1, 1) := by decide +kernel
theorem dX12_goRound_11 : decode cX12_goRound 11 = .ok (.iload_n 2, 1) := by decide +kernel
theorem dX12_goRound_12 : decode cX12_goRound 12 = .ok (.iadd, 1) := by decide +kernel
theorem dX12_goRound_13 : decode cX12_goRound 13 = .ok (.if_icmp .ge 28, 3) := by decide +kernel
theorem dX12_goRound_16 : decode cX12_goRound 16 = .ok (.aload_n 0, 1) := by decide +kernel
theorem dX12_goRound_17 : decode cX12_goRound 17 = .ok (.getfield 36, 3) := by decide +kernel
theorem dX12_goRound_20 : decode cX12_goRound 20 = .ok (.iload 4, 2) := by decide +kernel
theorem dX12_goRound_22 : decode cX12_goRound 22 = .ok (.aload_n 0, 1) := by decide +kernel
theorem dX12_goRound_23 : decode cX12_goRound 23 = .ok (.aload_n 0, 1) := by decide +kernel
theorem dX12_goRound_24 : decode cX12_goRound 24 = .ok (.iload 4, 2) := by decide +kernel
theorem dX12_goRound_26 : decode cX12_goRound 26 = .ok (.invokevirtual 75, 3) := by decide +kernel
theorem dX12_goRound_29 : decode cX12_goRound 29 = .ok (.iload_n 1, 1) := by decide +kernel
theorem dX12_goRound_30 : decode cX12_goRound 30 = .ok (.iload_n 2, 1) := by decide +kernel
theorem dX12_goRound_31 : decode cX12_goRound 31 = .ok (.invokevirtual 236, 3) := by decide +kernel
theorem dX12_goRound_34 : decode cX12_goRound 34 = .ok (.iastore, 1) := by decide +kernel
theorem dX12_goRound_35 : decode cX12_goRound 35 = .ok (.iinc 4 1, 3) := by decide +kernel
theorem dX12_goRound_38 : decode cX12_goRound 38 = .ok (.goto (-30), 3) := by decide +kernel
theorem dX12_goRound_41 : decode cX12_goRound 41 = .ok (.aload_n 0, 1) := by decide +kernel
theorem dX12_goRound_42 : decode cX12_goRound 42 = .ok (.iload_n 1, 1) := by decide +kernel
theorem dX12_goRound_43 : decode cX12_goRound 43 = .ok (.iload_n 3, 1) := by decide +kernel
theorem dX12_goRound_44 : decode cX12_goRound 44 = .ok (.invokevirtual 239, 3) := by decide +kernel
theorem dX12_goRound_47 : decode cX12_goRound 47 = .ok (.aload_n 0, 1) := by decide +kernel
theorem dX12_goRound_48 : decode cX12_goRound 48 = .ok (.iload_n 1, 1) := by decide +kernel
theorem dX12_goRound_49 : decode cX12_goRound 49 = .ok (.iload_n 3, 1) := by decide +kernel
theorem dX12_goRound_50 : decode cX12_goRound 50 = .ok (.iadd, 1) := by decide +kernel
theorem dX12_goRound_51 : decode cX12_goRound 51 = .ok (.iload_n 2, 1) := by decide +kernel
theorem dX12_goRound_52 : decode cX12_goRound 52 = .ok (.iload_n 3, 1) := by decide +kernel
theorem dX12_goRound_53 : decode cX12_goRound 53 = .ok (.isub, 1) := by decide +kernel
theorem dX12_goRound_54 : decode cX12_goRound 54 = .ok (.invokevirtual 239, 3) := by decide +kernel
theorem dX12_goRound_57 : decode cX12_goRound 57 = .ok (.iconst 0, 1) := by decide +kernel
theorem dX12_goRound_58 : decode cX12_goRound 58 = .ok (.istore 4, 2) := by decide +kernel
theorem dX12_goRound_60 : decode cX12_goRound 60 = .ok (.iload 4, 2) := by decide +kernel
theorem dX12_goRound_62 : decode cX12_goRound 62 = .ok (.iload_n 2, 1) := by decide +kernel
theorem dX12_goRound_63 : decode cX12_goRound 63 = .ok (.iload_n 3, 1) := by decide +kernel
theorem dX12_goRound_64 : decode cX12_goRound 64 = .ok (.isub, 1) := by decide +kernel
theorem dX12_goRound_65 : decode cX12_goRound 65 = .ok (.if_icmp .ge 43, 3) := by decide +kernel
theorem dX12_goRound_68 : decode cX12_goRound 68 = .ok (.aload_n 0, 1) := by decide +kernel
theorem dX12_goRound_69 : decode cX12_goRound 69 = .ok (.getfield 36, 3) := by decide +kernel
theorem dX12_goRound_72 : decode cX12_goRound 72 = .ok (.aload_n 0, 1) := by decide +kernel
theorem dX12_goRound_73 : decode cX12_goRound 73 = .ok (.getfield 33, 3) := by decide +kernel
theorem dX12_goRound_76 : decode cX12_goRound 76 = .ok (.iload_n 1, 1) := by decide +kernel
theorem dX12_goRound_77 : decode cX12_goRound 77 = .ok (.iload 4, 2) := by decide +kernel
theorem dX12_goRound_79 : decode cX12_goRound 79 = .ok (.iadd, 1) := by decide +kernel
theorem dX12_goRound_80 : decode cX12_goRound 80 = .ok (.iaload, 1) := by decide +kernel
theorem dX12_goRound_81 : decode cX12_goRound 81 = .ok (.iaload, 1) := by decide +kernel
theorem dX12_goRound_82 : decode cX12_goRound 82 = .ok (.aload_n 0, 1) := by decide +kernel
theorem dX12_goRound_83 : decode cX12_goRound 83 = .ok (.getfield 36, 3) := by decide +kernel
theorem dX12_goRound_86 : decode cX12_goRound 86 = .ok (.aload_n 0, 1) := by decide +kernel
theorem dX12_goRound_87 : decode cX12_goRound 87 = .ok (.getfield 33, 3) := by decide +kernel
theorem dX12_goRound_90 : decode cX12_goRound 90 = .ok (.iload_n 1, 1) := by decide +kernel
theorem dX12_goRound_91 : decode cX12_goRound 91 = .ok (.iload_n 3, 1) := by decide +kernel
theorem dX12_goRound_92 : decode cX12_goRound 92 = .ok (.iadd, 1) := by decide +kernel
theorem dX12_goRound_93 : decode cX12_goRound 93 = .ok (.iload 4, 2) := by decide +kernel
theorem dX12_goRound_95 : decode cX12_goRound 95 = .ok (.iadd, 1) := by decide +kernel
theorem dX12_goRound_96 : decode cX12_goRound 96 = .ok (.iaload, 1) := by decide +kernel
theorem dX12_goRound_97 : decode cX12_goRound 97 = .ok (.iaload, 1) := by decide +kernel
theorem dX12_goRound_98 : decode cX12_goRound 98 = .ok (.iadd, 1) := by decide +kernel
theorem dX12_goRound_99 : decode cX12_goRound 99 = .ok (.ifCond .le 9, 3) := by decide +kernel
theorem dX12_goRound_102 : decode cX12_goRound 102 = .ok (.iinc 4 1, 3) := by decide +kernel
theorem dX12_goRound_105 : decode cX12_goRound 105 = .ok (.goto (-45), 3) := by decide +kernel
theorem dX12_goRound_108 : decode cX12_goRound 108 = .ok (.aload_n 0, 1) := by decide +kernel
theorem dX12_goRound_109 : decode cX12_goRound 109 = .ok (.invokevirtual 242, 3) := by decide +kernel
theorem dX12_goRound_112 : decode cX12_goRound 112 = .ok (.iconst 0, 1) := by decide +kernel
theorem dX12_goRound_113 : decode cX12_goRound 113 = .ok (.istore 5, 2) := by decide +kernel
theorem dX12_goRound_115 : decode cX12_goRound 115 = .ok (.iload 5, 2) := by decide +kernel
theorem dX12_goRound_117 : decode cX12_goRound 117 = .ok (.iload 4, 2) := by decide +kernel
theorem dX12_goRound_119 : decode cX12_goRound 119 = .ok (.if_icmp .ge 67, 3) := by decide +kernel
theorem dX12_goRound_122 : decode cX12_goRound 122 = .ok (.aload_n 0, 1) := by decide +kernel
theorem dX12_goRound_123 : decode cX12_goRound 123 = .ok (.getfield 33, 3) := by decide +kernel
theorem dX12_goRound_126 : decode cX12_goRound 126 = .ok (.iload_n 1, 1) := by decide +kernel
theorem dX12_goRound_127 : decode cX12_goRound 127 = .ok (.iload 5, 2) := by decide +kernel
theorem dX12_goRound_129 : decode cX12_goRound 129 = .ok (.iadd, 1) := by decide +kernel
theorem dX12_goRound_130 : decode cX12_goRound 130 = .ok (.iaload, 1) := by decide +kernel
theorem dX12_goRound_131 : decode cX12_goRound 131 = .ok (.istore 6, 2) := by decide +kernel
theorem dX12_goRound_133 : decode cX12_goRound 133 = .ok (.aload_n 0, 1) := by decide +kernel
theorem dX12_goRound_134 : decode cX12_goRound 134 = .ok (.getfield 33, 3) := by decide +kernel
theorem dX12_goRound_137 : decode cX12_goRound 137 = .ok (.iload_n 1, 1) := by decide +kernel
theorem dX12_goRound_138 : decode cX12_goRound 138 = .ok (.iload_n 3, 1) := by decide +kernel
theorem dX12_goRound_139 : decode cX12_goRound 139 = .ok (.iadd, 1) := by decide +kernel
theorem dX12_goRound_140 : decode cX12_goRound 140 = .ok (.iload 5, 2) := by decide +kernel
theorem dX12_goRound_142 : decode cX12_goRound 142 = .ok (.iadd, 1) := by decide +kernel
theorem dX12_goRound_143 : decode cX12_goRound 143 = .ok (.iaload, 1) := by decide +kernel
theorem dX12_goRound_144 : decode cX12_goRound 144 = .ok (.istore 7, 2) := by decide +kernel
theorem dX12_goRound_146 : decode cX12_goRound 146 = .ok (.aload_n 0, 1) := by decide +kernel
theorem dX12_goRound_147 : decode cX12_goRound 147 = .ok (.getfield 9, 3) := by decide +kernel
theorem dX12_goRound_150 : decode cX12_goRound 150 = .ok (.bipush 17, 2) := by decide +kernel
theorem dX12_goRound_152 : decode cX12_goRound 152 = .ok (.aload_n 0, 1) := by decide +kernel
theorem dX12_goRound_153 : decode cX12_goRound 153 = .ok (.getfield 24, 3) := by decide +kernel
theorem dX12_goRound_156 : decode cX12_goRound 156 = .ok (.iload 6, 2) := by decide +kernel
theorem dX12_goRound_158 : decode cX12_goRound 158 = .ok (.iaload, 1) := by decide +kernel
theorem dX12_goRound_159 : decode cX12_goRound 159 = .ok (.iadd, 1) := by decide +kernel
theorem dX12_goRound_160 : decode cX12_goRound 160 = .ok (.iload 7, 2) := by decide +kernel
theorem dX12_goRound_162 : decode cX12_goRound 162 = .ok (.iastore, 1) := by decide +kernel
theorem dX12_goRound_163 : decode cX12_goRound 163 = .ok (.aload_n 0, 1) := by decide +kernel
theorem dX12_goRound_164 : decode cX12_goRound 164 = .ok (.getfield 9, 3) := by decide +kernel
theorem dX12_goRound_167 : decode cX12_goRound 167 = .ok (.bipush 17, 2) := by decide +kernel
theorem dX12_goRound_169 : decode cX12_goRound 169 = .ok (.aload_n 0, 1) := by decide +kernel
theorem dX12_goRound_170 : decode cX12_goRound 170 = .ok (.getfield 24, 3) := by decide +kernel
theorem dX12_goRound_173 : decode cX12_goRound 173 = .ok (.iload 7, 2) := by decide +kernel
theorem dX12_goRound_175 : decode cX12_goRound 175 = .ok (.iaload, 1) := by decide +kernel
theorem dX12_goRound_176 : decode cX12_goRound 176 = .ok (.iadd, 1) := by decide +kernel
theorem dX12_goRound_177 : decode cX12_goRound 177 = .ok (.iload 6, 2) := by decide +kernel
theorem dX12_goRound_179 : decode cX12_goRound 179 = .ok (.iastore, 1) := by decide +kernel
theorem dX12_goRound_180 : decode cX12_goRound 180 = .ok (.iinc 5 1, 3) := by decide +kernel
theorem dX12_goRound_183 : decode cX12_goRound 183 = .ok (.goto (-68), 3) := by decide +kernel
theorem dX12_goRound_186 : decode cX12_goRound 186 = .ok (.iload 4, 2) := by decide +kernel
theorem dX12_goRound_188 : decode cX12_goRound 188 = .ok (.ireturn, 1) := by decide +kernel
theorem dX12_halve_0 : decode cX12_halve 0 = .ok (.iload_n 2, 1) := by decide +kernel
theorem dX12_halve_1 : decode cX12_halve 1 = .ok (.iconst 2, 1) := by decide +kernel
theorem dX12_halve_2 : decode cX12_halve 2 = .ok (.if_icmp .ge 5, 3) := by decide +kernel
theorem dX12_halve_5 : decode cX12_halve 5 = .ok (.iconst 0, 1) := by decide +kernel
theorem dX12_halve_6 : decode cX12_halve 6 = .ok (.ireturn, 1) := by decide +kernel
theorem dX12_halve_7 : decode cX12_halve 7 = .ok (.iconst 0, 1) := by decide +kernel
theorem dX12_halve_8 : decode cX12_halve 8 = .ok (.istore 4, 2) := by decide +kernel
theorem dX12_halve_10 : decode cX12_halve 10 = .ok (.iconst 1, 1) := by decide +kernel
theorem dX12_halve_11 : decode cX12_halve 11 = .ok (.istore 5, 2) := by decide +kernel
theorem dX12_halve_13 : decode cX12_halve 13 = .ok (.iconst 0, 1) := by decide +kernel
theorem dX12_halve_14 : decode cX12_halve 14 = .ok (.istore 6, 2) := by decide +kernel
theorem dX12_halve_16 : decode cX12_halve 16 = .ok (.iload 6, 2) := by decide +kernel
theorem dX12_halve_18 : decode cX12_halve 18 = .ok (.iload_n 3, 1) := by decide +kernel
theorem dX12_halve_19 : decode cX12_halve 19 = .ok (.if_icmp .ge 29, 3) := by decide +kernel
theorem dX12_halve_22 : decode cX12_halve 22 = .ok (.iload 5, 2) := by decide +kernel
theorem dX12_halve_24 : decode cX12_halve 24 = .ok (.ifCond .le 24, 3) := by decide +kernel
theorem dX12_halve_27 : decode cX12_halve 27 = .ok (.aload_n 0, 1) := by decide +kernel
theorem dX12_halve_28 : decode cX12_halve 28 = .ok (.iload_n 1, 1) := by decide +kernel
theorem dX12_halve_29 : decode cX12_halve 29 = .ok (.iload_n 2, 1) := by decide +kernel
theorem dX12_halve_30 : decode cX12_halve 30 = .ok (.invokevirtual 245, 3) := by decide +kernel
theorem dX12_halve_33 : decode cX12_halve 33 = .ok (.istore 5, 2) := by decide +kernel
theorem dX12_halve_35 : decode cX12_halve 35 = .ok (.iload 4, 2) := by decide +kernel
theorem dX12_halve_37 : decode cX12_halve 37 = .ok (.iload 5, 2) := by decide +kernel
theorem dX12_halve_39 : decode cX12_halve 39 = .ok (.iadd, 1) := by decide +kernel
theorem dX12_halve_40 : decode cX12_halve 40 = .ok (.istore 4, 2) := by decide +kernel
theorem dX12_halve_42 : decode cX12_halve 42 = .ok (.iinc 6 1, 3) := by decide +kernel
theorem dX12_halve_45 : decode cX12_halve 45 = .ok (.goto (-29), 3) := by decide +kernel
theorem dX12_halve_48 : decode cX12_halve 48 = .ok (.iload_n 2, 1) := by decide +kernel
theorem dX12_halve_49 : decode cX12_halve 49 = .ok (.invokestatic 226, 3) := by decide +kernel
theorem dX12_halve_52 : decode cX12_halve 52 = .ok (.istore 6, 2) := by decide +kernel
theorem dX12_halve_54 : decode cX12_halve 54 = .ok (.iload 4, 2) := by decide +kernel
theorem dX12_halve_56 : decode cX12_halve 56 = .ok (.aload_n 0, 1) := by decide +kernel
theorem dX12_halve_57 : decode cX12_halve 57 = .ok (.iload_n 1, 1) := by decide +kernel
theorem dX12_halve_58 : decode cX12_halve 58 = .ok (.iload 6, 2) := by decide +kernel
theorem dX12_halve_60 : decode cX12_halve 60 = .ok (.iload_n 3, 1) := by decide +kernel
theorem dX12_halve_61 : decode cX12_halve 61 = .ok (.invokevirtual 248, 3) := by decide +kernel
theorem dX12_halve_64 : decode cX12_halve 64 = .ok (.iadd, 1) := by decide +kernel
theorem dX12_halve_65 : decode cX12_halve 65 = .ok (.istore 4, 2) := by decide +kernel
theorem dX12_halve_67 : decode cX12_halve 67 = .ok (.iload 4, 2) := by decide +kernel
theorem dX12_halve_69 : decode cX12_halve 69 = .ok (.aload_n 0, 1) := by decide +kernel
theorem dX12_halve_70 : decode cX12_halve 70 = .ok (.iload_n 1, 1) := by decide +kernel
theorem dX12_halve_71 : decode cX12_halve 71 = .ok (.iload 6, 2) := by decide +kernel
theorem dX12_halve_73 : decode cX12_halve 73 = .ok (.iadd, 1) := by decide +kernel
theorem dX12_halve_74 : decode cX12_halve 74 = .ok (.iload_n 2, 1) := by decide +kernel
theorem dX12_halve_75 : decode cX12_halve 75 = .ok (.iload 6, 2) := by decide +kernel
theorem dX12_halve_77 : decode cX12_halve 77 = .ok (.isub, 1) := by decide +kernel
theorem dX12_halve_78 : decode cX12_halve 78 = .ok (.iload_n 3, 1) := by decide +kernel
theorem dX12_halve_79 : decode cX12_halve 79 = .ok (.invokevirtual 248, 3) := by decide +kernel
theorem dX12_halve_82 : decode cX12_halve 82 = .ok (.iadd, 1) := by decide +kernel
theorem dX12_halve_83 : decode cX12_halve 83 = .ok (.ireturn, 1) := by decide +kernel
theorem dX12_stores_0 : decode cX12_stores 0 = .ok (.iconst 0, 1) := by decide +kernel
theorem dX12_stores_1 : decode cX12_stores 1 = .ok (.istore_n 1, 1) := by decide +kernel
theorem dX12_stores_2 : decode cX12_stores 2 = .ok (.iload_n 1, 1) := by decide +kernel
theorem dX12_stores_3 : decode cX12_stores 3 = .ok (.bipush 33, 2) := by decide +kernel
theorem dX12_stores_5 : decode cX12_stores 5 = .ok (.if_icmp .ge 21, 3) := by decide +kernel
theorem dX12_stores_8 : decode cX12_stores 8 = .ok (.aload_n 0, 1) := by decide +kernel
theorem dX12_stores_9 : decode cX12_stores 9 = .ok (.getfield 39, 3) := by decide +kernel
theorem dX12_stores_12 : decode cX12_stores 12 = .ok (.iload_n 1, 1) := by decide +kernel
theorem dX12_stores_13 : decode cX12_stores 13 = .ok (.aload_n 0, 1) := by decide +kernel
theorem dX12_stores_14 : decode cX12_stores 14 = .ok (.getfield 9, 3) := by decide +kernel
theorem dX12_stores_17 : decode cX12_stores 17 = .ok (.iload_n 1, 1) := by decide +kernel
theorem dX12_stores_18 : decode cX12_stores 18 = .ok (.iaload, 1) := by decide +kernel
theorem dX12_stores_19 : decode cX12_stores 19 = .ok (.iastore, 1) := by decide +kernel
theorem dX12_stores_20 : decode cX12_stores 20 = .ok (.iinc 1 1, 3) := by decide +kernel
theorem dX12_stores_23 : decode cX12_stores 23 = .ok (.goto (-21), 3) := by decide +kernel
theorem dX12_stores_26 : decode cX12_stores 26 = .ok (.return_, 1) := by decide +kernel
theorem dX12_comesBack_0 : decode cX12_comesBack 0 = .ok (.iconst 0, 1) := by decide +kernel
theorem dX12_comesBack_1 : decode cX12_comesBack 1 = .ok (.istore_n 1, 1) := by decide +kernel
theorem dX12_comesBack_2 : decode cX12_comesBack 2 = .ok (.iload_n 1, 1) := by decide +kernel
theorem dX12_comesBack_3 : decode cX12_comesBack 3 = .ok (.bipush 33, 2) := by decide +kernel
theorem dX12_comesBack_5 : decode cX12_comesBack 5 = .ok (.if_icmp .ge 21, 3) := by decide +kernel
theorem dX12_comesBack_8 : decode cX12_comesBack 8 = .ok (.aload_n 0, 1) := by decide +kernel
theorem dX12_comesBack_9 : decode cX12_comesBack 9 = .ok (.getfield 9, 3) := by decide +kernel
theorem dX12_comesBack_12 : decode cX12_comesBack 12 = .ok (.iload_n 1, 1) := by decide +kernel
theorem dX12_comesBack_13 : decode cX12_comesBack 13 = .ok (.aload_n 0, 1) := by decide +kernel
theorem dX12_comesBack_14 : decode cX12_comesBack 14 = .ok (.getfield 39, 3) := by decide +kernel
theorem dX12_comesBack_17 : decode cX12_comesBack 17 = .ok (.iload_n 1, 1) := by decide +kernel
theorem dX12_comesBack_18 : decode cX12_comesBack 18 = .ok (.iaload, 1) := by decide +kernel
theorem dX12_comesBack_19 : decode cX12_comesBack 19 = .ok (.iastore, 1) := by decide +kernel
theorem dX12_comesBack_20 : decode cX12_comesBack 20 = .ok (.iinc 1 1, 3) := by decide +kernel
theorem dX12_comesBack_23 : decode cX12_comesBack 23 = .ok (.goto (-21), 3) := by decide +kernel
theorem dX12_comesBack_26 : decode cX12_comesBack 26 = .ok (.return_, 1) := by decide +kernel
theorem dX12_refusesHalves_0 : decode cX12_refusesHalves 0 = .ok (.iload_n 1, 1) := by decide +kernel
theorem dX12_refusesHalves_1 : decode cX12_refusesHalves 1 = .ok (.iconst 1, 1) := by decide +kernel
theorem dX12_refusesHalves_2 : decode cX12_refusesHalves 2 = .ok (.bipush 9, 2) := by decide +kernel
theorem dX12_refusesHalves_4 : decode cX12_refusesHalves 4 = .ok (.invokestatic 71, 3) := by decide +kernel
theorem dX12_refusesHalves_7 : decode cX12_refusesHalves 7 = .ok (.ifCond .ne 7, 3) := by decide +kernel
theorem dX12_refusesHalves_10 : decode cX12_refusesHalves 10 = .ok (.iconst (-1), 1) := by decide +kernel
theorem dX12_refusesHalves_11 : decode cX12_refusesHalves 11 = .ok (.goto 19, 3) := by decide +kernel
theorem dX12_refusesHalves_14 : decode cX12_refusesHalves 14 = .ok (.aload_n 0, 1) := by decide +kernel
theorem dX12_refusesHalves_15 : decode cX12_refusesHalves 15 = .ok (.getfield 9, 3) := by decide +kernel
theorem dX12_refusesHalves_18 : decode cX12_refusesHalves 18 = .ok (.iconst 0, 1) := by decide +kernel
theorem dX12_refusesHalves_19 : decode cX12_refusesHalves 19 = .ok (.iaload, 1) := by decide +kernel
theorem dX12_refusesHalves_20 : decode cX12_refusesHalves 20 = .ok (.iconst 2, 1) := by decide +kernel
theorem dX12_refusesHalves_21 : decode cX12_refusesHalves 21 = .ok (.if_icmp .ge 8, 3) := by decide +kernel
theorem dX12_refusesHalves_24 : decode cX12_refusesHalves 24 = .ok (.bipush (-2), 2) := by decide +kernel
theorem dX12_refusesHalves_26 : decode cX12_refusesHalves 26 = .ok (.goto 4, 3) := by decide +kernel
theorem dX12_refusesHalves_29 : decode cX12_refusesHalves 29 = .ok (.iconst 0, 1) := by decide +kernel
theorem dX12_refusesHalves_30 : decode cX12_refusesHalves 30 = .ok (.ireturn, 1) := by decide +kernel
theorem dX12_halvesTold_0 : decode cX12_halvesTold 0 = .ok (.aload_n 0, 1) := by decide +kernel
theorem dX12_halvesTold_1 : decode cX12_halvesTold 1 = .ok (.iconst 1, 1) := by decide +kernel
theorem dX12_halvesTold_2 : decode cX12_halvesTold 2 = .ok (.invokevirtual 179, 3) := by decide +kernel
theorem dX12_halvesTold_5 : decode cX12_halvesTold 5 = .ok (.istore_n 2, 1) := by decide +kernel
theorem dX12_halvesTold_6 : decode cX12_halvesTold 6 = .ok (.aload_n 0, 1) := by decide +kernel
theorem dX12_halvesTold_7 : decode cX12_halvesTold 7 = .ok (.iconst 0, 1) := by decide +kernel
theorem dX12_halvesTold_8 : decode cX12_halvesTold 8 = .ok (.aload_n 0, 1) := by decide +kernel
theorem dX12_halvesTold_9 : decode cX12_halvesTold 9 = .ok (.getfield 9, 3) := by decide +kernel
theorem dX12_halvesTold_12 : decode cX12_halvesTold 12 = .ok (.iconst 0, 1) := by decide +kernel
theorem dX12_halvesTold_13 : decode cX12_halvesTold 13 = .ok (.iaload, 1) := by decide +kernel
theorem dX12_halvesTold_14 : decode cX12_halvesTold 14 = .ok (.iload_n 1, 1) := by decide +kernel
theorem dX12_halvesTold_15 : decode cX12_halvesTold 15 = .ok (.invokevirtual 248, 3) := by decide +kernel
theorem dX12_halvesTold_18 : decode cX12_halvesTold 18 = .ok (.istore_n 3, 1) := by decide +kernel
theorem dX12_halvesTold_19 : decode cX12_halvesTold 19 = .ok (.aload_n 0, 1) := by decide +kernel
theorem dX12_halvesTold_20 : decode cX12_halvesTold 20 = .ok (.iconst 0, 1) := by decide +kernel
theorem dX12_halvesTold_21 : decode cX12_halvesTold 21 = .ok (.putfield 68, 3) := by decide +kernel
theorem dX12_halvesTold_24 : decode cX12_halvesTold 24 = .ok (.aload_n 0, 1) := by decide +kernel
theorem dX12_halvesTold_25 : decode cX12_halvesTold 25 = .ok (.iload_n 2, 1) := by decide +kernel
theorem dX12_halvesTold_26 : decode cX12_halvesTold 26 = .ok (.i2l, 1) := by decide +kernel
theorem dX12_halvesTold_27 : decode cX12_halvesTold 27 = .ok (.invokevirtual 167, 3) := by decide +kernel
theorem dX12_halvesTold_30 : decode cX12_halvesTold 30 = .ok (.aload_n 0, 1) := by decide +kernel
theorem dX12_halvesTold_31 : decode cX12_halvesTold 31 = .ok (.aload_n 0, 1) := by decide +kernel
theorem dX12_halvesTold_32 : decode cX12_halvesTold 32 = .ok (.iconst 1, 1) := by decide +kernel
theorem dX12_halvesTold_33 : decode cX12_halvesTold 33 = .ok (.invokevirtual 179, 3) := by decide +kernel
theorem dX12_halvesTold_36 : decode cX12_halvesTold 36 = .ok (.i2l, 1) := by decide +kernel
theorem dX12_halvesTold_37 : decode cX12_halvesTold 37 = .ok (.invokevirtual 167, 3) := by decide +kernel
theorem dX12_halvesTold_40 : decode cX12_halvesTold 40 = .ok (.iload_n 3, 1) := by decide +kernel
theorem dX12_halvesTold_41 : decode cX12_halvesTold 41 = .ok (.ireturn, 1) := by decide +kernel
theorem dX12_halves_0 : decode cX12_halves 0 = .ok (.aload_n 0, 1) := by decide +kernel
theorem dX12_halves_1 : decode cX12_halves 1 = .ok (.iconst 0, 1) := by decide +kernel
theorem dX12_halves_2 : decode cX12_halves 2 = .ok (.putfield 64, 3) := by decide +kernel
theorem dX12_halves_5 : decode cX12_halves 5 = .ok (.aload_n 0, 1) := by decide +kernel
theorem dX12_halves_6 : decode cX12_halves 6 = .ok (.iload_n 1, 1) := by decide +kernel
theorem dX12_halves_7 : decode cX12_halves 7 = .ok (.invokevirtual 251, 3) := by decide +kernel
theorem dX12_halves_10 : decode cX12_halves 10 = .ok (.istore_n 2, 1) := by decide +kernel
theorem dX12_halves_11 : decode cX12_halves 11 = .ok (.iload_n 2, 1) := by decide +kernel
theorem dX12_halves_12 : decode cX12_halves 12 = .ok (.ifCond .ge 5, 3) := by decide +kernel
theorem dX12_halves_15 : decode cX12_halves 15 = .ok (.iload_n 2, 1) := by decide +kernel
theorem dX12_halves_16 : decode cX12_halves 16 = .ok (.ireturn, 1) := by decide +kernel
theorem dX12_halves_17 : decode cX12_halves 17 = .ok (.aload_n 0, 1) := by decide +kernel
theorem dX12_halves_18 : decode cX12_halves 18 = .ok (.invokevirtual 120, 3) := by decide +kernel
theorem dX12_halves_21 : decode cX12_halves 21 = .ok (.aload_n 0, 1) := by decide +kernel
theorem dX12_halves_22 : decode cX12_halves 22 = .ok (.iload_n 1, 1) := by decide +kernel
theorem dX12_halves_23 : decode cX12_halves 23 = .ok (.invokevirtual 254, 3) := by decide +kernel
theorem dX12_halves_26 : decode cX12_halves 26 = .ok (.ireturn, 1) := by decide +kernel
theorem dX12_would_0 : decode cX12_would 0 = .ok (.aload_n 0, 1) := by decide +kernel
theorem dX12_would_1 : decode cX12_would 1 = .ok (.iconst 0, 1) := by decide +kernel
theorem dX12_would_2 : decode cX12_would 2 = .ok (.putfield 64, 3) := by decide +kernel
theorem dX12_would_5 : decode cX12_would 5 = .ok (.aload_n 0, 1) := by decide +kernel
theorem dX12_would_6 : decode cX12_would 6 = .ok (.iload_n 1, 1) := by decide +kernel
theorem dX12_would_7 : decode cX12_would 7 = .ok (.invokevirtual 251, 3) := by decide +kernel
theorem dX12_would_10 : decode cX12_would 10 = .ok (.istore_n 2, 1) := by decide +kernel
theorem dX12_would_11 : decode cX12_would 11 = .ok (.iload_n 2, 1) := by decide +kernel
theorem dX12_would_12 : decode cX12_would 12 = .ok (.ifCond .ge 5, 3) := by decide +kernel
theorem dX12_would_15 : decode cX12_would 15 = .ok (.iload_n 2, 1) := by decide +kernel
theorem dX12_would_16 : decode cX12_would 16 = .ok (.ireturn, 1) := by decide +kernel
theorem dX12_would_17 : decode cX12_would 17 = .ok (.aload_n 0, 1) := by decide +kernel
theorem dX12_would_18 : decode cX12_would 18 = .ok (.invokevirtual 257, 3) := by decide +kernel
theorem dX12_would_21 : decode cX12_would 21 = .ok (.aload_n 0, 1) := by decide +kernel
theorem dX12_would_22 : decode cX12_would 22 = .ok (.iload_n 1, 1) := by decide +kernel
theorem dX12_would_23 : decode cX12_would 23 = .ok (.invokevirtual 254, 3) := by decide +kernel
theorem dX12_would_26 : decode cX12_would 26 = .ok (.istore_n 3, 1) := by decide +kernel
theorem dX12_would_27 : decode cX12_would 27 = .ok (.aload_n 0, 1) := by decide +kernel
theorem dX12_would_28 : decode cX12_would 28 = .ok (.invokevirtual 260, 3) := by decide +kernel
theorem dX12_would_31 : decode cX12_would 31 = .ok (.iload_n 3, 1) := by decide +kernel
theorem dX12_would_32 : decode cX12_would 32 = .ok (.ireturn, 1) := by decide +kernel
theorem dX12_gain_0 : decode cX12_gain 0 = .ok (.aload_n 0, 1) := by decide +kernel
theorem dX12_gain_1 : decode cX12_gain 1 = .ok (.iconst 0, 1) := by decide +kernel
theorem dX12_gain_2 : decode cX12_gain 2 = .ok (.putfield 64, 3) := by decide +kernel
theorem dX12_gain_5 : decode cX12_gain 5 = .ok (.aload_n 0, 1) := by decide +kernel
theorem dX12_gain_6 : decode cX12_gain 6 = .ok (.iload_n 1, 1) := by decide +kernel
theorem dX12_gain_7 : decode cX12_gain 7 = .ok (.invokevirtual 126, 3) := by decide +kernel
theorem dX12_gain_10 : decode cX12_gain 10 = .ok (.ifCond .ne 5, 3) := by decide +kernel
theorem dX12_gain_13 : decode cX12_gain 13 = .ok (.iconst (-1), 1) := by decide +kernel
theorem dX12_gain_14 : decode cX12_gain 14 = .ok (.ireturn, 1) := by decide +kernel
theorem dX12_gain_15 : decode cX12_gain 15 = .ok (.aload_n 0, 1) := by decide +kernel
theorem dX12_gain_16 : decode cX12_gain 16 = .ok (.getfield 9, 3) := by decide +kernel
theorem dX12_gain_19 : decode cX12_gain 19 = .ok (.iconst 0, 1) := by decide +kernel
theorem dX12_gain_20 : decode cX12_gain 20 = .ok (.iaload, 1) := by decide +kernel
theorem dX12_gain_21 : decode cX12_gain 21 = .ok (.iconst 2, 1) := by decide +kernel
theorem dX12_gain_22 : decode cX12_gain 22 = .ok (.if_icmp .ge 6, 3) := by decide +kernel
theorem dX12_gain_25 : decode cX12_gain 25 = .ok (.bipush (-2), 2) := by decide +kernel
theorem dX12_gain_27 : decode cX12_gain 27 = .ok (.ireturn, 1) := by decide +kernel
theorem dX12_gain_28 : decode cX12_gain 28 = .ok (.aload_n 0, 1) := by decide +kernel
theorem dX12_gain_29 : decode cX12_gain 29 = .ok (.iconst 0, 1) := by decide +kernel
theorem dX12_gain_30 : decode cX12_gain 30 = .ok (.putfield 68, 3) := by decide +kernel
theorem dX12_gain_33 : decode cX12_gain 33 = .ok (.aload_n 0, 1) := by decide +kernel
theorem dX12_gain_34 : decode cX12_gain 34 = .ok (.aload_n 0, 1) := by decide +kernel
theorem dX12_gain_35 : decode cX12_gain 35 = .ok (.getfield 9, 3) := by decide +kernel
theorem dX12_gain_38 : decode cX12_gain 38 = .ok (.bipush 17, 2) := by decide +kernel
theorem dX12_gain_40 : decode cX12_gain 40 = .ok (.iload_n 1, 1) := by decide +kernel
theorem dX12_gain_41 : decode cX12_gain 41 = .ok (.iadd, 1) := by decide +kernel
theorem dX12_gain_42 : decode cX12_gain 42 = .ok (.iaload, 1) := by decide +kernel
theorem dX12_gain_43 : decode cX12_gain 43 = .ok (.aload_n 0, 1) := by decide +kernel
theorem dX12_gain_44 : decode cX12_gain 44 = .ok (.getfield 9, 3) := by decide +kernel
theorem dX12_gain_47 : decode cX12_gain 47 = .ok (.iconst 0, 1) := by decide +kernel
