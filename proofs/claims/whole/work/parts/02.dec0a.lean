theorem dX0_digits_0 : decode cX0_digits 0 = .ok (.iconst 0, 1) := by decide +kernel
theorem dX0_digits_1 : decode cX0_digits 1 = .ok (.istore_n 1, 1) := by decide +kernel
theorem dX0_digits_2 : decode cX0_digits 2 = .ok (.iload_n 1, 1) := by decide +kernel
theorem dX0_digits_3 : decode cX0_digits 3 = .ok (.bipush 31, 2) := by decide +kernel
theorem dX0_digits_5 : decode cX0_digits 5 = .ok (.if_icmp .ge 15, 3) := by decide +kernel
theorem dX0_digits_8 : decode cX0_digits 8 = .ok (.iload_n 0, 1) := by decide +kernel
theorem dX0_digits_9 : decode cX0_digits 9 = .ok (.iload_n 1, 1) := by decide +kernel
theorem dX0_digits_10 : decode cX0_digits 10 = .ok (.ishr, 1) := by decide +kernel
theorem dX0_digits_11 : decode cX0_digits 11 = .ok (.ifCond .le 9, 3) := by decide +kernel
theorem dX0_digits_14 : decode cX0_digits 14 = .ok (.iinc 1 1, 3) := by decide +kernel
theorem dX0_digits_17 : decode cX0_digits 17 = .ok (.goto (-15), 3) := by decide +kernel
theorem dX0_digits_20 : decode cX0_digits 20 = .ok (.iload_n 1, 1) := by decide +kernel
theorem dX0_digits_21 : decode cX0_digits 21 = .ok (.ireturn, 1) := by decide +kernel
theorem dX0_gapBits_0 : decode cX0_gapBits 0 = .ok (.iload_n 1, 1) := by decide +kernel
theorem dX0_gapBits_1 : decode cX0_gapBits 1 = .ok (.tableswitch 57 0 2 #[27, 29, 38], 27) := by decide +kernel
theorem dX0_gapBits_28 : decode cX0_gapBits 28 = .ok (.iload_n 0, 1) := by decide +kernel
theorem dX0_gapBits_29 : decode cX0_gapBits 29 = .ok (.ireturn, 1) := by decide +kernel
theorem dX0_gapBits_30 : decode cX0_gapBits 30 = .ok (.iconst 2, 1) := by decide +kernel
theorem dX0_gapBits_31 : decode cX0_gapBits 31 = .ok (.iload_n 0, 1) := by decide +kernel
theorem dX0_gapBits_32 : decode cX0_gapBits 32 = .ok (.invokestatic 11, 3) := by decide +kernel
theorem dX0_gapBits_35 : decode cX0_gapBits 35 = .ok (.imul, 1) := by decide +kernel
theorem dX0_gapBits_36 : decode cX0_gapBits 36 = .ok (.iconst 1, 1) := by decide +kernel
theorem dX0_gapBits_37 : decode cX0_gapBits 37 = .ok (.isub, 1) := by decide +kernel
theorem dX0_gapBits_38 : decode cX0_gapBits 38 = .ok (.ireturn, 1) := by decide +kernel
theorem dX0_gapBits_39 : decode cX0_gapBits 39 = .ok (.iload_n 0, 1) := by decide +kernel
theorem dX0_gapBits_40 : decode cX0_gapBits 40 = .ok (.invokestatic 11, 3) := by decide +kernel
theorem dX0_gapBits_43 : decode cX0_gapBits 43 = .ok (.iconst 1, 1) := by decide +kernel
theorem dX0_gapBits_44 : decode cX0_gapBits 44 = .ok (.isub, 1) := by decide +kernel
theorem dX0_gapBits_45 : decode cX0_gapBits 45 = .ok (.iconst 2, 1) := by decide +kernel
theorem dX0_gapBits_46 : decode cX0_gapBits 46 = .ok (.iload_n 0, 1) := by decide +kernel
theorem dX0_gapBits_47 : decode cX0_gapBits 47 = .ok (.invokestatic 11, 3) := by decide +kernel
theorem dX0_gapBits_50 : decode cX0_gapBits 50 = .ok (.invokestatic 11, 3) := by decide +kernel
theorem dX0_gapBits_53 : decode cX0_gapBits 53 = .ok (.imul, 1) := by decide +kernel
theorem dX0_gapBits_54 : decode cX0_gapBits 54 = .ok (.iadd, 1) := by decide +kernel
theorem dX0_gapBits_55 : decode cX0_gapBits 55 = .ok (.iconst 1, 1) := by decide +kernel
theorem dX0_gapBits_56 : decode cX0_gapBits 56 = .ok (.isub, 1) := by decide +kernel
theorem dX0_gapBits_57 : decode cX0_gapBits 57 = .ok (.ireturn, 1) := by decide +kernel
theorem dX0_gapBits_58 : decode cX0_gapBits 58 = .ok (.iload_n 2, 1) := by decide +kernel
theorem dX0_gapBits_59 : decode cX0_gapBits 59 = .ok (.invokestatic 11, 3) := by decide +kernel
theorem dX0_gapBits_62 : decode cX0_gapBits 62 = .ok (.ireturn, 1) := by decide +kernel
theorem dX0_listBits_0 : decode cX0_listBits 0 = .ok (.iconst 0, 1) := by decide +kernel
theorem dX0_listBits_1 : decode cX0_listBits 1 = .ok (.istore_n 3, 1) := by decide +kernel
theorem dX0_listBits_2 : decode cX0_listBits 2 = .ok (.iconst (-1), 1) := by decide +kernel
theorem dX0_listBits_3 : decode cX0_listBits 3 = .ok (.istore 4, 2) := by decide +kernel
theorem dX0_listBits_5 : decode cX0_listBits 5 = .ok (.iload_n 0, 1) := by decide +kernel
theorem dX0_listBits_6 : decode cX0_listBits 6 = .ok (.istore 5, 2) := by decide +kernel
theorem dX0_listBits_8 : decode cX0_listBits 8 = .ok (.iload_n 0, 1) := by decide +kernel
theorem dX0_listBits_9 : decode cX0_listBits 9 = .ok (.invokestatic 15, 3) := by decide +kernel
theorem dX0_listBits_12 : decode cX0_listBits 12 = .ok (.istore 6, 2) := by decide +kernel
theorem dX0_listBits_14 : decode cX0_listBits 14 = .ok (.iload 6, 2) := by decide +kernel
theorem dX0_listBits_16 : decode cX0_listBits 16 = .ok (.ifCond .le 48, 3) := by decide +kernel
theorem dX0_listBits_19 : decode cX0_listBits 19 = .ok (.iload 5, 2) := by decide +kernel
theorem dX0_listBits_21 : decode cX0_listBits 21 = .ok (.iload 5, 2) := by decide +kernel
theorem dX0_listBits_23 : decode cX0_listBits 23 = .ok (.ineg, 1) := by decide +kernel
theorem dX0_listBits_24 : decode cX0_listBits 24 = .ok (.iand, 1) := by decide +kernel
theorem dX0_listBits_25 : decode cX0_listBits 25 = .ok (.iconst 1, 1) := by decide +kernel
theorem dX0_listBits_26 : decode cX0_listBits 26 = .ok (.isub, 1) := by decide +kernel
theorem dX0_listBits_27 : decode cX0_listBits 27 = .ok (.invokestatic 15, 3) := by decide +kernel
theorem dX0_listBits_30 : decode cX0_listBits 30 = .ok (.istore 7, 2) := by decide +kernel
theorem dX0_listBits_32 : decode cX0_listBits 32 = .ok (.iload_n 3, 1) := by decide +kernel
theorem dX0_listBits_33 : decode cX0_listBits 33 = .ok (.iload 7, 2) := by decide +kernel
theorem dX0_listBits_35 : decode cX0_listBits 35 = .ok (.iload 4, 2) := by decide +kernel
theorem dX0_listBits_37 : decode cX0_listBits 37 = .ok (.isub, 1) := by decide +kernel
theorem dX0_listBits_38 : decode cX0_listBits 38 = .ok (.iload_n 1, 1) := by decide +kernel
theorem dX0_listBits_39 : decode cX0_listBits 39 = .ok (.iload_n 2, 1) := by decide +kernel
theorem dX0_listBits_40 : decode cX0_listBits 40 = .ok (.invokestatic 20, 3) := by decide +kernel
theorem dX0_listBits_43 : decode cX0_listBits 43 = .ok (.iadd, 1) := by decide +kernel
theorem dX0_listBits_44 : decode cX0_listBits 44 = .ok (.istore_n 3, 1) := by decide +kernel
theorem dX0_listBits_45 : decode cX0_listBits 45 = .ok (.iload 7, 2) := by decide +kernel
theorem dX0_listBits_47 : decode cX0_listBits 47 = .ok (.istore 4, 2) := by decide +kernel
theorem dX0_listBits_49 : decode cX0_listBits 49 = .ok (.iload 5, 2) := by decide +kernel
theorem dX0_listBits_51 : decode cX0_listBits 51 = .ok (.iload 5, 2) := by decide +kernel
theorem dX0_listBits_53 : decode cX0_listBits 53 = .ok (.iconst 1, 1) := by decide +kernel
theorem dX0_listBits_54 : decode cX0_listBits 54 = .ok (.isub, 1) := by decide +kernel
theorem dX0_listBits_55 : decode cX0_listBits 55 = .ok (.iand, 1) := by decide +kernel
theorem dX0_listBits_56 : decode cX0_listBits 56 = .ok (.istore 5, 2) := by decide +kernel
theorem dX0_listBits_58 : decode cX0_listBits 58 = .ok (.iinc 6 (-1), 3) := by decide +kernel
theorem dX0_listBits_61 : decode cX0_listBits 61 = .ok (.goto (-47), 3) := by decide +kernel
theorem dX0_listBits_64 : decode cX0_listBits 64 = .ok (.iload_n 3, 1) := by decide +kernel
theorem dX0_listBits_65 : decode cX0_listBits 65 = .ok (.ireturn, 1) := by decide +kernel
theorem dX0_greatestGap_0 : decode cX0_greatestGap 0 = .ok (.iconst 0, 1) := by decide +kernel
theorem dX0_greatestGap_1 : decode cX0_greatestGap 1 = .ok (.istore_n 1, 1) := by decide +kernel
theorem dX0_greatestGap_2 : decode cX0_greatestGap 2 = .ok (.iconst (-1), 1) := by decide +kernel
theorem dX0_greatestGap_3 : decode cX0_greatestGap 3 = .ok (.istore_n 2, 1) := by decide +kernel
theorem dX0_greatestGap_4 : decode cX0_greatestGap 4 = .ok (.iconst 0, 1) := by decide +kernel
theorem dX0_greatestGap_5 : decode cX0_greatestGap 5 = .ok (.istore_n 3, 1) := by decide +kernel
theorem dX0_greatestGap_6 : decode cX0_greatestGap 6 = .ok (.iload_n 3, 1) := by decide +kernel
theorem dX0_greatestGap_7 : decode cX0_greatestGap 7 = .ok (.bipush 16, 2) := by decide +kernel
theorem dX0_greatestGap_9 : decode cX0_greatestGap 9 = .ok (.if_icmp .ge 28, 3) := by decide +kernel
theorem dX0_greatestGap_12 : decode cX0_greatestGap 12 = .ok (.iload_n 0, 1) := by decide +kernel
theorem dX0_greatestGap_13 : decode cX0_greatestGap 13 = .ok (.iload_n 3, 1) := by decide +kernel
theorem dX0_greatestGap_14 : decode cX0_greatestGap 14 = .ok (.ishr, 1) := by decide +kernel
theorem dX0_greatestGap_15 : decode cX0_greatestGap 15 = .ok (.iconst 1, 1) := by decide +kernel
theorem dX0_greatestGap_16 : decode cX0_greatestGap 16 = .ok (.iand, 1) := by decide +kernel
theorem dX0_greatestGap_17 : decode cX0_greatestGap 17 = .ok (.iconst 1, 1) := by decide +kernel
theorem dX0_greatestGap_18 : decode cX0_greatestGap 18 = .ok (.if_icmp .ne 13, 3) := by decide +kernel
theorem dX0_greatestGap_21 : decode cX0_greatestGap 21 = .ok (.iload_n 1, 1) := by decide +kernel
theorem dX0_greatestGap_22 : decode cX0_greatestGap 22 = .ok (.iload_n 3, 1) := by decide +kernel
theorem dX0_greatestGap_23 : decode cX0_greatestGap 23 = .ok (.iload_n 2, 1) := by decide +kernel
theorem dX0_greatestGap_24 : decode cX0_greatestGap 24 = .ok (.isub, 1) := by decide +kernel
theorem dX0_greatestGap_25 : decode cX0_greatestGap 25 = .ok (.invokestatic 24, 3) := by decide +kernel
theorem dX0_greatestGap_28 : decode cX0_greatestGap 28 = .ok (.istore_n 1, 1) := by decide +kernel
theorem dX0_greatestGap_29 : decode cX0_greatestGap 29 = .ok (.iload_n 3, 1) := by decide +kernel
theorem dX0_greatestGap_30 : decode cX0_greatestGap 30 = .ok (.istore_n 2, 1) := by decide +kernel
theorem dX0_greatestGap_31 : decode cX0_greatestGap 31 = .ok (.iinc 3 1, 3) := by decide +kernel
theorem dX0_greatestGap_34 : decode cX0_greatestGap 34 = .ok (.goto (-28), 3) := by decide +kernel
theorem dX0_greatestGap_37 : decode cX0_greatestGap 37 = .ok (.iload_n 1, 1) := by decide +kernel
theorem dX0_greatestGap_38 : decode cX0_greatestGap 38 = .ok (.ireturn, 1) := by decide +kernel
theorem dX0_setsOf_0 : decode cX0_setsOf 0 = .ok (.iconst 1, 1) := by decide +kernel
theorem dX0_setsOf_1 : decode cX0_setsOf 1 = .ok (.istore_n 2, 1) := by decide +kernel
theorem dX0_setsOf_2 : decode cX0_setsOf 2 = .ok (.iconst 1, 1) := by decide +kernel
theorem dX0_setsOf_3 : decode cX0_setsOf 3 = .ok (.istore_n 3, 1) := by decide +kernel
theorem dX0_setsOf_4 : decode cX0_setsOf 4 = .ok (.iload_n 3, 1) := by decide +kernel
theorem dX0_setsOf_5 : decode cX0_setsOf 5 = .ok (.iload_n 1, 1) := by decide +kernel
theorem dX0_setsOf_6 : decode cX0_setsOf 6 = .ok (.if_icmp .gt 19, 3) := by decide +kernel
theorem dX0_setsOf_9 : decode cX0_setsOf 9 = .ok (.iload_n 2, 1) := by decide +kernel
theorem dX0_setsOf_10 : decode cX0_setsOf 10 = .ok (.iload_n 0, 1) := by decide +kernel
theorem dX0_setsOf_11 : decode cX0_setsOf 11 = .ok (.iload_n 1, 1) := by decide +kernel
theorem dX0_setsOf_12 : decode cX0_setsOf 12 = .ok (.isub, 1) := by decide +kernel
theorem dX0_setsOf_13 : decode cX0_setsOf 13 = .ok (.iload_n 3, 1) := by decide +kernel
theorem dX0_setsOf_14 : decode cX0_setsOf 14 = .ok (.iadd, 1) := by decide +kernel
theorem dX0_setsOf_15 : decode cX0_setsOf 15 = .ok (.imul, 1) := by decide +kernel
theorem dX0_setsOf_16 : decode cX0_setsOf 16 = .ok (.iload_n 3, 1) := by decide +kernel
theorem dX0_setsOf_17 : decode cX0_setsOf 17 = .ok (.idiv, 1) := by decide +kernel
theorem dX0_setsOf_18 : decode cX0_setsOf 18 = .ok (.istore_n 2, 1) := by decide +kernel
theorem dX0_setsOf_19 : decode cX0_setsOf 19 = .ok (.iinc 3 1, 3) := by decide +kernel
theorem dX0_setsOf_22 : decode cX0_setsOf 22 = .ok (.goto (-18), 3) := by decide +kernel
theorem dX0_setsOf_25 : decode cX0_setsOf 25 = .ok (.iload_n 2, 1) := by decide +kernel
theorem dX0_setsOf_26 : decode cX0_setsOf 26 = .ok (.ireturn, 1) := by decide +kernel
theorem dX0_bitsToTell_0 : decode cX0_bitsToTell 0 = .ok (.iconst 0, 1) := by decide +kernel
theorem dX0_bitsToTell_1 : decode cX0_bitsToTell 1 = .ok (.istore_n 1, 1) := by decide +kernel
theorem dX0_bitsToTell_2 : decode cX0_bitsToTell 2 = .ok (.iload_n 1, 1) := by decide +kernel
theorem dX0_bitsToTell_3 : decode cX0_bitsToTell 3 = .ok (.bipush 30, 2) := by decide +kernel
theorem dX0_bitsToTell_5 : decode cX0_bitsToTell 5 = .ok (.if_icmp .ge 16, 3) := by decide +kernel
theorem dX0_bitsToTell_8 : decode cX0_bitsToTell 8 = .ok (.iconst 1, 1) := by decide +kernel
theorem dX0_bitsToTell_9 : decode cX0_bitsToTell 9 = .ok (.iload_n 1, 1) := by decide +kernel
theorem dX0_bitsToTell_10 : decode cX0_bitsToTell 10 = .ok (.ishl, 1) := by decide +kernel
theorem dX0_bitsToTell_11 : decode cX0_bitsToTell 11 = .ok (.iload_n 0, 1) := by decide +kernel
theorem dX0_bitsToTell_12 : decode cX0_bitsToTell 12 = .ok (.if_icmp .ge 9, 3) := by decide +kernel
theorem dX0_bitsToTell_15 : decode cX0_bitsToTell 15 = .ok (.iinc 1 1, 3) := by decide +kernel
theorem dX0_bitsToTell_18 : decode cX0_bitsToTell 18 = .ok (.goto (-16), 3) := by decide +kernel
theorem dX0_bitsToTell_21 : decode cX0_bitsToTell 21 = .ok (.iload_n 1, 1) := by decide +kernel
theorem dX0_bitsToTell_22 : decode cX0_bitsToTell 22 = .ok (.ireturn, 1) := by decide +kernel
theorem dX0_likenessOf_0 : decode cX0_likenessOf 0 = .ok (.bipush 10, 2) := by decide +kernel
theorem dX0_likenessOf_2 : decode cX0_likenessOf 2 = .ok (.iload_n 0, 1) := by decide +kernel
theorem dX0_likenessOf_3 : decode cX0_likenessOf 3 = .ok (.iload_n 1, 1) := by decide +kernel
theorem dX0_likenessOf_4 : decode cX0_likenessOf 4 = .ok (.iand, 1) := by decide +kernel
theorem dX0_likenessOf_5 : decode cX0_likenessOf 5 = .ok (.invokestatic 15, 3) := by decide +kernel
theorem dX0_likenessOf_8 : decode cX0_likenessOf 8 = .ok (.imul, 1) := by decide +kernel
theorem dX0_likenessOf_9 : decode cX0_likenessOf 9 = .ok (.iload_n 0, 1) := by decide +kernel
theorem dX0_likenessOf_10 : decode cX0_likenessOf 10 = .ok (.iload_n 1, 1) := by decide +kernel
theorem dX0_likenessOf_11 : decode cX0_likenessOf 11 = .ok (.ixor, 1) := by decide +kernel
theorem dX0_likenessOf_12 : decode cX0_likenessOf 12 = .ok (.invokestatic 15, 3) := by decide +kernel
theorem dX0_likenessOf_15 : decode cX0_likenessOf 15 = .ok (.isub, 1) := by decide +kernel
theorem dX0_likenessOf_16 : decode cX0_likenessOf 16 = .ok (.ireturn, 1) := by decide +kernel
theorem dX1_init_0 : decode cX1_init 0 = .ok (.aload_n 0, 1) := by decide +kernel
theorem dX1_init_1 : decode cX1_init 1 = .ok (.invokespecial 3, 3) := by decide +kernel
theorem dX1_init_4 : decode cX1_init 4 = .ok (.aload_n 0, 1) := by decide +kernel
theorem dX1_init_5 : decode cX1_init 5 = .ok (.bipush 16, 2) := by decide +kernel
theorem dX1_init_7 : decode cX1_init 7 = .ok (.newarray .int, 2) := by decide +kernel
theorem dX1_init_9 : decode cX1_init 9 = .ok (.putfield 9, 3) := by decide +kernel
theorem dX1_init_12 : decode cX1_init 12 = .ok (.aload_n 0, 1) := by decide +kernel
theorem dX1_init_13 : decode cX1_init 13 = .ok (.iconst 0, 1) := by decide +kernel
theorem dX1_init_14 : decode cX1_init 14 = .ok (.putfield 15, 3) := by decide +kernel
theorem dX1_init_17 : decode cX1_init 17 = .ok (.return_, 1) := by decide +kernel
theorem dX1_bitsRead_0 : decode cX1_bitsRead 0 = .ok (.aload_n 0, 1) := by decide +kernel
theorem dX1_bitsRead_1 : decode cX1_bitsRead 1 = .ok (.getfield 15, 3) := by decide +kernel
theorem dX1_bitsRead_4 : decode cX1_bitsRead 4 = .ok (.ireturn, 1) := by decide +kernel
theorem dX1_numberAt_0 : decode cX1_numberAt 0 = .ok (.iload_n 1, 1) := by decide +kernel
theorem dX1_numberAt_1 : decode cX1_numberAt 1 = .ok (.ifCond .lt 18, 3) := by decide +kernel
theorem dX1_numberAt_4 : decode cX1_numberAt 4 = .ok (.iload_n 1, 1) := by decide +kernel
theorem dX1_numberAt_5 : decode cX1_numberAt 5 = .ok (.bipush 16, 2) := by decide +kernel
theorem dX1_numberAt_7 : decode cX1_numberAt 7 = .ok (.if_icmp .ge 12, 3) := by decide +kernel
theorem dX1_numberAt_10 : decode cX1_numberAt 10 = .ok (.aload_n 0, 1) := by decide +kernel
theorem dX1_numberAt_11 : decode cX1_numberAt 11 = .ok (.getfield 9, 3) := by decide +kernel
theorem dX1_numberAt_14 : decode cX1_numberAt 14 = .ok (.iload_n 1, 1) := by decide +kernel
theorem dX1_numberAt_15 : decode cX1_numberAt 15 = .ok (.iaload, 1) := by decide +kernel
theorem dX1_numberAt_16 : decode cX1_numberAt 16 = .ok (.goto 4, 3) := by decide +kernel
theorem dX1_numberAt_19 : decode cX1_numberAt 19 = .ok (.iconst (-1), 1) := by decide +kernel
theorem dX1_numberAt_20 : decode cX1_numberAt 20 = .ok (.ireturn, 1) := by decide +kernel
theorem dX1_readList_0 : decode cX1_readList 0 = .ok (.aload_n 0, 1) := by decide +kernel
theorem dX1_readList_1 : decode cX1_readList 1 = .ok (.iconst 0, 1) := by decide +kernel
theorem dX1_readList_2 : decode cX1_readList 2 = .ok (.putfield 15, 3) := by decide +kernel
theorem dX1_readList_5 : decode cX1_readList 5 = .ok (.iconst (-1), 1) := by decide +kernel
theorem dX1_readList_6 : decode cX1_readList 6 = .ok (.istore 5, 2) := by decide +kernel
theorem dX1_readList_8 : decode cX1_readList 8 = .ok (.iconst 0, 1) := by decide +kernel
theorem dX1_readList_9 : decode cX1_readList 9 = .ok (.istore 6, 2) := by decide +kernel
theorem dX1_readList_11 : decode cX1_readList 11 = .ok (.iload 6, 2) := by decide +kernel
theorem dX1_readList_13 : decode cX1_readList 13 = .ok (.iload_n 3, 1) := by decide +kernel
theorem dX1_readList_14 : decode cX1_readList 14 = .ok (.if_icmp .ge 59, 3) := by decide +kernel
theorem dX1_readList_17 : decode cX1_readList 17 = .ok (.iload 6, 2) := by decide +kernel
theorem dX1_readList_19 : decode cX1_readList 19 = .ok (.bipush 16, 2) := by decide +kernel
theorem dX1_readList_21 : decode cX1_readList 21 = .ok (.if_icmp .ge 52, 3) := by decide +kernel
theorem dX1_readList_24 : decode cX1_readList 24 = .ok (.aload_n 0, 1) := by decide +kernel
theorem dX1_readList_25 : decode cX1_readList 25 = .ok (.aload_n 1, 1) := by decide +kernel
theorem dX1_readList_26 : decode cX1_readList 26 = .ok (.iload_n 2, 1) := by decide +kernel
theorem dX1_readList_27 : decode cX1_readList 27 = .ok (.iload 4, 2) := by decide +kernel
theorem dX1_readList_29 : decode cX1_readList 29 = .ok (.invokevirtual 19, 3) := by decide +kernel
theorem dX1_readList_32 : decode cX1_readList 32 = .ok (.istore 7, 2) := by decide +kernel
theorem dX1_readList_34 : decode cX1_readList 34 = .ok (.iload 7, 2) := by decide +kernel
theorem dX1_readList_36 : decode cX1_readList 36 = .ok (.iconst 1, 1) := by decide +kernel
theorem dX1_readList_37 : decode cX1_readList 37 = .ok (.if_icmp .lt 11, 3) := by decide +kernel
theorem dX1_readList_40 : decode cX1_readList 40 = .ok (.iload 7, 2) := by decide +kernel
theorem dX1_readList_42 : decode cX1_readList 42 = .ok (.sipush 255, 3) := by decide +kernel
theorem dX1_readList_45 : decode cX1_readList 45 = .ok (.if_icmp .le 6, 3) := by decide +kernel
theorem dX1_readList_48 : decode cX1_readList 48 = .ok (.iload 6, 2) := by decide +kernel
theorem dX1_readList_50 : decode cX1_readList 50 = .ok (.ireturn, 1) := by decide +kernel
theorem dX1_readList_51 : decode cX1_readList 51 = .ok (.iload 5, 2) := by decide +kernel
theorem dX1_readList_53 : decode cX1_readList 53 = .ok (.iload 7, 2) := by decide +kernel
theorem dX1_readList_55 : decode cX1_readList 55 = .ok (.iadd, 1) := by decide +kernel
theorem dX1_readList_56 : decode cX1_readList 56 = .ok (.istore 5, 2) := by decide +kernel
theorem dX1_readList_58 : decode cX1_readList 58 = .ok (.aload_n 0, 1) := by decide +kernel
theorem dX1_readList_59 : decode cX1_readList 59 = .ok (.getfield 9, 3) := by decide +kernel
theorem dX1_readList_62 : decode cX1_readList 62 = .ok (.iload 6, 2) := by decide +kernel
theorem dX1_readList_64 : decode cX1_readList 64 = .ok (.iload 5, 2) := by decide +kernel
theorem dX1_readList_66 : decode cX1_readList 66 = .ok (.iastore, 1) := by decide +kernel
theorem dX1_readList_67 : decode cX1_readList 67 = .ok (.iinc 6 1, 3) := by decide +kernel
theorem dX1_readList_70 : decode cX1_readList 70 = .ok (.goto (-59), 3) := by decide +kernel
theorem dX1_readList_73 : decode cX1_readList 73 = .ok (.iload_n 3, 1) := by decide +kernel
theorem dX1_readList_74 : decode cX1_readList 74 = .ok (.ireturn, 1) := by decide +kernel
theorem dX1_readGap_0 : decode cX1_readGap 0 = .ok (.iload_n 2, 1) := by decide +kernel
theorem dX1_readGap_1 : decode cX1_readGap 1 = .ok (.tableswitch 74 0 2 #[27, 33, 39], 27) := by decide +kernel
theorem dX1_readGap_28 : decode cX1_readGap 28 = .ok (.aload_n 0, 1) := by decide +kernel
theorem dX1_readGap_29 : decode cX1_readGap 29 = .ok (.aload_n 1, 1) := by decide +kernel
theorem dX1_readGap_30 : decode cX1_readGap 30 = .ok (.invokevirtual 23, 3) := by decide +kernel
theorem dX1_readGap_33 : decode cX1_readGap 33 = .ok (.ireturn, 1) := by decide +kernel
theorem dX1_readGap_34 : decode cX1_readGap 34 = .ok (.aload_n 0, 1) := by decide +kernel
theorem dX1_readGap_35 : decode cX1_readGap 35 = .ok (.aload_n 1, 1) := by decide +kernel
theorem dX1_readGap_36 : decode cX1_readGap 36 = .ok (.invokevirtual 27, 3) := by decide +kernel
theorem dX1_readGap_39 : decode cX1_readGap 39 = .ok (.ireturn, 1) := by decide +kernel
theorem dX1_readGap_40 : decode cX1_readGap 40 = .ok (.aload_n 0, 1) := by decide +kernel
theorem dX1_readGap_41 : decode cX1_readGap 41 = .ok (.aload_n 1, 1) := by decide +kernel
theorem dX1_readGap_42 : decode cX1_readGap 42 = .ok (.invokevirtual 27, 3) := by decide +kernel
theorem dX1_readGap_45 : decode cX1_readGap 45 = .ok (.istore 4, 2) := by decide +kernel
theorem dX1_readGap_47 : decode cX1_readGap 47 = .ok (.iload 4, 2) := by decide +kernel
theorem dX1_readGap_49 : decode cX1_readGap 49 = .ok (.iconst 1, 1) := by decide +kernel
theorem dX1_readGap_50 : decode cX1_readGap 50 = .ok (.if_icmp .lt 10, 3) := by decide +kernel
theorem dX1_readGap_53 : decode cX1_readGap 53 = .ok (.iload 4, 2) := by decide +kernel
theorem dX1_readGap_55 : decode cX1_readGap 55 = .ok (.bipush 8, 2) := by decide +kernel
theorem dX1_readGap_57 : decode cX1_readGap 57 = .ok (.if_icmp .le 7, 3) := by decide +kernel
theorem dX1_readGap_60 : decode cX1_readGap 60 = .ok (.iconst 0, 1) := by decide +kernel
theorem dX1_readGap_61 : decode cX1_readGap 61 = .ok (.goto 13, 3) := by decide +kernel
theorem dX1_readGap_64 : decode cX1_readGap 64 = .ok (.aload_n 0, 1) := by decide +kernel
theorem dX1_readGap_65 : decode cX1_readGap 65 = .ok (.aload_n 1, 1) := by decide +kernel
theorem dX1_readGap_66 : decode cX1_readGap 66 = .ok (.iconst 1, 1) := by decide +kernel
theorem dX1_readGap_67 : decode cX1_readGap 67 = .ok (.iload 4, 2) := by decide +kernel
theorem dX1_readGap_69 : decode cX1_readGap 69 = .ok (.iconst 1, 1) := by decide +kernel
theorem dX1_readGap_70 : decode cX1_readGap 70 = .ok (.isub, 1) := by decide +kernel
theorem dX1_readGap_71 : decode cX1_readGap 71 = .ok (.invokevirtual 30, 3) := by decide +kernel
theorem dX1_readGap_74 : decode cX1_readGap 74 = .ok (.ireturn, 1) := by decide +kernel
theorem dX1_readGap_75 : decode cX1_readGap 75 = .ok (.aload_n 0, 1) := by decide +kernel
theorem dX1_readGap_76 : decode cX1_readGap 76 = .ok (.aload_n 1, 1) := by decide +kernel
theorem dX1_readGap_77 : decode cX1_readGap 77 = .ok (.iconst 0, 1) := by decide +kernel
theorem dX1_readGap_78 : decode cX1_readGap 78 = .ok (.iload_n 3, 1) := by decide +kernel
theorem dX1_readGap_79 : decode cX1_readGap 79 = .ok (.invokestatic 33, 3) := by decide +kernel
theorem dX1_readGap_82 : decode cX1_readGap 82 = .ok (.invokevirtual 30, 3) := by decide +kernel
theorem dX1_readGap_85 : decode cX1_readGap 85 = .ok (.ireturn, 1) := by decide +kernel
theorem dX1_readUnary_0 : decode cX1_readUnary 0 = .ok (.iconst 1, 1) := by decide +kernel
theorem dX1_readUnary_1 : decode cX1_readUnary 1 = .ok (.istore_n 2, 1) := by decide +kernel
theorem dX1_readUnary_2 : decode cX1_readUnary 2 = .ok (.iload_n 2, 1) := by decide +kernel
theorem dX1_readUnary_3 : decode cX1_readUnary 3 = .ok (.sipush 255, 3) := by decide +kernel
theorem dX1_readUnary_6 : decode cX1_readUnary 6 = .ok (.if_icmp .gt 30, 3) := by decide +kernel
theorem dX1_readUnary_9 : decode cX1_readUnary 9 = .ok (.aload_n 0, 1) := by decide +kernel
theorem dX1_readUnary_10 : decode cX1_readUnary 10 = .ok (.aload_n 1, 1) := by decide +kernel
theorem dX1_readUnary_11 : decode cX1_readUnary 11 = .ok (.invokevirtual 39, 3) := by decide +kernel
theorem dX1_readUnary_14 : decode cX1_readUnary 14 = .ok (.istore_n 3, 1) := by decide +kernel
theorem dX1_readUnary_15 : decode cX1_readUnary 15 = .ok (.iload_n 3, 1) := by decide +kernel
theorem dX1_readUnary_16 : decode cX1_readUnary 16 = .ok (.iconst 1, 1) := by decide +kernel
theorem dX1_readUnary_17 : decode cX1_readUnary 17 = .ok (.if_icmp .eq 13, 3) := by decide +kernel
theorem dX1_readUnary_20 : decode cX1_readUnary 20 = .ok (.iload_n 3, 1) := by decide +kernel
theorem dX1_readUnary_21 : decode cX1_readUnary 21 = .ok (.ifCond .ne 7, 3) := by decide +kernel
theorem dX1_readUnary_24 : decode cX1_readUnary 24 = .ok (.iload_n 2, 1) := by decide +kernel
theorem dX1_readUnary_25 : decode cX1_readUnary 25 = .ok (.goto 4, 3) := by decide +kernel
theorem dX1_readUnary_28 : decode cX1_readUnary 28 = .ok (.iconst 0, 1) := by decide +kernel
theorem dX1_readUnary_29 : decode cX1_readUnary 29 = .ok (.ireturn, 1) := by decide +kernel
theorem dX1_readUnary_30 : decode cX1_readUnary 30 = .ok (.iinc 2 1, 3) := by decide +kernel
theorem dX1_readUnary_33 : decode cX1_readUnary 33 = .ok (.goto (-31), 3) := by decide +kernel
theorem dX1_readUnary_36 : decode cX1_readUnary 36 = .ok (.iconst 0, 1) := by decide +kernel
theorem dX1_readUnary_37 : decode cX1_readUnary 37 = .ok (.ireturn, 1) := by decide +kernel
theorem dX1_readGamma_0 : decode cX1_readGamma 0 = .ok (.iconst 0, 1) := by decide +kernel
theorem dX1_readGamma_1 : decode cX1_readGamma 1 = .ok (.istore_n 2, 1) := by decide +kernel
theorem dX1_readGamma_2 : decode cX1_readGamma 2 = .ok (.iload_n 2, 1) := by decide +kernel
theorem dX1_readGamma_3 : decode cX1_readGamma 3 = .ok (.bipush 8, 2) := by decide +kernel
theorem dX1_readGamma_5 : decode cX1_readGamma 5 = .ok (.if_icmp .ge 36, 3) := by decide +kernel
theorem dX1_readGamma_8 : decode cX1_readGamma 8 = .ok (.aload_n 0, 1) := by decide +kernel
theorem dX1_readGamma_9 : decode cX1_readGamma 9 = .ok (.aload_n 1, 1) := by decide +kernel
theorem dX1_readGamma_10 : decode cX1_readGamma 10 = .ok (.invokevirtual 39, 3) := by decide +kernel
theorem dX1_readGamma_13 : decode cX1_readGamma 13 = .ok (.istore_n 3, 1) := by decide +kernel
theorem dX1_readGamma_14 : decode cX1_readGamma 14 = .ok (.iload_n 3, 1) := by decide +kernel
theorem dX1_readGamma_15 : decode cX1_readGamma 15 = .ok (.ifCond .eq 20, 3) := by decide +kernel
theorem dX1_readGamma_18 : decode cX1_readGamma 18 = .ok (.iload_n 3, 1) := by decide +kernel
theorem dX1_readGamma_19 : decode cX1_readGamma 19 = .ok (.iconst 1, 1) := by decide +kernel
theorem dX1_readGamma_20 : decode cX1_readGamma 20 = .ok (.if_icmp .ne 13, 3) := by decide +kernel
theorem dX1_readGamma_23 : decode cX1_readGamma 23 = .ok (.aload_n 0, 1) := by decide +kernel
theorem dX1_readGamma_24 : decode cX1_readGamma 24 = .ok (.aload_n 1, 1) := by decide +kernel
theorem dX1_readGamma_25 : decode cX1_readGamma 25 = .ok (.iconst 1, 1) := by decide +kernel
theorem dX1_readGamma_26 : decode cX1_readGamma 26 = .ok (.iload_n 2, 1) := by decide +kernel
theorem dX1_readGamma_27 : decode cX1_readGamma 27 = .ok (.invokevirtual 30, 3) := by decide +kernel
theorem dX1_readGamma_30 : decode cX1_readGamma 30 = .ok (.goto 4, 3) := by decide +kernel
theorem dX1_readGamma_33 : decode cX1_readGamma 33 = .ok (.iconst 0, 1) := by decide +kernel
theorem dX1_readGamma_34 : decode cX1_readGamma 34 = .ok (.ireturn, 1) := by decide +kernel
theorem dX1_readGamma_35 : decode cX1_readGamma 35 = .ok (.iinc 2 1, 3) := by decide +kernel
theorem dX1_readGamma_38 : decode cX1_readGamma 38 = .ok (.goto (-36), 3) := by decide +kernel
theorem dX1_readGamma_41 : decode cX1_readGamma 41 = .ok (.iconst 0, 1) := by decide +kernel
theorem dX1_readGamma_42 : decode cX1_readGamma 42 = .ok (.ireturn, 1) := by decide +kernel
theorem dX1_readDigits_0 : decode cX1_readDigits 0 = .ok (.iload_n 2, 1) := by decide +kernel
theorem dX1_readDigits_1 : decode cX1_readDigits 1 = .ok (.istore 4, 2) := by decide +kernel
theorem dX1_readDigits_3 : decode cX1_readDigits 3 = .ok (.iconst 0, 1) := by decide +kernel
theorem dX1_readDigits_4 : decode cX1_readDigits 4 = .ok (.istore 5, 2) := by decide +kernel
theorem dX1_readDigits_6 : decode cX1_readDigits 6 = .ok (.iload 5, 2) := by decide +kernel
theorem dX1_readDigits_8 : decode cX1_readDigits 8 = .ok (.iload_n 3, 1) := by decide +kernel
theorem dX1_readDigits_9 : decode cX1_readDigits 9 = .ok (.if_icmp .ge 33, 3) := by decide +kernel
theorem dX1_readDigits_12 : decode cX1_readDigits 12 = .ok (.aload_n 0, 1) := by decide +kernel
theorem dX1_readDigits_13 : decode cX1_readDigits 13 = .ok (.aload_n 1, 1) := by decide +kernel
theorem dX1_readDigits_14 : decode cX1_readDigits 14 = .ok (.invokevirtual 39, 3) := by decide +kernel
theorem dX1_readDigits_17 : decode cX1_readDigits 17 = .ok (.istore 6, 2) := by decide +kernel
theorem dX1_readDigits_19 : decode cX1_readDigits 19 = .ok (.iload 6, 2) := by decide +kernel
theorem dX1_readDigits_21 : decode cX1_readDigits 21 = .ok (.iconst (-1), 1) := by decide +kernel
theorem dX1_readDigits_22 : decode cX1_readDigits 22 = .ok (.if_icmp .ne 5, 3) := by decide +kernel
theorem dX1_readDigits_25 : decode cX1_readDigits 25 = .ok (.iconst 0, 1) := by decide +kernel
theorem dX1_readDigits_26 : decode cX1_readDigits 26 = .ok (.ireturn, 1) := by decide +kernel
theorem dX1_readDigits_27 : decode cX1_readDigits 27 = .ok (.iconst 2, 1) := by decide +kernel
theorem dX1_readDigits_28 : decode cX1_readDigits 28 = .ok (.iload 4, 2) := by decide +kernel
theorem dX1_readDigits_30 : decode cX1_readDigits 30 = .ok (.imul, 1) := by decide +kernel
theorem dX1_readDigits_31 : decode cX1_readDigits 31 = .ok (.iload 6, 2) := by decide +kernel
theorem dX1_readDigits_33 : decode cX1_readDigits 33 = .ok (.iadd, 1) := by decide +kernel
theorem dX1_readDigits_34 : decode cX1_readDigits 34 = .ok (.istore 4, 2) := by decide +kernel
theorem dX1_readDigits_36 : decode cX1_readDigits 36 = .ok (.iinc 5 1, 3) := by decide +kernel
theorem dX1_readDigits_39 : decode cX1_readDigits 39 = .ok (.goto (-33), 3) := by decide +kernel
theorem dX1_readDigits_42 : decode cX1_readDigits 42 = .ok (.iload 4, 2) := by decide +kernel
theorem dX1_readDigits_44 : decode cX1_readDigits 44 = .ok (.ireturn, 1) := by decide +kernel
theorem dX1_readBit_0 : decode cX1_readBit 0 = .ok (.aload_n 1, 1) := by decide +kernel
theorem dX1_readBit_1 : decode cX1_readBit 1 = .ok (.aload_n 0, 1) := by decide +kernel
theorem dX1_readBit_2 : decode cX1_readBit 2 = .ok (.getfield 15, 3) := by decide +kernel
theorem dX1_readBit_5 : decode cX1_readBit 5 = .ok (.bipush 8, 2) := by decide +kernel
theorem dX1_readBit_7 : decode cX1_readBit 7 = .ok (.idiv, 1) := by decide +kernel
theorem dX1_readBit_8 : decode cX1_readBit 8 = .ok (.invokevirtual 42, 3) := by decide +kernel
theorem dX1_readBit_11 : decode cX1_readBit 11 = .ok (.istore_n 2, 1) := by decide +kernel
theorem dX1_readBit_12 : decode cX1_readBit 12 = .ok (.iload_n 2, 1) := by decide +kernel
theorem dX1_readBit_13 : decode cX1_readBit 13 = .ok (.iconst (-1), 1) := by decide +kernel
theorem dX1_readBit_14 : decode cX1_readBit 14 = .ok (.if_icmp .ne 5, 3) := by decide +kernel
theorem dX1_readBit_17 : decode cX1_readBit 17 = .ok (.iconst (-1), 1) := by decide +kernel
theorem dX1_readBit_18 : decode cX1_readBit 18 = .ok (.ireturn, 1) := by decide +kernel
theorem dX1_readBit_19 : decode cX1_readBit 19 = .ok (.iload_n 2, 1) := by decide +kernel
theorem dX1_readBit_20 : decode cX1_readBit 20 = .ok (.bipush 7, 2) := by decide +kernel
theorem dX1_readBit_22 : decode cX1_readBit 22 = .ok (.aload_n 0, 1) := by decide +kernel
theorem dX1_readBit_23 : decode cX1_readBit 23 = .ok (.getfield 15, 3) := by decide +kernel
theorem dX1_readBit_26 : decode cX1_readBit 26 = .ok (.bipush 8, 2) := by decide +kernel
theorem dX1_readBit_28 : decode cX1_readBit 28 = .ok (.irem, 1) := by decide +kernel
theorem dX1_readBit_29 : decode cX1_readBit 29 = .ok (.isub, 1) := by decide +kernel
theorem dX1_readBit_30 : decode cX1_readBit 30 = .ok (.ishr, 1) := by decide +kernel
theorem dX1_readBit_31 : decode cX1_readBit 31 = .ok (.iconst 1, 1) := by decide +kernel
theorem dX1_readBit_32 : decode cX1_readBit 32 = .ok (.iand, 1) := by decide +kernel
theorem dX1_readBit_33 : decode cX1_readBit 33 = .ok (.istore_n 3, 1) := by decide +kernel
theorem dX1_readBit_34 : decode cX1_readBit 34 = .ok (.aload_n 0, 1) := by decide +kernel
theorem dX1_readBit_35 : decode cX1_readBit 35 = .ok (.dup, 1) := by decide +kernel
theorem dX1_readBit_36 : decode cX1_readBit 36 = .ok (.getfield 15, 3) := by decide +kernel
theorem dX1_readBit_39 : decode cX1_readBit 39 = .ok (.iconst 1, 1) := by decide +kernel
theorem dX1_readBit_40 : decode cX1_readBit 40 = .ok (.iadd, 1) := by decide +kernel
theorem dX1_readBit_41 : decode cX1_readBit 41 = .ok (.putfield 15, 3) := by decide +kernel
theorem dX1_readBit_44 : decode cX1_readBit 44 = .ok (.iload_n 3, 1) := by decide +kernel
theorem dX1_readBit_45 : decode cX1_readBit 45 = .ok (.ireturn, 1) := by decide +kernel
theorem dX2_init_0 : decode cX2_init 0 = .ok (.aload_n 0, 1) := by decide +kernel
theorem dX2_init_1 : decode cX2_init 1 = .ok (.invokespecial 3, 3) := by decide +kernel
theorem dX2_init_4 : decode cX2_init 4 = .ok (.aload_n 0, 1) := by decide +kernel
theorem dX2_init_5 : decode cX2_init 5 = .ok (.bipush 32, 2) := by decide +kernel
theorem dX2_init_7 : decode cX2_init 7 = .ok (.newarray .int, 2) := by decide +kernel
theorem dX2_init_9 : decode cX2_init 9 = .ok (.putfield 11, 3) := by decide +kernel
theorem dX2_init_12 : decode cX2_init 12 = .ok (.aload_n 0, 1) := by decide +kernel
theorem dX2_init_13 : decode cX2_init 13 = .ok (.iconst 0, 1) := by decide +kernel
theorem dX2_init_14 : decode cX2_init 14 = .ok (.putfield 15, 3) := by decide +kernel
theorem dX2_init_17 : decode cX2_init 17 = .ok (.return_, 1) := by decide +kernel
theorem dX2_bytes_0 : decode cX2_bytes 0 = .ok (.aload_n 0, 1) := by decide +kernel
theorem dX2_bytes_1 : decode cX2_bytes 1 = .ok (.getfield 15, 3) := by decide +kernel
theorem dX2_bytes_4 : decode cX2_bytes 4 = .ok (.bipush 7, 2) := by decide +kernel
theorem dX2_bytes_6 : decode cX2_bytes 6 = .ok (.iadd, 1) := by decide +kernel
theorem dX2_bytes_7 : decode cX2_bytes 7 = .ok (.bipush 8, 2) := by decide +kernel
theorem dX2_bytes_9 : decode cX2_bytes 9 = .ok (.idiv, 1) := by decide +kernel
theorem dX2_bytes_10 : decode cX2_bytes 10 = .ok (.ireturn, 1) := by decide +kernel
theorem dX2_byteAt_0 : decode cX2_byteAt 0 = .ok (.iload_n 1, 1) := by decide +kernel
theorem dX2_byteAt_1 : decode cX2_byteAt 1 = .ok (.ifCond .lt 18, 3) := by decide +kernel
theorem dX2_byteAt_4 : decode cX2_byteAt 4 = .ok (.iload_n 1, 1) := by decide +kernel
theorem dX2_byteAt_5 : decode cX2_byteAt 5 = .ok (.bipush 32, 2) := by decide +kernel
theorem dX2_byteAt_7 : decode cX2_byteAt 7 = .ok (.if_icmp .ge 12, 3) := by decide +kernel
theorem dX2_byteAt_10 : decode cX2_byteAt 10 = .ok (.aload_n 0, 1) := by decide +kernel
theorem dX2_byteAt_11 : decode cX2_byteAt 11 = .ok (.getfield 11, 3) := by decide +kernel
theorem dX2_byteAt_14 : decode cX2_byteAt 14 = .ok (.iload_n 1, 1) := by decide +kernel
theorem dX2_byteAt_15 : decode cX2_byteAt 15 = .ok (.iaload, 1) := by decide +kernel
theorem dX2_byteAt_16 : decode cX2_byteAt 16 = .ok (.goto 4, 3) := by decide +kernel
theorem dX2_byteAt_19 : decode cX2_byteAt 19 = .ok (.iconst 0, 1) := by decide +kernel
theorem dX2_byteAt_20 : decode cX2_byteAt 20 = .ok (.ireturn, 1) := by decide +kernel
theorem dX2_writeList_0 : decode cX2_writeList 0 = .ok (.aload_n 0, 1) := by decide +kernel
theorem dX2_writeList_1 : decode cX2_writeList 1 = .ok (.iconst 0, 1) := by decide +kernel
theorem dX2_writeList_2 : decode cX2_writeList 2 = .ok (.putfield 15, 3) := by decide +kernel
theorem dX2_writeList_5 : decode cX2_writeList 5 = .ok (.iconst (-1), 1) := by decide +kernel
theorem dX2_writeList_6 : decode cX2_writeList 6 = .ok (.istore 4, 2) := by decide +kernel
theorem dX2_writeList_8 : decode cX2_writeList 8 = .ok (.iconst 0, 1) := by decide +kernel
theorem dX2_writeList_9 : decode cX2_writeList 9 = .ok (.istore 5, 2) := by decide +kernel
theorem dX2_writeList_11 : decode cX2_writeList 11 = .ok (.iload 5, 2) := by decide +kernel
theorem dX2_writeList_13 : decode cX2_writeList 13 = .ok (.bipush 16, 2) := by decide +kernel
theorem dX2_writeList_15 : decode cX2_writeList 15 = .ok (.if_icmp .ge 34, 3) := by decide +kernel
theorem dX2_writeList_18 : decode cX2_writeList 18 = .ok (.iload_n 1, 1) := by decide +kernel
theorem dX2_writeList_19 : decode cX2_writeList 19 = .ok (.iload 5, 2) := by decide +kernel
theorem dX2_writeList_21 : decode cX2_writeList 21 = .ok (.ishr, 1) := by decide +kernel
theorem dX2_writeList_22 : decode cX2_writeList 22 = .ok (.iconst 1, 1) := by decide +kernel
theorem dX2_writeList_23 : decode cX2_writeList 23 = .ok (.iand, 1) := by decide +kernel
theorem dX2_writeList_24 : decode cX2_writeList 24 = .ok (.iconst 1, 1) := by decide +kernel
theorem dX2_writeList_25 : decode cX2_writeList 25 = .ok (.if_icmp .ne 18, 3) := by decide +kernel
theorem dX2_writeList_28 : decode cX2_writeList 28 = .ok (.aload_n 0, 1) := by decide +kernel
theorem dX2_writeList_29 : decode cX2_writeList 29 = .ok (.iload 5, 2) := by decide +kernel
theorem dX2_writeList_31 : decode cX2_writeList 31 = .ok (.iload 4, 2) := by decide +kernel
theorem dX2_writeList_33 : decode cX2_writeList 33 = .ok (.isub, 1) := by decide +kernel
theorem dX2_writeList_34 : decode cX2_writeList 34 = .ok (.iload_n 2, 1) := by decide +kernel
theorem dX2_writeList_35 : decode cX2_writeList 35 = .ok (.iload_n 3, 1) := by decide +kernel
theorem dX2_writeList_36 : decode cX2_writeList 36 = .ok (.invokevirtual 19, 3) := by decide +kernel
theorem dX2_writeList_39 : decode cX2_writeList 39 = .ok (.iload 5, 2) := by decide +kernel
theorem dX2_writeList_41 : decode cX2_writeList 41 = .ok (.istore 4, 2) := by decide +kernel
theorem dX2_writeList_43 : decode cX2_writeList 43 = .ok (.iinc 5 1, 3) := by decide +kernel
theorem dX2_writeList_46 : decode cX2_writeList 46 = .ok (.goto (-35), 3) := by decide +kernel
theorem dX2_writeList_49 : decode cX2_writeList 49 = .ok (.return_, 1) := by decide +kernel
theorem dX2_writeGap_0 : decode cX2_writeGap 0 = .ok (.iload_n 2, 1) := by decide +kernel
theorem dX2_writeGap_1 : decode cX2_writeGap 1 = .ok (.tableswitch 65 0 2 #[27, 35, 43], 27) := by decide +kernel
theorem dX2_writeGap_28 : decode cX2_writeGap 28 = .ok (.aload_n 0, 1) := by decide +kernel
theorem dX2_writeGap_29 : decode cX2_writeGap 29 = .ok (.iload_n 1, 1) := by decide +kernel
theorem dX2_writeGap_30 : decode cX2_writeGap 30 = .ok (.invokevirtual 23, 3) := by decide +kernel
theorem dX2_writeGap_33 : decode cX2_writeGap 33 = .ok (.goto 42, 3) := by decide +kernel
theorem dX2_writeGap_36 : decode cX2_writeGap 36 = .ok (.aload_n 0, 1) := by decide +kernel
theorem dX2_writeGap_37 : decode cX2_writeGap 37 = .ok (.iload_n 1, 1) := by decide +kernel
theorem dX2_writeGap_38 : decode cX2_writeGap 38 = .ok (.invokevirtual 27, 3) := by decide +kernel
theorem dX2_writeGap_41 : decode cX2_writeGap 41 = .ok (.goto 34, 3) := by decide +kernel
theorem dX2_writeGap_44 : decode cX2_writeGap 44 = .ok (.aload_n 0, 1) := by decide +kernel
theorem dX2_writeGap_45 : decode cX2_writeGap 45 = .ok (.iload_n 1, 1) := by decide +kernel
theorem dX2_writeGap_46 : decode cX2_writeGap 46 = .ok (.invokestatic 30, 3) := by decide +kernel
theorem dX2_writeGap_49 : decode cX2_writeGap 49 = .ok (.invokevirtual 27, 3) := by decide +kernel
theorem dX2_writeGap_52 : decode cX2_writeGap 52 = .ok (.aload_n 0, 1) := by decide +kernel
theorem dX2_writeGap_53 : decode cX2_writeGap 53 = .ok (.iload_n 1, 1) := by decide +kernel
theorem dX2_writeGap_54 : decode cX2_writeGap 54 = .ok (.iload_n 1, 1) := by decide +kernel
theorem dX2_writeGap_55 : decode cX2_writeGap 55 = .ok (.invokestatic 30, 3) := by decide +kernel
theorem dX2_writeGap_58 : decode cX2_writeGap 58 = .ok (.iconst 1, 1) := by decide +kernel
theorem dX2_writeGap_59 : decode cX2_writeGap 59 = .ok (.isub, 1) := by decide +kernel
theorem dX2_writeGap_60 : decode cX2_writeGap 60 = .ok (.invokevirtual 36, 3) := by decide +kernel
theorem dX2_writeGap_63 : decode cX2_writeGap 63 = .ok (.goto 12, 3) := by decide +kernel
theorem dX2_writeGap_66 : decode cX2_writeGap 66 = .ok (.aload_n 0, 1) := by decide +kernel
theorem dX2_writeGap_67 : decode cX2_writeGap 67 = .ok (.iload_n 1, 1) := by decide +kernel
theorem dX2_writeGap_68 : decode cX2_writeGap 68 = .ok (.iload_n 3, 1) := by decide +kernel
theorem dX2_writeGap_69 : decode cX2_writeGap 69 = .ok (.invokestatic 30, 3) := by decide +kernel
theorem dX2_writeGap_72 : decode cX2_writeGap 72 = .ok (.invokevirtual 36, 3) := by decide +kernel
theorem dX2_writeGap_75 : decode cX2_writeGap 75 = .ok (.return_, 1) := by decide +kernel
theorem dX2_writeUnary_0 : decode cX2_writeUnary 0 = .ok (.iconst 1, 1) := by decide +kernel
theorem dX2_writeUnary_1 : decode cX2_writeUnary 1 = .ok (.istore_n 2, 1) := by decide +kernel
theorem dX2_writeUnary_2 : decode cX2_writeUnary 2 = .ok (.iload_n 2, 1) := by decide +kernel
theorem dX2_writeUnary_3 : decode cX2_writeUnary 3 = .ok (.iload_n 1, 1) := by decide +kernel
theorem dX2_writeUnary_4 : decode cX2_writeUnary 4 = .ok (.if_icmp .ge 14, 3) := by decide +kernel
theorem dX2_writeUnary_7 : decode cX2_writeUnary 7 = .ok (.aload_n 0, 1) := by decide +kernel
theorem dX2_writeUnary_8 : decode cX2_writeUnary 8 = .ok (.iconst 1, 1) := by decide +kernel
theorem dX2_writeUnary_9 : decode cX2_writeUnary 9 = .ok (.invokevirtual 40, 3) := by decide +kernel
theorem dX2_writeUnary_12 : decode cX2_writeUnary 12 = .ok (.iinc 2 1, 3) := by decide +kernel
theorem dX2_writeUnary_15 : decode cX2_writeUnary 15 = .ok (.goto (-13), 3) := by decide +kernel
theorem dX2_writeUnary_18 : decode cX2_writeUnary 18 = .ok (.aload_n 0, 1) := by decide +kernel
theorem dX2_writeUnary_19 : decode cX2_writeUnary 19 = .ok (.iconst 0, 1) := by decide +kernel
theorem dX2_writeUnary_20 : decode cX2_writeUnary 20 = .ok (.invokevirtual 40, 3) := by decide +kernel
theorem dX2_writeUnary_23 : decode cX2_writeUnary 23 = .ok (.return_, 1) := by decide +kernel
theorem dX2_writeGamma_0 : decode cX2_writeGamma 0 = .ok (.iload_n 1, 1) := by decide +kernel
theorem dX2_writeGamma_1 : decode cX2_writeGamma 1 = .ok (.invokestatic 30, 3) := by decide +kernel
theorem dX2_writeGamma_4 : decode cX2_writeGamma 4 = .ok (.istore_n 2, 1) := by decide +kernel
theorem dX2_writeGamma_5 : decode cX2_writeGamma 5 = .ok (.aload_n 0, 1) := by decide +kernel
theorem dX2_writeGamma_6 : decode cX2_writeGamma 6 = .ok (.iconst 0, 1) := by decide +kernel
theorem dX2_writeGamma_7 : decode cX2_writeGamma 7 = .ok (.iload_n 2, 1) := by decide +kernel
theorem dX2_writeGamma_8 : decode cX2_writeGamma 8 = .ok (.iconst 1, 1) := by decide +kernel
theorem dX2_writeGamma_9 : decode cX2_writeGamma 9 = .ok (.isub, 1) := by decide +kernel
theorem dX2_writeGamma_10 : decode cX2_writeGamma 10 = .ok (.invokevirtual 36, 3) := by decide +kernel
theorem dX2_writeGamma_13 : decode cX2_writeGamma 13 = .ok (.aload_n 0, 1) := by decide +kernel
theorem dX2_writeGamma_14 : decode cX2_writeGamma 14 = .ok (.iload_n 1, 1) := by decide +kernel
theorem dX2_writeGamma_15 : decode cX2_writeGamma 15 = .ok (.iload_n 2, 1) := by decide +kernel
theorem dX2_writeGamma_16 : decode cX2_writeGamma 16 = .ok (.invokevirtual 36, 3) := by decide +kernel
theorem dX2_writeGamma_19 : decode cX2_writeGamma 19 = .ok (.return_, 1) := by decide +kernel
theorem dX2_writeDigits_0 : decode cX2_writeDigits 0 = .ok (.iload_n 2, 1) := by decide +kernel
theorem dX2_writeDigits_1 : decode cX2_writeDigits 1 = .ok (.iconst 1, 1) := by decide +kernel
theorem dX2_writeDigits_2 : decode cX2_writeDigits 2 = .ok (.isub, 1) := by decide +kernel
theorem dX2_writeDigits_3 : decode cX2_writeDigits 3 = .ok (.istore_n 3, 1) := by decide +kernel
theorem dX2_writeDigits_4 : decode cX2_writeDigits 4 = .ok (.iload_n 3, 1) := by decide +kernel
theorem dX2_writeDigits_5 : decode cX2_writeDigits 5 = .ok (.ifCond .lt 18, 3) := by decide +kernel
theorem dX2_writeDigits_8 : decode cX2_writeDigits 8 = .ok (.aload_n 0, 1) := by decide +kernel
theorem dX2_writeDigits_9 : decode cX2_writeDigits 9 = .ok (.iload_n 1, 1) := by decide +kernel
theorem dX2_writeDigits_10 : decode cX2_writeDigits 10 = .ok (.iload_n 3, 1) := by decide +kernel
theorem dX2_writeDigits_11 : decode cX2_writeDigits 11 = .ok (.ishr, 1) := by decide +kernel
theorem dX2_writeDigits_12 : decode cX2_writeDigits 12 = .ok (.iconst 1, 1) := by decide +kernel
theorem dX2_writeDigits_13 : decode cX2_writeDigits 13 = .ok (.iand, 1) := by decide +kernel
theorem dX2_writeDigits_14 : decode cX2_writeDigits 14 = .ok (.invokevirtual 40, 3) := by decide +kernel
theorem dX2_writeDigits_17 : decode cX2_writeDigits 17 = .ok (.iinc 3 (-1), 3) := by decide +kernel
theorem dX2_writeDigits_20 : decode cX2_writeDigits 20 = .ok (.goto (-16), 3) := by decide +kernel
theorem dX2_writeDigits_23 : decode cX2_writeDigits 23 = .ok (.return_, 1) := by decide +kernel
theorem dX2_writeBit_0 : decode cX2_writeBit 0 = .ok (.aload_n 0, 1) := by decide +kernel
theorem dX2_writeBit_1 : decode cX2_writeBit 1 = .ok (.getfield 15, 3) := by decide +kernel
theorem dX2_writeBit_4 : decode cX2_writeBit 4 = .ok (.bipush 8, 2) := by decide +kernel
theorem dX2_writeBit_6 : decode cX2_writeBit 6 = .ok (.idiv, 1) := by decide +kernel
theorem dX2_writeBit_7 : decode cX2_writeBit 7 = .ok (.istore_n 2, 1) := by decide +kernel
theorem dX2_writeBit_8 : decode cX2_writeBit 8 = .ok (.iload_n 2, 1) := by decide +kernel
theorem dX2_writeBit_9 : decode cX2_writeBit 9 = .ok (.bipush 32, 2) := by decide +kernel
theorem dX2_writeBit_11 : decode cX2_writeBit 11 = .ok (.if_icmp .lt 4, 3) := by decide +kernel
theorem dX2_writeBit_14 : decode cX2_writeBit 14 = .ok (.return_, 1) := by decide +kernel
theorem dX2_writeBit_15 : decode cX2_writeBit 15 = .ok (.aload_n 0, 1) := by decide +kernel
theorem dX2_writeBit_16 : decode cX2_writeBit 16 = .ok (.getfield 15, 3) := by decide +kernel
theorem dX2_writeBit_19 : decode cX2_writeBit 19 = .ok (.bipush 8, 2) := by decide +kernel
theorem dX2_writeBit_21 : decode cX2_writeBit 21 = .ok (.irem, 1) := by decide +kernel
theorem dX2_writeBit_22 : decode cX2_writeBit 22 = .ok (.ifCond .ne 10, 3) := by decide +kernel
theorem dX2_writeBit_25 : decode cX2_writeBit 25 = .ok (.aload_n 0, 1) := by decide +kernel
theorem dX2_writeBit_26 : decode cX2_writeBit 26 = .ok (.getfield 11, 3) := by decide +kernel
theorem dX2_writeBit_29 : decode cX2_writeBit 29 = .ok (.iload_n 2, 1) := by decide +kernel
theorem dX2_writeBit_30 : decode cX2_writeBit 30 = .ok (.iconst 0, 1) := by decide +kernel
theorem dX2_writeBit_31 : decode cX2_writeBit 31 = .ok (.iastore, 1) := by decide +kernel
theorem dX2_writeBit_32 : decode cX2_writeBit 32 = .ok (.aload_n 0, 1) := by decide +kernel
theorem dX2_writeBit_33 : decode cX2_writeBit 33 = .ok (.getfield 11, 3) := by decide +kernel
theorem dX2_writeBit_36 : decode cX2_writeBit 36 = .ok (.iload_n 2, 1) := by decide +kernel
theorem dX2_writeBit_37 : decode cX2_writeBit 37 = .ok (.dup2, 1) := by decide +kernel
theorem dX2_writeBit_38 : decode cX2_writeBit 38 = .ok (.iaload, 1) := by decide +kernel
theorem dX2_writeBit_39 : decode cX2_writeBit 39 = .ok (.iload_n 1, 1) := by decide +kernel
theorem dX2_writeBit_40 : decode cX2_writeBit 40 = .ok (.bipush 7, 2) := by decide +kernel
theorem dX2_writeBit_42 : decode cX2_writeBit 42 = .ok (.aload_n 0, 1) := by decide +kernel
theorem dX2_writeBit_43 : decode cX2_writeBit 43 = .ok (.getfield 15, 3) := by decide +kernel
theorem dX2_writeBit_46 : decode cX2_writeBit 46 = .ok (.bipush 8, 2) := by decide +kernel
theorem dX2_writeBit_48 : decode cX2_writeBit 48 = .ok (.irem, 1) := by decide +kernel
theorem dX2_writeBit_49 : decode cX2_writeBit 49 = .ok (.isub, 1) := by decide +kernel
theorem dX2_writeBit_50 : decode cX2_writeBit 50 = .ok (.ishl, 1) := by decide +kernel
theorem dX2_writeBit_51 : decode cX2_writeBit 51 = .ok (.ior, 1) := by decide +kernel
theorem dX2_writeBit_52 : decode cX2_writeBit 52 = .ok (.iastore, 1) := by decide +kernel
theorem dX2_writeBit_53 : decode cX2_writeBit 53 = .ok (.aload_n 0, 1) := by decide +kernel
theorem dX2_writeBit_54 : decode cX2_writeBit 54 = .ok (.dup, 1) := by decide +kernel
theorem dX2_writeBit_55 : decode cX2_writeBit 55 = .ok (.getfield 15, 3) := by decide +kernel
theorem dX2_writeBit_58 : decode cX2_writeBit 58 = .ok (.iconst 1, 1) := by decide +kernel
theorem dX2_writeBit_59 : decode cX2_writeBit 59 = .ok (.iadd, 1) := by decide +kernel
theorem dX2_writeBit_60 : decode cX2_writeBit 60 = .ok (.putfield 15, 3) := by decide +kernel
theorem dX2_writeBit_63 : decode cX2_writeBit 63 = .ok (.return_, 1) := by decide +kernel
theorem dX3_documentsFault_0 : decode cX3_documentsFault 0 = .ok (.aload_n 1, 1) := by decide +kernel
theorem dX3_documentsFault_1 : decode cX3_documentsFault 1 = .ok (.invokevirtual 9, 3) := by decide +kernel
theorem dX3_documentsFault_4 : decode cX3_documentsFault 4 = .ok (.aload_n 0, 1) := by decide +kernel
theorem dX3_documentsFault_5 : decode cX3_documentsFault 5 = .ok (.invokevirtual 14, 3) := by decide +kernel
theorem dX3_documentsFault_8 : decode cX3_documentsFault 8 = .ok (.ifCond .ne 5, 3) := by decide +kernel
theorem dX3_documentsFault_11 : decode cX3_documentsFault 11 = .ok (.iconst (-1), 1) := by decide +kernel
theorem dX3_documentsFault_12 : decode cX3_documentsFault 12 = .ok (.ireturn, 1) := by decide +kernel
theorem dX3_documentsFault_13 : decode cX3_documentsFault 13 = .ok (.iconst 0, 1) := by decide +kernel
theorem dX3_documentsFault_14 : decode cX3_documentsFault 14 = .ok (.istore_n 2, 1) := by decide +kernel
theorem dX3_documentsFault_15 : decode cX3_documentsFault 15 = .ok (.iconst (-1), 1) := by decide +kernel
theorem dX3_documentsFault_16 : decode cX3_documentsFault 16 = .ok (.istore_n 3, 1) := by decide +kernel
theorem dX3_documentsFault_17 : decode cX3_documentsFault 17 = .ok (.iconst 0, 1) := by decide +kernel
theorem dX3_documentsFault_18 : decode cX3_documentsFault 18 = .ok (.istore 4, 2) := by decide +kernel
theorem dX3_documentsFault_20 : decode cX3_documentsFault 20 = .ok (.iload 4, 2) := by decide +kernel
theorem dX3_documentsFault_22 : decode cX3_documentsFault 22 = .ok (.aload_n 0, 1) := by decide +kernel
theorem dX3_documentsFault_23 : decode cX3_documentsFault 23 = .ok (.invokevirtual 14, 3) := by decide +kernel
theorem dX3_documentsFault_26 : decode cX3_documentsFault 26 = .ok (.if_icmp .ge 108, 3) := by decide +kernel
theorem dX3_documentsFault_29 : decode cX3_documentsFault 29 = .ok (.aload_n 0, 1) := by decide +kernel
theorem dX3_documentsFault_30 : decode cX3_documentsFault 30 = .ok (.iload 4, 2) := by decide +kernel
theorem dX3_documentsFault_32 : decode cX3_documentsFault 32 = .ok (.invokevirtual 20, 3) := by decide +kernel
theorem dX3_documentsFault_35 : decode cX3_documentsFault 35 = .ok (.istore 5, 2) := by decide +kernel
theorem dX3_documentsFault_37 : decode cX3_documentsFault 37 = .ok (.iload 5, 2) := by decide +kernel
theorem dX3_documentsFault_39 : decode cX3_documentsFault 39 = .ok (.bipush 59, 2) := by decide +kernel
theorem dX3_documentsFault_41 : decode cX3_documentsFault 41 = .ok (.if_icmp .ne 31, 3) := by decide +kernel
theorem dX3_documentsFault_44 : decode cX3_documentsFault 44 = .ok (.iload_n 3, 1) := by decide +kernel
theorem dX3_documentsFault_45 : decode cX3_documentsFault 45 = .ok (.iconst (-1), 1) := by decide +kernel
theorem dX3_documentsFault_46 : decode cX3_documentsFault 46 = .ok (.if_icmp .eq 26, 3) := by decide +kernel
theorem dX3_documentsFault_49 : decode cX3_documentsFault 49 = .ok (.aload_n 1, 1) := by decide +kernel
theorem dX3_documentsFault_50 : decode cX3_documentsFault 50 = .ok (.invokevirtual 24, 3) := by decide +kernel
theorem dX3_documentsFault_53 : decode cX3_documentsFault 53 = .ok (.iconst 1, 1) := by decide +kernel
theorem dX3_documentsFault_54 : decode cX3_documentsFault 54 = .ok (.iadd, 1) := by decide +kernel
theorem dX3_documentsFault_55 : decode cX3_documentsFault 55 = .ok (.bipush 16, 2) := by decide +kernel
theorem dX3_documentsFault_57 : decode cX3_documentsFault 57 = .ok (.if_icmp .ge 15, 3) := by decide +kernel
theorem dX3_documentsFault_60 : decode cX3_documentsFault 60 = .ok (.aload_n 1, 1) := by decide +kernel
theorem dX3_documentsFault_61 : decode cX3_documentsFault 61 = .ok (.iload_n 2, 1) := by decide +kernel
theorem dX3_documentsFault_62 : decode cX3_documentsFault 62 = .ok (.invokevirtual 27, 3) := by decide +kernel
theorem dX3_documentsFault_65 : decode cX3_documentsFault 65 = .ok (.iconst 0, 1) := by decide +kernel
theorem dX3_documentsFault_66 : decode cX3_documentsFault 66 = .ok (.istore_n 2, 1) := by decide +kernel
theorem dX3_documentsFault_67 : decode cX3_documentsFault 67 = .ok (.iconst (-1), 1) := by decide +kernel
theorem dX3_documentsFault_68 : decode cX3_documentsFault 68 = .ok (.istore_n 3, 1) := by decide +kernel
theorem dX3_documentsFault_69 : decode cX3_documentsFault 69 = .ok (.goto 59, 3) := by decide +kernel
theorem dX3_documentsFault_72 : decode cX3_documentsFault 72 = .ok (.iload 5, 2) := by decide +kernel
theorem dX3_documentsFault_74 : decode cX3_documentsFault 74 = .ok (.bipush 45, 2) := by decide +kernel
theorem dX3_documentsFault_76 : decode cX3_documentsFault 76 = .ok (.if_icmp .ne 14, 3) := by decide +kernel
theorem dX3_documentsFault_79 : decode cX3_documentsFault 79 = .ok (.iload_n 3, 1) := by decide +kernel
theorem dX3_documentsFault_80 : decode cX3_documentsFault 80 = .ok (.iconst (-1), 1) := by decide +kernel
theorem dX3_documentsFault_81 : decode cX3_documentsFault 81 = .ok (.if_icmp .ne 9, 3) := by decide +kernel
theorem dX3_documentsFault_84 : decode cX3_documentsFault 84 = .ok (.bipush 8, 2) := by decide +kernel
theorem dX3_documentsFault_86 : decode cX3_documentsFault 86 = .ok (.istore_n 3, 1) := by decide +kernel
theorem dX3_documentsFault_87 : decode cX3_documentsFault 87 = .ok (.goto 41, 3) := by decide +kernel
theorem dX3_documentsFault_90 : decode cX3_documentsFault 90 = .ok (.iload 5, 2) := by decide +kernel
theorem dX3_documentsFault_92 : decode cX3_documentsFault 92 = .ok (.bipush 97, 2) := by decide +kernel
theorem dX3_documentsFault_94 : decode cX3_documentsFault 94 = .ok (.isub, 1) := by decide +kernel
theorem dX3_documentsFault_95 : decode cX3_documentsFault 95 = .ok (.invokestatic 33, 3) := by decide +kernel
theorem dX3_documentsFault_98 : decode cX3_documentsFault 98 = .ok (.ifCond .eq 27, 3) := by decide +kernel
theorem dX3_documentsFault_101 : decode cX3_documentsFault 101 = .ok (.iload 5, 2) := by decide +kernel
theorem dX3_documentsFault_103 : decode cX3_documentsFault 103 = .ok (.bipush 97, 2) := by decide +kernel
theorem dX3_documentsFault_105 : decode cX3_documentsFault 105 = .ok (.isub, 1) := by decide +kernel
theorem dX3_documentsFault_106 : decode cX3_documentsFault 106 = .ok (.iload_n 3, 1) := by decide +kernel
theorem dX3_documentsFault_107 : decode cX3_documentsFault 107 = .ok (.if_icmp .le 18, 3) := by decide +kernel
theorem dX3_documentsFault_110 : decode cX3_documentsFault 110 = .ok (.iload 5, 2) := by decide +kernel
theorem dX3_documentsFault_112 : decode cX3_documentsFault 112 = .ok (.bipush 97, 2) := by decide +kernel
theorem dX3_documentsFault_114 : decode cX3_documentsFault 114 = .ok (.isub, 1) := by decide +kernel
theorem dX3_documentsFault_115 : decode cX3_documentsFault 115 = .ok (.istore_n 3, 1) := by decide +kernel
theorem dX3_documentsFault_116 : decode cX3_documentsFault 116 = .ok (.iload_n 2, 1) := by decide +kernel
theorem dX3_documentsFault_117 : decode cX3_documentsFault 117 = .ok (.iconst 1, 1) := by decide +kernel
theorem dX3_documentsFault_118 : decode cX3_documentsFault 118 = .ok (.iload_n 3, 1) := by decide +kernel
theorem dX3_documentsFault_119 : decode cX3_documentsFault 119 = .ok (.ishl, 1) := by decide +kernel
theorem dX3_documentsFault_120 : decode cX3_documentsFault 120 = .ok (.ior, 1) := by decide +kernel
theorem dX3_documentsFault_121 : decode cX3_documentsFault 121 = .ok (.istore_n 2, 1) := by decide +kernel
theorem dX3_documentsFault_122 : decode cX3_documentsFault 122 = .ok (.goto 6, 3) := by decide +kernel
theorem dX3_documentsFault_125 : decode cX3_documentsFault 125 = .ok (.iload 4, 2) := by decide +kernel
theorem dX3_documentsFault_127 : decode cX3_documentsFault 127 = .ok (.ireturn, 1) := by decide +kernel
theorem dX3_documentsFault_128 : decode cX3_documentsFault 128 = .ok (.iinc 4 1, 3) := by decide +kernel
theorem dX3_documentsFault_131 : decode cX3_documentsFault 131 = .ok (.goto (-111), 3) := by decide +kernel
theorem dX3_documentsFault_134 : decode cX3_documentsFault 134 = .ok (.aload_n 1, 1) := by decide +kernel
theorem dX3_documentsFault_135 : decode cX3_documentsFault 135 = .ok (.iload_n 2, 1) := by decide +kernel
theorem dX3_documentsFault_136 : decode cX3_documentsFault 136 = .ok (.invokevirtual 27, 3) := by decide +kernel
theorem dX3_documentsFault_139 : decode cX3_documentsFault 139 = .ok (.iload_n 3, 1) := by decide +kernel
theorem dX3_documentsFault_140 : decode cX3_documentsFault 140 = .ok (.iconst (-1), 1) := by decide +kernel
theorem dX3_documentsFault_141 : decode cX3_documentsFault 141 = .ok (.if_icmp .ne 10, 3) := by decide +kernel
theorem dX3_documentsFault_144 : decode cX3_documentsFault 144 = .ok (.aload_n 0, 1) := by decide +kernel
theorem dX3_documentsFault_145 : decode cX3_documentsFault 145 = .ok (.invokevirtual 14, 3) := by decide +kernel
theorem dX3_documentsFault_148 : decode cX3_documentsFault 148 = .ok (.goto 4, 3) := by decide +kernel
theorem dX3_documentsFault_151 : decode cX3_documentsFault 151 = .ok (.iconst (-1), 1) := by decide +kernel
theorem dX3_documentsFault_152 : decode cX3_documentsFault 152 = .ok (.ireturn, 1) := by decide +kernel
theorem dX3_orderFault_0 : decode cX3_orderFault 0 = .ok (.iconst 0, 1) := by decide +kernel
theorem dX3_orderFault_1 : decode cX3_orderFault 1 = .ok (.istore_n 2, 1) := by decide +kernel
theorem dX3_orderFault_2 : decode cX3_orderFault 2 = .ok (.iconst 0, 1) := by decide +kernel
theorem dX3_orderFault_3 : decode cX3_orderFault 3 = .ok (.istore_n 3, 1) := by decide +kernel
theorem dX3_orderFault_4 : decode cX3_orderFault 4 = .ok (.iload_n 3, 1) := by decide +kernel
theorem dX3_orderFault_5 : decode cX3_orderFault 5 = .ok (.aload_n 1, 1) := by decide +kernel
theorem dX3_orderFault_6 : decode cX3_orderFault 6 = .ok (.invokevirtual 24, 3) := by decide +kernel
theorem dX3_orderFault_9 : decode cX3_orderFault 9 = .ok (.if_icmp .ge 73, 3) := by decide +kernel
theorem dX3_orderFault_12 : decode cX3_orderFault 12 = .ok (.iconst 2, 1) := by decide +kernel
theorem dX3_orderFault_13 : decode cX3_orderFault 13 = .ok (.iload_n 3, 1) := by decide +kernel
theorem dX3_orderFault_14 : decode cX3_orderFault 14 = .ok (.imul, 1) := by decide +kernel
theorem dX3_orderFault_15 : decode cX3_orderFault 15 = .ok (.istore 4, 2) := by decide +kernel
theorem dX3_orderFault_17 : decode cX3_orderFault 17 = .ok (.aload_n 0, 1) := by decide +kernel
theorem dX3_orderFault_18 : decode cX3_orderFault 18 = .ok (.iload 4, 2) := by decide +kernel
theorem dX3_orderFault_20 : decode cX3_orderFault 20 = .ok (.invokevirtual 37, 3) := by decide +kernel
theorem dX3_orderFault_23 : decode cX3_orderFault 23 = .ok (.iconst (-1), 1) := by decide +kernel
theorem dX3_orderFault_24 : decode cX3_orderFault 24 = .ok (.if_icmp .ne 6, 3) := by decide +kernel
theorem dX3_orderFault_27 : decode cX3_orderFault 27 = .ok (.iload 4, 2) := by decide +kernel
theorem dX3_orderFault_29 : decode cX3_orderFault 29 = .ok (.ireturn, 1) := by decide +kernel
theorem dX3_orderFault_30 : decode cX3_orderFault 30 = .ok (.aload_n 0, 1) := by decide +kernel
theorem dX3_orderFault_31 : decode cX3_orderFault 31 = .ok (.iload 4, 2) := by decide +kernel
theorem dX3_orderFault_33 : decode cX3_orderFault 33 = .ok (.invokevirtual 40, 3) := by decide +kernel
theorem dX3_orderFault_36 : decode cX3_orderFault 36 = .ok (.istore 5, 2) := by decide +kernel
theorem dX3_orderFault_38 : decode cX3_orderFault 38 = .ok (.aload_n 1, 1) := by decide +kernel
theorem dX3_orderFault_39 : decode cX3_orderFault 39 = .ok (.iload 5, 2) := by decide +kernel
theorem dX3_orderFault_41 : decode cX3_orderFault 41 = .ok (.invokevirtual 43, 3) := by decide +kernel
theorem dX3_orderFault_44 : decode cX3_orderFault 44 = .ok (.ifCond .eq 13, 3) := by decide +kernel
theorem dX3_orderFault_47 : decode cX3_orderFault 47 = .ok (.iload_n 2, 1) := by decide +kernel
theorem dX3_orderFault_48 : decode cX3_orderFault 48 = .ok (.iload 5, 2) := by decide +kernel
theorem dX3_orderFault_50 : decode cX3_orderFault 50 = .ok (.ishr, 1) := by decide +kernel
theorem dX3_orderFault_51 : decode cX3_orderFault 51 = .ok (.iconst 1, 1) := by decide +kernel
theorem dX3_orderFault_52 : decode cX3_orderFault 52 = .ok (.iand, 1) := by decide +kernel
theorem dX3_orderFault_53 : decode cX3_orderFault 53 = .ok (.iconst 1, 1) := by decide +kernel
theorem dX3_orderFault_54 : decode cX3_orderFault 54 = .ok (.if_icmp .ne 8, 3) := by decide +kernel
theorem dX3_orderFault_57 : decode cX3_orderFault 57 = .ok (.iload 4, 2) := by decide +kernel
theorem dX3_orderFault_59 : decode cX3_orderFault 59 = .ok (.iconst 1, 1) := by decide +kernel
theorem dX3_orderFault_60 : decode cX3_orderFault 60 = .ok (.iadd, 1) := by decide +kernel
theorem dX3_orderFault_61 : decode cX3_orderFault 61 = .ok (.ireturn, 1) := by decide +kernel
theorem dX3_orderFault_62 : decode cX3_orderFault 62 = .ok (.iload_n 2, 1) := by decide +kernel
theorem dX3_orderFault_63 : decode cX3_orderFault 63 = .ok (.iconst 1, 1) := by decide +kernel
theorem dX3_orderFault_64 : decode cX3_orderFault 64 = .ok (.iload 5, 2) := by decide +kernel
theorem dX3_orderFault_66 : decode cX3_orderFault 66 = .ok (.ishl, 1) := by decide +kernel
theorem dX3_orderFault_67 : decode cX3_orderFault 67 = .ok (.ior, 1) := by decide +kernel
theorem dX3_orderFault_68 : decode cX3_orderFault 68 = .ok (.istore_n 2, 1) := by decide +kernel
theorem dX3_orderFault_69 : decode cX3_orderFault 69 = .ok (.aload_n 1, 1) := by decide +kernel
theorem dX3_orderFault_70 : decode cX3_orderFault 70 = .ok (.iload_n 3, 1) := by decide +kernel
theorem dX3_orderFault_71 : decode cX3_orderFault 71 = .ok (.iload 5, 2) := by decide +kernel
theorem dX3_orderFault_73 : decode cX3_orderFault 73 = .ok (.invokevirtual 46, 3) := by decide +kernel
theorem dX3_orderFault_76 : decode cX3_orderFault 76 = .ok (.iinc 3 1, 3) := by decide +kernel
theorem dX3_orderFault_79 : decode cX3_orderFault 79 = .ok (.goto (-75), 3) := by decide +kernel
theorem dX3_orderFault_82 : decode cX3_orderFault 82 = .ok (.iconst 2, 1) := by decide +kernel
theorem dX3_orderFault_83 : decode cX3_orderFault 83 = .ok (.aload_n 1, 1) := by decide +kernel
theorem dX3_orderFault_84 : decode cX3_orderFault 84 = .ok (.invokevirtual 24, 3) := by decide +kernel
theorem dX3_orderFault_87 : decode cX3_orderFault 87 = .ok (.imul, 1) := by decide +kernel
theorem dX3_orderFault_88 : decode cX3_orderFault 88 = .ok (.istore_n 3, 1) := by decide +kernel
theorem dX3_orderFault_89 : decode cX3_orderFault 89 = .ok (.aload_n 0, 1) := by decide +kernel
theorem dX3_orderFault_90 : decode cX3_orderFault 90 = .ok (.invokevirtual 14, 3) := by decide +kernel
theorem dX3_orderFault_93 : decode cX3_orderFault 93 = .ok (.iload_n 3, 1) := by decide +kernel
theorem dX3_orderFault_94 : decode cX3_orderFault 94 = .ok (.if_icmp .le 7, 3) := by decide +kernel
theorem dX3_orderFault_97 : decode cX3_orderFault 97 = .ok (.iload_n 3, 1) := by decide +kernel
theorem dX3_orderFault_98 : decode cX3_orderFault 98 = .ok (.goto 4, 3) := by decide +kernel
theorem dX3_orderFault_101 : decode cX3_orderFault 101 = .ok (.iconst (-1), 1) := by decide +kernel
theorem dX3_orderFault_102 : decode cX3_orderFault 102 = .ok (.ireturn, 1) := by decide +kernel
theorem dX3_dayFault_0 : decode cX3_dayFault 0 = .ok (.iconst 0, 1) := by decide +kernel
theorem dX3_dayFault_1 : decode cX3_dayFault 1 = .ok (.istore_n 1, 1) := by decide +kernel
theorem dX3_dayFault_2 : decode cX3_dayFault 2 = .ok (.iload_n 1, 1) := by decide +kernel
theorem dX3_dayFault_3 : decode cX3_dayFault 3 = .ok (.aload_n 0, 1) := by decide +kernel
theorem dX3_dayFault_4 : decode cX3_dayFault 4 = .ok (.invokevirtual 14, 3) := by decide +kernel
theorem dX3_dayFault_7 : decode cX3_dayFault 7 = .ok (.if_icmp .ge 63, 3) := by decide +kernel
theorem dX3_dayFault_10 : decode cX3_dayFault 10 = .ok (.aload_n 0, 1) := by decide +kernel
theorem dX3_dayFault_11 : decode cX3_dayFault 11 = .ok (.iload_n 1, 1) := by decide +kernel
theorem dX3_dayFault_12 : decode cX3_dayFault 12 = .ok (.invokevirtual 20, 3) := by decide +kernel
theorem dX3_dayFault_15 : decode cX3_dayFault 15 = .ok (.istore_n 2, 1) := by decide +kernel
theorem dX3_dayFault_16 : decode cX3_dayFault 16 = .ok (.iload_n 2, 1) := by decide +kernel
theorem dX3_dayFault_17 : decode cX3_dayFault 17 = .ok (.invokestatic 50, 3) := by decide +kernel
theorem dX3_dayFault_20 : decode cX3_dayFault 20 = .ok (.istore_n 3, 1) := by decide +kernel
theorem dX3_dayFault_21 : decode cX3_dayFault 21 = .ok (.iload_n 3, 1) := by decide +kernel
theorem dX3_dayFault_22 : decode cX3_dayFault 22 = .ok (.iconst 1, 1) := by decide +kernel
theorem dX3_dayFault_23 : decode cX3_dayFault 23 = .ok (.if_icmp .ge 5, 3) := by decide +kernel
theorem dX3_dayFault_26 : decode cX3_dayFault 26 = .ok (.iload_n 1, 1) := by decide +kernel
theorem dX3_dayFault_27 : decode cX3_dayFault 27 = .ok (.ireturn, 1) := by decide +kernel
theorem dX3_dayFault_28 : decode cX3_dayFault 28 = .ok (.iconst 1, 1) := by decide +kernel
theorem dX3_dayFault_29 : decode cX3_dayFault 29 = .ok (.istore 4, 2) := by decide +kernel
theorem dX3_dayFault_31 : decode cX3_dayFault 31 = .ok (.iload 4, 2) := by decide +kernel
theorem dX3_dayFault_33 : decode cX3_dayFault 33 = .ok (.iload_n 3, 1) := by decide +kernel
theorem dX3_dayFault_34 : decode cX3_dayFault 34 = .ok (.if_icmp .ge 29, 3) := by decide +kernel
theorem dX3_dayFault_37 : decode cX3_dayFault 37 = .ok (.iload_n 2, 1) := by decide +kernel
theorem dX3_dayFault_38 : decode cX3_dayFault 38 = .ok (.aload_n 0, 1) := by decide +kernel
theorem dX3_dayFault_39 : decode cX3_dayFault 39 = .ok (.iload_n 1, 1) := by decide +kernel
theorem dX3_dayFault_40 : decode cX3_dayFault 40 = .ok (.iload 4, 2) := by decide +kernel
theorem dX3_dayFault_42 : decode cX3_dayFault 42 = .ok (.iadd, 1) := by decide +kernel
theorem dX3_dayFault_43 : decode cX3_dayFault 43 = .ok (.invokevirtual 37, 3) := by decide +kernel
theorem dX3_dayFault_46 : decode cX3_dayFault 46 = .ok (.invokestatic 53, 3) := by decide +kernel
theorem dX3_dayFault_49 : decode cX3_dayFault 49 = .ok (.ifCond .ne 8, 3) := by decide +kernel
theorem dX3_dayFault_52 : decode cX3_dayFault 52 = .ok (.iload_n 1, 1) := by decide +kernel
theorem dX3_dayFault_53 : decode cX3_dayFault 53 = .ok (.iload 4, 2) := by decide +kernel
theorem dX3_dayFault_55 : decode cX3_dayFault 55 = .ok (.iadd, 1) := by decide +kernel
theorem dX3_dayFault_56 : decode cX3_dayFault 56 = .ok (.ireturn, 1) := by decide +kernel
theorem dX3_dayFault_57 : decode cX3_dayFault 57 = .ok (.iinc 4 1, 3) := by decide +kernel
theorem dX3_dayFault_60 : decode cX3_dayFault 60 = .ok (.goto (-29), 3) := by decide +kernel
theorem dX3_dayFault_63 : decode cX3_dayFault 63 = .ok (.iload_n 1, 1) := by decide +kernel
theorem dX3_dayFault_64 : decode cX3_dayFault 64 = .ok (.iload_n 3, 1) := by decide +kernel
theorem dX3_dayFault_65 : decode cX3_dayFault 65 = .ok (.iadd, 1) := by decide +kernel
theorem dX3_dayFault_66 : decode cX3_dayFault 66 = .ok (.istore_n 1, 1) := by decide +kernel
theorem dX3_dayFault_67 : decode cX3_dayFault 67 = .ok (.goto (-65), 3) := by decide +kernel
theorem dX3_dayFault_70 : decode cX3_dayFault 70 = .ok (.iconst (-1), 1) := by decide +kernel
theorem dX3_dayFault_71 : decode cX3_dayFault 71 = .ok (.ireturn, 1) := by decide +kernel
theorem dX3_signsOfAct_0 : decode cX3_signsOfAct 0 = .ok (.iload_n 0, 1) := by decide +kernel
theorem dX3_signsOfAct_1 : decode cX3_signsOfAct 1 = .ok (.lookupswitch 57 #[(99, 55), (104, 53), (109, 51), (111, 53), (115, 51)], 51) := by decide +kernel
theorem dX3_signsOfAct_52 : decode cX3_signsOfAct 52 = .ok (.iconst 5, 1) := by decide +kernel
theorem dX3_signsOfAct_53 : decode cX3_signsOfAct 53 = .ok (.ireturn, 1) := by decide +kernel
theorem dX3_signsOfAct_54 : decode cX3_signsOfAct 54 = .ok (.iconst 2, 1) := by decide +kernel
theorem dX3_signsOfAct_55 : decode cX3_signsOfAct 55 = .ok (.ireturn, 1) := by decide +kernel
theorem dX3_signsOfAct_56 : decode cX3_signsOfAct 56 = .ok (.iconst 3, 1) := by decide +kernel
theorem dX3_signsOfAct_57 : decode cX3_signsOfAct 57 = .ok (.ireturn, 1) := by decide +kernel
theorem dX3_signsOfAct_58 : decode cX3_signsOfAct 58 = .ok (.iconst 0, 1) := by decide +kernel
theorem dX3_signsOfAct_59 : decode cX3_signsOfAct 59 = .ok (.ireturn, 1) := by decide +kernel
theorem dX3_stands_0 : decode cX3_stands 0 = .ok (.iload_n 1, 1) := by decide +kernel
theorem dX3_stands_1 : decode cX3_stands 1 = .ok (.iconst (-1), 1) := by decide +kernel
theorem dX3_stands_2 : decode cX3_stands 2 = .ok (.if_icmp .ne 5, 3) := by decide +kernel
theorem dX3_stands_5 : decode cX3_stands 5 = .ok (.iconst 0, 1) := by decide +kernel
theorem dX3_stands_6 : decode cX3_stands 6 = .ok (.ireturn, 1) := by decide +kernel
theorem dX3_stands_7 : decode cX3_stands 7 = .ok (.iload_n 0, 1) := by decide +kernel
theorem dX3_stands_8 : decode cX3_stands 8 = .ok (.bipush 104, 2) := by decide +kernel
theorem dX3_stands_10 : decode cX3_stands 10 = .ok (.if_icmp .ne 14, 3) := by decide +kernel
theorem dX3_stands_13 : decode cX3_stands 13 = .ok (.iload_n 1, 1) := by decide +kernel
theorem dX3_stands_14 : decode cX3_stands 14 = .ok (.iconst 1, 1) := by decide +kernel
theorem dX3_stands_15 : decode cX3_stands 15 = .ok (.if_icmp .lt 7, 3) := by decide +kernel
theorem dX3_stands_18 : decode cX3_stands 18 = .ok (.iconst 1, 1) := by decide +kernel
theorem dX3_stands_19 : decode cX3_stands 19 = .ok (.goto 4, 3) := by decide +kernel
theorem dX3_stands_22 : decode cX3_stands 22 = .ok (.iconst 0, 1) := by decide +kernel
theorem dX3_stands_23 : decode cX3_stands 23 = .ok (.ireturn, 1) := by decide +kernel
theorem dX3_stands_24 : decode cX3_stands 24 = .ok (.iload_n 0, 1) := by decide +kernel
theorem dX3_stands_25 : decode cX3_stands 25 = .ok (.bipush 111, 2) := by decide +kernel
theorem dX3_stands_27 : decode cX3_stands 27 = .ok (.if_icmp .ne 8, 3) := by decide +kernel
theorem dX3_stands_30 : decode cX3_stands 30 = .ok (.iload_n 1, 1) := by decide +kernel
theorem dX3_stands_31 : decode cX3_stands 31 = .ok (.iconst 4, 1) := by decide +kernel
theorem dX3_stands_32 : decode cX3_stands 32 = .ok (.if_icmp .ge 7, 3) := by decide +kernel
theorem dX3_stands_35 : decode cX3_stands 35 = .ok (.iconst 1, 1) := by decide +kernel
theorem dX3_stands_36 : decode cX3_stands 36 = .ok (.goto 4, 3) := by decide +kernel
theorem dX3_stands_39 : decode cX3_stands 39 = .ok (.iconst 0, 1) := by decide +kernel
theorem dX3_stands_40 : decode cX3_stands 40 = .ok (.ireturn, 1) := by decide +kernel
theorem dX4_init_0 : decode cX4_init 0 = .ok (.aload_n 0, 1) := by decide +kernel
theorem dX4_init_1 : decode cX4_init 1 = .ok (.invokespecial 3, 3) := by decide +kernel
theorem dX4_init_4 : decode cX4_init 4 = .ok (.aload_n 0, 1) := by decide +kernel
theorem dX4_init_5 : decode cX4_init 5 = .ok (.bipush 16, 2) := by decide +kernel
theorem dX4_init_7 : decode cX4_init 7 = .ok (.newarray .int, 2) := by decide +kernel
theorem dX4_init_9 : decode cX4_init 9 = .ok (.putfield 9, 3) := by decide +kernel
theorem dX4_init_12 : decode cX4_init 12 = .ok (.aload_n 0, 1) := by decide +kernel
theorem dX4_init_13 : decode cX4_init 13 = .ok (.bipush 16, 2) := by decide +kernel
theorem dX4_init_15 : decode cX4_init 15 = .ok (.newarray .int, 2) := by decide +kernel
theorem dX4_init_17 : decode cX4_init 17 = .ok (.putfield 15, 3) := by decide +kernel
theorem dX4_init_20 : decode cX4_init 20 = .ok (.aload_n 0, 1) := by decide +kernel
theorem dX4_init_21 : decode cX4_init 21 = .ok (.bipush 16, 2) := by decide +kernel
theorem dX4_init_23 : decode cX4_init 23 = .ok (.newarray .int, 2) := by decide +kernel
theorem dX4_init_25 : decode cX4_init 25 = .ok (.putfield 18, 3) := by decide +kernel
theorem dX4_init_28 : decode cX4_init 28 = .ok (.aload_n 0, 1) := by decide +kernel
theorem dX4_init_29 : decode cX4_init 29 = .ok (.bipush 16, 2) := by decide +kernel
theorem dX4_init_31 : decode cX4_init 31 = .ok (.newarray .int, 2) := by decide +kernel
theorem dX4_init_33 : decode cX4_init 33 = .ok (.putfield 21, 3) := by decide +kernel
theorem dX4_init_36 : decode cX4_init 36 = .ok (.aload_n 0, 1) := by decide +kernel
theorem dX4_init_37 : decode cX4_init 37 = .ok (.bipush 8, 2) := by decide +kernel
theorem dX4_init_39 : decode cX4_init 39 = .ok (.newarray .int, 2) := by decide +kernel
theorem dX4_init_41 : decode cX4_init 41 = .ok (.putfield 24, 3) := by decide +kernel
theorem dX4_init_44 : decode cX4_init 44 = .ok (.aload_n 0, 1) := by decide +kernel
theorem dX4_init_45 : decode cX4_init 45 = .ok (.bipush 8, 2) := by decide +kernel
theorem dX4_init_47 : decode cX4_init 47 = .ok (.newarray .int, 2) := by decide +kernel
theorem dX4_init_49 : decode cX4_init 49 = .ok (.putfield 27, 3) := by decide +kernel
theorem dX4_init_52 : decode cX4_init 52 = .ok (.aload_n 0, 1) := by decide +kernel
theorem dX4_init_53 : decode cX4_init 53 = .ok (.iconst 0, 1) := by decide +kernel
theorem dX4_init_54 : decode cX4_init 54 = .ok (.putfield 30, 3) := by decide +kernel
theorem dX4_init_57 : decode cX4_init 57 = .ok (.return_, 1) := by decide +kernel
theorem dX4_firstOf_0 : decode cX4_firstOf 0 = .ok (.iload_n 0, 1) := by decide +kernel
theorem dX4_firstOf_1 : decode cX4_firstOf 1 = .ok (.iconst 1, 1) := by decide +kernel
theorem dX4_firstOf_2 : decode cX4_firstOf 2 = .ok (.iadd, 1) := by decide +kernel
theorem dX4_firstOf_3 : decode cX4_firstOf 3 = .ok (.iconst 2, 1) := by decide +kernel
theorem dX4_firstOf_4 : decode cX4_firstOf 4 = .ok (.idiv, 1) := by decide +kernel
theorem dX4_firstOf_5 : decode cX4_firstOf 5 = .ok (.ireturn, 1) := by decide +kernel
theorem dX4_halveAll_0 : decode cX4_halveAll 0 = .ok (.iconst 0, 1) := by decide +kernel
theorem dX4_halveAll_1 : decode cX4_halveAll 1 = .ok (.istore_n 3, 1) := by decide +kernel
theorem dX4_halveAll_2 : decode cX4_halveAll 2 = .ok (.aload_n 0, 1) := by decide +kernel
theorem dX4_halveAll_3 : decode cX4_halveAll 3 = .ok (.iconst 0, 1) := by decide +kernel
theorem dX4_halveAll_4 : decode cX4_halveAll 4 = .ok (.putfield 30, 3) := by decide +kernel
theorem dX4_halveAll_7 : decode cX4_halveAll 7 = .ok (.aload_n 0, 1) := by decide +kernel
theorem dX4_halveAll_8 : decode cX4_halveAll 8 = .ok (.iconst 0, 1) := by decide +kernel
theorem dX4_halveAll_9 : decode cX4_halveAll 9 = .ok (.aload_n 1, 1) := by decide +kernel
theorem dX4_halveAll_10 : decode cX4_halveAll 10 = .ok (.invokevirtual 34, 3) := by decide +kernel
theorem dX4_halveAll_13 : decode cX4_halveAll 13 = .ok (.invokevirtual 40, 3) := by decide +kernel
theorem dX4_halveAll_16 : decode cX4_halveAll 16 = .ok (.iconst 0, 1) := by decide +kernel
theorem dX4_halveAll_17 : decode cX4_halveAll 17 = .ok (.istore 4, 2) := by decide +kernel
theorem dX4_halveAll_19 : decode cX4_halveAll 19 = .ok (.iload 4, 2) := by decide +kernel
theorem dX4_halveAll_21 : decode cX4_halveAll 21 = .ok (.bipush 16, 2) := by decide +kernel
theorem dX4_halveAll_23 : decode cX4_halveAll 23 = .ok (.if_icmp .ge 125, 3) := by decide +kernel
theorem dX4_halveAll_26 : decode cX4_halveAll 26 = .ok (.aload_n 0, 1) := by decide +kernel
theorem dX4_halveAll_27 : decode cX4_halveAll 27 = .ok (.getfield 30, 3) := by decide +kernel
theorem dX4_halveAll_30 : decode cX4_halveAll 30 = .ok (.ifCond .le 118, 3) := by decide +kernel
theorem dX4_halveAll_33 : decode cX4_halveAll 33 = .ok (.aload_n 0, 1) := by decide +kernel
theorem dX4_halveAll_34 : decode cX4_halveAll 34 = .ok (.dup, 1) := by decide +kernel
theorem dX4_halveAll_35 : decode cX4_halveAll 35 = .ok (.getfield 30, 3) := by decide +kernel
theorem dX4_halveAll_38 : decode cX4_halveAll 38 = .ok (.iconst 1, 1) := by decide +kernel
theorem dX4_halveAll_39 : decode cX4_halveAll 39 = .ok (.isub, 1) := by decide +kernel
theorem dX4_halveAll_40 : decode cX4_halveAll 40 = .ok (.putfield 30, 3) := by decide +kernel
theorem dX4_halveAll_43 : decode cX4_halveAll 43 = .ok (.aload_n 0, 1) := by decide +kernel
theorem dX4_halveAll_44 : decode cX4_halveAll 44 = .ok (.getfield 9, 3) := by decide +kernel
theorem dX4_halveAll_47 : decode cX4_halveAll 47 = .ok (.aload_n 0, 1) := by decide +kernel
theorem dX4_halveAll_48 : decode cX4_halveAll 48 = .ok (.getfield 30, 3) := by decide +kernel
theorem dX4_halveAll_51 : decode cX4_halveAll 51 = .ok (.iaload, 1) := by decide +kernel
theorem dX4_halveAll_52 : decode cX4_halveAll 52 = .ok (.istore 5, 2) := by decide +kernel
theorem dX4_halveAll_54 : decode cX4_halveAll 54 = .ok (.aload_n 0, 1) := by decide +kernel
theorem dX4_halveAll_55 : decode cX4_halveAll 55 = .ok (.getfield 15, 3) := by decide +kernel
theorem dX4_halveAll_58 : decode cX4_halveAll 58 = .ok (.aload_n 0, 1) := by decide +kernel
theorem dX4_halveAll_59 : decode cX4_halveAll 59 = .ok (.getfield 30, 3) := by decide +kernel
theorem dX4_halveAll_62 : decode cX4_halveAll 62 = .ok (.iaload, 1) := by decide +kernel
theorem dX4_halveAll_63 : decode cX4_halveAll 63 = .ok (.istore 6, 2) := by decide +kernel
theorem dX4_halveAll_65 : decode cX4_halveAll 65 = .ok (.iconst 1, 1) := by decide +kernel
theorem dX4_halveAll_66 : decode cX4_halveAll 66 = .ok (.istore 7, 2) := by decide +kernel
theorem dX4_halveAll_68 : decode cX4_halveAll 68 = .ok (.iconst 0, 1) := by decide +kernel
theorem dX4_halveAll_69 : decode cX4_halveAll 69 = .ok (.istore 8, 2) := by decide +kernel
theorem dX4_halveAll_71 : decode cX4_halveAll 71 = .ok (.iload 8, 2) := by decide +kernel
theorem dX4_halveAll_73 : decode cX4_halveAll 73 = .ok (.iload_n 2, 1) := by decide +kernel
theorem dX4_halveAll_74 : decode cX4_halveAll 74 = .ok (.if_icmp .ge 39, 3) := by decide +kernel
theorem dX4_halveAll_77 : decode cX4_halveAll 77 = .ok (.iload 7, 2) := by decide +kernel
theorem dX4_halveAll_79 : decode cX4_halveAll 79 = .ok (.ifCond .le 34, 3) := by decide +kernel
theorem dX4_halveAll_82 : decode cX4_halveAll 82 = .ok (.aload_n 0, 1) := by decide +kernel
theorem dX4_halveAll_83 : decode cX4_halveAll 83 = .ok (.aload_n 1, 1) := by decide +kernel
theorem dX4_halveAll_84 : decode cX4_halveAll 84 = .ok (.iload 5, 2) := by decide +kernel
theorem dX4_halveAll_86 : decode cX4_halveAll 86 = .ok (.iload 6, 2) := by decide +kernel
theorem dX4_halveAll_88 : decode cX4_halveAll 88 = .ok (.invokevirtual 44, 3) := by decide +kernel
theorem dX4_halveAll_91 : decode cX4_halveAll 91 = .ok (.aload_n 0, 1) := by decide +kernel
theorem dX4_halveAll_92 : decode cX4_halveAll 92 = .ok (.aload_n 1, 1) := by decide +kernel
theorem dX4_halveAll_93 : decode cX4_halveAll 93 = .ok (.iload 5, 2) := by decide +kernel
theorem dX4_halveAll_95 : decode cX4_halveAll 95 = .ok (.iload 6, 2) := by decide +kernel
theorem dX4_halveAll_97 : decode cX4_halveAll 97 = .ok (.invokevirtual 48, 3) := by decide +kernel
theorem dX4_halveAll_100 : decode cX4_halveAll 100 = .ok (.istore 7, 2) := by decide +kernel
theorem dX4_halveAll_102 : decode cX4_halveAll 102 = .ok (.iload_n 3, 1) := by decide +kernel
theorem dX4_halveAll_103 : decode cX4_halveAll 103 = .ok (.iload 7, 2) := by decide +kernel
theorem dX4_halveAll_105 : decode cX4_halveAll 105 = .ok (.iadd, 1) := by decide +kernel
theorem dX4_halveAll_106 : decode cX4_halveAll 106 = .ok (.istore_n 3, 1) := by decide +kernel
theorem dX4_halveAll_107 : decode cX4_halveAll 107 = .ok (.iinc 8 1, 3) := by decide +kernel
theorem dX4_halveAll_110 : decode cX4_halveAll 110 = .ok (.goto (-39), 3) := by decide +kernel
theorem dX4_halveAll_113 : decode cX4_halveAll 113 = .ok (.iload 6, 2) := by decide +kernel
theorem dX4_halveAll_115 : decode cX4_halveAll 115 = .ok (.invokestatic 52, 3) := by decide +kernel
theorem dX4_halveAll_118 : decode cX4_halveAll 118 = .ok (.istore 8, 2) := by decide +kernel
theorem dX4_halveAll_120 : decode cX4_halveAll 120 = .ok (.aload_n 0, 1) := by decide +kernel
theorem dX4_halveAll_121 : decode cX4_halveAll 121 = .ok (.iload 5, 2) := by decide +kernel
theorem dX4_halveAll_123 : decode cX4_halveAll 123 = .ok (.iload 8, 2) := by decide +kernel
theorem dX4_halveAll_125 : decode cX4_halveAll 125 = .ok (.iadd, 1) := by decide +kernel
theorem dX4_halveAll_126 : decode cX4_halveAll 126 = .ok (.iload 6, 2) := by decide +kernel
theorem dX4_halveAll_128 : decode cX4_halveAll 128 = .ok (.iload 8, 2) := by decide +kernel
theorem dX4_halveAll_130 : decode cX4_halveAll 130 = .ok (.isub, 1) := by decide +kernel
theorem dX4_halveAll_131 : decode cX4_halveAll 131 = .ok (.invokevirtual 40, 3) := by decide +kernel
theorem dX4_halveAll_134 : decode cX4_halveAll 134 = .ok (.aload_n 0, 1) := by decide +kernel
theorem dX4_halveAll_135 : decode cX4_halveAll 135 = .ok (.iload 5, 2) := by decide +kernel
theorem dX4_halveAll_137 : decode cX4_halveAll 137 = .ok (.iload 8, 2) := by decide +kernel
theorem dX4_halveAll_139 : decode cX4_halveAll 139 = .ok (.invokevirtual 40, 3) := by decide +kernel
theorem dX4_halveAll_142 : decode cX4_halveAll 142 = .ok (.iinc 4 1, 3) := by decide +kernel
theorem dX4_halveAll_145 : decode cX4_halveAll 145 = .ok (.goto (-126), 3) := by decide +kernel
theorem dX4_halveAll_148 : decode cX4_halveAll 148 = .ok (.iload_n 3, 1) := by decide +kernel
theorem dX4_halveAll_149 : decode cX4_halveAll 149 = .ok (.ireturn, 1) := by decide +kernel
theorem dX4_putOff_0 : decode cX4_putOff 0 = .ok (.iload_n 2, 1) := by decide +kernel
theorem dX4_putOff_1 : decode cX4_putOff 1 = .ok (.iconst 2, 1) := by decide +kernel
theorem dX4_putOff_2 : decode cX4_putOff 2 = .ok (.if_icmp .lt 42, 3) := by decide +kernel
theorem dX4_putOff_5 : decode cX4_putOff 5 = .ok (.aload_n 0, 1) := by decide +kernel
theorem dX4_putOff_6 : decode cX4_putOff 6 = .ok (.getfield 30, 3) := by decide +kernel
theorem dX4_putOff_9 : decode cX4_putOff 9 = .ok (.bipush 16, 2) := by decide +kernel
theorem dX4_putOff_11 : decode cX4_putOff 11 = .ok (.if_icmp .ge 33, 3) := by decide +kernel
theorem dX4_putOff_14 : decode cX4_putOff 14 = .ok (.aload_n 0, 1) := by decide +kernel
theorem dX4_putOff_15 : decode cX4_putOff 15 = .ok (.getfield 9, 3) := by decide +kernel
theorem dX4_putOff_18 : decode cX4_putOff 18 = .ok (.aload_n 0, 1) := by decide +kernel
theorem dX4_putOff_19 : decode cX4_putOff 19 = .ok (.getfield 30, 3) := by decide +kernel
theorem dX4_putOff_22 : decode cX4_putOff 22 = .ok (.iload_n 1, 1) := by decide +kernel
theorem dX4_putOff_23 : decode cX4_putOff 23 = .ok (.iastore, 1) := by decide +kernel
theorem dX4_putOff_24 : decode cX4_putOff 24 = .ok (.aload_n 0, 1) := by decide +kernel
theorem dX4_putOff_25 : decode cX4_putOff 25 = .ok (.getfield 15, 3) := by decide +kernel
theorem dX4_putOff_28 : decode cX4_putOff 28 = .ok (.aload_n 0, 1) := by decide +kernel
theorem dX4_putOff_29 : decode cX4_putOff 29 = .ok (.getfield 30, 3) := by decide +kernel
theorem dX4_putOff_32 : decode cX4_putOff 32 = .ok (.iload_n 2, 1) := by decide +kernel
theorem dX4_putOff_33 : decode cX4_putOff 33 = .ok (.iastore, 1) := by decide +kernel
theorem dX4_putOff_34 : decode cX4_putOff 34 = .ok (.aload_n 0, 1) := by decide +kernel
theorem dX4_putOff_35 : decode cX4_putOff 35 = .ok (.dup, 1) := by decide +kernel
theorem dX4_putOff_36 : decode cX4_putOff 36 = .ok (.getfield 30, 3) := by decide +kernel
theorem dX4_putOff_39 : decode cX4_putOff 39 = .ok (.iconst 1, 1) := by decide +kernel
theorem dX4_putOff_40 : decode cX4_putOff 40 = .ok (.iadd, 1) := by decide +kernel
theorem dX4_putOff_41 : decode cX4_putOff 41 = .ok (.putfield 30, 3) := by decide +kernel
theorem dX4_putOff_44 : decode cX4_putOff 44 = .ok (.return_, 1) := by decide +kernel
theorem dX4_measure_0 : decode cX4_measure 0 = .ok (.iload_n 3, 1) := by decide +kernel
theorem dX4_measure_1 : decode cX4_measure 1 = .ok (.invokestatic 52, 3) := by decide +kernel
theorem dX4_measure_4 : decode cX4_measure 4 = .ok (.istore 4, 2) := by decide +kernel
theorem dX4_measure_6 : decode cX4_measure 6 = .ok (.iload_n 3, 1) := by decide +kernel
theorem dX4_measure_7 : decode cX4_measure 7 = .ok (.iload 4, 2) := by decide +kernel
theorem dX4_measure_9 : decode cX4_measure 9 = .ok (.isub, 1) := by decide +kernel
theorem dX4_measure_10 : decode cX4_measure 10 = .ok (.istore 5, 2) := by decide +kernel
theorem dX4_measure_12 : decode cX4_measure 12 = .ok (.iconst 0, 1) := by decide +kernel
theorem dX4_measure_13 : decode cX4_measure 13 = .ok (.istore 6, 2) := by decide +kernel
theorem dX4_measure_15 : decode cX4_measure 15 = .ok (.iload 6, 2) := by decide +kernel
theorem dX4_measure_17 : decode cX4_measure 17 = .ok (.bipush 8, 2) := by decide +kernel
theorem dX4_measure_19 : decode cX4_measure 19 = .ok (.if_icmp .ge 109, 3) := by decide +kernel
theorem dX4_measure_22 : decode cX4_measure 22 = .ok (.aload_n 1, 1) := by decide +kernel
theorem dX4_measure_23 : decode cX4_measure 23 = .ok (.iload 6, 2) := by decide +kernel
theorem dX4_measure_25 : decode cX4_measure 25 = .ok (.iload_n 2, 1) := by decide +kernel
theorem dX4_measure_26 : decode cX4_measure 26 = .ok (.iload 4, 2) := by decide +kernel
theorem dX4_measure_28 : decode cX4_measure 28 = .ok (.invokevirtual 56, 3) := by decide +kernel
theorem dX4_measure_31 : decode cX4_measure 31 = .ok (.istore 7, 2) := by decide +kernel
theorem dX4_measure_33 : decode cX4_measure 33 = .ok (.aload_n 1, 1) := by decide +kernel
theorem dX4_measure_34 : decode cX4_measure 34 = .ok (.iload 6, 2) := by decide +kernel
theorem dX4_measure_36 : decode cX4_measure 36 = .ok (.iload_n 2, 1) := by decide +kernel
theorem dX4_measure_37 : decode cX4_measure 37 = .ok (.iload 4, 2) := by decide +kernel
theorem dX4_measure_39 : decode cX4_measure 39 = .ok (.iadd, 1) := by decide +kernel
theorem dX4_measure_40 : decode cX4_measure 40 = .ok (.iload 5, 2) := by decide +kernel
theorem dX4_measure_42 : decode cX4_measure 42 = .ok (.invokevirtual 56, 3) := by decide +kernel
theorem dX4_measure_45 : decode cX4_measure 45 = .ok (.istore 8, 2) := by decide +kernel
theorem dX4_measure_47 : decode cX4_measure 47 = .ok (.iload 4, 2) := by decide +kernel
theorem dX4_measure_49 : decode cX4_measure 49 = .ok (.iload 7, 2) := by decide +kernel
theorem dX4_measure_51 : decode cX4_measure 51 = .ok (.invokestatic 60, 3) := by decide +kernel
theorem dX4_measure_54 : decode cX4_measure 54 = .ok (.iload 5, 2) := by decide +kernel
theorem dX4_measure_56 : decode cX4_measure 56 = .ok (.iload 8, 2) := by decide +kernel
theorem dX4_measure_58 : decode cX4_measure 58 = .ok (.invokestatic 60, 3) := by decide +kernel
theorem dX4_measure_61 : decode cX4_measure 61 = .ok (.iadd, 1) := by decide +kernel
theorem dX4_measure_62 : decode cX4_measure 62 = .ok (.istore 9, 2) := by decide +kernel
theorem dX4_measure_64 : decode cX4_measure 64 = .ok (.aload_n 0, 1) := by decide +kernel
theorem dX4_measure_65 : decode cX4_measure 65 = .ok (.getfield 24, 3) := by decide +kernel
theorem dX4_measure_68 : decode cX4_measure 68 = .ok (.iload 6, 2) := by decide +kernel
theorem dX4_measure_70 : decode cX4_measure 70 = .ok (.iload 9, 2) := by decide +kernel
theorem dX4_measure_72 : decode cX4_measure 72 = .ok (.iload 4, 2) := by decide +kernel
theorem dX4_measure_74 : decode cX4_measure 74 = .ok (.iload 7, 2) := by decide +kernel
theorem dX4_measure_76 : decode cX4_measure 76 = .ok (.iconst 1, 1) := by decide +kernel
theorem dX4_measure_77 : decode cX4_measure 77 = .ok (.isub, 1) := by decide +kernel
theorem dX4_measure_78 : decode cX4_measure 78 = .ok (.invokestatic 60, 3) := by decide +kernel
theorem dX4_measure_81 : decode cX4_measure 81 = .ok (.isub, 1) := by decide +kernel
theorem dX4_measure_82 : decode cX4_measure 82 = .ok (.iload 5, 2) := by decide +kernel
theorem dX4_measure_84 : decode cX4_measure 84 = .ok (.iload 8, 2) := by decide +kernel
theorem dX4_measure_86 : decode cX4_measure 86 = .ok (.iconst 1, 1) := by decide +kernel
theorem dX4_measure_87 : decode cX4_measure 87 = .ok (.iadd, 1) := by decide +kernel
theorem dX4_measure_88 : decode cX4_measure 88 = .ok (.invokestatic 60, 3) := by decide +kernel
theorem dX4_measure_91 : decode cX4_measure 91 = .ok (.isub, 1) := by decide +kernel
theorem dX4_measure_92 : decode cX4_measure 92 = .ok (.iastore, 1) := by decide +kernel
theorem dX4_measure_93 : decode cX4_measure 93 = .ok (.aload_n 0, 1) := by decide +kernel
theorem dX4_measure_94 : decode cX4_measure 94 = .ok (.getfield 27, 3) := by decide +kernel
theorem dX4_measure_97 : decode cX4_measure 97 = .ok (.iload 6, 2) := by decide +kernel
theorem dX4_measure_99 : decode cX4_measure 99 = .ok (.iload 9, 2) := by decide +kernel
theorem dX4_measure_101 : decode cX4_measure 101 = .ok (.iload 4, 2) := by decide +kernel
theorem dX4_measure_103 : decode cX4_measure 103 = .ok (.iload 7, 2) := by decide +kernel
theorem dX4_measure_105 : decode cX4_measure 105 = .ok (.iconst 1, 1) := by decide +kernel
theorem dX4_measure_106 : decode cX4_measure 106 = .ok (.iadd, 1) := by decide +kernel
theorem dX4_measure_107 : decode cX4_measure 107 = .ok (.invokestatic 60, 3) := by decide +kernel
theorem dX4_measure_110 : decode cX4_measure 110 = .ok (.isub, 1) := by decide +kernel
theorem dX4_measure_111 : decode cX4_measure 111 = .ok (.iload 5, 2) := by decide +kernel
theorem dX4_measure_113 : decode cX4_measure 113 = .ok (.iload 8, 2) := by decide +kernel
theorem dX4_measure_115 : decode cX4_measure 115 = .ok (.iconst 1, 1) := by decide +kernel
theorem dX4_measure_116 : decode cX4_measure 116 = .ok (.isub, 1) := by decide +kernel
theorem dX4_measure_117 : decode cX4_measure 117 = .ok (.invokestatic 60, 3) := by decide +kernel
theorem dX4_measure_120 : decode cX4_measure 120 = .ok (.isub, 1) := by decide +kernel
theorem dX4_measure_121 : decode cX4_measure 121 = .ok (.iastore, 1) := by decide +kernel
theorem dX4_measure_122 : decode cX4_measure 122 = .ok (.iinc 6 1, 3) := by decide +kernel
theorem dX4_measure_125 : decode cX4_measure 125 = .ok (.goto (-110), 3) := by decide +kernel
theorem dX4_measure_128 : decode cX4_measure 128 = .ok (.iconst 0, 1) := by decide +kernel
theorem dX4_measure_129 : decode cX4_measure 129 = .ok (.istore 6, 2) := by decide +kernel
theorem dX4_measure_131 : decode cX4_measure 131 = .ok (.iload 6, 2) := by decide +kernel
theorem dX4_measure_133 : decode cX4_measure 133 = .ok (.iload_n 3, 1) := by decide +kernel
theorem dX4_measure_134 : decode cX4_measure 134 = .ok (.if_icmp .ge 61, 3) := by decide +kernel
theorem dX4_measure_137 : decode cX4_measure 137 = .ok (.iload_n 2, 1) := by decide +kernel
theorem dX4_measure_138 : decode cX4_measure 138 = .ok (.iload 6, 2) := by decide +kernel
theorem dX4_measure_140 : decode cX4_measure 140 = .ok (.iadd, 1) := by decide +kernel
theorem dX4_measure_141 : decode cX4_measure 141 = .ok (.istore 7, 2) := by decide +kernel
theorem dX4_measure_143 : decode cX4_measure 143 = .ok (.iload 7, 2) := by decide +kernel
theorem dX4_measure_145 : decode cX4_measure 145 = .ok (.ifCond .lt 44, 3) := by decide +kernel
theorem dX4_measure_148 : decode cX4_measure 148 = .ok (.iload 7, 2) := by decide +kernel
theorem dX4_measure_150 : decode cX4_measure 150 = .ok (.bipush 16, 2) := by decide +kernel
theorem dX4_measure_152 : decode cX4_measure 152 = .ok (.if_icmp .ge 37, 3) := by decide +kernel
theorem dX4_measure_155 : decode cX4_measure 155 = .ok (.aload_n 0, 1) := by decide +kernel
theorem dX4_measure_156 : decode cX4_measure 156 = .ok (.getfield 18, 3) := by decide +kernel
theorem dX4_measure_159 : decode cX4_measure 159 = .ok (.iload 7, 2) := by decide +kernel
theorem dX4_measure_161 : decode cX4_measure 161 = .ok (.aload_n 1, 1) := by decide +kernel
theorem dX4_measure_162 : decode cX4_measure 162 = .ok (.iload 7, 2) := by decide +kernel
theorem dX4_measure_164 : decode cX4_measure 164 = .ok (.invokevirtual 64, 3) := by decide +kernel
theorem dX4_measure_167 : decode cX4_measure 167 = .ok (.iload 6, 2) := by decide +kernel
theorem dX4_measure_169 : decode cX4_measure 169 = .ok (.iload 4, 2) := by decide +kernel
theorem dX4_measure_171 : decode cX4_measure 171 = .ok (.if_icmp .ge 10, 3) := by decide +kernel
theorem dX4_measure_174 : decode cX4_measure 174 = .ok (.aload_n 0, 1) := by decide +kernel
theorem dX4_measure_175 : decode cX4_measure 175 = .ok (.getfield 24, 3) := by decide +kernel
theorem dX4_measure_178 : decode cX4_measure 178 = .ok (.goto 7, 3) := by decide +kernel
theorem dX4_measure_181 : decode cX4_measure 181 = .ok (.aload_n 0, 1) := by decide +kernel
theorem dX4_measure_182 : decode cX4_measure 182 = .ok (.getfield 27, 3) := by decide +kernel
theorem dX4_measure_185 : decode cX4_measure 185 = .ok (.invokestatic 67, 3) := by decide +kernel
theorem dX4_measure_188 : decode cX4_measure 188 = .ok (.iastore, 1) := by decide +kernel
theorem dX4_measure_189 : decode cX4_measure 189 = .ok (.iinc 6 1, 3) := by decide +kernel
theorem dX4_measure_192 : decode cX4_measure 192 = .ok (.goto (-61), 3) := by decide +kernel
theorem dX4_measure_195 : decode cX4_measure 195 = .ok (.return_, 1) := by decide +kernel
theorem dX4_weight_0 : decode cX4_weight 0 = .ok (.iload_n 1, 1) := by decide +kernel
theorem dX4_weight_1 : decode cX4_weight 1 = .ok (.iconst 1, 1) := by decide +kernel
theorem dX4_weight_2 : decode cX4_weight 2 = .ok (.if_icmp .ge 7, 3) := by decide +kernel
theorem dX4_weight_5 : decode cX4_weight 5 = .ok (.iconst 0, 1) := by decide +kernel
theorem dX4_weight_6 : decode cX4_weight 6 = .ok (.goto 13, 3) := by decide +kernel
theorem dX4_weight_9 : decode cX4_weight 9 = .ok (.iload_n 1, 1) := by decide +kernel
theorem dX4_weight_10 : decode cX4_weight 10 = .ok (.iload_n 0, 1) := by decide +kernel
theorem dX4_weight_11 : decode cX4_weight 11 = .ok (.iload_n 1, 1) := by decide +kernel
theorem dX4_weight_12 : decode cX4_weight 12 = .ok (.iconst 1, 1) := by decide +kernel
theorem dX4_weight_13 : decode cX4_weight 13 = .ok (.iadd, 1) := by decide +kernel
theorem dX4_weight_14 : decode cX4_weight 14 = .ok (.idiv, 1) := by decide +kernel
theorem dX4_weight_15 : decode cX4_weight 15 = .ok (.invokestatic 71, 3) := by decide +kernel
theorem dX4_weight_18 : decode cX4_weight 18 = .ok (.imul, 1) := by decide +kernel
theorem dX4_weight_19 : decode cX4_weight 19 = .ok (.ireturn, 1) := by decide +kernel
theorem dX4_sumOf_0 : decode cX4_sumOf 0 = .ok (.iconst 0, 1) := by decide +kernel
theorem dX4_sumOf_1 : decode cX4_sumOf 1 = .ok (.istore_n 2, 1) := by decide +kernel
theorem dX4_sumOf_2 : decode cX4_sumOf 2 = .ok (.iconst 0, 1) := by decide +kernel
theorem dX4_sumOf_3 : decode cX4_sumOf 3 = .ok (.istore_n 3, 1) := by decide +kernel
theorem dX4_sumOf_4 : decode cX4_sumOf 4 = .ok (.iload_n 3, 1) := by decide +kernel
theorem dX4_sumOf_5 : decode cX4_sumOf 5 = .ok (.aload_n 1, 1) := by decide +kernel
theorem dX4_sumOf_6 : decode cX4_sumOf 6 = .ok (.arraylength, 1) := by decide +kernel
theorem dX4_sumOf_7 : decode cX4_sumOf 7 = .ok (.if_icmp .ge 24, 3) := by decide +kernel
theorem dX4_sumOf_10 : decode cX4_sumOf 10 = .ok (.iload_n 0, 1) := by decide +kernel
theorem dX4_sumOf_11 : decode cX4_sumOf 11 = .ok (.iload_n 3, 1) := by decide +kernel
theorem dX4_sumOf_12 : decode cX4_sumOf 12 = .ok (.ishr, 1) := by decide +kernel
theorem dX4_sumOf_13 : decode cX4_sumOf 13 = .ok (.iconst 1, 1) := by decide +kernel
theorem dX4_sumOf_14 : decode cX4_sumOf 14 = .ok (.iand, 1) := by decide +kernel
theorem dX4_sumOf_15 : decode cX4_sumOf 15 = .ok (.iconst 1, 1) := by decide +kernel
theorem dX4_sumOf_16 : decode cX4_sumOf 16 = .ok (.if_icmp .ne 9, 3) := by decide +kernel
theorem dX4_sumOf_19 : decode cX4_sumOf 19 = .ok (.iload_n 2, 1) := by decide +kernel
theorem dX4_sumOf_20 : decode cX4_sumOf 20 = .ok (.aload_n 1, 1) := by decide +kernel
theorem dX4_sumOf_21 : decode cX4_sumOf 21 = .ok (.iload_n 3, 1) := by decide +kernel
theorem dX4_sumOf_22 : decode cX4_sumOf 22 = .ok (.iaload, 1) := by decide +kernel
theorem dX4_sumOf_23 : decode cX4_sumOf 23 = .ok (.iadd, 1) := by decide +kernel
theorem dX4_sumOf_24 : decode cX4_sumOf 24 = .ok (.istore_n 2, 1) := by decide +kernel
theorem dX4_sumOf_25 : decode cX4_sumOf 25 = .ok (.iinc 3 1, 3) := by decide +kernel
theorem dX4_sumOf_28 : decode cX4_sumOf 28 = .ok (.goto (-24), 3) := by decide +kernel
theorem dX4_sumOf_31 : decode cX4_sumOf 31 = .ok (.iload_n 2, 1) := by decide +kernel
theorem dX4_sumOf_32 : decode cX4_sumOf 32 = .ok (.ireturn, 1) := by decide +kernel
theorem dX4_gainAt_0 : decode cX4_gainAt 0 = .ok (.iload_n 1, 1) := by decide +kernel
theorem dX4_gainAt_1 : decode cX4_gainAt 1 = .ok (.ifCond .lt 18, 3) := by decide +kernel
theorem dX4_gainAt_4 : decode cX4_gainAt 4 = .ok (.iload_n 1, 1) := by decide +kernel
theorem dX4_gainAt_5 : decode cX4_gainAt 5 = .ok (.bipush 16, 2) := by decide +kernel
theorem dX4_gainAt_7 : decode cX4_gainAt 7 = .ok (.if_icmp .ge 12, 3) := by decide +kernel
theorem dX4_gainAt_10 : decode cX4_gainAt 10 = .ok (.aload_n 0, 1) := by decide +kernel
theorem dX4_gainAt_11 : decode cX4_gainAt 11 = .ok (.getfield 18, 3) := by decide +kernel
theorem dX4_gainAt_14 : decode cX4_gainAt 14 = .ok (.iload_n 1, 1) := by decide +kernel
theorem dX4_gainAt_15 : decode cX4_gainAt 15 = .ok (.iaload, 1) := by decide +kernel
theorem dX4_gainAt_16 : decode cX4_gainAt 16 = .ok (.goto 4, 3) := by decide +kernel
theorem dX4_gainAt_19 : decode cX4_gainAt 19 = .ok (.iconst 0, 1) := by decide +kernel
theorem dX4_gainAt_20 : decode cX4_gainAt 20 = .ok (.ireturn, 1) := by decide +kernel
theorem dX4_swapByGains_0 : decode cX4_swapByGains 0 = .ok (.iload_n 3, 1) := by decide +kernel
theorem dX4_swapByGains_1 : decode cX4_swapByGains 1 = .ok (.invokestatic 52, 3) := by decide +kernel
theorem dX4_swapByGains_4 : decode cX4_swapByGains 4 = .ok (.istore 4, 2) := by decide +kernel
theorem dX4_swapByGains_6 : decode cX4_swapByGains 6 = .ok (.aload_n 0, 1) := by decide +kernel
theorem dX4_swapByGains_7 : decode cX4_swapByGains 7 = .ok (.iload_n 2, 1) := by decide +kernel
theorem dX4_swapByGains_8 : decode cX4_swapByGains 8 = .ok (.iload 4, 2) := by decide +kernel
theorem dX4_swapByGains_10 : decode cX4_swapByGains 10 = .ok (.invokevirtual 76, 3) := by decide +kernel
theorem dX4_swapByGains_13 : decode cX4_swapByGains 13 = .ok (.aload_n 0, 1) := by decide +kernel
theorem dX4_swapByGains_14 : decode cX4_swapByGains 14 = .ok (.iload_n 2, 1) := by decide +kernel
theorem dX4_swapByGains_15 : decode cX4_swapByGains 15 = .ok (.iload 4, 2) := by decide +kernel
theorem dX4_swapByGains_17 : decode cX4_swapByGains 17 = .ok (.iadd, 1) := by decide +kernel
theorem dX4_swapByGains_18 : decode cX4_swapByGains 18 = .ok (.iload_n 3, 1) := by decide +kernel
theorem dX4_swapByGains_19 : decode cX4_swapByGains 19 = .ok (.iload 4, 2) := by decide +kernel
theorem dX4_swapByGains_21 : decode cX4_swapByGains 21 = .ok (.isub, 1) := by decide +kernel
theorem dX4_swapByGains_22 : decode cX4_swapByGains 22 = .ok (.invokevirtual 76, 3) := by decide +kernel
theorem dX4_swapByGains_25 : decode cX4_swapByGains 25 = .ok (.iconst 0, 1) := by decide +kernel
theorem dX4_swapByGains_26 : decode cX4_swapByGains 26 = .ok (.istore 5, 2) := by decide +kernel
theorem dX4_swapByGains_28 : decode cX4_swapByGains 28 = .ok (.iload 5, 2) := by decide +kernel
theorem dX4_swapByGains_30 : decode cX4_swapByGains 30 = .ok (.iload_n 3, 1) := by decide +kernel
theorem dX4_swapByGains_31 : decode cX4_swapByGains 31 = .ok (.iload 4, 2) := by decide +kernel
theorem dX4_swapByGains_33 : decode cX4_swapByGains 33 = .ok (.isub, 1) := by decide +kernel
theorem dX4_swapByGains_34 : decode cX4_swapByGains 34 = .ok (.if_icmp .ge 59, 3) := by decide +kernel
theorem dX4_swapByGains_37 : decode cX4_swapByGains 37 = .ok (.aload_n 0, 1) := by decide +kernel
theorem dX4_swapByGains_38 : decode cX4_swapByGains 38 = .ok (.iload_n 2, 1) := by decide +kernel
theorem dX4_swapByGains_39 : decode cX4_swapByGains 39 = .ok (.iload 5, 2) := by decide +kernel
theorem dX4_swapByGains_41 : decode cX4_swapByGains 41 = .ok (.iadd, 1) := by decide +kernel
theorem dX4_swapByGains_42 : decode cX4_swapByGains 42 = .ok (.invokevirtual 79, 3) := by decide +kernel
theorem dX4_swapByGains_45 : decode cX4_swapByGains 45 = .ok (.istore 6, 2) := by decide +kernel
theorem dX4_swapByGains_47 : decode cX4_swapByGains 47 = .ok (.aload_n 0, 1) := by decide +kernel
theorem dX4_swapByGains_48 : decode cX4_swapByGains 48 = .ok (.iload_n 2, 1) := by decide +kernel
theorem dX4_swapByGains_49 : decode cX4_swapByGains 49 = .ok (.iload 4, 2) := by decide +kernel
theorem dX4_swapByGains_51 : decode cX4_swapByGains 51 = .ok (.iadd, 1) := by decide +kernel
theorem dX4_swapByGains_52 : decode cX4_swapByGains 52 = .ok (.iload 5, 2) := by decide +kernel
theorem dX4_swapByGains_54 : decode cX4_swapByGains 54 = .ok (.iadd, 1) := by decide +kernel
theorem dX4_swapByGains_55 : decode cX4_swapByGains 55 = .ok (.invokevirtual 79, 3) := by decide +kernel
theorem dX4_swapByGains_58 : decode cX4_swapByGains 58 = .ok (.istore 7, 2) := by decide +kernel
theorem dX4_swapByGains_60 : decode cX4_swapByGains 60 = .ok (.aload_n 0, 1) := by decide +kernel
theorem dX4_swapByGains_61 : decode cX4_swapByGains 61 = .ok (.iload 6, 2) := by decide +kernel
theorem dX4_swapByGains_63 : decode cX4_swapByGains 63 = .ok (.invokevirtual 82, 3) := by decide +kernel
theorem dX4_swapByGains_66 : decode cX4_swapByGains 66 = .ok (.aload_n 0, 1) := by decide +kernel
theorem dX4_swapByGains_67 : decode cX4_swapByGains 67 = .ok (.iload 7, 2) := by decide +kernel
theorem dX4_swapByGains_69 : decode cX4_swapByGains 69 = .ok (.invokevirtual 82, 3) := by decide +kernel
theorem dX4_swapByGains_72 : decode cX4_swapByGains 72 = .ok (.iadd, 1) := by decide +kernel
theorem dX4_swapByGains_73 : decode cX4_swapByGains 73 = .ok (.ifCond .gt 6, 3) := by decide +kernel
theorem dX4_swapByGains_76 : decode cX4_swapByGains 76 = .ok (.goto 17, 3) := by decide +kernel
theorem dX4_swapByGains_79 : decode cX4_swapByGains 79 = .ok (.aload_n 1, 1) := by decide +kernel
theorem dX4_swapByGains_80 : decode cX4_swapByGains 80 = .ok (.iload 6, 2) := by decide +kernel
theorem dX4_swapByGains_82 : decode cX4_swapByGains 82 = .ok (.iload 7, 2) := by decide +kernel
theorem dX4_swapByGains_84 : decode cX4_swapByGains 84 = .ok (.invokevirtual 85, 3) := by decide +kernel
theorem dX4_swapByGains_87 : decode cX4_swapByGains 87 = .ok (.iinc 5 1, 3) := by decide +kernel
theorem dX4_swapByGains_90 : decode cX4_swapByGains 90 = .ok (.goto (-62), 3) := by decide +kernel
theorem dX4_swapByGains_93 : decode cX4_swapByGains 93 = .ok (.iload 5, 2) := by decide +kernel
theorem dX4_swapByGains_95 : decode cX4_swapByGains 95 = .ok (.ireturn, 1) := by decide +kernel
theorem dX4_rank_0 : decode cX4_rank 0 = .ok (.iload_n 1, 1) := by decide +kernel
theorem dX4_rank_1 : decode cX4_rank 1 = .ok (.ifCond .lt 11, 3) := by decide +kernel
theorem dX4_rank_4 : decode cX4_rank 4 = .ok (.iload_n 1, 1) := by decide +kernel
theorem dX4_rank_5 : decode cX4_rank 5 = .ok (.iload_n 2, 1) := by decide +kernel
theorem dX4_rank_6 : decode cX4_rank 6 = .ok (.iadd, 1) := by decide +kernel
theorem dX4_rank_7 : decode cX4_rank 7 = .ok (.bipush 16, 2) := by decide +kernel
theorem dX4_rank_9 : decode cX4_rank 9 = .ok (.if_icmp .le 4, 3) := by decide +kernel
theorem dX4_rank_12 : decode cX4_rank 12 = .ok (.return_, 1) := by decide +kernel
theorem dX4_rank_13 : decode cX4_rank 13 = .ok (.iload_n 1, 1) := by decide +kernel
theorem dX4_rank_14 : decode cX4_rank 14 = .ok (.istore_n 3, 1) := by decide +kernel
theorem dX4_rank_15 : decode cX4_rank 15 = .ok (.iload_n 3, 1) := by decide +kernel
theorem dX4_rank_16 : decode cX4_rank 16 = .ok (.iload_n 1, 1) := by decide +kernel
theorem dX4_rank_17 : decode cX4_rank 17 = .ok (.iload_n 2, 1) := by decide +kernel
theorem dX4_rank_18 : decode cX4_rank 18 = .ok (.iadd, 1) := by decide +kernel
theorem dX4_rank_19 : decode cX4_rank 19 = .ok (.if_icmp .ge 70, 3) := by decide +kernel
theorem dX4_rank_22 : decode cX4_rank 22 = .ok (.iload_n 3, 1) := by decide +kernel
theorem dX4_rank_23 : decode cX4_rank 23 = .ok (.istore 4, 2) := by decide +kernel
theorem dX4_rank_25 : decode cX4_rank 25 = .ok (.iload 4, 2) := by decide +kernel
theorem dX4_rank_27 : decode cX4_rank 27 = .ok (.iload_n 1, 1) := by decide +kernel
theorem dX4_rank_28 : decode cX4_rank 28 = .ok (.if_icmp .le 47, 3) := by decide +kernel
theorem dX4_rank_31 : decode cX4_rank 31 = .ok (.aload_n 0, 1) := by decide +kernel
theorem dX4_rank_32 : decode cX4_rank 32 = .ok (.aload_n 0, 1) := by decide +kernel
theorem dX4_rank_33 : decode cX4_rank 33 = .ok (.getfield 21, 3) := by decide +kernel
theorem dX4_rank_36 : decode cX4_rank 36 = .ok (.iload 4, 2) := by decide +kernel
theorem dX4_rank_38 : decode cX4_rank 38 = .ok (.iconst 1, 1) := by decide +kernel
theorem dX4_rank_39 : decode cX4_rank 39 = .ok (.isub, 1) := by decide +kernel
theorem dX4_rank_40 : decode cX4_rank 40 = .ok (.iaload, 1) := by decide +kernel
theorem dX4_rank_41 : decode cX4_rank 41 = .ok (.invokevirtual 82, 3) := by decide +kernel
theorem dX4_rank_44 : decode cX4_rank 44 = .ok (.aload_n 0, 1) := by decide +kernel
theorem dX4_rank_45 : decode cX4_rank 45 = .ok (.getfield 18, 3) := by decide +kernel
theorem dX4_rank_48 : decode cX4_rank 48 = .ok (.iload_n 3, 1) := by decide +kernel
theorem dX4_rank_49 : decode cX4_rank 49 = .ok (.iaload, 1) := by decide +kernel
theorem dX4_rank_50 : decode cX4_rank 50 = .ok (.if_icmp .ge 25, 3) := by decide +kernel
theorem dX4_rank_53 : decode cX4_rank 53 = .ok (.aload_n 0, 1) := by decide +kernel
theorem dX4_rank_54 : decode cX4_rank 54 = .ok (.getfield 21, 3) := by decide +kernel
theorem dX4_rank_57 : decode cX4_rank 57 = .ok (.iload 4, 2) := by decide +kernel
theorem dX4_rank_59 : decode cX4_rank 59 = .ok (.aload_n 0, 1) := by decide +kernel
theorem dX4_rank_60 : decode cX4_rank 60 = .ok (.getfield 21, 3) := by decide +kernel
theorem dX4_rank_63 : decode cX4_rank 63 = .ok (.iload 4, 2) := by decide +kernel
theorem dX4_rank_65 : decode cX4_rank 65 = .ok (.iconst 1, 1) := by decide +kernel
theorem dX4_rank_66 : decode cX4_rank 66 = .ok (.isub, 1) := by decide +kernel
theorem dX4_rank_67 : decode cX4_rank 67 = .ok (.iaload, 1) := by decide +kernel
theorem dX4_rank_68 : decode cX4_rank 68 = .ok (.iastore, 1) := by decide +kernel
theorem dX4_rank_69 : decode cX4_rank 69 = .ok (.iinc 4 (-1), 3) := by decide +kernel
theorem dX4_rank_72 : decode cX4_rank 72 = .ok (.goto (-47), 3) := by decide +kernel
theorem dX4_rank_75 : decode cX4_rank 75 = .ok (.aload_n 0, 1) := by decide +kernel
theorem dX4_rank_76 : decode cX4_rank 76 = .ok (.getfield 21, 3) := by decide +kernel
theorem dX4_rank_79 : decode cX4_rank 79 = .ok (.iload 4, 2) := by decide +kernel
theorem dX4_rank_81 : decode cX4_rank 81 = .ok (.iload_n 3, 1) := by decide +kernel
theorem dX4_rank_82 : decode cX4_rank 82 = .ok (.iastore, 1) := by decide +kernel
theorem dX4_rank_83 : decode cX4_rank 83 = .ok (.iinc 3 1, 3) := by decide +kernel
theorem dX4_rank_86 : decode cX4_rank 86 = .ok (.goto (-71), 3) := by decide +kernel
theorem dX4_rank_89 : decode cX4_rank 89 = .ok (.return_, 1) := by decide +kernel
theorem dX4_rankedAt_0 : decode cX4_rankedAt 0 = .ok (.iload_n 1, 1) := by decide +kernel
theorem dX4_rankedAt_1 : decode cX4_rankedAt 1 = .ok (.ifCond .lt 18, 3) := by decide +kernel
theorem dX4_rankedAt_4 : decode cX4_rankedAt 4 = .ok (.iload_n 1, 1) := by decide +kernel
theorem dX4_rankedAt_5 : decode cX4_rankedAt 5 = .ok (.bipush 16, 2) := by decide +kernel
theorem dX4_rankedAt_7 : decode cX4_rankedAt 7 = .ok (.if_icmp .ge 12, 3) := by decide +kernel
theorem dX4_rankedAt_10 : decode cX4_rankedAt 10 = .ok (.aload_n 0, 1) := by decide +kernel
theorem dX4_rankedAt_11 : decode cX4_rankedAt 11 = .ok (.getfield 21, 3) := by decide +kernel
theorem dX4_rankedAt_14 : decode cX4_rankedAt 14 = .ok (.iload_n 1, 1) := by decide +kernel
theorem dX4_rankedAt_15 : decode cX4_rankedAt 15 = .ok (.iaload, 1) := by decide +kernel
theorem dX4_rankedAt_16 : decode cX4_rankedAt 16 = .ok (.goto 4, 3) := by decide +kernel
theorem dX4_rankedAt_19 : decode cX4_rankedAt 19 = .ok (.iconst (-1), 1) := by decide +kernel
theorem dX4_rankedAt_20 : decode cX4_rankedAt 20 = .ok (.ireturn, 1) := by decide +kernel
theorem dX5_init_0 : decode cX5_init 0 = .ok (.aload_n 0, 1) := by decide +kernel
theorem dX5_init_1 : decode cX5_init 1 = .ok (.invokespecial 3, 3) := by decide +kernel
theorem dX5_init_4 : decode cX5_init 4 = .ok (.aload_n 0, 1) := by decide +kernel
theorem dX5_init_5 : decode cX5_init 5 = .ok (.bipush 8, 2) := by decide +kernel
theorem dX5_init_7 : decode cX5_init 7 = .ok (.newarray .int, 2) := by decide +kernel
theorem dX5_init_9 : decode cX5_init 9 = .ok (.putfield 11, 3) := by decide +kernel
theorem dX5_init_12 : decode cX5_init 12 = .ok (.aload_n 0, 1) := by decide +kernel
theorem dX5_init_13 : decode cX5_init 13 = .ok (.bipush 8, 2) := by decide +kernel
theorem dX5_init_15 : decode cX5_init 15 = .ok (.newarray .int, 2) := by decide +kernel
theorem dX5_init_17 : decode cX5_init 17 = .ok (.putfield 15, 3) := by decide +kernel
theorem dX5_init_20 : decode cX5_init 20 = .ok (.aload_n 0, 1) := by decide +kernel
theorem dX5_init_21 : decode cX5_init 21 = .ok (.bipush 8, 2) := by decide +kernel
theorem dX5_init_23 : decode cX5_init 23 = .ok (.newarray .boolean, 2) := by decide +kernel
theorem dX5_init_25 : decode cX5_init 25 = .ok (.putfield 18, 3) := by decide +kernel
theorem dX5_init_28 : decode cX5_init 28 = .ok (.aload_n 0, 1) := by decide +kernel
theorem dX5_init_29 : decode cX5_init 29 = .ok (.iconst 0, 1) := by decide +kernel
theorem dX5_init_30 : decode cX5_init 30 = .ok (.putfield 22, 3) := by decide +kernel
theorem dX5_init_33 : decode cX5_init 33 = .ok (.return_, 1) := by decide +kernel
theorem dX5_size_0 : decode cX5_size 0 = .ok (.aload_n 0, 1) := by decide +kernel
theorem dX5_size_1 : decode cX5_size 1 = .ok (.getfield 22, 3) := by decide +kernel
theorem dX5_size_4 : decode cX5_size 4 = .ok (.ireturn, 1) := by decide +kernel
theorem dX5_clear_0 : decode cX5_clear 0 = .ok (.aload_n 0, 1) := by decide +kernel
theorem dX5_clear_1 : decode cX5_clear 1 = .ok (.iconst 0, 1) := by decide +kernel
theorem dX5_clear_2 : decode cX5_clear 2 = .ok (.putfield 22, 3) := by decide +kernel
theorem dX5_clear_5 : decode cX5_clear 5 = .ok (.return_, 1) := by decide +kernel
theorem dX5_add_0 : decode cX5_add 0 = .ok (.aload_n 0, 1) := by decide +kernel
theorem dX5_add_1 : decode cX5_add 1 = .ok (.getfield 22, 3) := by decide +kernel
theorem dX5_add_4 : decode cX5_add 4 = .ok (.bipush 8, 2) := by decide +kernel
theorem dX5_add_6 : decode cX5_add 6 = .ok (.if_icmp .ge 20, 3) := by decide +kernel
theorem dX5_add_9 : decode cX5_add 9 = .ok (.iload_n 1, 1) := by decide +kernel
theorem dX5_add_10 : decode cX5_add 10 = .ok (.iload_n 2, 1) := by decide +kernel
theorem dX5_add_11 : decode cX5_add 11 = .ok (.invokestatic 26, 3) := by decide +kernel
theorem dX5_add_14 : decode cX5_add 14 = .ok (.ifCond .eq 12, 3) := by decide +kernel
theorem dX5_add_17 : decode cX5_add 17 = .ok (.iload_n 3, 1) := by decide +kernel
theorem dX5_add_18 : decode cX5_add 18 = .ok (.ifCond .lt 8, 3) := by decide +kernel
theorem dX5_add_21 : decode cX5_add 21 = .ok (.iload_n 3, 1) := by decide +kernel
theorem dX5_add_22 : decode cX5_add 22 = .ok (.iconst 1, 1) := by decide +kernel
theorem dX5_add_23 : decode cX5_add 23 = .ok (.if_icmp .le 5, 3) := by decide +kernel
theorem dX5_add_26 : decode cX5_add 26 = .ok (.iconst 0, 1) := by decide +kernel
theorem dX5_add_27 : decode cX5_add 27 = .ok (.ireturn, 1) := by decide +kernel
theorem dX5_add_28 : decode cX5_add 28 = .ok (.aload_n 0, 1) := by decide +kernel
theorem dX5_add_29 : decode cX5_add 29 = .ok (.getfield 11, 3) := by decide +kernel
theorem dX5_add_32 : decode cX5_add 32 = .ok (.aload_n 0, 1) := by decide +kernel
theorem dX5_add_33 : decode cX5_add 33 = .ok (.getfield 22, 3) := by decide +kernel
theorem dX5_add_36 : decode cX5_add 36 = .ok (.iload_n 1, 1) := by decide +kernel
theorem dX5_add_37 : decode cX5_add 37 = .ok (.iastore, 1) := by decide +kernel
theorem dX5_add_38 : decode cX5_add 38 = .ok (.aload_n 0, 1) := by decide +kernel
theorem dX5_add_39 : decode cX5_add 39 = .ok (.getfield 15, 3) := by decide +kernel
theorem dX5_add_42 : decode cX5_add 42 = .ok (.aload_n 0, 1) := by decide +kernel
theorem dX5_add_43 : decode cX5_add 43 = .ok (.getfield 22, 3) := by decide +kernel
theorem dX5_add_46 : decode cX5_add 46 = .ok (.iload_n 2, 1) := by decide +kernel
theorem dX5_add_47 : decode cX5_add 47 = .ok (.iastore, 1) := by decide +kernel
theorem dX5_add_48 : decode cX5_add 48 = .ok (.aload_n 0, 1) := by decide +kernel
theorem dX5_add_49 : decode cX5_add 49 = .ok (.getfield 18, 3) := by decide +kernel
theorem dX5_add_52 : decode cX5_add 52 = .ok (.aload_n 0, 1) := by decide +kernel
theorem dX5_add_53 : decode cX5_add 53 = .ok (.getfield 22, 3) := by decide +kernel
theorem dX5_add_56 : decode cX5_add 56 = .ok (.iload_n 3, 1) := by decide +kernel
theorem dX5_add_57 : decode cX5_add 57 = .ok (.iconst 1, 1) := by decide +kernel
theorem dX5_add_58 : decode cX5_add 58 = .ok (.if_icmp .ne 7, 3) := by decide +kernel
theorem dX5_add_61 : decode cX5_add 61 = .ok (.iconst 1, 1) := by decide +kernel
theorem dX5_add_62 : decode cX5_add 62 = .ok (.goto 4, 3) := by decide +kernel
theorem dX5_add_65 : decode cX5_add 65 = .ok (.iconst 0, 1) := by decide +kernel
theorem dX5_add_66 : decode cX5_add 66 = .ok (.bastore, 1) := by decide +kernel
theorem dX5_add_67 : decode cX5_add 67 = .ok (.aload_n 0, 1) := by decide +kernel
theorem dX5_add_68 : decode cX5_add 68 = .ok (.dup, 1) := by decide +kernel
theorem dX5_add_69 : decode cX5_add 69 = .ok (.getfield 22, 3) := by decide +kernel
theorem dX5_add_72 : decode cX5_add 72 = .ok (.iconst 1, 1) := by decide +kernel
theorem dX5_add_73 : decode cX5_add 73 = .ok (.iadd, 1) := by decide +kernel
theorem dX5_add_74 : decode cX5_add 74 = .ok (.putfield 22, 3) := by decide +kernel
theorem dX5_add_77 : decode cX5_add 77 = .ok (.iconst 1, 1) := by decide +kernel
theorem dX5_add_78 : decode cX5_add 78 = .ok (.ireturn, 1) := by decide +kernel
theorem dX5_canBeHeard_0 : decode cX5_canBeHeard 0 = .ok (.iload_n 0, 1) := by decide +kernel
theorem dX5_canBeHeard_1 : decode cX5_canBeHeard 1 = .ok (.ifCond .ne 8, 3) := by decide +kernel
theorem dX5_canBeHeard_4 : decode cX5_canBeHeard 4 = .ok (.iload_n 1, 1) := by decide +kernel
theorem dX5_canBeHeard_5 : decode cX5_canBeHeard 5 = .ok (.invokestatic 30, 3) := by decide +kernel
theorem dX5_canBeHeard_8 : decode cX5_canBeHeard 8 = .ok (.ireturn, 1) := by decide +kernel
theorem dX5_canBeHeard_9 : decode cX5_canBeHeard 9 = .ok (.iload_n 0, 1) := by decide +kernel
theorem dX5_canBeHeard_10 : decode cX5_canBeHeard 10 = .ok (.iconst 1, 1) := by decide +kernel
theorem dX5_canBeHeard_11 : decode cX5_canBeHeard 11 = .ok (.if_icmp .ne 17, 3) := by decide +kernel
theorem dX5_canBeHeard_14 : decode cX5_canBeHeard 14 = .ok (.iload_n 1, 1) := by decide +kernel
theorem dX5_canBeHeard_15 : decode cX5_canBeHeard 15 = .ok (.ifCond .lt 13, 3) := by decide +kernel
theorem dX5_canBeHeard_18 : decode cX5_canBeHeard 18 = .ok (.iload_n 1, 1) := by decide +kernel
theorem dX5_canBeHeard_19 : decode cX5_canBeHeard 19 = .ok (.bipush 16, 2) := by decide +kernel
theorem dX5_canBeHeard_21 : decode cX5_canBeHeard 21 = .ok (.if_icmp .ge 7, 3) := by decide +kernel
theorem dX5_canBeHeard_24 : decode cX5_canBeHeard 24 = .ok (.iconst 1, 1) := by decide +kernel
theorem dX5_canBeHeard_25 : decode cX5_canBeHeard 25 = .ok (.goto 4, 3) := by decide +kernel
theorem dX5_canBeHeard_28 : decode cX5_canBeHeard 28 = .ok (.iconst 0, 1) := by decide +kernel
theorem dX5_canBeHeard_29 : decode cX5_canBeHeard 29 = .ok (.ireturn, 1) := by decide +kernel
theorem dX5_fitting_0 : decode cX5_fitting 0 = .ok (.iconst 0, 1) := by decide +kernel
theorem dX5_fitting_1 : decode cX5_fitting 1 = .ok (.istore_n 2, 1) := by decide +kernel
theorem dX5_fitting_2 : decode cX5_fitting 2 = .ok (.iconst 0, 1) := by decide +kernel
theorem dX5_fitting_3 : decode cX5_fitting 3 = .ok (.istore_n 3, 1) := by decide +kernel
theorem dX5_fitting_4 : decode cX5_fitting 4 = .ok (.iload_n 3, 1) := by decide +kernel
theorem dX5_fitting_5 : decode cX5_fitting 5 = .ok (.aload_n 1, 1) := by decide +kernel
theorem dX5_fitting_6 : decode cX5_fitting 6 = .ok (.invokevirtual 34, 3) := by decide +kernel
theorem dX5_fitting_9 : decode cX5_fitting 9 = .ok (.if_icmp .ge 32, 3) := by decide +kernel
theorem dX5_fitting_12 : decode cX5_fitting 12 = .ok (.aload_n 0, 1) := by decide +kernel
theorem dX5_fitting_13 : decode cX5_fitting 13 = .ok (.aload_n 1, 1) := by decide +kernel
theorem dX5_fitting_14 : decode cX5_fitting 14 = .ok (.iload_n 3, 1) := by decide +kernel
theorem dX5_fitting_15 : decode cX5_fitting 15 = .ok (.invokevirtual 39, 3) := by decide +kernel
theorem dX5_fitting_18 : decode cX5_fitting 18 = .ok (.iload_n 3, 1) := by decide +kernel
theorem dX5_fitting_19 : decode cX5_fitting 19 = .ok (.invokevirtual 43, 3) := by decide +kernel
theorem dX5_fitting_22 : decode cX5_fitting 22 = .ok (.ifCond .eq 13, 3) := by decide +kernel
theorem dX5_fitting_25 : decode cX5_fitting 25 = .ok (.iload_n 2, 1) := by decide +kernel
theorem dX5_fitting_26 : decode cX5_fitting 26 = .ok (.iconst 1, 1) := by decide +kernel
theorem dX5_fitting_27 : decode cX5_fitting 27 = .ok (.aload_n 1, 1) := by decide +kernel
theorem dX5_fitting_28 : decode cX5_fitting 28 = .ok (.iload_n 3, 1) := by decide +kernel
theorem dX5_fitting_29 : decode cX5_fitting 29 = .ok (.invokevirtual 46, 3) := by decide +kernel
theorem dX5_fitting_32 : decode cX5_fitting 32 = .ok (.ishl, 1) := by decide +kernel
theorem dX5_fitting_33 : decode cX5_fitting 33 = .ok (.ior, 1) := by decide +kernel
theorem dX5_fitting_34 : decode cX5_fitting 34 = .ok (.istore_n 2, 1) := by decide +kernel
theorem dX5_fitting_35 : decode cX5_fitting 35 = .ok (.iinc 3 1, 3) := by decide +kernel
theorem dX5_fitting_38 : decode cX5_fitting 38 = .ok (.goto (-34), 3) := by decide +kernel
theorem dX5_fitting_41 : decode cX5_fitting 41 = .ok (.iload_n 2, 1) := by decide +kernel
theorem dX5_fitting_42 : decode cX5_fitting 42 = .ok (.ireturn, 1) := by decide +kernel
theorem dX5_isFitting_0 : decode cX5_isFitting 0 = .ok (.iconst 0, 1) := by decide +kernel
theorem dX5_isFitting_1 : decode cX5_isFitting 1 = .ok (.istore_n 3, 1) := by decide +kernel
theorem dX5_isFitting_2 : decode cX5_isFitting 2 = .ok (.iload_n 3, 1) := by decide +kernel
theorem dX5_isFitting_3 : decode cX5_isFitting 3 = .ok (.aload_n 0, 1) := by decide +kernel
theorem dX5_isFitting_4 : decode cX5_isFitting 4 = .ok (.getfield 22, 3) := by decide +kernel
theorem dX5_isFitting_7 : decode cX5_isFitting 7 = .ok (.if_icmp .ge 70, 3) := by decide +kernel
theorem dX5_isFitting_10 : decode cX5_isFitting 10 = .ok (.aload_n 0, 1) := by decide +kernel
theorem dX5_isFitting_11 : decode cX5_isFitting 11 = .ok (.getfield 11, 3) := by decide +kernel
theorem dX5_isFitting_14 : decode cX5_isFitting 14 = .ok (.iload_n 3, 1) := by decide +kernel
theorem dX5_isFitting_15 : decode cX5_isFitting 15 = .ok (.iaload, 1) := by decide +kernel
theorem dX5_isFitting_16 : decode cX5_isFitting 16 = .ok (.ifCond .ne 25, 3) := by decide +kernel
theorem dX5_isFitting_19 : decode cX5_isFitting 19 = .ok (.iload_n 1, 1) := by decide +kernel
theorem dX5_isFitting_20 : decode cX5_isFitting 20 = .ok (.aload_n 0, 1) := by decide +kernel
theorem dX5_isFitting_21 : decode cX5_isFitting 21 = .ok (.getfield 15, 3) := by decide +kernel
theorem dX5_isFitting_24 : decode cX5_isFitting 24 = .ok (.iload_n 3, 1) := by decide +kernel
theorem dX5_isFitting_25 : decode cX5_isFitting 25 = .ok (.iaload, 1) := by decide +kernel
theorem dX5_isFitting_26 : decode cX5_isFitting 26 = .ok (.ishr, 1) := by decide +kernel
theorem dX5_isFitting_27 : decode cX5_isFitting 27 = .ok (.iconst 1, 1) := by decide +kernel
theorem dX5_isFitting_28 : decode cX5_isFitting 28 = .ok (.iand, 1) := by decide +kernel
theorem dX5_isFitting_29 : decode cX5_isFitting 29 = .ok (.iconst 1, 1) := by decide +kernel
theorem dX5_isFitting_30 : decode cX5_isFitting 30 = .ok (.if_icmp .ne 7, 3) := by decide +kernel
theorem dX5_isFitting_33 : decode cX5_isFitting 33 = .ok (.iconst 1, 1) := by decide +kernel
theorem dX5_isFitting_34 : decode cX5_isFitting 34 = .ok (.goto 22, 3) := by decide +kernel
theorem dX5_isFitting_37 : decode cX5_isFitting 37 = .ok (.iconst 0, 1) := by decide +kernel
theorem dX5_isFitting_38 : decode cX5_isFitting 38 = .ok (.goto 18, 3) := by decide +kernel
theorem dX5_isFitting_41 : decode cX5_isFitting 41 = .ok (.iload_n 2, 1) := by decide +kernel
theorem dX5_isFitting_42 : decode cX5_isFitting 42 = .ok (.aload_n 0, 1) := by decide +kernel
theorem dX5_isFitting_43 : decode cX5_isFitting 43 = .ok (.getfield 15, 3) := by decide +kernel
theorem dX5_isFitting_46 : decode cX5_isFitting 46 = .ok (.iload_n 3, 1) := by decide +kernel
theorem dX5_isFitting_47 : decode cX5_isFitting 47 = .ok (.iaload, 1) := by decide +kernel
theorem dX5_isFitting_48 : decode cX5_isFitting 48 = .ok (.if_icmp .lt 7, 3) := by decide +kernel
theorem dX5_isFitting_51 : decode cX5_isFitting 51 = .ok (.iconst 1, 1) := by decide +kernel
theorem dX5_isFitting_52 : decode cX5_isFitting 52 = .ok (.goto 4, 3) := by decide +kernel
theorem dX5_isFitting_55 : decode cX5_isFitting 55 = .ok (.iconst 0, 1) := by decide +kernel
theorem dX5_isFitting_56 : decode cX5_isFitting 56 = .ok (.istore 4, 2) := by decide +kernel
theorem dX5_isFitting_58 : decode cX5_isFitting 58 = .ok (.iload 4, 2) := by decide +kernel
theorem dX5_isFitting_60 : decode cX5_isFitting 60 = .ok (.aload_n 0, 1) := by decide +kernel
theorem dX5_isFitting_61 : decode cX5_isFitting 61 = .ok (.getfield 18, 3) := by decide +kernel
theorem dX5_isFitting_64 : decode cX5_isFitting 64 = .ok (.iload_n 3, 1) := by decide +kernel
theorem dX5_isFitting_65 : decode cX5_isFitting 65 = .ok (.baload, 1) := by decide +kernel
theorem dX5_isFitting_66 : decode cX5_isFitting 66 = .ok (.if_icmp .eq 5, 3) := by decide +kernel
theorem dX5_isFitting_69 : decode cX5_isFitting 69 = .ok (.iconst 0, 1) := by decide +kernel
theorem dX5_isFitting_70 : decode cX5_isFitting 70 = .ok (.ireturn, 1) := by decide +kernel
theorem dX5_isFitting_71 : decode cX5_isFitting 71 = .ok (.iinc 3 1, 3) := by decide +kernel
theorem dX5_isFitting_74 : decode cX5_isFitting 74 = .ok (.goto (-72), 3) := by decide +kernel
theorem dX5_isFitting_77 : decode cX5_isFitting 77 = .ok (.iconst 1, 1) := by decide +kernel
theorem dX5_isFitting_78 : decode cX5_isFitting 78 = .ok (.ireturn, 1) := by decide +kernel
theorem dX6_init_0 : decode cX6_init 0 = .ok (.aload_n 0, 1) := by decide +kernel
theorem dX6_init_1 : decode cX6_init 1 = .ok (.invokespecial 1, 3) := by decide +kernel
theorem dX6_init_4 : decode cX6_init 4 = .ok (.aload_n 0, 1) := by decide +kernel
theorem dX6_init_5 : decode cX6_init 5 = .ok (.bipush 32, 2) := by decide +kernel
theorem dX6_init_7 : decode cX6_init 7 = .ok (.newarray .long, 2) := by decide +kernel
theorem dX6_init_9 : decode cX6_init 9 = .ok (.putfield 9, 3) := by decide +kernel
theorem dX6_init_12 : decode cX6_init 12 = .ok (.aload_n 0, 1) := by decide +kernel
theorem dX6_init_13 : decode cX6_init 13 = .ok (.iconst 0, 1) := by decide +kernel
theorem dX6_init_14 : decode cX6_init 14 = .ok (.putfield 13, 3) := by decide +kernel
theorem dX6_init_17 : decode cX6_init 17 = .ok (.return_, 1) := by decide +kernel
theorem dX6_size_0 : decode cX6_size 0 = .ok (.aload_n 0, 1) := by decide +kernel
theorem dX6_size_1 : decode cX6_size 1 = .ok (.getfield 13, 3) := by decide +kernel
theorem dX6_size_4 : decode cX6_size 4 = .ok (.ireturn, 1) := by decide +kernel
theorem dX6_has_0 : decode cX6_has 0 = .ok (.iload_n 1, 1) := by decide +kernel
theorem dX6_has_1 : decode cX6_has 1 = .ok (.ifCond .lt 15, 3) := by decide +kernel
theorem dX6_has_4 : decode cX6_has 4 = .ok (.iload_n 1, 1) := by decide +kernel
theorem dX6_has_5 : decode cX6_has 5 = .ok (.aload_n 0, 1) := by decide +kernel
theorem dX6_has_6 : decode cX6_has 6 = .ok (.getfield 13, 3) := by decide +kernel
theorem dX6_has_9 : decode cX6_has 9 = .ok (.if_icmp .ge 7, 3) := by decide +kernel
theorem dX6_has_12 : decode cX6_has 12 = .ok (.iconst 1, 1) := by decide +kernel
theorem dX6_has_13 : decode cX6_has 13 = .ok (.goto 4, 3) := by decide +kernel
theorem dX6_has_16 : decode cX6_has 16 = .ok (.iconst 0, 1) := by decide +kernel
theorem dX6_has_17 : decode cX6_has 17 = .ok (.ireturn, 1) := by decide +kernel
theorem dX6_numberAt_0 : decode cX6_numberAt 0 = .ok (.aload_n 0, 1) := by decide +kernel
theorem dX6_numberAt_1 : decode cX6_numberAt 1 = .ok (.iload_n 1, 1) := by decide +kernel
theorem dX6_numberAt_2 : decode cX6_numberAt 2 = .ok (.invokevirtual 17, 3) := by decide +kernel
theorem dX6_numberAt_5 : decode cX6_numberAt 5 = .ok (.ifCond .eq 12, 3) := by decide +kernel
theorem dX6_numberAt_8 : decode cX6_numberAt 8 = .ok (.aload_n 0, 1) := by decide +kernel
theorem dX6_numberAt_9 : decode cX6_numberAt 9 = .ok (.getfield 9, 3) := by decide +kernel
theorem dX6_numberAt_12 : decode cX6_numberAt 12 = .ok (.iload_n 1, 1) := by decide +kernel
theorem dX6_numberAt_13 : decode cX6_numberAt 13 = .ok (.laload, 1) := by decide +kernel
theorem dX6_numberAt_14 : decode cX6_numberAt 14 = .ok (.goto 4, 3) := by decide +kernel
theorem dX6_numberAt_17 : decode cX6_numberAt 17 = .ok (.lconst 0, 1) := by decide +kernel
theorem dX6_numberAt_18 : decode cX6_numberAt 18 = .ok (.lreturn, 1) := by decide +kernel
theorem dX6_begin_0 : decode cX6_begin 0 = .ok (.aload_n 0, 1) := by decide +kernel
theorem dX6_begin_1 : decode cX6_begin 1 = .ok (.iconst 0, 1) := by decide +kernel
theorem dX6_begin_2 : decode cX6_begin 2 = .ok (.putfield 13, 3) := by decide +kernel
theorem dX6_begin_5 : decode cX6_begin 5 = .ok (.return_, 1) := by decide +kernel
theorem dX6_add_0 : decode cX6_add 0 = .ok (.aload_n 0, 1) := by decide +kernel
theorem dX6_add_1 : decode cX6_add 1 = .ok (.getfield 13, 3) := by decide +kernel
theorem dX6_add_4 : decode cX6_add 4 = .ok (.bipush 32, 2) := by decide +kernel
theorem dX6_add_6 : decode cX6_add 6 = .ok (.if_icmp .ge 23, 3) := by decide +kernel
theorem dX6_add_9 : decode cX6_add 9 = .ok (.aload_n 0, 1) := by decide +kernel
theorem dX6_add_10 : decode cX6_add 10 = .ok (.getfield 9, 3) := by decide +kernel
theorem dX6_add_13 : decode cX6_add 13 = .ok (.aload_n 0, 1) := by decide +kernel
theorem dX6_add_14 : decode cX6_add 14 = .ok (.getfield 13, 3) := by decide +kernel
theorem dX6_add_17 : decode cX6_add 17 = .ok (.lload_n 1, 1) := by decide +kernel
theorem dX6_add_18 : decode cX6_add 18 = .ok (.lastore, 1) := by decide +kernel
theorem dX6_add_19 : decode cX6_add 19 = .ok (.aload_n 0, 1) := by decide +kernel
theorem dX6_add_20 : decode cX6_add 20 = .ok (.dup, 1) := by decide +kernel
theorem dX6_add_21 : decode cX6_add 21 = .ok (.getfield 13, 3) := by decide +kernel
theorem dX6_add_24 : decode cX6_add 24 = .ok (.iconst 1, 1) := by decide +kernel
theorem dX6_add_25 : decode cX6_add 25 = .ok (.iadd, 1) := by decide +kernel
theorem dX6_add_26 : decode cX6_add 26 = .ok (.putfield 13, 3) := by decide +kernel
theorem dX6_add_29 : decode cX6_add 29 = .ok (.return_, 1) := by decide +kernel
theorem dX6_tell_0 : decode cX6_tell 0 = .ok (.aload_n 0, 1) := by decide +kernel
theorem dX6_tell_1 : decode cX6_tell 1 = .ok (.invokevirtual 21, 3) := by decide +kernel
theorem dX6_tell_4 : decode cX6_tell 4 = .ok (.aload_n 0, 1) := by decide +kernel
theorem dX6_tell_5 : decode cX6_tell 5 = .ok (.lload_n 1, 1) := by decide +kernel
theorem dX6_tell_6 : decode cX6_tell 6 = .ok (.invokevirtual 24, 3) := by decide +kernel
theorem dX6_tell_9 : decode cX6_tell 9 = .ok (.return_, 1) := by decide +kernel
theorem dX6_tellBoth_0 : decode cX6_tellBoth 0 = .ok (.aload_n 0, 1) := by decide +kernel
theorem dX6_tellBoth_1 : decode cX6_tellBoth 1 = .ok (.invokevirtual 21, 3) := by decide +kernel
theorem dX6_tellBoth_4 : decode cX6_tellBoth 4 = .ok (.aload_n 0, 1) := by decide +kernel
theorem dX6_tellBoth_5 : decode cX6_tellBoth 5 = .ok (.lload_n 1, 1) := by decide +kernel
theorem dX6_tellBoth_6 : decode cX6_tellBoth 6 = .ok (.invokevirtual 24, 3) := by decide +kernel
theorem dX6_tellBoth_9 : decode cX6_tellBoth 9 = .ok (.aload_n 0, 1) := by decide +kernel
theorem dX6_tellBoth_10 : decode cX6_tellBoth 10 = .ok (.lload_n 3, 1) := by decide +kernel
theorem dX6_tellBoth_11 : decode cX6_tellBoth 11 = .ok (.invokevirtual 24, 3) := by decide +kernel
theorem dX6_tellBoth_14 : decode cX6_tellBoth 14 = .ok (.return_, 1) := by decide +kernel
