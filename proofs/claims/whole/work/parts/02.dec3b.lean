theorem dX12_gain_48 : decode cX12_gain 48 = .ok (.iaload, 1) := by decide +kernel
theorem dX12_gain_49 : decode cX12_gain 49 = .ok (.invokestatic 226, 3) := by decide +kernel
theorem dX12_gain_52 : decode cX12_gain 52 = .ok (.if_icmp .ge 7, 3) := by decide +kernel
theorem dX12_gain_55 : decode cX12_gain 55 = .ok (.lconst 1, 1) := by decide +kernel
theorem dX12_gain_56 : decode cX12_gain 56 = .ok (.goto 6, 3) := by decide +kernel
theorem dX12_gain_59 : decode cX12_gain 59 = .ok (.ldc2_w 263, 3) := by decide +kernel
theorem dX12_gain_62 : decode cX12_gain 62 = .ok (.invokevirtual 167, 3) := by decide +kernel
theorem dX12_gain_65 : decode cX12_gain 65 = .ok (.sipush 1000, 3) := by decide +kernel
theorem dX12_gain_68 : decode cX12_gain 68 = .ok (.aload_n 0, 1) := by decide +kernel
theorem dX12_gain_69 : decode cX12_gain 69 = .ok (.iload_n 1, 1) := by decide +kernel
theorem dX12_gain_70 : decode cX12_gain 70 = .ok (.iconst 0, 1) := by decide +kernel
theorem dX12_gain_71 : decode cX12_gain 71 = .ok (.aload_n 0, 1) := by decide +kernel
theorem dX12_gain_72 : decode cX12_gain 72 = .ok (.getfield 9, 3) := by decide +kernel
theorem dX12_gain_75 : decode cX12_gain 75 = .ok (.iconst 0, 1) := by decide +kernel
theorem dX12_gain_76 : decode cX12_gain 76 = .ok (.iaload, 1) := by decide +kernel
theorem dX12_gain_77 : decode cX12_gain 77 = .ok (.invokevirtual 236, 3) := by decide +kernel
theorem dX12_gain_80 : decode cX12_gain 80 = .ok (.iadd, 1) := by decide +kernel
theorem dX12_gain_81 : decode cX12_gain 81 = .ok (.ireturn, 1) := by decide +kernel
theorem dX12_like_0 : decode cX12_like 0 = .ok (.aload_n 0, 1) := by decide +kernel
theorem dX12_like_1 : decode cX12_like 1 = .ok (.getfield 9, 3) := by decide +kernel
theorem dX12_like_4 : decode cX12_like 4 = .ok (.iconst 1, 1) := by decide +kernel
theorem dX12_like_5 : decode cX12_like 5 = .ok (.iload_n 1, 1) := by decide +kernel
theorem dX12_like_6 : decode cX12_like 6 = .ok (.iadd, 1) := by decide +kernel
theorem dX12_like_7 : decode cX12_like 7 = .ok (.iaload, 1) := by decide +kernel
theorem dX12_like_8 : decode cX12_like 8 = .ok (.aload_n 0, 1) := by decide +kernel
theorem dX12_like_9 : decode cX12_like 9 = .ok (.getfield 9, 3) := by decide +kernel
theorem dX12_like_12 : decode cX12_like 12 = .ok (.iconst 1, 1) := by decide +kernel
theorem dX12_like_13 : decode cX12_like 13 = .ok (.iload_n 2, 1) := by decide +kernel
theorem dX12_like_14 : decode cX12_like 14 = .ok (.iadd, 1) := by decide +kernel
theorem dX12_like_15 : decode cX12_like 15 = .ok (.iaload, 1) := by decide +kernel
theorem dX12_like_16 : decode cX12_like 16 = .ok (.iand, 1) := by decide +kernel
theorem dX12_like_17 : decode cX12_like 17 = .ok (.invokestatic 136, 3) := by decide +kernel
theorem dX12_like_20 : decode cX12_like 20 = .ok (.istore_n 3, 1) := by decide +kernel
theorem dX12_like_21 : decode cX12_like 21 = .ok (.bipush 10, 2) := by decide +kernel
theorem dX12_like_23 : decode cX12_like 23 = .ok (.iload_n 3, 1) := by decide +kernel
theorem dX12_like_24 : decode cX12_like 24 = .ok (.imul, 1) := by decide +kernel
theorem dX12_like_25 : decode cX12_like 25 = .ok (.aload_n 0, 1) := by decide +kernel
theorem dX12_like_26 : decode cX12_like 26 = .ok (.getfield 9, 3) := by decide +kernel
theorem dX12_like_29 : decode cX12_like 29 = .ok (.iconst 1, 1) := by decide +kernel
theorem dX12_like_30 : decode cX12_like 30 = .ok (.iload_n 1, 1) := by decide +kernel
theorem dX12_like_31 : decode cX12_like 31 = .ok (.iadd, 1) := by decide +kernel
theorem dX12_like_32 : decode cX12_like 32 = .ok (.iaload, 1) := by decide +kernel
theorem dX12_like_33 : decode cX12_like 33 = .ok (.aload_n 0, 1) := by decide +kernel
theorem dX12_like_34 : decode cX12_like 34 = .ok (.getfield 9, 3) := by decide +kernel
theorem dX12_like_37 : decode cX12_like 37 = .ok (.iconst 1, 1) := by decide +kernel
theorem dX12_like_38 : decode cX12_like 38 = .ok (.iload_n 2, 1) := by decide +kernel
theorem dX12_like_39 : decode cX12_like 39 = .ok (.iadd, 1) := by decide +kernel
theorem dX12_like_40 : decode cX12_like 40 = .ok (.iaload, 1) := by decide +kernel
theorem dX12_like_41 : decode cX12_like 41 = .ok (.ixor, 1) := by decide +kernel
theorem dX12_like_42 : decode cX12_like 42 = .ok (.invokestatic 136, 3) := by decide +kernel
theorem dX12_like_45 : decode cX12_like 45 = .ok (.isub, 1) := by decide +kernel
theorem dX12_like_46 : decode cX12_like 46 = .ok (.ireturn, 1) := by decide +kernel
theorem dX12_keyOf_0 : decode cX12_keyOf 0 = .ok (.iload_n 2, 1) := by decide +kernel
theorem dX12_keyOf_1 : decode cX12_keyOf 1 = .ok (.ifCond .ne 14, 3) := by decide +kernel
theorem dX12_keyOf_4 : decode cX12_keyOf 4 = .ok (.aload_n 0, 1) := by decide +kernel
theorem dX12_keyOf_5 : decode cX12_keyOf 5 = .ok (.getfield 9, 3) := by decide +kernel
theorem dX12_keyOf_8 : decode cX12_keyOf 8 = .ok (.iconst 1, 1) := by decide +kernel
theorem dX12_keyOf_9 : decode cX12_keyOf 9 = .ok (.iload_n 1, 1) := by decide +kernel
theorem dX12_keyOf_10 : decode cX12_keyOf 10 = .ok (.iadd, 1) := by decide +kernel
theorem dX12_keyOf_11 : decode cX12_keyOf 11 = .ok (.iaload, 1) := by decide +kernel
theorem dX12_keyOf_12 : decode cX12_keyOf 12 = .ok (.goto 33, 3) := by decide +kernel
theorem dX12_keyOf_15 : decode cX12_keyOf 15 = .ok (.iload_n 2, 1) := by decide +kernel
theorem dX12_keyOf_16 : decode cX12_keyOf 16 = .ok (.iconst 1, 1) := by decide +kernel
theorem dX12_keyOf_17 : decode cX12_keyOf 17 = .ok (.if_icmp .ne 18, 3) := by decide +kernel
theorem dX12_keyOf_20 : decode cX12_keyOf 20 = .ok (.aload_n 0, 1) := by decide +kernel
theorem dX12_keyOf_21 : decode cX12_keyOf 21 = .ok (.getfield 9, 3) := by decide +kernel
theorem dX12_keyOf_24 : decode cX12_keyOf 24 = .ok (.iconst 1, 1) := by decide +kernel
theorem dX12_keyOf_25 : decode cX12_keyOf 25 = .ok (.iload_n 1, 1) := by decide +kernel
theorem dX12_keyOf_26 : decode cX12_keyOf 26 = .ok (.iadd, 1) := by decide +kernel
theorem dX12_keyOf_27 : decode cX12_keyOf 27 = .ok (.iaload, 1) := by decide +kernel
theorem dX12_keyOf_28 : decode cX12_keyOf 28 = .ok (.invokestatic 136, 3) := by decide +kernel
theorem dX12_keyOf_31 : decode cX12_keyOf 31 = .ok (.ineg, 1) := by decide +kernel
theorem dX12_keyOf_32 : decode cX12_keyOf 32 = .ok (.goto 13, 3) := by decide +kernel
theorem dX12_keyOf_35 : decode cX12_keyOf 35 = .ok (.aload_n 0, 1) := by decide +kernel
theorem dX12_keyOf_36 : decode cX12_keyOf 36 = .ok (.getfield 9, 3) := by decide +kernel
theorem dX12_keyOf_39 : decode cX12_keyOf 39 = .ok (.bipush 17, 2) := by decide +kernel
theorem dX12_keyOf_41 : decode cX12_keyOf 41 = .ok (.iload_n 1, 1) := by decide +kernel
theorem dX12_keyOf_42 : decode cX12_keyOf 42 = .ok (.iadd, 1) := by decide +kernel
theorem dX12_keyOf_43 : decode cX12_keyOf 43 = .ok (.iaload, 1) := by decide +kernel
theorem dX12_keyOf_44 : decode cX12_keyOf 44 = .ok (.ineg, 1) := by decide +kernel
theorem dX12_keyOf_45 : decode cX12_keyOf 45 = .ok (.ireturn, 1) := by decide +kernel
theorem dX12_layByKeys_0 : decode cX12_layByKeys 0 = .ok (.aload_n 0, 1) := by decide +kernel
theorem dX12_layByKeys_1 : decode cX12_layByKeys 1 = .ok (.invokevirtual 242, 3) := by decide +kernel
theorem dX12_layByKeys_4 : decode cX12_layByKeys 4 = .ok (.iconst 1, 1) := by decide +kernel
theorem dX12_layByKeys_5 : decode cX12_layByKeys 5 = .ok (.istore_n 2, 1) := by decide +kernel
theorem dX12_layByKeys_6 : decode cX12_layByKeys 6 = .ok (.iload_n 2, 1) := by decide +kernel
theorem dX12_layByKeys_7 : decode cX12_layByKeys 7 = .ok (.aload_n 0, 1) := by decide +kernel
theorem dX12_layByKeys_8 : decode cX12_layByKeys 8 = .ok (.getfield 9, 3) := by decide +kernel
theorem dX12_layByKeys_11 : decode cX12_layByKeys 11 = .ok (.iconst 0, 1) := by decide +kernel
theorem dX12_layByKeys_12 : decode cX12_layByKeys 12 = .ok (.iaload, 1) := by decide +kernel
theorem dX12_layByKeys_13 : decode cX12_layByKeys 13 = .ok (.if_icmp .ge 77, 3) := by decide +kernel
theorem dX12_layByKeys_16 : decode cX12_layByKeys 16 = .ok (.aload_n 0, 1) := by decide +kernel
theorem dX12_layByKeys_17 : decode cX12_layByKeys 17 = .ok (.getfield 24, 3) := by decide +kernel
theorem dX12_layByKeys_20 : decode cX12_layByKeys 20 = .ok (.iload_n 2, 1) := by decide +kernel
theorem dX12_layByKeys_21 : decode cX12_layByKeys 21 = .ok (.iaload, 1) := by decide +kernel
theorem dX12_layByKeys_22 : decode cX12_layByKeys 22 = .ok (.istore_n 3, 1) := by decide +kernel
theorem dX12_layByKeys_23 : decode cX12_layByKeys 23 = .ok (.iload_n 2, 1) := by decide +kernel
theorem dX12_layByKeys_24 : decode cX12_layByKeys 24 = .ok (.istore 4, 2) := by decide +kernel
theorem dX12_layByKeys_26 : decode cX12_layByKeys 26 = .ok (.iload 4, 2) := by decide +kernel
theorem dX12_layByKeys_28 : decode cX12_layByKeys 28 = .ok (.ifCond .le 48, 3) := by decide +kernel
theorem dX12_layByKeys_31 : decode cX12_layByKeys 31 = .ok (.aload_n 0, 1) := by decide +kernel
theorem dX12_layByKeys_32 : decode cX12_layByKeys 32 = .ok (.aload_n 0, 1) := by decide +kernel
theorem dX12_layByKeys_33 : decode cX12_layByKeys 33 = .ok (.getfield 24, 3) := by decide +kernel
theorem dX12_layByKeys_36 : decode cX12_layByKeys 36 = .ok (.iload 4, 2) := by decide +kernel
theorem dX12_layByKeys_38 : decode cX12_layByKeys 38 = .ok (.iconst 1, 1) := by decide +kernel
theorem dX12_layByKeys_39 : decode cX12_layByKeys 39 = .ok (.isub, 1) := by decide +kernel
theorem dX12_layByKeys_40 : decode cX12_layByKeys 40 = .ok (.iaload, 1) := by decide +kernel
theorem dX12_layByKeys_41 : decode cX12_layByKeys 41 = .ok (.iload_n 1, 1) := by decide +kernel
theorem dX12_layByKeys_42 : decode cX12_layByKeys 42 = .ok (.invokevirtual 265, 3) := by decide +kernel
theorem dX12_layByKeys_45 : decode cX12_layByKeys 45 = .ok (.aload_n 0, 1) := by decide +kernel
theorem dX12_layByKeys_46 : decode cX12_layByKeys 46 = .ok (.iload_n 3, 1) := by decide +kernel
theorem dX12_layByKeys_47 : decode cX12_layByKeys 47 = .ok (.iload_n 1, 1) := by decide +kernel
theorem dX12_layByKeys_48 : decode cX12_layByKeys 48 = .ok (.invokevirtual 265, 3) := by decide +kernel
theorem dX12_layByKeys_51 : decode cX12_layByKeys 51 = .ok (.if_icmp .le 25, 3) := by decide +kernel
theorem dX12_layByKeys_54 : decode cX12_layByKeys 54 = .ok (.aload_n 0, 1) := by decide +kernel
theorem dX12_layByKeys_55 : decode cX12_layByKeys 55 = .ok (.getfield 24, 3) := by decide +kernel
theorem dX12_layByKeys_58 : decode cX12_layByKeys 58 = .ok (.iload 4, 2) := by decide +kernel
theorem dX12_layByKeys_60 : decode cX12_layByKeys 60 = .ok (.aload_n 0, 1) := by decide +kernel
theorem dX12_layByKeys_61 : decode cX12_layByKeys 61 = .ok (.getfield 24, 3) := by decide +kernel
theorem dX12_layByKeys_64 : decode cX12_layByKeys 64 = .ok (.iload 4, 2) := by decide +kernel
theorem dX12_layByKeys_66 : decode cX12_layByKeys 66 = .ok (.iconst 1, 1) := by decide +kernel
theorem dX12_layByKeys_67 : decode cX12_layByKeys 67 = .ok (.isub, 1) := by decide +kernel
theorem dX12_layByKeys_68 : decode cX12_layByKeys 68 = .ok (.iaload, 1) := by decide +kernel
theorem dX12_layByKeys_69 : decode cX12_layByKeys 69 = .ok (.iastore, 1) := by decide +kernel
theorem dX12_layByKeys_70 : decode cX12_layByKeys 70 = .ok (.iinc 4 (-1), 3) := by decide +kernel
theorem dX12_layByKeys_73 : decode cX12_layByKeys 73 = .ok (.goto (-47), 3) := by decide +kernel
theorem dX12_layByKeys_76 : decode cX12_layByKeys 76 = .ok (.aload_n 0, 1) := by decide +kernel
theorem dX12_layByKeys_77 : decode cX12_layByKeys 77 = .ok (.getfield 24, 3) := by decide +kernel
theorem dX12_layByKeys_80 : decode cX12_layByKeys 80 = .ok (.iload 4, 2) := by decide +kernel
theorem dX12_layByKeys_82 : decode cX12_layByKeys 82 = .ok (.iload_n 3, 1) := by decide +kernel
theorem dX12_layByKeys_83 : decode cX12_layByKeys 83 = .ok (.iastore, 1) := by decide +kernel
theorem dX12_layByKeys_84 : decode cX12_layByKeys 84 = .ok (.iinc 2 1, 3) := by decide +kernel
theorem dX12_layByKeys_87 : decode cX12_layByKeys 87 = .ok (.goto (-81), 3) := by decide +kernel
theorem dX12_layByKeys_90 : decode cX12_layByKeys 90 = .ok (.return_, 1) := by decide +kernel
theorem dX12_layByLikeness_0 : decode cX12_layByLikeness 0 = .ok (.aload_n 0, 1) := by decide +kernel
theorem dX12_layByLikeness_1 : decode cX12_layByLikeness 1 = .ok (.invokevirtual 242, 3) := by decide +kernel
theorem dX12_layByLikeness_4 : decode cX12_layByLikeness 4 = .ok (.iconst 1, 1) := by decide +kernel
theorem dX12_layByLikeness_5 : decode cX12_layByLikeness 5 = .ok (.istore_n 1, 1) := by decide +kernel
theorem dX12_layByLikeness_6 : decode cX12_layByLikeness 6 = .ok (.iload_n 1, 1) := by decide +kernel
theorem dX12_layByLikeness_7 : decode cX12_layByLikeness 7 = .ok (.aload_n 0, 1) := by decide +kernel
theorem dX12_layByLikeness_8 : decode cX12_layByLikeness 8 = .ok (.getfield 9, 3) := by decide +kernel
theorem dX12_layByLikeness_11 : decode cX12_layByLikeness 11 = .ok (.iconst 0, 1) := by decide +kernel
theorem dX12_layByLikeness_12 : decode cX12_layByLikeness 12 = .ok (.iaload, 1) := by decide +kernel
theorem dX12_layByLikeness_13 : decode cX12_layByLikeness 13 = .ok (.if_icmp .ge 117, 3) := by decide +kernel
theorem dX12_layByLikeness_16 : decode cX12_layByLikeness 16 = .ok (.iload_n 1, 1) := by decide +kernel
theorem dX12_layByLikeness_17 : decode cX12_layByLikeness 17 = .ok (.istore_n 2, 1) := by decide +kernel
theorem dX12_layByLikeness_18 : decode cX12_layByLikeness 18 = .ok (.iload_n 1, 1) := by decide +kernel
theorem dX12_layByLikeness_19 : decode cX12_layByLikeness 19 = .ok (.iconst 1, 1) := by decide +kernel
theorem dX12_layByLikeness_20 : decode cX12_layByLikeness 20 = .ok (.iadd, 1) := by decide +kernel
theorem dX12_layByLikeness_21 : decode cX12_layByLikeness 21 = .ok (.istore_n 3, 1) := by decide +kernel
theorem dX12_layByLikeness_22 : decode cX12_layByLikeness 22 = .ok (.iload_n 3, 1) := by decide +kernel
theorem dX12_layByLikeness_23 : decode cX12_layByLikeness 23 = .ok (.aload_n 0, 1) := by decide +kernel
theorem dX12_layByLikeness_24 : decode cX12_layByLikeness 24 = .ok (.getfield 9, 3) := by decide +kernel
theorem dX12_layByLikeness_27 : decode cX12_layByLikeness 27 = .ok (.iconst 0, 1) := by decide +kernel
theorem dX12_layByLikeness_28 : decode cX12_layByLikeness 28 = .ok (.iaload, 1) := by decide +kernel
theorem dX12_layByLikeness_29 : decode cX12_layByLikeness 29 = .ok (.if_icmp .ge 50, 3) := by decide +kernel
theorem dX12_layByLikeness_32 : decode cX12_layByLikeness 32 = .ok (.aload_n 0, 1) := by decide +kernel
theorem dX12_layByLikeness_33 : decode cX12_layByLikeness 33 = .ok (.aload_n 0, 1) := by decide +kernel
theorem dX12_layByLikeness_34 : decode cX12_layByLikeness 34 = .ok (.getfield 24, 3) := by decide +kernel
theorem dX12_layByLikeness_37 : decode cX12_layByLikeness 37 = .ok (.iload_n 3, 1) := by decide +kernel
theorem dX12_layByLikeness_38 : decode cX12_layByLikeness 38 = .ok (.iaload, 1) := by decide +kernel
theorem dX12_layByLikeness_39 : decode cX12_layByLikeness 39 = .ok (.aload_n 0, 1) := by decide +kernel
theorem dX12_layByLikeness_40 : decode cX12_layByLikeness 40 = .ok (.getfield 24, 3) := by decide +kernel
theorem dX12_layByLikeness_43 : decode cX12_layByLikeness 43 = .ok (.iload_n 1, 1) := by decide +kernel
theorem dX12_layByLikeness_44 : decode cX12_layByLikeness 44 = .ok (.iconst 1, 1) := by decide +kernel
theorem dX12_layByLikeness_45 : decode cX12_layByLikeness 45 = .ok (.isub, 1) := by decide +kernel
theorem dX12_layByLikeness_46 : decode cX12_layByLikeness 46 = .ok (.iaload, 1) := by decide +kernel
theorem dX12_layByLikeness_47 : decode cX12_layByLikeness 47 = .ok (.invokevirtual 268, 3) := by decide +kernel
theorem dX12_layByLikeness_50 : decode cX12_layByLikeness 50 = .ok (.aload_n 0, 1) := by decide +kernel
theorem dX12_layByLikeness_51 : decode cX12_layByLikeness 51 = .ok (.aload_n 0, 1) := by decide +kernel
theorem dX12_layByLikeness_52 : decode cX12_layByLikeness 52 = .ok (.getfield 24, 3) := by decide +kernel
theorem dX12_layByLikeness_55 : decode cX12_layByLikeness 55 = .ok (.iload_n 2, 1) := by decide +kernel
theorem dX12_layByLikeness_56 : decode cX12_layByLikeness 56 = .ok (.iaload, 1) := by decide +kernel
theorem dX12_layByLikeness_57 : decode cX12_layByLikeness 57 = .ok (.aload_n 0, 1) := by decide +kernel
theorem dX12_layByLikeness_58 : decode cX12_layByLikeness 58 = .ok (.getfield 24, 3) := by decide +kernel
theorem dX12_layByLikeness_61 : decode cX12_layByLikeness 61 = .ok (.iload_n 1, 1) := by decide +kernel
theorem dX12_layByLikeness_62 : decode cX12_layByLikeness 62 = .ok (.iconst 1, 1) := by decide +kernel
theorem dX12_layByLikeness_63 : decode cX12_layByLikeness 63 = .ok (.isub, 1) := by decide +kernel
theorem dX12_layByLikeness_64 : decode cX12_layByLikeness 64 = .ok (.iaload, 1) := by decide +kernel
theorem dX12_layByLikeness_65 : decode cX12_layByLikeness 65 = .ok (.invokevirtual 268, 3) := by decide +kernel
theorem dX12_layByLikeness_68 : decode cX12_layByLikeness 68 = .ok (.if_icmp .le 5, 3) := by decide +kernel
theorem dX12_layByLikeness_71 : decode cX12_layByLikeness 71 = .ok (.iload_n 3, 1) := by decide +kernel
theorem dX12_layByLikeness_72 : decode cX12_layByLikeness 72 = .ok (.istore_n 2, 1) := by decide +kernel
theorem dX12_layByLikeness_73 : decode cX12_layByLikeness 73 = .ok (.iinc 3 1, 3) := by decide +kernel
theorem dX12_layByLikeness_76 : decode cX12_layByLikeness 76 = .ok (.goto (-54), 3) := by decide +kernel
theorem dX12_layByLikeness_79 : decode cX12_layByLikeness 79 = .ok (.aload_n 0, 1) := by decide +kernel
theorem dX12_layByLikeness_80 : decode cX12_layByLikeness 80 = .ok (.getfield 24, 3) := by decide +kernel
theorem dX12_layByLikeness_83 : decode cX12_layByLikeness 83 = .ok (.iload_n 2, 1) := by decide +kernel
theorem dX12_layByLikeness_84 : decode cX12_layByLikeness 84 = .ok (.iaload, 1) := by decide +kernel
theorem dX12_layByLikeness_85 : decode cX12_layByLikeness 85 = .ok (.istore_n 3, 1) := by decide +kernel
theorem dX12_layByLikeness_86 : decode cX12_layByLikeness 86 = .ok (.iload_n 2, 1) := by decide +kernel
theorem dX12_layByLikeness_87 : decode cX12_layByLikeness 87 = .ok (.istore 4, 2) := by decide +kernel
theorem dX12_layByLikeness_89 : decode cX12_layByLikeness 89 = .ok (.iload 4, 2) := by decide +kernel
theorem dX12_layByLikeness_91 : decode cX12_layByLikeness 91 = .ok (.iload_n 1, 1) := by decide +kernel
theorem dX12_layByLikeness_92 : decode cX12_layByLikeness 92 = .ok (.if_icmp .le 25, 3) := by decide +kernel
theorem dX12_layByLikeness_95 : decode cX12_layByLikeness 95 = .ok (.aload_n 0, 1) := by decide +kernel
theorem dX12_layByLikeness_96 : decode cX12_layByLikeness 96 = .ok (.getfield 24, 3) := by decide +kernel
theorem dX12_layByLikeness_99 : decode cX12_layByLikeness 99 = .ok (.iload 4, 2) := by decide +kernel
theorem dX12_layByLikeness_101 : decode cX12_layByLikeness 101 = .ok (.aload_n 0, 1) := by decide +kernel
theorem dX12_layByLikeness_102 : decode cX12_layByLikeness 102 = .ok (.getfield 24, 3) := by decide +kernel
theorem dX12_layByLikeness_105 : decode cX12_layByLikeness 105 = .ok (.iload 4, 2) := by decide +kernel
theorem dX12_layByLikeness_107 : decode cX12_layByLikeness 107 = .ok (.iconst 1, 1) := by decide +kernel
theorem dX12_layByLikeness_108 : decode cX12_layByLikeness 108 = .ok (.isub, 1) := by decide +kernel
theorem dX12_layByLikeness_109 : decode cX12_layByLikeness 109 = .ok (.iaload, 1) := by decide +kernel
theorem dX12_layByLikeness_110 : decode cX12_layByLikeness 110 = .ok (.iastore, 1) := by decide +kernel
theorem dX12_layByLikeness_111 : decode cX12_layByLikeness 111 = .ok (.iinc 4 (-1), 3) := by decide +kernel
theorem dX12_layByLikeness_114 : decode cX12_layByLikeness 114 = .ok (.goto (-25), 3) := by decide +kernel
theorem dX12_layByLikeness_117 : decode cX12_layByLikeness 117 = .ok (.aload_n 0, 1) := by decide +kernel
theorem dX12_layByLikeness_118 : decode cX12_layByLikeness 118 = .ok (.getfield 24, 3) := by decide +kernel
theorem dX12_layByLikeness_121 : decode cX12_layByLikeness 121 = .ok (.iload_n 1, 1) := by decide +kernel
theorem dX12_layByLikeness_122 : decode cX12_layByLikeness 122 = .ok (.iload_n 3, 1) := by decide +kernel
theorem dX12_layByLikeness_123 : decode cX12_layByLikeness 123 = .ok (.iastore, 1) := by decide +kernel
theorem dX12_layByLikeness_124 : decode cX12_layByLikeness 124 = .ok (.iinc 1 1, 3) := by decide +kernel
theorem dX12_layByLikeness_127 : decode cX12_layByLikeness 127 = .ok (.goto (-121), 3) := by decide +kernel
theorem dX12_layByLikeness_130 : decode cX12_layByLikeness 130 = .ok (.return_, 1) := by decide +kernel
theorem dX12_sortBy_0 : decode cX12_sortBy 0 = .ok (.iload_n 1, 1) := by decide +kernel
theorem dX12_sortBy_1 : decode cX12_sortBy 1 = .ok (.iconst 2, 1) := by decide +kernel
theorem dX12_sortBy_2 : decode cX12_sortBy 2 = .ok (.if_icmp .ne 10, 3) := by decide +kernel
theorem dX12_sortBy_5 : decode cX12_sortBy 5 = .ok (.aload_n 0, 1) := by decide +kernel
theorem dX12_sortBy_6 : decode cX12_sortBy 6 = .ok (.invokevirtual 271, 3) := by decide +kernel
theorem dX12_sortBy_9 : decode cX12_sortBy 9 = .ok (.goto 8, 3) := by decide +kernel
theorem dX12_sortBy_12 : decode cX12_sortBy 12 = .ok (.aload_n 0, 1) := by decide +kernel
theorem dX12_sortBy_13 : decode cX12_sortBy 13 = .ok (.iload_n 1, 1) := by decide +kernel
theorem dX12_sortBy_14 : decode cX12_sortBy 14 = .ok (.invokevirtual 274, 3) := by decide +kernel
theorem dX12_sortBy_17 : decode cX12_sortBy 17 = .ok (.aload_n 0, 1) := by decide +kernel
theorem dX12_sortBy_18 : decode cX12_sortBy 18 = .ok (.invokevirtual 130, 3) := by decide +kernel
theorem dX12_sortBy_21 : decode cX12_sortBy 21 = .ok (.ireturn, 1) := by decide +kernel
theorem dX12_sorts_0 : decode cX12_sorts 0 = .ok (.aload_n 0, 1) := by decide +kernel
theorem dX12_sorts_1 : decode cX12_sorts 1 = .ok (.iconst 0, 1) := by decide +kernel
theorem dX12_sorts_2 : decode cX12_sorts 2 = .ok (.putfield 64, 3) := by decide +kernel
theorem dX12_sorts_5 : decode cX12_sorts 5 = .ok (.iload_n 1, 1) := by decide +kernel
theorem dX12_sorts_6 : decode cX12_sorts 6 = .ok (.iconst 0, 1) := by decide +kernel
theorem dX12_sorts_7 : decode cX12_sorts 7 = .ok (.iconst 3, 1) := by decide +kernel
theorem dX12_sorts_8 : decode cX12_sorts 8 = .ok (.invokestatic 71, 3) := by decide +kernel
theorem dX12_sorts_11 : decode cX12_sorts 11 = .ok (.ifCond .ne 5, 3) := by decide +kernel
theorem dX12_sorts_14 : decode cX12_sorts 14 = .ok (.iconst (-1), 1) := by decide +kernel
theorem dX12_sorts_15 : decode cX12_sorts 15 = .ok (.ireturn, 1) := by decide +kernel
theorem dX12_sorts_16 : decode cX12_sorts 16 = .ok (.aload_n 0, 1) := by decide +kernel
theorem dX12_sorts_17 : decode cX12_sorts 17 = .ok (.invokevirtual 120, 3) := by decide +kernel
theorem dX12_sorts_20 : decode cX12_sorts 20 = .ok (.aload_n 0, 1) := by decide +kernel
theorem dX12_sorts_21 : decode cX12_sorts 21 = .ok (.iload_n 1, 1) := by decide +kernel
theorem dX12_sorts_22 : decode cX12_sorts 22 = .ok (.invokevirtual 277, 3) := by decide +kernel
theorem dX12_sorts_25 : decode cX12_sorts 25 = .ok (.ireturn, 1) := by decide +kernel
theorem dX12_swap_0 : decode cX12_swap 0 = .ok (.aload_n 0, 1) := by decide +kernel
theorem dX12_swap_1 : decode cX12_swap 1 = .ok (.iload_n 1, 1) := by decide +kernel
theorem dX12_swap_2 : decode cX12_swap 2 = .ok (.invokevirtual 75, 3) := by decide +kernel
theorem dX12_swap_5 : decode cX12_swap 5 = .ok (.istore_n 3, 1) := by decide +kernel
theorem dX12_swap_6 : decode cX12_swap 6 = .ok (.aload_n 0, 1) := by decide +kernel
theorem dX12_swap_7 : decode cX12_swap 7 = .ok (.iload_n 2, 1) := by decide +kernel
theorem dX12_swap_8 : decode cX12_swap 8 = .ok (.invokevirtual 75, 3) := by decide +kernel
theorem dX12_swap_11 : decode cX12_swap 11 = .ok (.istore 4, 2) := by decide +kernel
theorem dX12_swap_13 : decode cX12_swap 13 = .ok (.aload_n 0, 1) := by decide +kernel
theorem dX12_swap_14 : decode cX12_swap 14 = .ok (.getfield 9, 3) := by decide +kernel
theorem dX12_swap_17 : decode cX12_swap 17 = .ok (.bipush 17, 2) := by decide +kernel
theorem dX12_swap_19 : decode cX12_swap 19 = .ok (.iload_n 3, 1) := by decide +kernel
theorem dX12_swap_20 : decode cX12_swap 20 = .ok (.iadd, 1) := by decide +kernel
theorem dX12_swap_21 : decode cX12_swap 21 = .ok (.iload_n 2, 1) := by decide +kernel
theorem dX12_swap_22 : decode cX12_swap 22 = .ok (.iastore, 1) := by decide +kernel
theorem dX12_swap_23 : decode cX12_swap 23 = .ok (.aload_n 0, 1) := by decide +kernel
theorem dX12_swap_24 : decode cX12_swap 24 = .ok (.getfield 9, 3) := by decide +kernel
theorem dX12_swap_27 : decode cX12_swap 27 = .ok (.bipush 17, 2) := by decide +kernel
theorem dX12_swap_29 : decode cX12_swap 29 = .ok (.iload 4, 2) := by decide +kernel
theorem dX12_swap_31 : decode cX12_swap 31 = .ok (.iadd, 1) := by decide +kernel
theorem dX12_swap_32 : decode cX12_swap 32 = .ok (.iload_n 1, 1) := by decide +kernel
theorem dX12_swap_33 : decode cX12_swap 33 = .ok (.iastore, 1) := by decide +kernel
theorem dX12_swap_34 : decode cX12_swap 34 = .ok (.return_, 1) := by decide +kernel
theorem dX12_move_0 : decode cX12_move 0 = .ok (.aload_n 0, 1) := by decide +kernel
theorem dX12_move_1 : decode cX12_move 1 = .ok (.invokevirtual 242, 3) := by decide +kernel
theorem dX12_move_4 : decode cX12_move 4 = .ok (.aload_n 0, 1) := by decide +kernel
theorem dX12_move_5 : decode cX12_move 5 = .ok (.getfield 24, 3) := by decide +kernel
theorem dX12_move_8 : decode cX12_move 8 = .ok (.iload_n 1, 1) := by decide +kernel
theorem dX12_move_9 : decode cX12_move 9 = .ok (.iaload, 1) := by decide +kernel
theorem dX12_move_10 : decode cX12_move 10 = .ok (.istore_n 3, 1) := by decide +kernel
theorem dX12_move_11 : decode cX12_move 11 = .ok (.iload_n 1, 1) := by decide +kernel
theorem dX12_move_12 : decode cX12_move 12 = .ok (.istore 4, 2) := by decide +kernel
theorem dX12_move_14 : decode cX12_move 14 = .ok (.iload 4, 2) := by decide +kernel
theorem dX12_move_16 : decode cX12_move 16 = .ok (.iload_n 2, 1) := by decide +kernel
theorem dX12_move_17 : decode cX12_move 17 = .ok (.if_icmp .ge 25, 3) := by decide +kernel
theorem dX12_move_20 : decode cX12_move 20 = .ok (.aload_n 0, 1) := by decide +kernel
theorem dX12_move_21 : decode cX12_move 21 = .ok (.getfield 24, 3) := by decide +kernel
theorem dX12_move_24 : decode cX12_move 24 = .ok (.iload 4, 2) := by decide +kernel
theorem dX12_move_26 : decode cX12_move 26 = .ok (.aload_n 0, 1) := by decide +kernel
theorem dX12_move_27 : decode cX12_move 27 = .ok (.getfield 24, 3) := by decide +kernel
theorem dX12_move_30 : decode cX12_move 30 = .ok (.iload 4, 2) := by decide +kernel
theorem dX12_move_32 : decode cX12_move 32 = .ok (.iconst 1, 1) := by decide +kernel
theorem dX12_move_33 : decode cX12_move 33 = .ok (.iadd, 1) := by decide +kernel
theorem dX12_move_34 : decode cX12_move 34 = .ok (.iaload, 1) := by decide +kernel
theorem dX12_move_35 : decode cX12_move 35 = .ok (.iastore, 1) := by decide +kernel
theorem dX12_move_36 : decode cX12_move 36 = .ok (.iinc 4 1, 3) := by decide +kernel
theorem dX12_move_39 : decode cX12_move 39 = .ok (.goto (-25), 3) := by decide +kernel
theorem dX12_move_42 : decode cX12_move 42 = .ok (.iload_n 1, 1) := by decide +kernel
theorem dX12_move_43 : decode cX12_move 43 = .ok (.istore 4, 2) := by decide +kernel
theorem dX12_move_45 : decode cX12_move 45 = .ok (.iload 4, 2) := by decide +kernel
theorem dX12_move_47 : decode cX12_move 47 = .ok (.iload_n 2, 1) := by decide +kernel
theorem dX12_move_48 : decode cX12_move 48 = .ok (.if_icmp .le 25, 3) := by decide +kernel
theorem dX12_move_51 : decode cX12_move 51 = .ok (.aload_n 0, 1) := by decide +kernel
theorem dX12_move_52 : decode cX12_move 52 = .ok (.getfield 24, 3) := by decide +kernel
theorem dX12_move_55 : decode cX12_move 55 = .ok (.iload 4, 2) := by decide +kernel
theorem dX12_move_57 : decode cX12_move 57 = .ok (.aload_n 0, 1) := by decide +kernel
theorem dX12_move_58 : decode cX12_move 58 = .ok (.getfield 24, 3) := by decide +kernel
theorem dX12_move_61 : decode cX12_move 61 = .ok (.iload 4, 2) := by decide +kernel
theorem dX12_move_63 : decode cX12_move 63 = .ok (.iconst 1, 1) := by decide +kernel
theorem dX12_move_64 : decode cX12_move 64 = .ok (.isub, 1) := by decide +kernel
theorem dX12_move_65 : decode cX12_move 65 = .ok (.iaload, 1) := by decide +kernel
theorem dX12_move_66 : decode cX12_move 66 = .ok (.iastore, 1) := by decide +kernel
theorem dX12_move_67 : decode cX12_move 67 = .ok (.iinc 4 (-1), 3) := by decide +kernel
theorem dX12_move_70 : decode cX12_move 70 = .ok (.goto (-25), 3) := by decide +kernel
theorem dX12_move_73 : decode cX12_move 73 = .ok (.aload_n 0, 1) := by decide +kernel
theorem dX12_move_74 : decode cX12_move 74 = .ok (.getfield 24, 3) := by decide +kernel
theorem dX12_move_77 : decode cX12_move 77 = .ok (.iload_n 2, 1) := by decide +kernel
theorem dX12_move_78 : decode cX12_move 78 = .ok (.iload_n 3, 1) := by decide +kernel
theorem dX12_move_79 : decode cX12_move 79 = .ok (.iastore, 1) := by decide +kernel
theorem dX12_move_80 : decode cX12_move 80 = .ok (.iconst 0, 1) := by decide +kernel
theorem dX12_move_81 : decode cX12_move 81 = .ok (.istore 4, 2) := by decide +kernel
theorem dX12_move_83 : decode cX12_move 83 = .ok (.iload 4, 2) := by decide +kernel
theorem dX12_move_85 : decode cX12_move 85 = .ok (.aload_n 0, 1) := by decide +kernel
theorem dX12_move_86 : decode cX12_move 86 = .ok (.getfield 9, 3) := by decide +kernel
theorem dX12_move_89 : decode cX12_move 89 = .ok (.iconst 0, 1) := by decide +kernel
theorem dX12_move_90 : decode cX12_move 90 = .ok (.iaload, 1) := by decide +kernel
theorem dX12_move_91 : decode cX12_move 91 = .ok (.if_icmp .ge 26, 3) := by decide +kernel
theorem dX12_move_94 : decode cX12_move 94 = .ok (.aload_n 0, 1) := by decide +kernel
theorem dX12_move_95 : decode cX12_move 95 = .ok (.getfield 9, 3) := by decide +kernel
theorem dX12_move_98 : decode cX12_move 98 = .ok (.bipush 17, 2) := by decide +kernel
theorem dX12_move_100 : decode cX12_move 100 = .ok (.aload_n 0, 1) := by decide +kernel
theorem dX12_move_101 : decode cX12_move 101 = .ok (.getfield 24, 3) := by decide +kernel
theorem dX12_move_104 : decode cX12_move 104 = .ok (.iload 4, 2) := by decide +kernel
theorem dX12_move_106 : decode cX12_move 106 = .ok (.iaload, 1) := by decide +kernel
theorem dX12_move_107 : decode cX12_move 107 = .ok (.iadd, 1) := by decide +kernel
theorem dX12_move_108 : decode cX12_move 108 = .ok (.iload 4, 2) := by decide +kernel
theorem dX12_move_110 : decode cX12_move 110 = .ok (.iastore, 1) := by decide +kernel
theorem dX12_move_111 : decode cX12_move 111 = .ok (.iinc 4 1, 3) := by decide +kernel
theorem dX12_move_114 : decode cX12_move 114 = .ok (.goto (-31), 3) := by decide +kernel
theorem dX12_move_117 : decode cX12_move 117 = .ok (.return_, 1) := by decide +kernel
theorem dX12_refusesTwo_0 : decode cX12_refusesTwo 0 = .ok (.aload_n 0, 1) := by decide +kernel
theorem dX12_refusesTwo_1 : decode cX12_refusesTwo 1 = .ok (.iload_n 1, 1) := by decide +kernel
theorem dX12_refusesTwo_2 : decode cX12_refusesTwo 2 = .ok (.invokevirtual 126, 3) := by decide +kernel
theorem dX12_refusesTwo_5 : decode cX12_refusesTwo 5 = .ok (.ifCond .eq 11, 3) := by decide +kernel
theorem dX12_refusesTwo_8 : decode cX12_refusesTwo 8 = .ok (.aload_n 0, 1) := by decide +kernel
theorem dX12_refusesTwo_9 : decode cX12_refusesTwo 9 = .ok (.iload_n 2, 1) := by decide +kernel
theorem dX12_refusesTwo_10 : decode cX12_refusesTwo 10 = .ok (.invokevirtual 126, 3) := by decide +kernel
theorem dX12_refusesTwo_13 : decode cX12_refusesTwo 13 = .ok (.ifCond .ne 7, 3) := by decide +kernel
theorem dX12_refusesTwo_16 : decode cX12_refusesTwo 16 = .ok (.iconst (-1), 1) := by decide +kernel
theorem dX12_refusesTwo_17 : decode cX12_refusesTwo 17 = .ok (.goto 14, 3) := by decide +kernel
theorem dX12_refusesTwo_20 : decode cX12_refusesTwo 20 = .ok (.iload_n 1, 1) := by decide +kernel
theorem dX12_refusesTwo_21 : decode cX12_refusesTwo 21 = .ok (.iload_n 2, 1) := by decide +kernel
theorem dX12_refusesTwo_22 : decode cX12_refusesTwo 22 = .ok (.if_icmp .ne 8, 3) := by decide +kernel
theorem dX12_refusesTwo_25 : decode cX12_refusesTwo 25 = .ok (.bipush (-2), 2) := by decide +kernel
theorem dX12_refusesTwo_27 : decode cX12_refusesTwo 27 = .ok (.goto 4, 3) := by decide +kernel
theorem dX12_refusesTwo_30 : decode cX12_refusesTwo 30 = .ok (.iconst 0, 1) := by decide +kernel
theorem dX12_refusesTwo_31 : decode cX12_refusesTwo 31 = .ok (.ireturn, 1) := by decide +kernel
theorem dX12_swaps_0 : decode cX12_swaps 0 = .ok (.aload_n 0, 1) := by decide +kernel
theorem dX12_swaps_1 : decode cX12_swaps 1 = .ok (.iconst 0, 1) := by decide +kernel
theorem dX12_swaps_2 : decode cX12_swaps 2 = .ok (.putfield 64, 3) := by decide +kernel
theorem dX12_swaps_5 : decode cX12_swaps 5 = .ok (.aload_n 0, 1) := by decide +kernel
theorem dX12_swaps_6 : decode cX12_swaps 6 = .ok (.iload_n 1, 1) := by decide +kernel
theorem dX12_swaps_7 : decode cX12_swaps 7 = .ok (.iload_n 2, 1) := by decide +kernel
theorem dX12_swaps_8 : decode cX12_swaps 8 = .ok (.invokevirtual 280, 3) := by decide +kernel
theorem dX12_swaps_11 : decode cX12_swaps 11 = .ok (.istore_n 3, 1) := by decide +kernel
theorem dX12_swaps_12 : decode cX12_swaps 12 = .ok (.iload_n 3, 1) := by decide +kernel
theorem dX12_swaps_13 : decode cX12_swaps 13 = .ok (.ifCond .ge 5, 3) := by decide +kernel
theorem dX12_swaps_16 : decode cX12_swaps 16 = .ok (.iload_n 3, 1) := by decide +kernel
theorem dX12_swaps_17 : decode cX12_swaps 17 = .ok (.ireturn, 1) := by decide +kernel
theorem dX12_swaps_18 : decode cX12_swaps 18 = .ok (.aload_n 0, 1) := by decide +kernel
theorem dX12_swaps_19 : decode cX12_swaps 19 = .ok (.invokevirtual 120, 3) := by decide +kernel
theorem dX12_swaps_22 : decode cX12_swaps 22 = .ok (.aload_n 0, 1) := by decide +kernel
theorem dX12_swaps_23 : decode cX12_swaps 23 = .ok (.iconst 1, 1) := by decide +kernel
theorem dX12_swaps_24 : decode cX12_swaps 24 = .ok (.invokevirtual 179, 3) := by decide +kernel
theorem dX12_swaps_27 : decode cX12_swaps 27 = .ok (.istore 4, 2) := by decide +kernel
theorem dX12_swaps_29 : decode cX12_swaps 29 = .ok (.aload_n 0, 1) := by decide +kernel
theorem dX12_swaps_30 : decode cX12_swaps 30 = .ok (.iload_n 1, 1) := by decide +kernel
theorem dX12_swaps_31 : decode cX12_swaps 31 = .ok (.iload_n 2, 1) := by decide +kernel
theorem dX12_swaps_32 : decode cX12_swaps 32 = .ok (.invokevirtual 283, 3) := by decide +kernel
theorem dX12_swaps_35 : decode cX12_swaps 35 = .ok (.sipush 1000, 3) := by decide +kernel
theorem dX12_swaps_38 : decode cX12_swaps 38 = .ok (.iload 4, 2) := by decide +kernel
theorem dX12_swaps_40 : decode cX12_swaps 40 = .ok (.iadd, 1) := by decide +kernel
theorem dX12_swaps_41 : decode cX12_swaps 41 = .ok (.aload_n 0, 1) := by decide +kernel
theorem dX12_swaps_42 : decode cX12_swaps 42 = .ok (.iconst 1, 1) := by decide +kernel
theorem dX12_swaps_43 : decode cX12_swaps 43 = .ok (.invokevirtual 179, 3) := by decide +kernel
theorem dX12_swaps_46 : decode cX12_swaps 46 = .ok (.isub, 1) := by decide +kernel
theorem dX12_swaps_47 : decode cX12_swaps 47 = .ok (.ireturn, 1) := by decide +kernel
theorem dX12_moves_0 : decode cX12_moves 0 = .ok (.aload_n 0, 1) := by decide +kernel
theorem dX12_moves_1 : decode cX12_moves 1 = .ok (.iconst 0, 1) := by decide +kernel
theorem dX12_moves_2 : decode cX12_moves 2 = .ok (.putfield 64, 3) := by decide +kernel
theorem dX12_moves_5 : decode cX12_moves 5 = .ok (.aload_n 0, 1) := by decide +kernel
theorem dX12_moves_6 : decode cX12_moves 6 = .ok (.iload_n 1, 1) := by decide +kernel
theorem dX12_moves_7 : decode cX12_moves 7 = .ok (.iload_n 2, 1) := by decide +kernel
theorem dX12_moves_8 : decode cX12_moves 8 = .ok (.invokevirtual 280, 3) := by decide +kernel
theorem dX12_moves_11 : decode cX12_moves 11 = .ok (.istore_n 3, 1) := by decide +kernel
theorem dX12_moves_12 : decode cX12_moves 12 = .ok (.iload_n 3, 1) := by decide +kernel
theorem dX12_moves_13 : decode cX12_moves 13 = .ok (.ifCond .ge 5, 3) := by decide +kernel
theorem dX12_moves_16 : decode cX12_moves 16 = .ok (.iload_n 3, 1) := by decide +kernel
theorem dX12_moves_17 : decode cX12_moves 17 = .ok (.ireturn, 1) := by decide +kernel
theorem dX12_moves_18 : decode cX12_moves 18 = .ok (.aload_n 0, 1) := by decide +kernel
theorem dX12_moves_19 : decode cX12_moves 19 = .ok (.invokevirtual 120, 3) := by decide +kernel
theorem dX12_moves_22 : decode cX12_moves 22 = .ok (.aload_n 0, 1) := by decide +kernel
theorem dX12_moves_23 : decode cX12_moves 23 = .ok (.iconst 1, 1) := by decide +kernel
theorem dX12_moves_24 : decode cX12_moves 24 = .ok (.invokevirtual 179, 3) := by decide +kernel
theorem dX12_moves_27 : decode cX12_moves 27 = .ok (.istore 4, 2) := by decide +kernel
theorem dX12_moves_29 : decode cX12_moves 29 = .ok (.aload_n 0, 1) := by decide +kernel
theorem dX12_moves_30 : decode cX12_moves 30 = .ok (.iload_n 1, 1) := by decide +kernel
theorem dX12_moves_31 : decode cX12_moves 31 = .ok (.iload_n 2, 1) := by decide +kernel
theorem dX12_moves_32 : decode cX12_moves 32 = .ok (.invokevirtual 286, 3) := by decide +kernel
theorem dX12_moves_35 : decode cX12_moves 35 = .ok (.sipush 1000, 3) := by decide +kernel
theorem dX12_moves_38 : decode cX12_moves 38 = .ok (.iload 4, 2) := by decide +kernel
theorem dX12_moves_40 : decode cX12_moves 40 = .ok (.iadd, 1) := by decide +kernel
theorem dX12_moves_41 : decode cX12_moves 41 = .ok (.aload_n 0, 1) := by decide +kernel
theorem dX12_moves_42 : decode cX12_moves 42 = .ok (.iconst 1, 1) := by decide +kernel
theorem dX12_moves_43 : decode cX12_moves 43 = .ok (.invokevirtual 179, 3) := by decide +kernel
theorem dX12_moves_46 : decode cX12_moves 46 = .ok (.isub, 1) := by decide +kernel
theorem dX12_moves_47 : decode cX12_moves 47 = .ok (.ireturn, 1) := by decide +kernel
theorem dX12_layBest_0 : decode cX12_layBest 0 = .ok (.aload_n 0, 1) := by decide +kernel
theorem dX12_layBest_1 : decode cX12_layBest 1 = .ok (.iconst 1, 1) := by decide +kernel
theorem dX12_layBest_2 : decode cX12_layBest 2 = .ok (.invokevirtual 179, 3) := by decide +kernel
theorem dX12_layBest_5 : decode cX12_layBest 5 = .ok (.istore_n 1, 1) := by decide +kernel
theorem dX12_layBest_6 : decode cX12_layBest 6 = .ok (.iconst 0, 1) := by decide +kernel
theorem dX12_layBest_7 : decode cX12_layBest 7 = .ok (.istore_n 2, 1) := by decide +kernel
theorem dX12_layBest_8 : decode cX12_layBest 8 = .ok (.iconst 0, 1) := by decide +kernel
theorem dX12_layBest_9 : decode cX12_layBest 9 = .ok (.istore_n 3, 1) := by decide +kernel
theorem dX12_layBest_10 : decode cX12_layBest 10 = .ok (.iload_n 3, 1) := by decide +kernel
theorem dX12_layBest_11 : decode cX12_layBest 11 = .ok (.aload_n 0, 1) := by decide +kernel
theorem dX12_layBest_12 : decode cX12_layBest 12 = .ok (.getfield 9, 3) := by decide +kernel
theorem dX12_layBest_15 : decode cX12_layBest 15 = .ok (.iconst 0, 1) := by decide +kernel
theorem dX12_layBest_16 : decode cX12_layBest 16 = .ok (.iaload, 1) := by decide +kernel
theorem dX12_layBest_17 : decode cX12_layBest 17 = .ok (.if_icmp .ge 77, 3) := by decide +kernel
theorem dX12_layBest_20 : decode cX12_layBest 20 = .ok (.iload_n 3, 1) := by decide +kernel
theorem dX12_layBest_21 : decode cX12_layBest 21 = .ok (.iconst 1, 1) := by decide +kernel
theorem dX12_layBest_22 : decode cX12_layBest 22 = .ok (.iadd, 1) := by decide +kernel
theorem dX12_layBest_23 : decode cX12_layBest 23 = .ok (.istore 4, 2) := by decide +kernel
theorem dX12_layBest_25 : decode cX12_layBest 25 = .ok (.iload 4, 2) := by decide +kernel
theorem dX12_layBest_27 : decode cX12_layBest 27 = .ok (.aload_n 0, 1) := by decide +kernel
theorem dX12_layBest_28 : decode cX12_layBest 28 = .ok (.getfield 9, 3) := by decide +kernel
theorem dX12_layBest_31 : decode cX12_layBest 31 = .ok (.iconst 0, 1) := by decide +kernel
theorem dX12_layBest_32 : decode cX12_layBest 32 = .ok (.iaload, 1) := by decide +kernel
theorem dX12_layBest_33 : decode cX12_layBest 33 = .ok (.if_icmp .ge 55, 3) := by decide +kernel
theorem dX12_layBest_36 : decode cX12_layBest 36 = .ok (.aload_n 0, 1) := by decide +kernel
theorem dX12_layBest_37 : decode cX12_layBest 37 = .ok (.iload_n 3, 1) := by decide +kernel
theorem dX12_layBest_38 : decode cX12_layBest 38 = .ok (.iload 4, 2) := by decide +kernel
theorem dX12_layBest_40 : decode cX12_layBest 40 = .ok (.invokevirtual 283, 3) := by decide +kernel
theorem dX12_layBest_43 : decode cX12_layBest 43 = .ok (.iload_n 1, 1) := by decide +kernel
theorem dX12_layBest_44 : decode cX12_layBest 44 = .ok (.aload_n 0, 1) := by decide +kernel
theorem dX12_layBest_45 : decode cX12_layBest 45 = .ok (.iconst 1, 1) := by decide +kernel
theorem dX12_layBest_46 : decode cX12_layBest 46 = .ok (.invokevirtual 179, 3) := by decide +kernel
theorem dX12_layBest_49 : decode cX12_layBest 49 = .ok (.isub, 1) := by decide +kernel
theorem dX12_layBest_50 : decode cX12_layBest 50 = .ok (.istore 5, 2) := by decide +kernel
theorem dX12_layBest_52 : decode cX12_layBest 52 = .ok (.aload_n 0, 1) := by decide +kernel
theorem dX12_layBest_53 : decode cX12_layBest 53 = .ok (.iload_n 3, 1) := by decide +kernel
theorem dX12_layBest_54 : decode cX12_layBest 54 = .ok (.iload 4, 2) := by decide +kernel
theorem dX12_layBest_56 : decode cX12_layBest 56 = .ok (.invokevirtual 283, 3) := by decide +kernel
theorem dX12_layBest_59 : decode cX12_layBest 59 = .ok (.iload 5, 2) := by decide +kernel
theorem dX12_layBest_61 : decode cX12_layBest 61 = .ok (.iload_n 2, 1) := by decide +kernel
theorem dX12_layBest_62 : decode cX12_layBest 62 = .ok (.if_icmp .gt 6, 3) := by decide +kernel
theorem dX12_layBest_65 : decode cX12_layBest 65 = .ok (.goto 17, 3) := by decide +kernel
theorem dX12_layBest_68 : decode cX12_layBest 68 = .ok (.iload 5, 2) := by decide +kernel
theorem dX12_layBest_70 : decode cX12_layBest 70 = .ok (.istore_n 2, 1) := by decide +kernel
theorem dX12_layBest_71 : decode cX12_layBest 71 = .ok (.aload_n 0, 1) := by decide +kernel
theorem dX12_layBest_72 : decode cX12_layBest 72 = .ok (.iload_n 3, 1) := by decide +kernel
theorem dX12_layBest_73 : decode cX12_layBest 73 = .ok (.putfield 289, 3) := by decide +kernel
theorem dX12_layBest_76 : decode cX12_layBest 76 = .ok (.aload_n 0, 1) := by decide +kernel
theorem dX12_layBest_77 : decode cX12_layBest 77 = .ok (.iload 4, 2) := by decide +kernel
theorem dX12_layBest_79 : decode cX12_layBest 79 = .ok (.putfield 292, 3) := by decide +kernel
theorem dX12_layBest_82 : decode cX12_layBest 82 = .ok (.iinc 4 1, 3) := by decide +kernel
theorem dX12_layBest_85 : decode cX12_layBest 85 = .ok (.goto (-60), 3) := by decide +kernel
theorem dX12_layBest_88 : decode cX12_layBest 88 = .ok (.iinc 3 1, 3) := by decide +kernel
theorem dX12_layBest_91 : decode cX12_layBest 91 = .ok (.goto (-81), 3) := by decide +kernel
theorem dX12_layBest_94 : decode cX12_layBest 94 = .ok (.iload_n 2, 1) := by decide +kernel
theorem dX12_layBest_95 : decode cX12_layBest 95 = .ok (.ireturn, 1) := by decide +kernel
theorem dX12_best_0 : decode cX12_best 0 = .ok (.aload_n 0, 1) := by decide +kernel
theorem dX12_best_1 : decode cX12_best 1 = .ok (.iconst 0, 1) := by decide +kernel
theorem dX12_best_2 : decode cX12_best 2 = .ok (.putfield 64, 3) := by decide +kernel
theorem dX12_best_5 : decode cX12_best 5 = .ok (.aload_n 0, 1) := by decide +kernel
theorem dX12_best_6 : decode cX12_best 6 = .ok (.invokevirtual 295, 3) := by decide +kernel
theorem dX12_best_9 : decode cX12_best 9 = .ok (.istore_n 1, 1) := by decide +kernel
theorem dX12_best_10 : decode cX12_best 10 = .ok (.iload_n 1, 1) := by decide +kernel
theorem dX12_best_11 : decode cX12_best 11 = .ok (.ifCond .ne 6, 3) := by decide +kernel
theorem dX12_best_14 : decode cX12_best 14 = .ok (.bipush (-2), 2) := by decide +kernel
theorem dX12_best_16 : decode cX12_best 16 = .ok (.ireturn, 1) := by decide +kernel
theorem dX12_best_17 : decode cX12_best 17 = .ok (.aload_n 0, 1) := by decide +kernel
theorem dX12_best_18 : decode cX12_best 18 = .ok (.iconst 0, 1) := by decide +kernel
theorem dX12_best_19 : decode cX12_best 19 = .ok (.putfield 68, 3) := by decide +kernel
theorem dX12_best_22 : decode cX12_best 22 = .ok (.aload_n 0, 1) := by decide +kernel
theorem dX12_best_23 : decode cX12_best 23 = .ok (.aload_n 0, 1) := by decide +kernel
theorem dX12_best_24 : decode cX12_best 24 = .ok (.getfield 289, 3) := by decide +kernel
theorem dX12_best_27 : decode cX12_best 27 = .ok (.i2l, 1) := by decide +kernel
theorem dX12_best_28 : decode cX12_best 28 = .ok (.invokevirtual 167, 3) := by decide +kernel
theorem dX12_best_31 : decode cX12_best 31 = .ok (.aload_n 0, 1) := by decide +kernel
theorem dX12_best_32 : decode cX12_best 32 = .ok (.aload_n 0, 1) := by decide +kernel
theorem dX12_best_33 : decode cX12_best 33 = .ok (.getfield 292, 3) := by decide +kernel
theorem dX12_best_36 : decode cX12_best 36 = .ok (.i2l, 1) := by decide +kernel
theorem dX12_best_37 : decode cX12_best 37 = .ok (.invokevirtual 167, 3) := by decide +kernel
theorem dX12_best_40 : decode cX12_best 40 = .ok (.iload_n 1, 1) := by decide +kernel
theorem dX12_best_41 : decode cX12_best 41 = .ok (.ireturn, 1) := by decide +kernel
theorem dX12_place_0 : decode cX12_place 0 = .ok (.aload_n 0, 1) := by decide +kernel
theorem dX12_place_1 : decode cX12_place 1 = .ok (.iconst 0, 1) := by decide +kernel
theorem dX12_place_2 : decode cX12_place 2 = .ok (.putfield 64, 3) := by decide +kernel
theorem dX12_place_5 : decode cX12_place 5 = .ok (.aload_n 0, 1) := by decide +kernel
theorem dX12_place_6 : decode cX12_place 6 = .ok (.iload_n 1, 1) := by decide +kernel
theorem dX12_place_7 : decode cX12_place 7 = .ok (.invokevirtual 126, 3) := by decide +kernel
theorem dX12_place_10 : decode cX12_place 10 = .ok (.ifCond .ne 5, 3) := by decide +kernel
theorem dX12_place_13 : decode cX12_place 13 = .ok (.iconst (-1), 1) := by decide +kernel
theorem dX12_place_14 : decode cX12_place 14 = .ok (.ireturn, 1) := by decide +kernel
theorem dX12_place_15 : decode cX12_place 15 = .ok (.aload_n 0, 1) := by decide +kernel
theorem dX12_place_16 : decode cX12_place 16 = .ok (.invokevirtual 257, 3) := by decide +kernel
theorem dX12_place_19 : decode cX12_place 19 = .ok (.iconst (-1), 1) := by decide +kernel
theorem dX12_place_20 : decode cX12_place 20 = .ok (.istore_n 2, 1) := by decide +kernel
theorem dX12_place_21 : decode cX12_place 21 = .ok (.iconst 0, 1) := by decide +kernel
theorem dX12_place_22 : decode cX12_place 22 = .ok (.istore_n 3, 1) := by decide +kernel
theorem dX12_place_23 : decode cX12_place 23 = .ok (.aload_n 0, 1) := by decide +kernel
theorem dX12_place_24 : decode cX12_place 24 = .ok (.getfield 9, 3) := by decide +kernel
theorem dX12_place_27 : decode cX12_place 27 = .ok (.bipush 17, 2) := by decide +kernel
theorem dX12_place_29 : decode cX12_place 29 = .ok (.iload_n 1, 1) := by decide +kernel
theorem dX12_place_30 : decode cX12_place 30 = .ok (.iadd, 1) := by decide +kernel
theorem dX12_place_31 : decode cX12_place 31 = .ok (.iaload, 1) := by decide +kernel
theorem dX12_place_32 : decode cX12_place 32 = .ok (.istore 4, 2) := by decide +kernel
theorem dX12_place_34 : decode cX12_place 34 = .ok (.iconst 0, 1) := by decide +kernel
theorem dX12_place_35 : decode cX12_place 35 = .ok (.istore 5, 2) := by decide +kernel
theorem dX12_place_37 : decode cX12_place 37 = .ok (.iload 5, 2) := by decide +kernel
theorem dX12_place_39 : decode cX12_place 39 = .ok (.aload_n 0, 1) := by decide +kernel
theorem dX12_place_40 : decode cX12_place 40 = .ok (.getfield 9, 3) := by decide +kernel
theorem dX12_place_43 : decode cX12_place 43 = .ok (.iconst 0, 1) := by decide +kernel
theorem dX12_place_44 : decode cX12_place 44 = .ok (.iaload, 1) := by decide +kernel
theorem dX12_place_45 : decode cX12_place 45 = .ok (.if_icmp .ge 48, 3) := by decide +kernel
theorem dX12_place_48 : decode cX12_place 48 = .ok (.aload_n 0, 1) := by decide +kernel
theorem dX12_place_49 : decode cX12_place 49 = .ok (.iload 4, 2) := by decide +kernel
theorem dX12_place_51 : decode cX12_place 51 = .ok (.iload 5, 2) := by decide +kernel
theorem dX12_place_53 : decode cX12_place 53 = .ok (.invokevirtual 286, 3) := by decide +kernel
theorem dX12_place_56 : decode cX12_place 56 = .ok (.aload_n 0, 1) := by decide +kernel
theorem dX12_place_57 : decode cX12_place 57 = .ok (.iconst 1, 1) := by decide +kernel
theorem dX12_place_58 : decode cX12_place 58 = .ok (.invokevirtual 179, 3) := by decide +kernel
theorem dX12_place_61 : decode cX12_place 61 = .ok (.istore 6, 2) := by decide +kernel
theorem dX12_place_63 : decode cX12_place 63 = .ok (.aload_n 0, 1) := by decide +kernel
theorem dX12_place_64 : decode cX12_place 64 = .ok (.invokevirtual 260, 3) := by decide +kernel
theorem dX12_place_67 : decode cX12_place 67 = .ok (.iload_n 2, 1) := by decide +kernel
theorem dX12_place_68 : decode cX12_place 68 = .ok (.iconst (-1), 1) := by decide +kernel
theorem dX12_place_69 : decode cX12_place 69 = .ok (.if_icmp .eq 12, 3) := by decide +kernel
theorem dX12_place_72 : decode cX12_place 72 = .ok (.iload 6, 2) := by decide +kernel
theorem dX12_place_74 : decode cX12_place 74 = .ok (.iload_n 3, 1) := by decide +kernel
theorem dX12_place_75 : decode cX12_place 75 = .ok (.if_icmp .lt 6, 3) := by decide +kernel
theorem dX12_place_78 : decode cX12_place 78 = .ok (.goto 9, 3) := by decide +kernel
theorem dX12_place_81 : decode cX12_place 81 = .ok (.iload 5, 2) := by decide +kernel
theorem dX12_place_83 : decode cX12_place 83 = .ok (.istore_n 2, 1) := by decide +kernel
theorem dX12_place_84 : decode cX12_place 84 = .ok (.iload 6, 2) := by decide +kernel
theorem dX12_place_86 : decode cX12_place 86 = .ok (.istore_n 3, 1) := by decide +kernel
theorem dX12_place_87 : decode cX12_place 87 = .ok (.iinc 5 1, 3) := by decide +kernel
theorem dX12_place_90 : decode cX12_place 90 = .ok (.goto (-53), 3) := by decide +kernel
theorem dX12_place_93 : decode cX12_place 93 = .ok (.aload_n 0, 1) := by decide +kernel
theorem dX12_place_94 : decode cX12_place 94 = .ok (.iconst 0, 1) := by decide +kernel
theorem dX12_place_95 : decode cX12_place 95 = .ok (.putfield 68, 3) := by decide +kernel
theorem dX12_place_98 : decode cX12_place 98 = .ok (.aload_n 0, 1) := by decide +kernel
theorem dX12_place_99 : decode cX12_place 99 = .ok (.iload_n 3, 1) := by decide +kernel
theorem dX12_place_100 : decode cX12_place 100 = .ok (.i2l, 1) := by decide +kernel
theorem dX12_place_101 : decode cX12_place 101 = .ok (.invokevirtual 167, 3) := by decide +kernel
theorem dX12_place_104 : decode cX12_place 104 = .ok (.iload_n 2, 1) := by decide +kernel
theorem dX12_place_105 : decode cX12_place 105 = .ok (.ireturn, 1) := by decide +kernel
theorem dX12_climb_0 : decode cX12_climb 0 = .ok (.iconst 0, 1) := by decide +kernel
theorem dX12_climb_1 : decode cX12_climb 1 = .ok (.istore_n 2, 1) := by decide +kernel
theorem dX12_climb_2 : decode cX12_climb 2 = .ok (.iload_n 2, 1) := by decide +kernel
theorem dX12_climb_3 : decode cX12_climb 3 = .ok (.iload_n 1, 1) := by decide +kernel
theorem dX12_climb_4 : decode cX12_climb 4 = .ok (.if_icmp .ge 28, 3) := by decide +kernel
theorem dX12_climb_7 : decode cX12_climb 7 = .ok (.aload_n 0, 1) := by decide +kernel
theorem dX12_climb_8 : decode cX12_climb 8 = .ok (.invokevirtual 295, 3) := by decide +kernel
theorem dX12_climb_11 : decode cX12_climb 11 = .ok (.ifCond .le 21, 3) := by decide +kernel
theorem dX12_climb_14 : decode cX12_climb 14 = .ok (.aload_n 0, 1) := by decide +kernel
theorem dX12_climb_15 : decode cX12_climb 15 = .ok (.aload_n 0, 1) := by decide +kernel
theorem dX12_climb_16 : decode cX12_climb 16 = .ok (.getfield 289, 3) := by decide +kernel
theorem dX12_climb_19 : decode cX12_climb 19 = .ok (.aload_n 0, 1) := by decide +kernel
theorem dX12_climb_20 : decode cX12_climb 20 = .ok (.getfield 292, 3) := by decide +kernel
theorem dX12_climb_23 : decode cX12_climb 23 = .ok (.invokevirtual 283, 3) := by decide +kernel
theorem dX12_climb_26 : decode cX12_climb 26 = .ok (.iinc 2 1, 3) := by decide +kernel
theorem dX12_climb_29 : decode cX12_climb 29 = .ok (.goto (-27), 3) := by decide +kernel
theorem dX12_climb_32 : decode cX12_climb 32 = .ok (.iload_n 2, 1) := by decide +kernel
theorem dX12_climb_33 : decode cX12_climb 33 = .ok (.ireturn, 1) := by decide +kernel
theorem dX12_climbs_0 : decode cX12_climbs 0 = .ok (.aload_n 0, 1) := by decide +kernel
theorem dX12_climbs_1 : decode cX12_climbs 1 = .ok (.iconst 0, 1) := by decide +kernel
theorem dX12_climbs_2 : decode cX12_climbs 2 = .ok (.putfield 64, 3) := by decide +kernel
theorem dX12_climbs_5 : decode cX12_climbs 5 = .ok (.iload_n 1, 1) := by decide +kernel
theorem dX12_climbs_6 : decode cX12_climbs 6 = .ok (.iconst 1, 1) := by decide +kernel
theorem dX12_climbs_7 : decode cX12_climbs 7 = .ok (.bipush 20, 2) := by decide +kernel
theorem dX12_climbs_9 : decode cX12_climbs 9 = .ok (.invokestatic 71, 3) := by decide +kernel
theorem dX12_climbs_12 : decode cX12_climbs 12 = .ok (.ifCond .ne 5, 3) := by decide +kernel
theorem dX12_climbs_15 : decode cX12_climbs 15 = .ok (.iconst (-1), 1) := by decide +kernel
theorem dX12_climbs_16 : decode cX12_climbs 16 = .ok (.ireturn, 1) := by decide +kernel
theorem dX12_climbs_17 : decode cX12_climbs 17 = .ok (.aload_n 0, 1) := by decide +kernel
theorem dX12_climbs_18 : decode cX12_climbs 18 = .ok (.invokevirtual 120, 3) := by decide +kernel
theorem dX12_climbs_21 : decode cX12_climbs 21 = .ok (.aload_n 0, 1) := by decide +kernel
theorem dX12_climbs_22 : decode cX12_climbs 22 = .ok (.iload_n 1, 1) := by decide +kernel
theorem dX12_climbs_23 : decode cX12_climbs 23 = .ok (.invokevirtual 298, 3) := by decide +kernel
theorem dX12_climbs_26 : decode cX12_climbs 26 = .ok (.istore_n 2, 1) := by decide +kernel
theorem dX12_climbs_27 : decode cX12_climbs 27 = .ok (.aload_n 0, 1) := by decide +kernel
theorem dX12_climbs_28 : decode cX12_climbs 28 = .ok (.iconst 0, 1) := by decide +kernel
theorem dX12_climbs_29 : decode cX12_climbs 29 = .ok (.putfield 68, 3) := by decide +kernel
theorem dX12_climbs_32 : decode cX12_climbs 32 = .ok (.aload_n 0, 1) := by decide +kernel
theorem dX12_climbs_33 : decode cX12_climbs 33 = .ok (.aload_n 0, 1) := by decide +kernel
theorem dX12_climbs_34 : decode cX12_climbs 34 = .ok (.iconst 1, 1) := by decide +kernel
theorem dX12_climbs_35 : decode cX12_climbs 35 = .ok (.invokevirtual 179, 3) := by decide +kernel
theorem dX12_climbs_38 : decode cX12_climbs 38 = .ok (.i2l, 1) := by decide +kernel
theorem dX12_climbs_39 : decode cX12_climbs 39 = .ok (.invokevirtual 167, 3) := by decide +kernel
theorem dX12_climbs_42 : decode cX12_climbs 42 = .ok (.iload_n 2, 1) := by decide +kernel
theorem dX12_climbs_43 : decode cX12_climbs 43 = .ok (.ireturn, 1) := by decide +kernel
theorem dX12_having_0 : decode cX12_having 0 = .ok (.aload_n 0, 1) := by decide +kernel
theorem dX12_having_1 : decode cX12_having 1 = .ok (.iconst 0, 1) := by decide +kernel
theorem dX12_having_2 : decode cX12_having 2 = .ok (.putfield 64, 3) := by decide +kernel
theorem dX12_having_5 : decode cX12_having 5 = .ok (.iload_n 1, 1) := by decide +kernel
theorem dX12_having_6 : decode cX12_having 6 = .ok (.iconst 0, 1) := by decide +kernel
theorem dX12_having_7 : decode cX12_having 7 = .ok (.sipush 255, 3) := by decide +kernel
theorem dX12_having_10 : decode cX12_having 10 = .ok (.invokestatic 71, 3) := by decide +kernel
theorem dX12_having_13 : decode cX12_having 13 = .ok (.ifCond .ne 5, 3) := by decide +kernel
theorem dX12_having_16 : decode cX12_having 16 = .ok (.iconst (-1), 1) := by decide +kernel
theorem dX12_having_17 : decode cX12_having 17 = .ok (.ireturn, 1) := by decide +kernel
theorem dX12_having_18 : decode cX12_having 18 = .ok (.aload_n 0, 1) := by decide +kernel
theorem dX12_having_19 : decode cX12_having 19 = .ok (.iconst 0, 1) := by decide +kernel
theorem dX12_having_20 : decode cX12_having 20 = .ok (.putfield 68, 3) := by decide +kernel
theorem dX12_having_23 : decode cX12_having 23 = .ok (.iconst 0, 1) := by decide +kernel
theorem dX12_having_24 : decode cX12_having 24 = .ok (.istore_n 2, 1) := by decide +kernel
theorem dX12_having_25 : decode cX12_having 25 = .ok (.iload_n 2, 1) := by decide +kernel
theorem dX12_having_26 : decode cX12_having 26 = .ok (.aload_n 0, 1) := by decide +kernel
theorem dX12_having_27 : decode cX12_having 27 = .ok (.getfield 9, 3) := by decide +kernel
theorem dX12_having_30 : decode cX12_having 30 = .ok (.iconst 0, 1) := by decide +kernel
theorem dX12_having_31 : decode cX12_having 31 = .ok (.iaload, 1) := by decide +kernel
theorem dX12_having_32 : decode cX12_having 32 = .ok (.if_icmp .ge 33, 3) := by decide +kernel
theorem dX12_having_35 : decode cX12_having 35 = .ok (.aload_n 0, 1) := by decide +kernel
theorem dX12_having_36 : decode cX12_having 36 = .ok (.getfield 9, 3) := by decide +kernel
theorem dX12_having_39 : decode cX12_having 39 = .ok (.iconst 1, 1) := by decide +kernel
theorem dX12_having_40 : decode cX12_having 40 = .ok (.aload_n 0, 1) := by decide +kernel
theorem dX12_having_41 : decode cX12_having 41 = .ok (.iload_n 2, 1) := by decide +kernel
theorem dX12_having_42 : decode cX12_having 42 = .ok (.invokevirtual 75, 3) := by decide +kernel
theorem dX12_having_45 : decode cX12_having 45 = .ok (.iadd, 1) := by decide +kernel
theorem dX12_having_46 : decode cX12_having 46 = .ok (.iaload, 1) := by decide +kernel
theorem dX12_having_47 : decode cX12_having 47 = .ok (.iload_n 1, 1) := by decide +kernel
theorem dX12_having_48 : decode cX12_having 48 = .ok (.iand, 1) := by decide +kernel
theorem dX12_having_49 : decode cX12_having 49 = .ok (.iload_n 1, 1) := by decide +kernel
theorem dX12_having_50 : decode cX12_having 50 = .ok (.if_icmp .ne 9, 3) := by decide +kernel
theorem dX12_having_53 : decode cX12_having 53 = .ok (.aload_n 0, 1) := by decide +kernel
theorem dX12_having_54 : decode cX12_having 54 = .ok (.iload_n 2, 1) := by decide +kernel
theorem dX12_having_55 : decode cX12_having 55 = .ok (.i2l, 1) := by decide +kernel
theorem dX12_having_56 : decode cX12_having 56 = .ok (.invokevirtual 167, 3) := by decide +kernel
theorem dX12_having_59 : decode cX12_having 59 = .ok (.iinc 2 1, 3) := by decide +kernel
theorem dX12_having_62 : decode cX12_having 62 = .ok (.goto (-37), 3) := by decide +kernel
theorem dX12_having_65 : decode cX12_having 65 = .ok (.aload_n 0, 1) := by decide +kernel
theorem dX12_having_66 : decode cX12_having 66 = .ok (.getfield 68, 3) := by decide +kernel
theorem dX12_having_69 : decode cX12_having 69 = .ok (.ireturn, 1) := by decide +kernel
theorem dX12_compared_0 : decode cX12_compared 0 = .ok (.aload_n 0, 1) := by decide +kernel
theorem dX12_compared_1 : decode cX12_compared 1 = .ok (.iconst 0, 1) := by decide +kernel
theorem dX12_compared_2 : decode cX12_compared 2 = .ok (.putfield 64, 3) := by decide +kernel
theorem dX12_compared_5 : decode cX12_compared 5 = .ok (.iload_n 1, 1) := by decide +kernel
theorem dX12_compared_6 : decode cX12_compared 6 = .ok (.invokestatic 164, 3) := by decide +kernel
theorem dX12_compared_9 : decode cX12_compared 9 = .ok (.ifCond .eq 15, 3) := by decide +kernel
theorem dX12_compared_12 : decode cX12_compared 12 = .ok (.iload_n 2, 1) := by decide +kernel
theorem dX12_compared_13 : decode cX12_compared 13 = .ok (.invokestatic 164, 3) := by decide +kernel
theorem dX12_compared_16 : decode cX12_compared 16 = .ok (.ifCond .eq 8, 3) := by decide +kernel
theorem dX12_compared_19 : decode cX12_compared 19 = .ok (.iload_n 1, 1) := by decide +kernel
theorem dX12_compared_20 : decode cX12_compared 20 = .ok (.iload_n 2, 1) := by decide +kernel
theorem dX12_compared_21 : decode cX12_compared 21 = .ok (.if_icmp .ne 5, 3) := by decide +kernel
theorem dX12_compared_24 : decode cX12_compared 24 = .ok (.iconst (-1), 1) := by decide +kernel
theorem dX12_compared_25 : decode cX12_compared 25 = .ok (.ireturn, 1) := by decide +kernel
theorem dX12_compared_26 : decode cX12_compared 26 = .ok (.aload_n 0, 1) := by decide +kernel
theorem dX12_compared_27 : decode cX12_compared 27 = .ok (.iload_n 2, 1) := by decide +kernel
theorem dX12_compared_28 : decode cX12_compared 28 = .ok (.invokevirtual 151, 3) := by decide +kernel
theorem dX12_compared_31 : decode cX12_compared 31 = .ok (.aload_n 0, 1) := by decide +kernel
theorem dX12_compared_32 : decode cX12_compared 32 = .ok (.getfield 139, 3) := by decide +kernel
theorem dX12_compared_35 : decode cX12_compared 35 = .ok (.istore_n 3, 1) := by decide +kernel
theorem dX12_compared_36 : decode cX12_compared 36 = .ok (.iconst 0, 1) := by decide +kernel
theorem dX12_compared_37 : decode cX12_compared 37 = .ok (.istore 4, 2) := by decide +kernel
theorem dX12_compared_39 : decode cX12_compared 39 = .ok (.iload 4, 2) := by decide +kernel
theorem dX12_compared_41 : decode cX12_compared 41 = .ok (.iload_n 3, 1) := by decide +kernel
theorem dX12_compared_42 : decode cX12_compared 42 = .ok (.if_icmp .ge 23, 3) := by decide +kernel
theorem dX12_compared_45 : decode cX12_compared 45 = .ok (.aload_n 0, 1) := by decide +kernel
theorem dX12_compared_46 : decode cX12_compared 46 = .ok (.getfield 42, 3) := by decide +kernel
theorem dX12_compared_49 : decode cX12_compared 49 = .ok (.iload 4, 2) := by decide +kernel
theorem dX12_compared_51 : decode cX12_compared 51 = .ok (.aload_n 0, 1) := by decide +kernel
theorem dX12_compared_52 : decode cX12_compared 52 = .ok (.getfield 27, 3) := by decide +kernel
theorem dX12_compared_55 : decode cX12_compared 55 = .ok (.iload 4, 2) := by decide +kernel
theorem dX12_compared_57 : decode cX12_compared 57 = .ok (.iaload, 1) := by decide +kernel
theorem dX12_compared_58 : decode cX12_compared 58 = .ok (.iastore, 1) := by decide +kernel
theorem dX12_compared_59 : decode cX12_compared 59 = .ok (.iinc 4 1, 3) := by decide +kernel
theorem dX12_compared_62 : decode cX12_compared 62 = .ok (.goto (-23), 3) := by decide +kernel
theorem dX12_compared_65 : decode cX12_compared 65 = .ok (.aload_n 0, 1) := by decide +kernel
theorem dX12_compared_66 : decode cX12_compared 66 = .ok (.iload_n 1, 1) := by decide +kernel
theorem dX12_compared_67 : decode cX12_compared 67 = .ok (.invokevirtual 151, 3) := by decide +kernel
theorem dX12_compared_70 : decode cX12_compared 70 = .ok (.iconst 0, 1) := by decide +kernel
theorem dX12_compared_71 : decode cX12_compared 71 = .ok (.istore 4, 2) := by decide +kernel
theorem dX12_compared_73 : decode cX12_compared 73 = .ok (.iconst 0, 1) := by decide +kernel
theorem dX12_compared_74 : decode cX12_compared 74 = .ok (.istore 5, 2) := by decide +kernel
theorem dX12_compared_76 : decode cX12_compared 76 = .ok (.iconst 0, 1) := by decide +kernel
theorem dX12_compared_77 : decode cX12_compared 77 = .ok (.istore 6, 2) := by decide +kernel
theorem dX12_compared_79 : decode cX12_compared 79 = .ok (.iconst 0, 1) := by decide +kernel
theorem dX12_compared_80 : decode cX12_compared 80 = .ok (.istore 7, 2) := by decide +kernel
theorem dX12_compared_82 : decode cX12_compared 82 = .ok (.iload 4, 2) := by decide +kernel
theorem dX12_compared_84 : decode cX12_compared 84 = .ok (.aload_n 0, 1) := by decide +kernel
theorem dX12_compared_85 : decode cX12_compared 85 = .ok (.getfield 139, 3) := by decide +kernel
theorem dX12_compared_88 : decode cX12_compared 88 = .ok (.if_icmp .ge 84, 3) := by decide +kernel
theorem dX12_compared_91 : decode cX12_compared 91 = .ok (.iload 5, 2) := by decide +kernel
theorem dX12_compared_93 : decode cX12_compared 93 = .ok (.iload_n 3, 1) := by decide +kernel
theorem dX12_compared_94 : decode cX12_compared 94 = .ok (.if_icmp .ge 78, 3) := by decide +kernel
theorem dX12_compared_97 : decode cX12_compared 97 = .ok (.iinc 6 1, 3) := by decide +kernel
theorem dX12_compared_100 : decode cX12_compared 100 = .ok (.aload_n 0, 1) := by decide +kernel
theorem dX12_compared_101 : decode cX12_compared 101 = .ok (.getfield 27, 3) := by decide +kernel
theorem dX12_compared_104 : decode cX12_compared 104 = .ok (.iload 4, 2) := by decide +kernel
theorem dX12_compared_106 : decode cX12_compared 106 = .ok (.iaload, 1) := by decide +kernel
theorem dX12_compared_107 : decode cX12_compared 107 = .ok (.istore 8, 2) := by decide +kernel
theorem dX12_compared_109 : decode cX12_compared 109 = .ok (.aload_n 0, 1) := by decide +kernel
theorem dX12_compared_110 : decode cX12_compared 110 = .ok (.getfield 42, 3) := by decide +kernel
theorem dX12_compared_113 : decode cX12_compared 113 = .ok (.iload 5, 2) := by decide +kernel
theorem dX12_compared_115 : decode cX12_compared 115 = .ok (.iaload, 1) := by decide +kernel
theorem dX12_compared_116 : decode cX12_compared 116 = .ok (.istore 9, 2) := by decide +kernel
theorem dX12_compared_118 : decode cX12_compared 118 = .ok (.iload 7, 2) := by decide +kernel
theorem dX12_compared_120 : decode cX12_compared 120 = .ok (.iload 8, 2) := by decide +kernel
theorem dX12_compared_122 : decode cX12_compared 122 = .ok (.iload 9, 2) := by decide +kernel
theorem dX12_compared_124 : decode cX12_compared 124 = .ok (.if_icmp .ne 7, 3) := by decide +kernel
theorem dX12_compared_127 : decode cX12_compared 127 = .ok (.iconst 1, 1) := by decide +kernel
theorem dX12_compared_128 : decode cX12_compared 128 = .ok (.goto 4, 3) := by decide +kernel
theorem dX12_compared_131 : decode cX12_compared 131 = .ok (.iconst 0, 1) := by decide +kernel
theorem dX12_compared_132 : decode cX12_compared 132 = .ok (.iadd, 1) := by decide +kernel
theorem dX12_compared_133 : decode cX12_compared 133 = .ok (.istore 7, 2) := by decide +kernel
theorem dX12_compared_135 : decode cX12_compared 135 = .ok (.iload 4, 2) := by decide +kernel
theorem dX12_compared_137 : decode cX12_compared 137 = .ok (.iload 8, 2) := by decide +kernel
theorem dX12_compared_139 : decode cX12_compared 139 = .ok (.iload 9, 2) := by decide +kernel
theorem dX12_compared_141 : decode cX12_compared 141 = .ok (.if_icmp .gt 7, 3) := by decide +kernel
theorem dX12_compared_144 : decode cX12_compared 144 = .ok (.iconst 1, 1) := by decide +kernel
theorem dX12_compared_145 : decode cX12_compared 145 = .ok (.goto 4, 3) := by decide +kernel
theorem dX12_compared_148 : decode cX12_compared 148 = .ok (.iconst 0, 1) := by decide +kernel
theorem dX12_compared_149 : decode cX12_compared 149 = .ok (.iadd, 1) := by decide +kernel
theorem dX12_compared_150 : decode cX12_compared 150 = .ok (.istore 4, 2) := by decide +kernel
theorem dX12_compared_152 : decode cX12_compared 152 = .ok (.iload 5, 2) := by decide +kernel
theorem dX12_compared_154 : decode cX12_compared 154 = .ok (.iload 9, 2) := by decide +kernel
theorem dX12_compared_156 : decode cX12_compared 156 = .ok (.iload 8, 2) := by decide +kernel
theorem dX12_compared_158 : decode cX12_compared 158 = .ok (.if_icmp .gt 7, 3) := by decide +kernel
theorem dX12_compared_161 : decode cX12_compared 161 = .ok (.iconst 1, 1) := by decide +kernel
theorem dX12_compared_162 : decode cX12_compared 162 = .ok (.goto 4, 3) := by decide +kernel
theorem dX12_compared_165 : decode cX12_compared 165 = .ok (.iconst 0, 1) := by decide +kernel
theorem dX12_compared_166 : decode cX12_compared 166 = .ok (.iadd, 1) := by decide +kernel
theorem dX12_compared_167 : decode cX12_compared 167 = .ok (.istore 5, 2) := by decide +kernel
theorem dX12_compared_169 : decode cX12_compared 169 = .ok (.goto (-87), 3) := by decide +kernel
theorem dX12_compared_172 : decode cX12_compared 172 = .ok (.aload_n 0, 1) := by decide +kernel
theorem dX12_compared_173 : decode cX12_compared 173 = .ok (.iconst 0, 1) := by decide +kernel
theorem dX12_compared_174 : decode cX12_compared 174 = .ok (.putfield 68, 3) := by decide +kernel
theorem dX12_compared_177 : decode cX12_compared 177 = .ok (.aload_n 0, 1) := by decide +kernel
theorem dX12_compared_178 : decode cX12_compared 178 = .ok (.iload 7, 2) := by decide +kernel
theorem dX12_compared_180 : decode cX12_compared 180 = .ok (.i2l, 1) := by decide +kernel
theorem dX12_compared_181 : decode cX12_compared 181 = .ok (.invokevirtual 167, 3) := by decide +kernel
theorem dX12_compared_184 : decode cX12_compared 184 = .ok (.iload 6, 2) := by decide +kernel
theorem dX12_compared_186 : decode cX12_compared 186 = .ok (.ireturn, 1) := by decide +kernel
theorem dX12_blocks_0 : decode cX12_blocks 0 = .ok (.aload_n 0, 1) := by decide +kernel
theorem dX12_blocks_1 : decode cX12_blocks 1 = .ok (.iconst 0, 1) := by decide +kernel
theorem dX12_blocks_2 : decode cX12_blocks 2 = .ok (.putfield 64, 3) := by decide +kernel
theorem dX12_blocks_5 : decode cX12_blocks 5 = .ok (.iload_n 1, 1) := by decide +kernel
theorem dX12_blocks_6 : decode cX12_blocks 6 = .ok (.invokestatic 164, 3) := by decide +kernel
theorem dX12_blocks_9 : decode cX12_blocks 9 = .ok (.ifCond .eq 13, 3) := by decide +kernel
theorem dX12_blocks_12 : decode cX12_blocks 12 = .ok (.iload_n 2, 1) := by decide +kernel
theorem dX12_blocks_13 : decode cX12_blocks 13 = .ok (.iconst 1, 1) := by decide +kernel
theorem dX12_blocks_14 : decode cX12_blocks 14 = .ok (.bipush 16, 2) := by decide +kernel
theorem dX12_blocks_16 : decode cX12_blocks 16 = .ok (.invokestatic 71, 3) := by decide +kernel
theorem dX12_blocks_19 : decode cX12_blocks 19 = .ok (.ifCond .ne 5, 3) := by decide +kernel
theorem dX12_blocks_22 : decode cX12_blocks 22 = .ok (.iconst (-1), 1) := by decide +kernel
theorem dX12_blocks_23 : decode cX12_blocks 23 = .ok (.ireturn, 1) := by decide +kernel
theorem dX12_blocks_24 : decode cX12_blocks 24 = .ok (.iconst 0, 1) := by decide +kernel
theorem dX12_blocks_25 : decode cX12_blocks 25 = .ok (.istore_n 3, 1) := by decide +kernel
theorem dX12_blocks_26 : decode cX12_blocks 26 = .ok (.iconst 0, 1) := by decide +kernel
theorem dX12_blocks_27 : decode cX12_blocks 27 = .ok (.istore 4, 2) := by decide +kernel
theorem dX12_blocks_29 : decode cX12_blocks 29 = .ok (.iconst 0, 1) := by decide +kernel
theorem dX12_blocks_30 : decode cX12_blocks 30 = .ok (.istore 5, 2) := by decide +kernel
theorem dX12_blocks_32 : decode cX12_blocks 32 = .ok (.iload 5, 2) := by decide +kernel
theorem dX12_blocks_34 : decode cX12_blocks 34 = .ok (.aload_n 0, 1) := by decide +kernel
theorem dX12_blocks_35 : decode cX12_blocks 35 = .ok (.getfield 9, 3) := by decide +kernel
theorem dX12_blocks_38 : decode cX12_blocks 38 = .ok (.iconst 0, 1) := by decide +kernel
theorem dX12_blocks_39 : decode cX12_blocks 39 = .ok (.iaload, 1) := by decide +kernel
theorem dX12_blocks_40 : decode cX12_blocks 40 = .ok (.if_icmp .ge 56, 3) := by decide +kernel
theorem dX12_blocks_43 : decode cX12_blocks 43 = .ok (.aload_n 0, 1) := by decide +kernel
theorem dX12_blocks_44 : decode cX12_blocks 44 = .ok (.iload 5, 2) := by decide +kernel
theorem dX12_blocks_46 : decode cX12_blocks 46 = .ok (.iload_n 2, 1) := by decide +kernel
theorem dX12_blocks_47 : decode cX12_blocks 47 = .ok (.aload_n 0, 1) := by decide +kernel
theorem dX12_blocks_48 : decode cX12_blocks 48 = .ok (.getfield 9, 3) := by decide +kernel
theorem dX12_blocks_51 : decode cX12_blocks 51 = .ok (.iconst 0, 1) := by decide +kernel
theorem dX12_blocks_52 : decode cX12_blocks 52 = .ok (.iaload, 1) := by decide +kernel
theorem dX12_blocks_53 : decode cX12_blocks 53 = .ok (.iload 5, 2) := by decide +kernel
theorem dX12_blocks_55 : decode cX12_blocks 55 = .ok (.isub, 1) := by decide +kernel
theorem dX12_blocks_56 : decode cX12_blocks 56 = .ok (.invokestatic 301, 3) := by decide +kernel
theorem dX12_blocks_59 : decode cX12_blocks 59 = .ok (.iload_n 1, 1) := by decide +kernel
theorem dX12_blocks_60 : decode cX12_blocks 60 = .ok (.invokevirtual 229, 3) := by decide +kernel
theorem dX12_blocks_63 : decode cX12_blocks 63 = .ok (.istore 6, 2) := by decide +kernel
theorem dX12_blocks_65 : decode cX12_blocks 65 = .ok (.iload_n 3, 1) := by decide +kernel
theorem dX12_blocks_66 : decode cX12_blocks 66 = .ok (.iload 6, 2) := by decide +kernel
theorem dX12_blocks_68 : decode cX12_blocks 68 = .ok (.ifCond .le 7, 3) := by decide +kernel
theorem dX12_blocks_71 : decode cX12_blocks 71 = .ok (.iconst 1, 1) := by decide +kernel
theorem dX12_blocks_72 : decode cX12_blocks 72 = .ok (.goto 4, 3) := by decide +kernel
theorem dX12_blocks_75 : decode cX12_blocks 75 = .ok (.iconst 0, 1) := by decide +kernel
theorem dX12_blocks_76 : decode cX12_blocks 76 = .ok (.iadd, 1) := by decide +kernel
theorem dX12_blocks_77 : decode cX12_blocks 77 = .ok (.istore_n 3, 1) := by decide +kernel
theorem dX12_blocks_78 : decode cX12_blocks 78 = .ok (.iload 4, 2) := by decide +kernel
theorem dX12_blocks_80 : decode cX12_blocks 80 = .ok (.iload 6, 2) := by decide +kernel
theorem dX12_blocks_82 : decode cX12_blocks 82 = .ok (.invokestatic 174, 3) := by decide +kernel
theorem dX12_blocks_85 : decode cX12_blocks 85 = .ok (.istore 4, 2) := by decide +kernel
theorem dX12_blocks_87 : decode cX12_blocks 87 = .ok (.iload 5, 2) := by decide +kernel
theorem dX12_blocks_89 : decode cX12_blocks 89 = .ok (.iload_n 2, 1) := by decide +kernel
theorem dX12_blocks_90 : decode cX12_blocks 90 = .ok (.iadd, 1) := by decide +kernel
theorem dX12_blocks_91 : decode cX12_blocks 91 = .ok (.istore 5, 2) := by decide +kernel
theorem dX12_blocks_93 : decode cX12_blocks 93 = .ok (.goto (-61), 3) := by decide +kernel
theorem dX12_blocks_96 : decode cX12_blocks 96 = .ok (.aload_n 0, 1) := by decide +kernel
theorem dX12_blocks_97 : decode cX12_blocks 97 = .ok (.iconst 0, 1) := by decide +kernel
theorem dX12_blocks_98 : decode cX12_blocks 98 = .ok (.putfield 68, 3) := by decide +kernel
theorem dX12_blocks_101 : decode cX12_blocks 101 = .ok (.aload_n 0, 1) := by decide +kernel
theorem dX12_blocks_102 : decode cX12_blocks 102 = .ok (.iload 4, 2) := by decide +kernel
theorem dX12_blocks_104 : decode cX12_blocks 104 = .ok (.i2l, 1) := by decide +kernel
theorem dX12_blocks_105 : decode cX12_blocks 105 = .ok (.invokevirtual 167, 3) := by decide +kernel
theorem dX12_blocks_108 : decode cX12_blocks 108 = .ok (.iload_n 3, 1) := by decide +kernel
theorem dX12_blocks_109 : decode cX12_blocks 109 = .ok (.ireturn, 1) := by decide +kernel
theorem dX12_runs_0 : decode cX12_runs 0 = .ok (.aload_n 0, 1) := by decide +kernel
theorem dX12_runs_1 : decode cX12_runs 1 = .ok (.iconst 0, 1) := by decide +kernel
theorem dX12_runs_2 : decode cX12_runs 2 = .ok (.putfield 64, 3) := by decide +kernel
theorem dX12_runs_5 : decode cX12_runs 5 = .ok (.iload_n 1, 1) := by decide +kernel
theorem dX12_runs_6 : decode cX12_runs 6 = .ok (.invokestatic 164, 3) := by decide +kernel
theorem dX12_runs_9 : decode cX12_runs 9 = .ok (.ifCond .ne 5, 3) := by decide +kernel
theorem dX12_runs_12 : decode cX12_runs 12 = .ok (.iconst (-1), 1) := by decide +kernel
theorem dX12_runs_13 : decode cX12_runs 13 = .ok (.ireturn, 1) := by decide +kernel
theorem dX12_runs_14 : decode cX12_runs 14 = .ok (.iconst 0, 1) := by decide +kernel
theorem dX12_runs_15 : decode cX12_runs 15 = .ok (.istore_n 2, 1) := by decide +kernel
theorem dX12_runs_16 : decode cX12_runs 16 = .ok (.iconst 0, 1) := by decide +kernel
theorem dX12_runs_17 : decode cX12_runs 17 = .ok (.istore_n 3, 1) := by decide +kernel
theorem dX12_runs_18 : decode cX12_runs 18 = .ok (.iconst 0, 1) := by decide +kernel
theorem dX12_runs_19 : decode cX12_runs 19 = .ok (.istore 4, 2) := by decide +kernel
theorem dX12_runs_21 : decode cX12_runs 21 = .ok (.iconst 0, 1) := by decide +kernel
theorem dX12_runs_22 : decode cX12_runs 22 = .ok (.istore 5, 2) := by decide +kernel
theorem dX12_runs_24 : decode cX12_runs 24 = .ok (.iload 5, 2) := by decide +kernel
theorem dX12_runs_26 : decode cX12_runs 26 = .ok (.aload_n 0, 1) := by decide +kernel
theorem dX12_runs_27 : decode cX12_runs 27 = .ok (.getfield 9, 3) := by decide +kernel
theorem dX12_runs_30 : decode cX12_runs 30 = .ok (.iconst 0, 1) := by decide +kernel
theorem dX12_runs_31 : decode cX12_runs 31 = .ok (.iaload, 1) := by decide +kernel
theorem dX12_runs_32 : decode cX12_runs 32 = .ok (.if_icmp .ge 48, 3) := by decide +kernel
theorem dX12_runs_35 : decode cX12_runs 35 = .ok (.aload_n 0, 1) := by decide +kernel
theorem dX12_runs_36 : decode cX12_runs 36 = .ok (.iload 5, 2) := by decide +kernel
theorem dX12_runs_38 : decode cX12_runs 38 = .ok (.iload_n 1, 1) := by decide +kernel
theorem dX12_runs_39 : decode cX12_runs 39 = .ok (.invokevirtual 142, 3) := by decide +kernel
theorem dX12_runs_42 : decode cX12_runs 42 = .ok (.ifCond .eq 9, 3) := by decide +kernel
theorem dX12_runs_45 : decode cX12_runs 45 = .ok (.iload_n 3, 1) := by decide +kernel
theorem dX12_runs_46 : decode cX12_runs 46 = .ok (.iconst 1, 1) := by decide +kernel
theorem dX12_runs_47 : decode cX12_runs 47 = .ok (.iadd, 1) := by decide +kernel
theorem dX12_runs_48 : decode cX12_runs 48 = .ok (.goto 4, 3) := by decide +kernel
theorem dX12_runs_51 : decode cX12_runs 51 = .ok (.iconst 0, 1) := by decide +kernel
theorem dX12_runs_52 : decode cX12_runs 52 = .ok (.istore_n 3, 1) := by decide +kernel
theorem dX12_runs_53 : decode cX12_runs 53 = .ok (.iload_n 2, 1) := by decide +kernel
theorem dX12_runs_54 : decode cX12_runs 54 = .ok (.iload_n 3, 1) := by decide +kernel
theorem dX12_runs_55 : decode cX12_runs 55 = .ok (.iconst 1, 1) := by decide +kernel
theorem dX12_runs_56 : decode cX12_runs 56 = .ok (.if_icmp .ne 7, 3) := by decide +kernel
theorem dX12_runs_59 : decode cX12_runs 59 = .ok (.iconst 1, 1) := by decide +kernel
theorem dX12_runs_60 : decode cX12_runs 60 = .ok (.goto 4, 3) := by decide +kernel
theorem dX12_runs_63 : decode cX12_runs 63 = .ok (.iconst 0, 1) := by decide +kernel
theorem dX12_runs_64 : decode cX12_runs 64 = .ok (.iadd, 1) := by decide +kernel
theorem dX12_runs_65 : decode cX12_runs 65 = .ok (.istore_n 2, 1) := by decide +kernel
theorem dX12_runs_66 : decode cX12_runs 66 = .ok (.iload 4, 2) := by decide +kernel
theorem dX12_runs_68 : decode cX12_runs 68 = .ok (.iload_n 3, 1) := by decide +kernel
theorem dX12_runs_69 : decode cX12_runs 69 = .ok (.invokestatic 174, 3) := by decide +kernel
theorem dX12_runs_72 : decode cX12_runs 72 = .ok (.istore 4, 2) := by decide +kernel
theorem dX12_runs_74 : decode cX12_runs 74 = .ok (.iinc 5 1, 3) := by decide +kernel
theorem dX12_runs_77 : decode cX12_runs 77 = .ok (.goto (-53), 3) := by decide +kernel
theorem dX12_runs_80 : decode cX12_runs 80 = .ok (.aload_n 0, 1) := by decide +kernel
theorem dX12_runs_81 : decode cX12_runs 81 = .ok (.iconst 0, 1) := by decide +kernel
theorem dX12_runs_82 : decode cX12_runs 82 = .ok (.putfield 68, 3) := by decide +kernel
theorem dX12_runs_85 : decode cX12_runs 85 = .ok (.aload_n 0, 1) := by decide +kernel
theorem dX12_runs_86 : decode cX12_runs 86 = .ok (.iload 4, 2) := by decide +kernel
theorem dX12_runs_88 : decode cX12_runs 88 = .ok (.i2l, 1) := by decide +kernel
theorem dX12_runs_89 : decode cX12_runs 89 = .ok (.invokevirtual 167, 3) := by decide +kernel
theorem dX12_runs_92 : decode cX12_runs 92 = .ok (.iload_n 2, 1) := by decide +kernel
theorem dX12_runs_93 : decode cX12_runs 93 = .ok (.ireturn, 1) := by decide +kernel
theorem dX12_likeness_0 : decode cX12_likeness 0 = .ok (.aload_n 0, 1) := by decide +kernel
theorem dX12_likeness_1 : decode cX12_likeness 1 = .ok (.iconst 0, 1) := by decide +kernel
theorem dX12_likeness_2 : decode cX12_likeness 2 = .ok (.putfield 64, 3) := by decide +kernel
theorem dX12_likeness_5 : decode cX12_likeness 5 = .ok (.aload_n 0, 1) := by decide +kernel
theorem dX12_likeness_6 : decode cX12_likeness 6 = .ok (.getfield 9, 3) := by decide +kernel
theorem dX12_likeness_9 : decode cX12_likeness 9 = .ok (.iconst 0, 1) := by decide +kernel
theorem dX12_likeness_10 : decode cX12_likeness 10 = .ok (.iaload, 1) := by decide +kernel
theorem dX12_likeness_11 : decode cX12_likeness 11 = .ok (.iconst 2, 1) := by decide +kernel
theorem dX12_likeness_12 : decode cX12_likeness 12 = .ok (.if_icmp .ge 6, 3) := by decide +kernel
theorem dX12_likeness_15 : decode cX12_likeness 15 = .ok (.bipush (-2), 2) := by decide +kernel
theorem dX12_likeness_17 : decode cX12_likeness 17 = .ok (.ireturn, 1) := by decide +kernel
theorem dX12_likeness_18 : decode cX12_likeness 18 = .ok (.iconst 0, 1) := by decide +kernel
theorem dX12_likeness_19 : decode cX12_likeness 19 = .ok (.istore_n 1, 1) := by decide +kernel
theorem dX12_likeness_20 : decode cX12_likeness 20 = .ok (.iconst (-1), 1) := by decide +kernel
theorem dX12_likeness_21 : decode cX12_likeness 21 = .ok (.istore_n 2, 1) := by decide +kernel
theorem dX12_likeness_22 : decode cX12_likeness 22 = .ok (.iconst 0, 1) := by decide +kernel
theorem dX12_likeness_23 : decode cX12_likeness 23 = .ok (.istore_n 3, 1) := by decide +kernel
theorem dX12_likeness_24 : decode cX12_likeness 24 = .ok (.iconst 0, 1) := by decide +kernel
theorem dX12_likeness_25 : decode cX12_likeness 25 = .ok (.istore 4, 2) := by decide +kernel
theorem dX12_likeness_27 : decode cX12_likeness 27 = .ok (.iload 4, 2) := by decide +kernel
theorem dX12_likeness_29 : decode cX12_likeness 29 = .ok (.iconst 1, 1) := by decide +kernel
theorem dX12_likeness_30 : decode cX12_likeness 30 = .ok (.iadd, 1) := by decide +kernel
theorem dX12_likeness_31 : decode cX12_likeness 31 = .ok (.aload_n 0, 1) := by decide +kernel
theorem dX12_likeness_32 : decode cX12_likeness 32 = .ok (.getfield 9, 3) := by decide +kernel
theorem dX12_likeness_35 : decode cX12_likeness 35 = .ok (.iconst 0, 1) := by decide +kernel
theorem dX12_likeness_36 : decode cX12_likeness 36 = .ok (.iaload, 1) := by decide +kernel
theorem dX12_likeness_37 : decode cX12_likeness 37 = .ok (.if_icmp .ge 54, 3) := by decide +kernel
theorem dX12_likeness_40 : decode cX12_likeness 40 = .ok (.aload_n 0, 1) := by decide +kernel
theorem dX12_likeness_41 : decode cX12_likeness 41 = .ok (.aload_n 0, 1) := by decide +kernel
theorem dX12_likeness_42 : decode cX12_likeness 42 = .ok (.iload 4, 2) := by decide +kernel
theorem dX12_likeness_44 : decode cX12_likeness 44 = .ok (.invokevirtual 75, 3) := by decide +kernel
theorem dX12_likeness_47 : decode cX12_likeness 47 = .ok (.aload_n 0, 1) := by decide +kernel
theorem dX12_likeness_48 : decode cX12_likeness 48 = .ok (.iload 4, 2) := by decide +kernel
theorem dX12_likeness_50 : decode cX12_likeness 50 = .ok (.iconst 1, 1) := by decide +kernel
theorem dX12_likeness_51 : decode cX12_likeness 51 = .ok (.iadd, 1) := by decide +kernel
theorem dX12_likeness_52 : decode cX12_likeness 52 = .ok (.invokevirtual 75, 3) := by decide +kernel
theorem dX12_likeness_55 : decode cX12_likeness 55 = .ok (.invokevirtual 268, 3) := by decide +kernel
theorem dX12_likeness_58 : decode cX12_likeness 58 = .ok (.istore 5, 2) := by decide +kernel
theorem dX12_likeness_60 : decode cX12_likeness 60 = .ok (.iload_n 1, 1) := by decide +kernel
theorem dX12_likeness_61 : decode cX12_likeness 61 = .ok (.iload 5, 2) := by decide +kernel
theorem dX12_likeness_63 : decode cX12_likeness 63 = .ok (.iadd, 1) := by decide +kernel
theorem dX12_likeness_64 : decode cX12_likeness 64 = .ok (.istore_n 1, 1) := by decide +kernel
theorem dX12_likeness_65 : decode cX12_likeness 65 = .ok (.iload_n 2, 1) := by decide +kernel
theorem dX12_likeness_66 : decode cX12_likeness 66 = .ok (.iconst (-1), 1) := by decide +kernel
theorem dX12_likeness_67 : decode cX12_likeness 67 = .ok (.if_icmp .eq 12, 3) := by decide +kernel
theorem dX12_likeness_70 : decode cX12_likeness 70 = .ok (.iload 5, 2) := by decide +kernel
theorem dX12_likeness_72 : decode cX12_likeness 72 = .ok (.iload_n 3, 1) := by decide +kernel
theorem dX12_likeness_73 : decode cX12_likeness 73 = .ok (.if_icmp .lt 6, 3) := by decide +kernel
theorem dX12_likeness_76 : decode cX12_likeness 76 = .ok (.goto 9, 3) := by decide +kernel
theorem dX12_likeness_79 : decode cX12_likeness 79 = .ok (.iload 4, 2) := by decide +kernel
theorem dX12_likeness_81 : decode cX12_likeness 81 = .ok (.istore_n 2, 1) := by decide +kernel
theorem dX12_likeness_82 : decode cX12_likeness 82 = .ok (.iload 5, 2) := by decide +kernel
theorem dX12_likeness_84 : decode cX12_likeness 84 = .ok (.istore_n 3, 1) := by decide +kernel
theorem dX12_likeness_85 : decode cX12_likeness 85 = .ok (.iinc 4 1, 3) := by decide +kernel
theorem dX12_likeness_88 : decode cX12_likeness 88 = .ok (.goto (-61), 3) := by decide +kernel
theorem dX12_likeness_91 : decode cX12_likeness 91 = .ok (.aload_n 0, 1) := by decide +kernel
theorem dX12_likeness_92 : decode cX12_likeness 92 = .ok (.iconst 0, 1) := by decide +kernel
theorem dX12_likeness_93 : decode cX12_likeness 93 = .ok (.putfield 68, 3) := by decide +kernel
theorem dX12_likeness_96 : decode cX12_likeness 96 = .ok (.aload_n 0, 1) := by decide +kernel
theorem dX12_likeness_97 : decode cX12_likeness 97 = .ok (.iload_n 3, 1) := by decide +kernel
theorem dX12_likeness_98 : decode cX12_likeness 98 = .ok (.i2l, 1) := by decide +kernel
theorem dX12_likeness_99 : decode cX12_likeness 99 = .ok (.invokevirtual 167, 3) := by decide +kernel
theorem dX12_likeness_102 : decode cX12_likeness 102 = .ok (.aload_n 0, 1) := by decide +kernel
theorem dX12_likeness_103 : decode cX12_likeness 103 = .ok (.iload_n 2, 1) := by decide +kernel
theorem dX12_likeness_104 : decode cX12_likeness 104 = .ok (.i2l, 1) := by decide +kernel
theorem dX12_likeness_105 : decode cX12_likeness 105 = .ok (.invokevirtual 167, 3) := by decide +kernel
theorem dX12_likeness_108 : decode cX12_likeness 108 = .ok (.sipush 1000, 3) := by decide +kernel
theorem dX12_likeness_111 : decode cX12_likeness 111 = .ok (.iload_n 1, 1) := by decide +kernel
theorem dX12_likeness_112 : decode cX12_likeness 112 = .ok (.iadd, 1) := by decide +kernel
theorem dX12_likeness_113 : decode cX12_likeness 113 = .ok (.ireturn, 1) := by decide +kernel
theorem dX12_nearest_0 : decode cX12_nearest 0 = .ok (.aload_n 0, 1) := by decide +kernel
theorem dX12_nearest_1 : decode cX12_nearest 1 = .ok (.iconst 0, 1) := by decide +kernel
theorem dX12_nearest_2 : decode cX12_nearest 2 = .ok (.putfield 64, 3) := by decide +kernel
theorem dX12_nearest_5 : decode cX12_nearest 5 = .ok (.aload_n 0, 1) := by decide +kernel
theorem dX12_nearest_6 : decode cX12_nearest 6 = .ok (.iload_n 1, 1) := by decide +kernel
theorem dX12_nearest_7 : decode cX12_nearest 7 = .ok (.invokevirtual 126, 3) := by decide +kernel
theorem dX12_nearest_10 : decode cX12_nearest 10 = .ok (.ifCond .ne 5, 3) := by decide +kernel
theorem dX12_nearest_13 : decode cX12_nearest 13 = .ok (.iconst (-1), 1) := by decide +kernel
theorem dX12_nearest_14 : decode cX12_nearest 14 = .ok (.ireturn, 1) := by decide +kernel
theorem dX12_nearest_15 : decode cX12_nearest 15 = .ok (.aload_n 0, 1) := by decide +kernel
theorem dX12_nearest_16 : decode cX12_nearest 16 = .ok (.getfield 9, 3) := by decide +kernel
theorem dX12_nearest_19 : decode cX12_nearest 19 = .ok (.iconst 0, 1) := by decide +kernel
theorem dX12_nearest_20 : decode cX12_nearest 20 = .ok (.iaload, 1) := by decide +kernel
theorem dX12_nearest_21 : decode cX12_nearest 21 = .ok (.iconst 1, 1) := by decide +kernel
theorem dX12_nearest_22 : decode cX12_nearest 22 = .ok (.if_icmp .ne 6, 3) := by decide +kernel
theorem dX12_nearest_25 : decode cX12_nearest 25 = .ok (.bipush (-2), 2) := by decide +kernel
theorem dX12_nearest_27 : decode cX12_nearest 27 = .ok (.ireturn, 1) := by decide +kernel
theorem dX12_nearest_28 : decode cX12_nearest 28 = .ok (.iconst (-1), 1) := by decide +kernel
theorem dX12_nearest_29 : decode cX12_nearest 29 = .ok (.istore_n 2, 1) := by decide +kernel
theorem dX12_nearest_30 : decode cX12_nearest 30 = .ok (.iconst 0, 1) := by decide +kernel
theorem dX12_nearest_31 : decode cX12_nearest 31 = .ok (.istore_n 3, 1) := by decide +kernel
theorem dX12_nearest_32 : decode cX12_nearest 32 = .ok (.iload_n 3, 1) := by decide +kernel
theorem dX12_nearest_33 : decode cX12_nearest 33 = .ok (.aload_n 0, 1) := by decide +kernel
theorem dX12_nearest_34 : decode cX12_nearest 34 = .ok (.getfield 9, 3) := by decide +kernel
theorem dX12_nearest_37 : decode cX12_nearest 37 = .ok (.iconst 0, 1) := by decide +kernel
theorem dX12_nearest_38 : decode cX12_nearest 38 = .ok (.iaload, 1) := by decide +kernel
theorem dX12_nearest_39 : decode cX12_nearest 39 = .ok (.if_icmp .ge 36, 3) := by decide +kernel
theorem dX12_nearest_42 : decode cX12_nearest 42 = .ok (.iload_n 3, 1) := by decide +kernel
theorem dX12_nearest_43 : decode cX12_nearest 43 = .ok (.iload_n 1, 1) := by decide +kernel
theorem dX12_nearest_44 : decode cX12_nearest 44 = .ok (.if_icmp .eq 25, 3) := by decide +kernel
theorem dX12_nearest_47 : decode cX12_nearest 47 = .ok (.iload_n 2, 1) := by decide +kernel
theorem dX12_nearest_48 : decode cX12_nearest 48 = .ok (.iconst (-1), 1) := by decide +kernel
theorem dX12_nearest_49 : decode cX12_nearest 49 = .ok (.if_icmp .eq 18, 3) := by decide +kernel
theorem dX12_nearest_52 : decode cX12_nearest 52 = .ok (.aload_n 0, 1) := by decide +kernel
theorem dX12_nearest_53 : decode cX12_nearest 53 = .ok (.iload_n 1, 1) := by decide +kernel
theorem dX12_nearest_54 : decode cX12_nearest 54 = .ok (.iload_n 3, 1) := by decide +kernel
theorem dX12_nearest_55 : decode cX12_nearest 55 = .ok (.invokevirtual 268, 3) := by decide +kernel
theorem dX12_nearest_58 : decode cX12_nearest 58 = .ok (.aload_n 0, 1) := by decide +kernel
theorem dX12_nearest_59 : decode cX12_nearest 59 = .ok (.iload_n 1, 1) := by decide +kernel
theorem dX12_nearest_60 : decode cX12_nearest 60 = .ok (.iload_n 2, 1) := by decide +kernel
theorem dX12_nearest_61 : decode cX12_nearest 61 = .ok (.invokevirtual 268, 3) := by decide +kernel
theorem dX12_nearest_64 : decode cX12_nearest 64 = .ok (.if_icmp .le 5, 3) := by decide +kernel
theorem dX12_nearest_67 : decode cX12_nearest 67 = .ok (.iload_n 3, 1) := by decide +kernel
theorem dX12_nearest_68 : decode cX12_nearest 68 = .ok (.istore_n 2, 1) := by decide +kernel
theorem dX12_nearest_69 : decode cX12_nearest 69 = .ok (.iinc 3 1, 3) := by decide +kernel
theorem dX12_nearest_72 : decode cX12_nearest 72 = .ok (.goto (-40), 3) := by decide +kernel
theorem dX12_nearest_75 : decode cX12_nearest 75 = .ok (.aload_n 0, 1) := by decide +kernel
theorem dX12_nearest_76 : decode cX12_nearest 76 = .ok (.iconst 0, 1) := by decide +kernel
theorem dX12_nearest_77 : decode cX12_nearest 77 = .ok (.putfield 68, 3) := by decide +kernel
theorem dX12_nearest_80 : decode cX12_nearest 80 = .ok (.aload_n 0, 1) := by decide +kernel
theorem dX12_nearest_81 : decode cX12_nearest 81 = .ok (.sipush 1000, 3) := by decide +kernel
theorem dX12_nearest_84 : decode cX12_nearest 84 = .ok (.aload_n 0, 1) := by decide +kernel
theorem dX12_nearest_85 : decode cX12_nearest 85 = .ok (.iload_n 1, 1) := by decide +kernel
theorem dX12_nearest_86 : decode cX12_nearest 86 = .ok (.iload_n 2, 1) := by decide +kernel
theorem dX12_nearest_87 : decode cX12_nearest 87 = .ok (.invokevirtual 268, 3) := by decide +kernel
theorem dX12_nearest_90 : decode cX12_nearest 90 = .ok (.iadd, 1) := by decide +kernel
theorem dX12_nearest_91 : decode cX12_nearest 91 = .ok (.i2l, 1) := by decide +kernel
theorem dX12_nearest_92 : decode cX12_nearest 92 = .ok (.invokevirtual 167, 3) := by decide +kernel
theorem dX12_nearest_95 : decode cX12_nearest 95 = .ok (.iload_n 2, 1) := by decide +kernel
theorem dX12_nearest_96 : decode cX12_nearest 96 = .ok (.ireturn, 1) := by decide +kernel
theorem dX12_heard_0 : decode cX12_heard 0 = .ok (.aload_n 0, 1) := by decide +kernel
theorem dX12_heard_1 : decode cX12_heard 1 = .ok (.iconst 0, 1) := by decide +kernel
theorem dX12_heard_2 : decode cX12_heard 2 = .ok (.putfield 64, 3) := by decide +kernel
theorem dX12_heard_5 : decode cX12_heard 5 = .ok (.iload_n 1, 1) := by decide +kernel
theorem dX12_heard_6 : decode cX12_heard 6 = .ok (.iconst 0, 1) := by decide +kernel
theorem dX12_heard_7 : decode cX12_heard 7 = .ok (.iconst 1, 1) := by decide +kernel
theorem dX12_heard_8 : decode cX12_heard 8 = .ok (.invokestatic 71, 3) := by decide +kernel
theorem dX12_heard_11 : decode cX12_heard 11 = .ok (.ifCond .eq 40, 3) := by decide +kernel
theorem dX12_heard_14 : decode cX12_heard 14 = .ok (.iload_n 3, 1) := by decide +kernel
theorem dX12_heard_15 : decode cX12_heard 15 = .ok (.iconst 0, 1) := by decide +kernel
theorem dX12_heard_16 : decode cX12_heard 16 = .ok (.iconst 1, 1) := by decide +kernel
theorem dX12_heard_17 : decode cX12_heard 17 = .ok (.invokestatic 71, 3) := by decide +kernel
theorem dX12_heard_20 : decode cX12_heard 20 = .ok (.ifCond .eq 31, 3) := by decide +kernel
theorem dX12_heard_23 : decode cX12_heard 23 = .ok (.iload_n 2, 1) := by decide +kernel
theorem dX12_heard_24 : decode cX12_heard 24 = .ok (.iconst 0, 1) := by decide +kernel
theorem dX12_heard_25 : decode cX12_heard 25 = .ok (.iload_n 1, 1) := by decide +kernel
theorem dX12_heard_26 : decode cX12_heard 26 = .ok (.ifCond .ne 8, 3) := by decide +kernel
theorem dX12_heard_29 : decode cX12_heard 29 = .ok (.bipush 7, 2) := by decide +kernel
theorem dX12_heard_31 : decode cX12_heard 31 = .ok (.goto 5, 3) := by decide +kernel
theorem dX12_heard_34 : decode cX12_heard 34 = .ok (.bipush 15, 2) := by decide +kernel
theorem dX12_heard_36 : decode cX12_heard 36 = .ok (.invokestatic 71, 3) := by decide +kernel
theorem dX12_heard_39 : decode cX12_heard 39 = .ok (.ifCond .eq 12, 3) := by decide +kernel
theorem dX12_heard_42 : decode cX12_heard 42 = .ok (.aload_n 0, 1) := by decide +kernel
theorem dX12_heard_43 : decode cX12_heard 43 = .ok (.getfield 304, 3) := by decide +kernel
theorem dX12_heard_46 : decode cX12_heard 46 = .ok (.bipush 8, 2) := by decide +kernel
theorem dX12_heard_48 : decode cX12_heard 48 = .ok (.if_icmp .ne 5, 3) := by decide +kernel
theorem dX12_heard_51 : decode cX12_heard 51 = .ok (.iconst (-1), 1) := by decide +kernel
theorem dX12_heard_52 : decode cX12_heard 52 = .ok (.ireturn, 1) := by decide +kernel
theorem dX12_heard_53 : decode cX12_heard 53 = .ok (.aload_n 0, 1) := by decide +kernel
theorem dX12_heard_54 : decode cX12_heard 54 = .ok (.getfield 45, 3) := by decide +kernel
theorem dX12_heard_57 : decode cX12_heard 57 = .ok (.iconst 3, 1) := by decide +kernel
theorem dX12_heard_58 : decode cX12_heard 58 = .ok (.aload_n 0, 1) := by decide +kernel
theorem dX12_heard_59 : decode cX12_heard 59 = .ok (.getfield 304, 3) := by decide +kernel
theorem dX12_heard_62 : decode cX12_heard 62 = .ok (.imul, 1) := by decide +kernel
theorem dX12_heard_63 : decode cX12_heard 63 = .ok (.iload_n 1, 1) := by decide +kernel
theorem dX12_heard_64 : decode cX12_heard 64 = .ok (.iastore, 1) := by decide +kernel
theorem dX12_heard_65 : decode cX12_heard 65 = .ok (.aload_n 0, 1) := by decide +kernel
theorem dX12_heard_66 : decode cX12_heard 66 = .ok (.getfield 45, 3) := by decide +kernel
theorem dX12_heard_69 : decode cX12_heard 69 = .ok (.iconst 3, 1) := by decide +kernel
theorem dX12_heard_70 : decode cX12_heard 70 = .ok (.aload_n 0, 1) := by decide +kernel
theorem dX12_heard_71 : decode cX12_heard 71 = .ok (.getfield 304, 3) := by decide +kernel
theorem dX12_heard_74 : decode cX12_heard 74 = .ok (.imul, 1) := by decide +kernel
theorem dX12_heard_75 : decode cX12_heard 75 = .ok (.iconst 1, 1) := by decide +kernel
theorem dX12_heard_76 : decode cX12_heard 76 = .ok (.iadd, 1) := by decide +kernel
theorem dX12_heard_77 : decode cX12_heard 77 = .ok (.iload_n 2, 1) := by decide +kernel
theorem dX12_heard_78 : decode cX12_heard 78 = .ok (.iastore, 1) := by decide +kernel
theorem dX12_heard_79 : decode cX12_heard 79 = .ok (.aload_n 0, 1) := by decide +kernel
theorem dX12_heard_80 : decode cX12_heard 80 = .ok (.getfield 45, 3) := by decide +kernel
theorem dX12_heard_83 : decode cX12_heard 83 = .ok (.iconst 3, 1) := by decide +kernel
theorem dX12_heard_84 : decode cX12_heard 84 = .ok (.aload_n 0, 1) := by decide +kernel
theorem dX12_heard_85 : decode cX12_heard 85 = .ok (.getfield 304, 3) := by decide +kernel
theorem dX12_heard_88 : decode cX12_heard 88 = .ok (.imul, 1) := by decide +kernel
theorem dX12_heard_89 : decode cX12_heard 89 = .ok (.iconst 2, 1) := by decide +kernel
theorem dX12_heard_90 : decode cX12_heard 90 = .ok (.iadd, 1) := by decide +kernel
theorem dX12_heard_91 : decode cX12_heard 91 = .ok (.iload_n 3, 1) := by decide +kernel
theorem dX12_heard_92 : decode cX12_heard 92 = .ok (.iastore, 1) := by decide +kernel
theorem dX12_heard_93 : decode cX12_heard 93 = .ok (.aload_n 0, 1) := by decide +kernel
theorem dX12_heard_94 : decode cX12_heard 94 = .ok (.dup, 1) := by decide +kernel
theorem dX12_heard_95 : decode cX12_heard 95 = .ok (.getfield 304, 3) := by decide +kernel
theorem dX12_heard_98 : decode cX12_heard 98 = .ok (.iconst 1, 1) := by decide +kernel
theorem dX12_heard_99 : decode cX12_heard 99 = .ok (.iadd, 1) := by decide +kernel
theorem dX12_heard_100 : decode cX12_heard 100 = .ok (.putfield 304, 3) := by decide +kernel
theorem dX12_heard_103 : decode cX12_heard 103 = .ok (.aload_n 0, 1) := by decide +kernel
theorem dX12_heard_104 : decode cX12_heard 104 = .ok (.getfield 304, 3) := by decide +kernel
theorem dX12_heard_107 : decode cX12_heard 107 = .ok (.ireturn, 1) := by decide +kernel
theorem dX12_forget_0 : decode cX12_forget 0 = .ok (.aload_n 0, 1) := by decide +kernel
theorem dX12_forget_1 : decode cX12_forget 1 = .ok (.iconst 0, 1) := by decide +kernel
theorem dX12_forget_2 : decode cX12_forget 2 = .ok (.putfield 64, 3) := by decide +kernel
theorem dX12_forget_5 : decode cX12_forget 5 = .ok (.aload_n 0, 1) := by decide +kernel
theorem dX12_forget_6 : decode cX12_forget 6 = .ok (.getfield 304, 3) := by decide +kernel
theorem dX12_forget_9 : decode cX12_forget 9 = .ok (.istore_n 1, 1) := by decide +kernel
theorem dX12_forget_10 : decode cX12_forget 10 = .ok (.aload_n 0, 1) := by decide +kernel
theorem dX12_forget_11 : decode cX12_forget 11 = .ok (.iconst 0, 1) := by decide +kernel
theorem dX12_forget_12 : decode cX12_forget 12 = .ok (.putfield 304, 3) := by decide +kernel
theorem dX12_forget_15 : decode cX12_forget 15 = .ok (.iload_n 1, 1) := by decide +kernel
theorem dX12_forget_16 : decode cX12_forget 16 = .ok (.ireturn, 1) := by decide +kernel
theorem dX12_fitting_0 : decode cX12_fitting 0 = .ok (.iconst 0, 1) := by decide +kernel
theorem dX12_fitting_1 : decode cX12_fitting 1 = .ok (.istore_n 1, 1) := by decide +kernel
theorem dX12_fitting_2 : decode cX12_fitting 2 = .ok (.iconst 0, 1) := by decide +kernel
theorem dX12_fitting_3 : decode cX12_fitting 3 = .ok (.istore_n 2, 1) := by decide +kernel
theorem dX12_fitting_4 : decode cX12_fitting 4 = .ok (.iload_n 2, 1) := by decide +kernel
theorem dX12_fitting_5 : decode cX12_fitting 5 = .ok (.aload_n 0, 1) := by decide +kernel
theorem dX12_fitting_6 : decode cX12_fitting 6 = .ok (.getfield 9, 3) := by decide +kernel
theorem dX12_fitting_9 : decode cX12_fitting 9 = .ok (.iconst 0, 1) := by decide +kernel
theorem dX12_fitting_10 : decode cX12_fitting 10 = .ok (.iaload, 1) := by decide +kernel
theorem dX12_fitting_11 : decode cX12_fitting 11 = .ok (.if_icmp .ge 139, 3) := by decide +kernel
theorem dX12_fitting_14 : decode cX12_fitting 14 = .ok (.iconst 1, 1) := by decide +kernel
theorem dX12_fitting_15 : decode cX12_fitting 15 = .ok (.istore_n 3, 1) := by decide +kernel
theorem dX12_fitting_16 : decode cX12_fitting 16 = .ok (.iconst 0, 1) := by decide +kernel
theorem dX12_fitting_17 : decode cX12_fitting 17 = .ok (.istore 4, 2) := by decide +kernel
theorem dX12_fitting_19 : decode cX12_fitting 19 = .ok (.iload 4, 2) := by decide +kernel
theorem dX12_fitting_21 : decode cX12_fitting 21 = .ok (.iconst 3, 1) := by decide +kernel
theorem dX12_fitting_22 : decode cX12_fitting 22 = .ok (.aload_n 0, 1) := by decide +kernel
theorem dX12_fitting_23 : decode cX12_fitting 23 = .ok (.getfield 304, 3) := by decide +kernel
theorem dX12_fitting_26 : decode cX12_fitting 26 = .ok (.imul, 1) := by decide +kernel
theorem dX12_fitting_27 : decode cX12_fitting 27 = .ok (.if_icmp .ge 103, 3) := by decide +kernel
theorem dX12_fitting_30 : decode cX12_fitting 30 = .ok (.aload_n 0, 1) := by decide +kernel
theorem dX12_fitting_31 : decode cX12_fitting 31 = .ok (.getfield 45, 3) := by decide +kernel
theorem dX12_fitting_34 : decode cX12_fitting 34 = .ok (.iload 4, 2) := by decide +kernel
theorem dX12_fitting_36 : decode cX12_fitting 36 = .ok (.iaload, 1) := by decide +kernel
theorem dX12_fitting_37 : decode cX12_fitting 37 = .ok (.ifCond .ne 26, 3) := by decide +kernel
theorem dX12_fitting_40 : decode cX12_fitting 40 = .ok (.aload_n 0, 1) := by decide +kernel
theorem dX12_fitting_41 : decode cX12_fitting 41 = .ok (.getfield 9, 3) := by decide +kernel
theorem dX12_fitting_44 : decode cX12_fitting 44 = .ok (.iconst 1, 1) := by decide +kernel
theorem dX12_fitting_45 : decode cX12_fitting 45 = .ok (.iload_n 2, 1) := by decide +kernel
theorem dX12_fitting_46 : decode cX12_fitting 46 = .ok (.iadd, 1) := by decide +kernel
theorem dX12_fitting_47 : decode cX12_fitting 47 = .ok (.iaload, 1) := by decide +kernel
theorem dX12_fitting_48 : decode cX12_fitting 48 = .ok (.aload_n 0, 1) := by decide +kernel
theorem dX12_fitting_49 : decode cX12_fitting 49 = .ok (.getfield 45, 3) := by decide +kernel
theorem dX12_fitting_52 : decode cX12_fitting 52 = .ok (.iload 4, 2) := by decide +kernel
theorem dX12_fitting_54 : decode cX12_fitting 54 = .ok (.iconst 1, 1) := by decide +kernel
theorem dX12_fitting_55 : decode cX12_fitting 55 = .ok (.iadd, 1) := by decide +kernel
theorem dX12_fitting_56 : decode cX12_fitting 56 = .ok (.iaload, 1) := by decide +kernel
theorem dX12_fitting_57 : decode cX12_fitting 57 = .ok (.invokestatic 79, 3) := by decide +kernel
theorem dX12_fitting_60 : decode cX12_fitting 60 = .ok (.goto 29, 3) := by decide +kernel
theorem dX12_fitting_63 : decode cX12_fitting 63 = .ok (.aload_n 0, 1) := by decide +kernel
theorem dX12_fitting_64 : decode cX12_fitting 64 = .ok (.getfield 9, 3) := by decide +kernel
theorem dX12_fitting_67 : decode cX12_fitting 67 = .ok (.bipush 17, 2) := by decide +kernel
theorem dX12_fitting_69 : decode cX12_fitting 69 = .ok (.iload_n 2, 1) := by decide +kernel
theorem dX12_fitting_70 : decode cX12_fitting 70 = .ok (.iadd, 1) := by decide +kernel
theorem dX12_fitting_71 : decode cX12_fitting 71 = .ok (.iaload, 1) := by decide +kernel
theorem dX12_fitting_72 : decode cX12_fitting 72 = .ok (.aload_n 0, 1) := by decide +kernel
theorem dX12_fitting_73 : decode cX12_fitting 73 = .ok (.getfield 45, 3) := by decide +kernel
theorem dX12_fitting_76 : decode cX12_fitting 76 = .ok (.iload 4, 2) := by decide +kernel
theorem dX12_fitting_78 : decode cX12_fitting 78 = .ok (.iconst 1, 1) := by decide +kernel
theorem dX12_fitting_79 : decode cX12_fitting 79 = .ok (.iadd, 1) := by decide +kernel
theorem dX12_fitting_80 : decode cX12_fitting 80 = .ok (.iaload, 1) := by decide +kernel
theorem dX12_fitting_81 : decode cX12_fitting 81 = .ok (.if_icmp .lt 7, 3) := by decide +kernel
theorem dX12_fitting_84 : decode cX12_fitting 84 = .ok (.iconst 1, 1) := by decide +kernel
theorem dX12_fitting_85 : decode cX12_fitting 85 = .ok (.goto 4, 3) := by decide +kernel
theorem dX12_fitting_88 : decode cX12_fitting 88 = .ok (.iconst 0, 1) := by decide +kernel
theorem dX12_fitting_89 : decode cX12_fitting 89 = .ok (.istore 5, 2) := by decide +kernel
theorem dX12_fitting_91 : decode cX12_fitting 91 = .ok (.iload_n 3, 1) := by decide +kernel
theorem dX12_fitting_92 : decode cX12_fitting 92 = .ok (.ifCond .eq 30, 3) := by decide +kernel
theorem dX12_fitting_95 : decode cX12_fitting 95 = .ok (.iload 5, 2) := by decide +kernel
theorem dX12_fitting_97 : decode cX12_fitting 97 = .ok (.aload_n 0, 1) := by decide +kernel
theorem dX12_fitting_98 : decode cX12_fitting 98 = .ok (.getfield 45, 3) := by decide +kernel
theorem dX12_fitting_101 : decode cX12_fitting 101 = .ok (.iload 4, 2) := by decide +kernel
theorem dX12_fitting_103 : decode cX12_fitting 103 = .ok (.iconst 2, 1) := by decide +kernel
theorem dX12_fitting_104 : decode cX12_fitting 104 = .ok (.iadd, 1) := by decide +kernel
theorem dX12_fitting_105 : decode cX12_fitting 105 = .ok (.iaload, 1) := by decide +kernel
theorem dX12_fitting_106 : decode cX12_fitting 106 = .ok (.iconst 1, 1) := by decide +kernel
theorem dX12_fitting_107 : decode cX12_fitting 107 = .ok (.if_icmp .ne 7, 3) := by decide +kernel
theorem dX12_fitting_110 : decode cX12_fitting 110 = .ok (.iconst 1, 1) := by decide +kernel
theorem dX12_fitting_111 : decode cX12_fitting 111 = .ok (.goto 4, 3) := by decide +kernel
theorem dX12_fitting_114 : decode cX12_fitting 114 = .ok (.iconst 0, 1) := by decide +kernel
theorem dX12_fitting_115 : decode cX12_fitting 115 = .ok (.if_icmp .ne 7, 3) := by decide +kernel
theorem dX12_fitting_118 : decode cX12_fitting 118 = .ok (.iconst 1, 1) := by decide +kernel
theorem dX12_fitting_119 : decode cX12_fitting 119 = .ok (.goto 4, 3) := by decide +kernel
theorem dX12_fitting_122 : decode cX12_fitting 122 = .ok (.iconst 0, 1) := by decide +kernel
theorem dX12_fitting_123 : decode cX12_fitting 123 = .ok (.istore_n 3, 1) := by decide +kernel
theorem dX12_fitting_124 : decode cX12_fitting 124 = .ok (.iinc 4 3, 3) := by decide +kernel
theorem dX12_fitting_127 : decode cX12_fitting 127 = .ok (.goto (-108), 3) := by decide +kernel
theorem dX12_fitting_130 : decode cX12_fitting 130 = .ok (.iload_n 1, 1) := by decide +kernel
theorem dX12_fitting_131 : decode cX12_fitting 131 = .ok (.iload_n 3, 1) := by decide +kernel
theorem dX12_fitting_132 : decode cX12_fitting 132 = .ok (.ifCond .eq 9, 3) := by decide +kernel
theorem dX12_fitting_135 : decode cX12_fitting 135 = .ok (.iconst 1, 1) := by decide +kernel
theorem dX12_fitting_136 : decode cX12_fitting 136 = .ok (.iload_n 2, 1) := by decide +kernel
theorem dX12_fitting_137 : decode cX12_fitting 137 = .ok (.ishl, 1) := by decide +kernel
theorem dX12_fitting_138 : decode cX12_fitting 138 = .ok (.goto 4, 3) := by decide +kernel
theorem dX12_fitting_141 : decode cX12_fitting 141 = .ok (.iconst 0, 1) := by decide +kernel
theorem dX12_fitting_142 : decode cX12_fitting 142 = .ok (.ior, 1) := by decide +kernel
theorem dX12_fitting_143 : decode cX12_fitting 143 = .ok (.istore_n 1, 1) := by decide +kernel
theorem dX12_fitting_144 : decode cX12_fitting 144 = .ok (.iinc 2 1, 3) := by decide +kernel
theorem dX12_fitting_147 : decode cX12_fitting 147 = .ok (.goto (-143), 3) := by decide +kernel
theorem dX12_fitting_150 : decode cX12_fitting 150 = .ok (.iload_n 1, 1) := by decide +kernel
theorem dX12_fitting_151 : decode cX12_fitting 151 = .ok (.ireturn, 1) := by decide +kernel
theorem dX12_fits_0 : decode cX12_fits 0 = .ok (.aload_n 0, 1) := by decide +kernel
theorem dX12_fits_1 : decode cX12_fits 1 = .ok (.iconst 0, 1) := by decide +kernel
theorem dX12_fits_2 : decode cX12_fits 2 = .ok (.putfield 64, 3) := by decide +kernel
theorem dX12_fits_5 : decode cX12_fits 5 = .ok (.aload_n 0, 1) := by decide +kernel
theorem dX12_fits_6 : decode cX12_fits 6 = .ok (.invokevirtual 307, 3) := by decide +kernel
theorem dX12_fits_9 : decode cX12_fits 9 = .ok (.istore_n 1, 1) := by decide +kernel
theorem dX12_fits_10 : decode cX12_fits 10 = .ok (.aload_n 0, 1) := by decide +kernel
theorem dX12_fits_11 : decode cX12_fits 11 = .ok (.iconst 0, 1) := by decide +kernel
theorem dX12_fits_12 : decode cX12_fits 12 = .ok (.putfield 68, 3) := by decide +kernel
theorem dX12_fits_15 : decode cX12_fits 15 = .ok (.aload_n 0, 1) := by decide +kernel
theorem dX12_fits_16 : decode cX12_fits 16 = .ok (.iload_n 1, 1) := by decide +kernel
theorem dX12_fits_17 : decode cX12_fits 17 = .ok (.invokestatic 136, 3) := by decide +kernel
theorem dX12_fits_20 : decode cX12_fits 20 = .ok (.i2l, 1) := by decide +kernel
theorem dX12_fits_21 : decode cX12_fits 21 = .ok (.invokevirtual 167, 3) := by decide +kernel
theorem dX12_fits_24 : decode cX12_fits 24 = .ok (.iload_n 1, 1) := by decide +kernel
theorem dX12_fits_25 : decode cX12_fits 25 = .ok (.ireturn, 1) := by decide +kernel
theorem dX12_asks_0 : decode cX12_asks 0 = .ok (.aload_n 0, 1) := by decide +kernel
theorem dX12_asks_1 : decode cX12_asks 1 = .ok (.iconst 0, 1) := by decide +kernel
theorem dX12_asks_2 : decode cX12_asks 2 = .ok (.putfield 64, 3) := by decide +kernel
theorem dX12_asks_5 : decode cX12_asks 5 = .ok (.aload_n 0, 1) := by decide +kernel
theorem dX12_asks_6 : decode cX12_asks 6 = .ok (.invokevirtual 307, 3) := by decide +kernel
theorem dX12_asks_9 : decode cX12_asks 9 = .ok (.istore_n 1, 1) := by decide +kernel
theorem dX12_asks_10 : decode cX12_asks 10 = .ok (.iload_n 1, 1) := by decide +kernel
theorem dX12_asks_11 : decode cX12_asks 11 = .ok (.ifCond .ne 6, 3) := by decide +kernel
theorem dX12_asks_14 : decode cX12_asks 14 = .ok (.bipush (-2), 2) := by decide +kernel
theorem dX12_asks_16 : decode cX12_asks 16 = .ok (.ireturn, 1) := by decide +kernel
theorem dX12_asks_17 : decode cX12_asks 17 = .ok (.iconst (-1), 1) := by decide +kernel
theorem dX12_asks_18 : decode cX12_asks 18 = .ok (.istore_n 2, 1) := by decide +kernel
theorem dX12_asks_19 : decode cX12_asks 19 = .ok (.iconst 0, 1) := by decide +kernel
theorem dX12_asks_20 : decode cX12_asks 20 = .ok (.istore_n 3, 1) := by decide +kernel
theorem dX12_asks_21 : decode cX12_asks 21 = .ok (.iconst 0, 1) := by decide +kernel
theorem dX12_asks_22 : decode cX12_asks 22 = .ok (.istore 4, 2) := by decide +kernel
theorem dX12_asks_24 : decode cX12_asks 24 = .ok (.iload 4, 2) := by decide +kernel
theorem dX12_asks_26 : decode cX12_asks 26 = .ok (.bipush 8, 2) := by decide +kernel
theorem dX12_asks_28 : decode cX12_asks 28 = .ok (.if_icmp .ge 102, 3) := by decide +kernel
theorem dX12_asks_31 : decode cX12_asks 31 = .ok (.iconst 0, 1) := by decide +kernel
theorem dX12_asks_32 : decode cX12_asks 32 = .ok (.istore 5, 2) := by decide +kernel
theorem dX12_asks_34 : decode cX12_asks 34 = .ok (.iconst 0, 1) := by decide +kernel
theorem dX12_asks_35 : decode cX12_asks 35 = .ok (.istore 6, 2) := by decide +kernel
theorem dX12_asks_37 : decode cX12_asks 37 = .ok (.iload 6, 2) := by decide +kernel
theorem dX12_asks_39 : decode cX12_asks 39 = .ok (.aload_n 0, 1) := by decide +kernel
theorem dX12_asks_40 : decode cX12_asks 40 = .ok (.getfield 9, 3) := by decide +kernel
theorem dX12_asks_43 : decode cX12_asks 43 = .ok (.iconst 0, 1) := by decide +kernel
theorem dX12_asks_44 : decode cX12_asks 44 = .ok (.iaload, 1) := by decide +kernel
theorem dX12_asks_45 : decode cX12_asks 45 = .ok (.if_icmp .ge 45, 3) := by decide +kernel
theorem dX12_asks_48 : decode cX12_asks 48 = .ok (.iload 5, 2) := by decide +kernel
theorem dX12_asks_50 : decode cX12_asks 50 = .ok (.iload_n 1, 1) := by decide +kernel
theorem dX12_asks_51 : decode cX12_asks 51 = .ok (.iload 6, 2) := by decide +kernel
theorem dX12_asks_53 : decode cX12_asks 53 = .ok (.invokestatic 79, 3) := by decide +kernel
theorem dX12_asks_56 : decode cX12_asks 56 = .ok (.ifCond .eq 24, 3) := by decide +kernel
theorem dX12_asks_59 : decode cX12_asks 59 = .ok (.aload_n 0, 1) := by decide +kernel
theorem dX12_asks_60 : decode cX12_asks 60 = .ok (.getfield 9, 3) := by decide +kernel
theorem dX12_asks_63 : decode cX12_asks 63 = .ok (.iconst 1, 1) := by decide +kernel
theorem dX12_asks_64 : decode cX12_asks 64 = .ok (.iload 6, 2) := by decide +kernel
theorem dX12_asks_66 : decode cX12_asks 66 = .ok (.iadd, 1) := by decide +kernel
theorem dX12_asks_67 : decode cX12_asks 67 = .ok (.iaload, 1) := by decide +kernel
theorem dX12_asks_68 : decode cX12_asks 68 = .ok (.iload 4, 2) := by decide +kernel
theorem dX12_asks_70 : decode cX12_asks 70 = .ok (.invokestatic 79, 3) := by decide +kernel
theorem dX12_asks_73 : decode cX12_asks 73 = .ok (.ifCond .eq 7, 3) := by decide +kernel
theorem dX12_asks_76 : decode cX12_asks 76 = .ok (.iconst 1, 1) := by decide +kernel
theorem dX12_asks_77 : decode cX12_asks 77 = .ok (.goto 4, 3) := by decide +kernel
theorem dX12_asks_80 : decode cX12_asks 80 = .ok (.iconst 0, 1) := by decide +kernel
theorem dX12_asks_81 : decode cX12_asks 81 = .ok (.iadd, 1) := by decide +kernel
theorem dX12_asks_82 : decode cX12_asks 82 = .ok (.istore 5, 2) := by decide +kernel
theorem dX12_asks_84 : decode cX12_asks 84 = .ok (.iinc 6 1, 3) := by decide +kernel
theorem dX12_asks_87 : decode cX12_asks 87 = .ok (.goto (-50), 3) := by decide +kernel
theorem dX12_asks_90 : decode cX12_asks 90 = .ok (.iload 5, 2) := by decide +kernel
theorem dX12_asks_92 : decode cX12_asks 92 = .ok (.iload_n 1, 1) := by decide +kernel
theorem dX12_asks_93 : decode cX12_asks 93 = .ok (.invokestatic 136, 3) := by decide +kernel
theorem dX12_asks_96 : decode cX12_asks 96 = .ok (.iload 5, 2) := by decide +kernel
theorem dX12_asks_98 : decode cX12_asks 98 = .ok (.isub, 1) := by decide +kernel
theorem dX12_asks_99 : decode cX12_asks 99 = .ok (.invokestatic 174, 3) := by decide +kernel
theorem dX12_asks_102 : decode cX12_asks 102 = .ok (.istore 6, 2) := by decide +kernel
theorem dX12_asks_104 : decode cX12_asks 104 = .ok (.iload_n 2, 1) := by decide +kernel
theorem dX12_asks_105 : decode cX12_asks 105 = .ok (.iconst (-1), 1) := by decide +kernel
theorem dX12_asks_106 : decode cX12_asks 106 = .ok (.if_icmp .eq 12, 3) := by decide +kernel
theorem dX12_asks_109 : decode cX12_asks 109 = .ok (.iload 6, 2) := by decide +kernel
theorem dX12_asks_111 : decode cX12_asks 111 = .ok (.iload_n 3, 1) := by decide +kernel
theorem dX12_asks_112 : decode cX12_asks 112 = .ok (.if_icmp .lt 6, 3) := by decide +kernel
theorem dX12_asks_115 : decode cX12_asks 115 = .ok (.goto 9, 3) := by decide +kernel
theorem dX12_asks_118 : decode cX12_asks 118 = .ok (.iload 4, 2) := by decide +kernel
theorem dX12_asks_120 : decode cX12_asks 120 = .ok (.istore_n 2, 1) := by decide +kernel
theorem dX12_asks_121 : decode cX12_asks 121 = .ok (.iload 6, 2) := by decide +kernel
theorem dX12_asks_123 : decode cX12_asks 123 = .ok (.istore_n 3, 1) := by decide +kernel
theorem dX12_asks_124 : decode cX12_asks 124 = .ok (.iinc 4 1, 3) := by decide +kernel
theorem dX12_asks_127 : decode cX12_asks 127 = .ok (.goto (-103), 3) := by decide +kernel
theorem dX12_asks_130 : decode cX12_asks 130 = .ok (.aload_n 0, 1) := by decide +kernel
theorem dX12_asks_131 : decode cX12_asks 131 = .ok (.iconst 0, 1) := by decide +kernel
theorem dX12_asks_132 : decode cX12_asks 132 = .ok (.putfield 68, 3) := by decide +kernel
theorem dX12_asks_135 : decode cX12_asks 135 = .ok (.aload_n 0, 1) := by decide +kernel
theorem dX12_asks_136 : decode cX12_asks 136 = .ok (.iload_n 3, 1) := by decide +kernel
theorem dX12_asks_137 : decode cX12_asks 137 = .ok (.i2l, 1) := by decide +kernel
theorem dX12_asks_138 : decode cX12_asks 138 = .ok (.invokevirtual 167, 3) := by decide +kernel
theorem dX12_asks_141 : decode cX12_asks 141 = .ok (.iload_n 2, 1) := by decide +kernel
theorem dX12_asks_142 : decode cX12_asks 142 = .ok (.ireturn, 1) := by decide +kernel
theorem dX12_readAct_0 : decode cX12_readAct 0 = .ok (.aload_n 0, 1) := by decide +kernel
theorem dX12_readAct_1 : decode cX12_readAct 1 = .ok (.invokevirtual 99, 3) := by decide +kernel
theorem dX12_readAct_4 : decode cX12_readAct 4 = .ok (.istore_n 2, 1) := by decide +kernel
theorem dX12_readAct_5 : decode cX12_readAct 5 = .ok (.iload_n 2, 1) := by decide +kernel
theorem dX12_readAct_6 : decode cX12_readAct 6 = .ok (.bipush 115, 2) := by decide +kernel
theorem dX12_readAct_8 : decode cX12_readAct 8 = .ok (.if_icmp .eq 36, 3) := by decide +kernel
theorem dX12_readAct_11 : decode cX12_readAct 11 = .ok (.iload_n 2, 1) := by decide +kernel
theorem dX12_readAct_12 : decode cX12_readAct 12 = .ok (.bipush 109, 2) := by decide +kernel
theorem dX12_readAct_14 : decode cX12_readAct 14 = .ok (.if_icmp .eq 30, 3) := by decide +kernel
theorem dX12_readAct_17 : decode cX12_readAct 17 = .ok (.iload_n 2, 1) := by decide +kernel
theorem dX12_readAct_18 : decode cX12_readAct 18 = .ok (.bipush 104, 2) := by decide +kernel
theorem dX12_readAct_20 : decode cX12_readAct 20 = .ok (.if_icmp .eq 24, 3) := by decide +kernel
theorem dX12_readAct_23 : decode cX12_readAct 23 = .ok (.iload_n 2, 1) := by decide +kernel
theorem dX12_readAct_24 : decode cX12_readAct 24 = .ok (.bipush 111, 2) := by decide +kernel
theorem dX12_readAct_26 : decode cX12_readAct 26 = .ok (.if_icmp .eq 18, 3) := by decide +kernel
theorem dX12_readAct_29 : decode cX12_readAct 29 = .ok (.iload_n 2, 1) := by decide +kernel
theorem dX12_readAct_30 : decode cX12_readAct 30 = .ok (.bipush 99, 2) := by decide +kernel
theorem dX12_readAct_32 : decode cX12_readAct 32 = .ok (.if_icmp .eq 12, 3) := by decide +kernel
theorem dX12_readAct_35 : decode cX12_readAct 35 = .ok (.aload_n 0, 1) := by decide +kernel
theorem dX12_readAct_36 : decode cX12_readAct 36 = .ok (.aload_n 0, 1) := by decide +kernel
theorem dX12_readAct_37 : decode cX12_readAct 37 = .ok (.getfield 89, 3) := by decide +kernel
theorem dX12_readAct_40 : decode cX12_readAct 40 = .ok (.invokevirtual 103, 3) := by decide +kernel
theorem dX12_readAct_43 : decode cX12_readAct 43 = .ok (.return_, 1) := by decide +kernel
theorem dX12_readAct_44 : decode cX12_readAct 44 = .ok (.aload_n 0, 1) := by decide +kernel
theorem dX12_readAct_45 : decode cX12_readAct 45 = .ok (.dup, 1) := by decide +kernel
theorem dX12_readAct_46 : decode cX12_readAct 46 = .ok (.getfield 89, 3) := by decide +kernel
theorem dX12_readAct_49 : decode cX12_readAct 49 = .ok (.iconst 1, 1) := by decide +kernel
theorem dX12_readAct_50 : decode cX12_readAct 50 = .ok (.iadd, 1) := by decide +kernel
theorem dX12_readAct_51 : decode cX12_readAct 51 = .ok (.putfield 89, 3) := by decide +kernel
theorem dX12_readAct_54 : decode cX12_readAct 54 = .ok (.aload_n 0, 1) := by decide +kernel
theorem dX12_readAct_55 : decode cX12_readAct 55 = .ok (.getfield 48, 3) := by decide +kernel
theorem dX12_readAct_58 : decode cX12_readAct 58 = .ok (.iload_n 1, 1) := by decide +kernel
theorem dX12_readAct_59 : decode cX12_readAct 59 = .ok (.iload_n 2, 1) := by decide +kernel
theorem dX12_readAct_60 : decode cX12_readAct 60 = .ok (.iastore, 1) := by decide +kernel
theorem dX12_readAct_61 : decode cX12_readAct 61 = .ok (.aload_n 0, 1) := by decide +kernel
theorem dX12_readAct_62 : decode cX12_readAct 62 = .ok (.getfield 48, 3) := by decide +kernel
theorem dX12_readAct_65 : decode cX12_readAct 65 = .ok (.iload_n 1, 1) := by decide +kernel
theorem dX12_readAct_66 : decode cX12_readAct 66 = .ok (.iconst 1, 1) := by decide +kernel
theorem dX12_readAct_67 : decode cX12_readAct 67 = .ok (.iadd, 1) := by decide +kernel
theorem dX12_readAct_68 : decode cX12_readAct 68 = .ok (.iload_n 2, 1) := by decide +kernel
theorem dX12_readAct_69 : decode cX12_readAct 69 = .ok (.bipush 104, 2) := by decide +kernel
theorem dX12_readAct_71 : decode cX12_readAct 71 = .ok (.if_icmp .ne 16, 3) := by decide +kernel
theorem dX12_readAct_74 : decode cX12_readAct 74 = .ok (.aload_n 0, 1) := by decide +kernel
theorem dX12_readAct_75 : decode cX12_readAct 75 = .ok (.bipush 49, 2) := by decide +kernel
theorem dX12_readAct_77 : decode cX12_readAct 77 = .ok (.bipush 9, 2) := by decide +kernel
theorem dX12_readAct_79 : decode cX12_readAct 79 = .ok (.invokevirtual 107, 3) := by decide +kernel
theorem dX12_readAct_82 : decode cX12_readAct 82 = .ok (.iconst 1, 1) := by decide +kernel
theorem dX12_readAct_83 : decode cX12_readAct 83 = .ok (.iadd, 1) := by decide +kernel
theorem dX12_readAct_84 : decode cX12_readAct 84 = .ok (.goto 23, 3) := by decide +kernel
theorem dX12_readAct_87 : decode cX12_readAct 87 = .ok (.iload_n 2, 1) := by decide +kernel
theorem dX12_readAct_88 : decode cX12_readAct 88 = .ok (.bipush 111, 2) := by decide +kernel
theorem dX12_readAct_90 : decode cX12_readAct 90 = .ok (.if_icmp .ne 13, 3) := by decide +kernel
theorem dX12_readAct_93 : decode cX12_readAct 93 = .ok (.aload_n 0, 1) := by decide +kernel
theorem dX12_readAct_94 : decode cX12_readAct 94 = .ok (.bipush 48, 2) := by decide +kernel
theorem dX12_readAct_96 : decode cX12_readAct 96 = .ok (.iconst 4, 1) := by decide +kernel
theorem dX12_readAct_97 : decode cX12_readAct 97 = .ok (.invokevirtual 107, 3) := by decide +kernel
theorem dX12_readAct_100 : decode cX12_readAct 100 = .ok (.goto 7, 3) := by decide +kernel
theorem dX12_readAct_103 : decode cX12_readAct 103 = .ok (.aload_n 0, 1) := by decide +kernel
theorem dX12_readAct_104 : decode cX12_readAct 104 = .ok (.invokevirtual 123, 3) := by decide +kernel
theorem dX12_readAct_107 : decode cX12_readAct 107 = .ok (.iastore, 1) := by decide +kernel
theorem dX12_readAct_108 : decode cX12_readAct 108 = .ok (.aload_n 0, 1) := by decide +kernel
theorem dX12_readAct_109 : decode cX12_readAct 109 = .ok (.getfield 48, 3) := by decide +kernel
theorem dX12_readAct_112 : decode cX12_readAct 112 = .ok (.iload_n 1, 1) := by decide +kernel
theorem dX12_readAct_113 : decode cX12_readAct 113 = .ok (.iconst 2, 1) := by decide +kernel
theorem dX12_readAct_114 : decode cX12_readAct 114 = .ok (.iadd, 1) := by decide +kernel
theorem dX12_readAct_115 : decode cX12_readAct 115 = .ok (.iload_n 2, 1) := by decide +kernel
theorem dX12_readAct_116 : decode cX12_readAct 116 = .ok (.bipush 115, 2) := by decide +kernel
theorem dX12_readAct_118 : decode cX12_readAct 118 = .ok (.if_icmp .eq 9, 3) := by decide +kernel
theorem dX12_readAct_121 : decode cX12_readAct 121 = .ok (.iload_n 2, 1) := by decide +kernel
theorem dX12_readAct_122 : decode cX12_readAct 122 = .ok (.bipush 109, 2) := by decide +kernel
theorem dX12_readAct_124 : decode cX12_readAct 124 = .ok (.if_icmp .ne 10, 3) := by decide +kernel
theorem dX12_readAct_127 : decode cX12_readAct 127 = .ok (.aload_n 0, 1) := by decide +kernel
theorem dX12_readAct_128 : decode cX12_readAct 128 = .ok (.invokevirtual 123, 3) := by decide +kernel
theorem dX12_readAct_131 : decode cX12_readAct 131 = .ok (.goto 4, 3) := by decide +kernel
theorem dX12_readAct_134 : decode cX12_readAct 134 = .ok (.iconst 0, 1) := by decide +kernel
theorem dX12_readAct_135 : decode cX12_readAct 135 = .ok (.iastore, 1) := by decide +kernel
theorem dX12_readAct_136 : decode cX12_readAct 136 = .ok (.return_, 1) := by decide +kernel
theorem dX12_act_0 : decode cX12_act 0 = .ok (.aload_n 0, 1) := by decide +kernel
theorem dX12_act_1 : decode cX12_act 1 = .ok (.getfield 48, 3) := by decide +kernel
theorem dX12_act_4 : decode cX12_act 4 = .ok (.iload_n 1, 1) := by decide +kernel
theorem dX12_act_5 : decode cX12_act 5 = .ok (.iconst 1, 1) := by decide +kernel
theorem dX12_act_6 : decode cX12_act 6 = .ok (.iadd, 1) := by decide +kernel
theorem dX12_act_7 : decode cX12_act 7 = .ok (.iaload, 1) := by decide +kernel
theorem dX12_act_8 : decode cX12_act 8 = .ok (.istore_n 2, 1) := by decide +kernel
theorem dX12_act_9 : decode cX12_act 9 = .ok (.aload_n 0, 1) := by decide +kernel
theorem dX12_act_10 : decode cX12_act 10 = .ok (.getfield 48, 3) := by decide +kernel
theorem dX12_act_13 : decode cX12_act 13 = .ok (.iload_n 1, 1) := by decide +kernel
theorem dX12_act_14 : decode cX12_act 14 = .ok (.iconst 2, 1) := by decide +kernel
theorem dX12_act_15 : decode cX12_act 15 = .ok (.iadd, 1) := by decide +kernel
theorem dX12_act_16 : decode cX12_act 16 = .ok (.iaload, 1) := by decide +kernel
theorem dX12_act_17 : decode cX12_act 17 = .ok (.istore_n 3, 1) := by decide +kernel
theorem dX12_act_18 : decode cX12_act 18 = .ok (.aload_n 0, 1) := by decide +kernel
theorem dX12_act_19 : decode cX12_act 19 = .ok (.getfield 48, 3) := by decide +kernel
theorem dX12_act_22 : decode cX12_act 22 = .ok (.iload_n 1, 1) := by decide +kernel
theorem dX12_act_23 : decode cX12_act 23 = .ok (.iaload, 1) := by decide +kernel
theorem dX12_act_24 : decode cX12_act 24 = .ok (.lookupswitch 115 #[(104, 82), (109, 63), (111, 107), (115, 44)], 44) := by decide +kernel
theorem dX12_act_68 : decode cX12_act 68 = .ok (.aload_n 0, 1) := by decide +kernel
theorem dX12_act_69 : decode cX12_act 69 = .ok (.iload_n 2, 1) := by decide +kernel
theorem dX12_act_70 : decode cX12_act 70 = .ok (.iload_n 3, 1) := by decide +kernel
theorem dX12_act_71 : decode cX12_act 71 = .ok (.invokevirtual 280, 3) := by decide +kernel
theorem dX12_act_74 : decode cX12_act 74 = .ok (.ifCond .ge 5, 3) := by decide +kernel
theorem dX12_act_77 : decode cX12_act 77 = .ok (.iconst 0, 1) := by decide +kernel
theorem dX12_act_78 : decode cX12_act 78 = .ok (.ireturn, 1) := by decide +kernel
theorem dX12_act_79 : decode cX12_act 79 = .ok (.aload_n 0, 1) := by decide +kernel
theorem dX12_act_80 : decode cX12_act 80 = .ok (.iload_n 2, 1) := by decide +kernel
theorem dX12_act_81 : decode cX12_act 81 = .ok (.iload_n 3, 1) := by decide +kernel
theorem dX12_act_82 : decode cX12_act 82 = .ok (.invokevirtual 283, 3) := by decide +kernel
theorem dX12_act_85 : decode cX12_act 85 = .ok (.iconst 1, 1) := by decide +kernel
theorem dX12_act_86 : decode cX12_act 86 = .ok (.ireturn, 1) := by decide +kernel
theorem dX12_act_87 : decode cX12_act 87 = .ok (.aload_n 0, 1) := by decide +kernel
theorem dX12_act_88 : decode cX12_act 88 = .ok (.iload_n 2, 1) := by decide +kernel
theorem dX12_act_89 : decode cX12_act 89 = .ok (.iload_n 3, 1) := by decide +kernel
theorem dX12_act_90 : decode cX12_act 90 = .ok (.invokevirtual 280, 3) := by decide +kernel
theorem dX12_act_93 : decode cX12_act 93 = .ok (.ifCond .ge 5, 3) := by decide +kernel
theorem dX12_act_96 : decode cX12_act 96 = .ok (.iconst 0, 1) := by decide +kernel
theorem dX12_act_97 : decode cX12_act 97 = .ok (.ireturn, 1) := by decide +kernel
theorem dX12_act_98 : decode cX12_act 98 = .ok (.aload_n 0, 1) := by decide +kernel
theorem dX12_act_99 : decode cX12_act 99 = .ok (.iload_n 2, 1) := by decide +kernel
theorem dX12_act_100 : decode cX12_act 100 = .ok (.iload_n 3, 1) := by decide +kernel
theorem dX12_act_101 : decode cX12_act 101 = .ok (.invokevirtual 286, 3) := by decide +kernel
theorem dX12_act_104 : decode cX12_act 104 = .ok (.iconst 1, 1) := by decide +kernel
theorem dX12_act_105 : decode cX12_act 105 = .ok (.ireturn, 1) := by decide +kernel
theorem dX12_act_106 : decode cX12_act 106 = .ok (.aload_n 0, 1) := by decide +kernel
theorem dX12_act_107 : decode cX12_act 107 = .ok (.iload_n 2, 1) := by decide +kernel
theorem dX12_act_108 : decode cX12_act 108 = .ok (.invokevirtual 251, 3) := by decide +kernel
theorem dX12_act_111 : decode cX12_act 111 = .ok (.ifCond .ge 5, 3) := by decide +kernel
theorem dX12_act_114 : decode cX12_act 114 = .ok (.iconst 0, 1) := by decide +kernel
theorem dX12_act_115 : decode cX12_act 115 = .ok (.ireturn, 1) := by decide +kernel
theorem dX12_act_116 : decode cX12_act 116 = .ok (.aload_n 0, 1) := by decide +kernel
theorem dX12_act_117 : decode cX12_act 117 = .ok (.iconst 0, 1) := by decide +kernel
theorem dX12_act_118 : decode cX12_act 118 = .ok (.aload_n 0, 1) := by decide +kernel
theorem dX12_act_119 : decode cX12_act 119 = .ok (.getfield 9, 3) := by decide +kernel
theorem dX12_act_122 : decode cX12_act 122 = .ok (.iconst 0, 1) := by decide +kernel
theorem dX12_act_123 : decode cX12_act 123 = .ok (.iaload, 1) := by decide +kernel
theorem dX12_act_124 : decode cX12_act 124 = .ok (.iload_n 2, 1) := by decide +kernel
theorem dX12_act_125 : decode cX12_act 125 = .ok (.invokevirtual 248, 3) := by decide +kernel
theorem dX12_act_128 : decode cX12_act 128 = .ok (.pop, 1) := by decide +kernel
theorem dX12_act_129 : decode cX12_act 129 = .ok (.iconst 1, 1) := by decide +kernel
theorem dX12_act_130 : decode cX12_act 130 = .ok (.ireturn, 1) := by decide +kernel
theorem dX12_act_131 : decode cX12_act 131 = .ok (.aload_n 0, 1) := by decide +kernel
theorem dX12_act_132 : decode cX12_act 132 = .ok (.iload_n 2, 1) := by decide +kernel
theorem dX12_act_133 : decode cX12_act 133 = .ok (.invokevirtual 277, 3) := by decide +kernel
theorem dX12_act_136 : decode cX12_act 136 = .ok (.pop, 1) := by decide +kernel
theorem dX12_act_137 : decode cX12_act 137 = .ok (.iconst 1, 1) := by decide +kernel
theorem dX12_act_138 : decode cX12_act 138 = .ok (.ireturn, 1) := by decide +kernel
theorem dX12_act_139 : decode cX12_act 139 = .ok (.iload_n 2, 1) := by decide +kernel
theorem dX12_act_140 : decode cX12_act 140 = .ok (.iconst 1, 1) := by decide +kernel
theorem dX12_act_141 : decode cX12_act 141 = .ok (.bipush 20, 2) := by decide +kernel
theorem dX12_act_143 : decode cX12_act 143 = .ok (.invokestatic 71, 3) := by decide +kernel
theorem dX12_act_146 : decode cX12_act 146 = .ok (.ifCond .ne 5, 3) := by decide +kernel
theorem dX12_act_149 : decode cX12_act 149 = .ok (.iconst 0, 1) := by decide +kernel
theorem dX12_act_150 : decode cX12_act 150 = .ok (.ireturn, 1) := by decide +kernel
theorem dX12_act_151 : decode cX12_act 151 = .ok (.aload_n 0, 1) := by decide +kernel
theorem dX12_act_152 : decode cX12_act 152 = .ok (.iload_n 2, 1) := by decide +kernel
theorem dX12_act_153 : decode cX12_act 153 = .ok (.invokevirtual 298, 3) := by decide +kernel
theorem dX12_act_156 : decode cX12_act 156 = .ok (.pop, 1) := by decide +kernel
theorem dX12_act_157 : decode cX12_act 157 = .ok (.iconst 1, 1) := by decide +kernel
theorem dX12_act_158 : decode cX12_act 158 = .ok (.ireturn, 1) := by decide +kernel
theorem dX12_day_0 : decode cX12_day 0 = .ok (.aload_n 0, 1) := by decide +kernel
theorem dX12_day_1 : decode cX12_day 1 = .ok (.iconst 0, 1) := by decide +kernel
theorem dX12_day_2 : decode cX12_day 2 = .ok (.putfield 64, 3) := by decide +kernel
theorem dX12_day_5 : decode cX12_day 5 = .ok (.aload_n 0, 1) := by decide +kernel
theorem dX12_day_6 : decode cX12_day 6 = .ok (.invokevirtual 111, 3) := by decide +kernel
theorem dX12_day_9 : decode cX12_day 9 = .ok (.iconst 0, 1) := by decide +kernel
theorem dX12_day_10 : decode cX12_day 10 = .ok (.istore_n 1, 1) := by decide +kernel
theorem dX12_day_11 : decode cX12_day 11 = .ok (.aload_n 0, 1) := by decide +kernel
theorem dX12_day_12 : decode cX12_day 12 = .ok (.invokevirtual 95, 3) := by decide +kernel
theorem dX12_day_15 : decode cX12_day 15 = .ok (.ifCond .eq 27, 3) := by decide +kernel
theorem dX12_day_18 : decode cX12_day 18 = .ok (.aload_n 0, 1) := by decide +kernel
theorem dX12_day_19 : decode cX12_day 19 = .ok (.getfield 89, 3) := by decide +kernel
theorem dX12_day_22 : decode cX12_day 22 = .ok (.aload_n 0, 1) := by decide +kernel
theorem dX12_day_23 : decode cX12_day 23 = .ok (.getfield 86, 3) := by decide +kernel
theorem dX12_day_26 : decode cX12_day 26 = .ok (.if_icmp .ge 16, 3) := by decide +kernel
theorem dX12_day_29 : decode cX12_day 29 = .ok (.aload_n 0, 1) := by decide +kernel
theorem dX12_day_30 : decode cX12_day 30 = .ok (.iconst 3, 1) := by decide +kernel
theorem dX12_day_31 : decode cX12_day 31 = .ok (.iload_n 1, 1) := by decide +kernel
theorem dX12_day_32 : decode cX12_day 32 = .ok (.imul, 1) := by decide +kernel
theorem dX12_day_33 : decode cX12_day 33 = .ok (.invokevirtual 310, 3) := by decide +kernel
theorem dX12_day_36 : decode cX12_day 36 = .ok (.iinc 1 1, 3) := by decide +kernel
theorem dX12_day_39 : decode cX12_day 39 = .ok (.goto (-28), 3) := by decide +kernel
theorem dX12_day_42 : decode cX12_day 42 = .ok (.aload_n 0, 1) := by decide +kernel
theorem dX12_day_43 : decode cX12_day 43 = .ok (.invokevirtual 117, 3) := by decide +kernel
theorem dX12_day_46 : decode cX12_day 46 = .ok (.ifCond .ne 10, 3) := by decide +kernel
theorem dX12_day_49 : decode cX12_day 49 = .ok (.iconst (-1), 1) := by decide +kernel
theorem dX12_day_50 : decode cX12_day 50 = .ok (.aload_n 0, 1) := by decide +kernel
theorem dX12_day_51 : decode cX12_day 51 = .ok (.getfield 92, 3) := by decide +kernel
theorem dX12_day_54 : decode cX12_day 54 = .ok (.isub, 1) := by decide +kernel
theorem dX12_day_55 : decode cX12_day 55 = .ok (.ireturn, 1) := by decide +kernel
theorem dX12_day_56 : decode cX12_day 56 = .ok (.iconst 0, 1) := by decide +kernel
theorem dX12_day_57 : decode cX12_day 57 = .ok (.istore_n 2, 1) := by decide +kernel
theorem dX12_day_58 : decode cX12_day 58 = .ok (.iload_n 2, 1) := by decide +kernel
theorem dX12_day_59 : decode cX12_day 59 = .ok (.bipush 33, 2) := by decide +kernel
theorem dX12_day_61 : decode cX12_day 61 = .ok (.if_icmp .ge 21, 3) := by decide +kernel
theorem dX12_day_64 : decode cX12_day 64 = .ok (.aload_n 0, 1) := by decide +kernel
theorem dX12_day_65 : decode cX12_day 65 = .ok (.getfield 51, 3) := by decide +kernel
theorem dX12_day_68 : decode cX12_day 68 = .ok (.iload_n 2, 1) := by decide +kernel
theorem dX12_day_69 : decode cX12_day 69 = .ok (.aload_n 0, 1) := by decide +kernel
theorem dX12_day_70 : decode cX12_day 70 = .ok (.getfield 9, 3) := by decide +kernel
theorem dX12_day_73 : decode cX12_day 73 = .ok (.iload_n 2, 1) := by decide +kernel
theorem dX12_day_74 : decode cX12_day 74 = .ok (.iaload, 1) := by decide +kernel
theorem dX12_day_75 : decode cX12_day 75 = .ok (.iastore, 1) := by decide +kernel
theorem dX12_day_76 : decode cX12_day 76 = .ok (.iinc 2 1, 3) := by decide +kernel
theorem dX12_day_79 : decode cX12_day 79 = .ok (.goto (-21), 3) := by decide +kernel
theorem dX12_day_82 : decode cX12_day 82 = .ok (.iconst 0, 1) := by decide +kernel
theorem dX12_day_83 : decode cX12_day 83 = .ok (.istore_n 2, 1) := by decide +kernel
theorem dX12_day_84 : decode cX12_day 84 = .ok (.iload_n 2, 1) := by decide +kernel
theorem dX12_day_85 : decode cX12_day 85 = .ok (.iload_n 1, 1) := by decide +kernel
theorem dX12_day_86 : decode cX12_day 86 = .ok (.if_icmp .ge 19, 3) := by decide +kernel
theorem dX12_day_89 : decode cX12_day 89 = .ok (.aload_n 0, 1) := by decide +kernel
theorem dX12_day_90 : decode cX12_day 90 = .ok (.iconst 3, 1) := by decide +kernel
theorem dX12_day_91 : decode cX12_day 91 = .ok (.iload_n 2, 1) := by decide +kernel
theorem dX12_day_92 : decode cX12_day 92 = .ok (.imul, 1) := by decide +kernel
theorem dX12_day_93 : decode cX12_day 93 = .ok (.invokevirtual 313, 3) := by decide +kernel
theorem dX12_day_96 : decode cX12_day 96 = .ok (.ifCond .eq 9, 3) := by decide +kernel
theorem dX12_day_99 : decode cX12_day 99 = .ok (.iinc 2 1, 3) := by decide +kernel
theorem dX12_day_102 : decode cX12_day 102 = .ok (.goto (-18), 3) := by decide +kernel
theorem dX12_day_105 : decode cX12_day 105 = .ok (.iload_n 2, 1) := by decide +kernel
theorem dX12_day_106 : decode cX12_day 106 = .ok (.ifCond .le 7, 3) := by decide +kernel
theorem dX12_day_109 : decode cX12_day 109 = .ok (.aload_n 0, 1) := by decide +kernel
theorem dX12_day_110 : decode cX12_day 110 = .ok (.invokevirtual 316, 3) := by decide +kernel
theorem dX12_day_113 : decode cX12_day 113 = .ok (.aload_n 0, 1) := by decide +kernel
theorem dX12_day_114 : decode cX12_day 114 = .ok (.iconst 0, 1) := by decide +kernel
theorem dX12_day_115 : decode cX12_day 115 = .ok (.putfield 68, 3) := by decide +kernel
theorem dX12_day_118 : decode cX12_day 118 = .ok (.aload_n 0, 1) := by decide +kernel
theorem dX12_day_119 : decode cX12_day 119 = .ok (.iload_n 2, 1) := by decide +kernel
theorem dX12_day_120 : decode cX12_day 120 = .ok (.iload_n 1, 1) := by decide +kernel
theorem dX12_day_121 : decode cX12_day 121 = .ok (.if_icmp .ge 7, 3) := by decide +kernel
theorem dX12_day_124 : decode cX12_day 124 = .ok (.lconst 1, 1) := by decide +kernel
theorem dX12_day_125 : decode cX12_day 125 = .ok (.goto 4, 3) := by decide +kernel
theorem dX12_day_128 : decode cX12_day 128 = .ok (.lconst 0, 1) := by decide +kernel
theorem dX12_day_129 : decode cX12_day 129 = .ok (.invokevirtual 167, 3) := by decide +kernel
theorem dX12_day_132 : decode cX12_day 132 = .ok (.aload_n 0, 1) := by decide +kernel
theorem dX12_day_133 : decode cX12_day 133 = .ok (.aload_n 0, 1) := by decide +kernel
theorem dX12_day_134 : decode cX12_day 134 = .ok (.iconst 1, 1) := by decide +kernel
theorem dX12_day_135 : decode cX12_day 135 = .ok (.invokevirtual 179, 3) := by decide +kernel
theorem dX12_day_138 : decode cX12_day 138 = .ok (.i2l, 1) := by decide +kernel
theorem dX12_day_139 : decode cX12_day 139 = .ok (.invokevirtual 167, 3) := by decide +kernel
theorem dX12_day_142 : decode cX12_day 142 = .ok (.iload_n 2, 1) := by decide +kernel
theorem dX12_day_143 : decode cX12_day 143 = .ok (.ireturn, 1) := by decide +kernel
theorem dX12_change_0 : decode cX12_change 0 = .ok (.iconst 0, 1) := by decide +kernel
theorem dX12_change_1 : decode cX12_change 1 = .ok (.istore_n 1, 1) := by decide +kernel
theorem dX12_change_2 : decode cX12_change 2 = .ok (.iload_n 1, 1) := by decide +kernel
theorem dX12_change_3 : decode cX12_change 3 = .ok (.bipush 33, 2) := by decide +kernel
theorem dX12_change_5 : decode cX12_change 5 = .ok (.if_icmp .ge 21, 3) := by decide +kernel
theorem dX12_change_8 : decode cX12_change 8 = .ok (.aload_n 0, 1) := by decide +kernel
theorem dX12_change_9 : decode cX12_change 9 = .ok (.getfield 51, 3) := by decide +kernel
theorem dX12_change_12 : decode cX12_change 12 = .ok (.iload_n 1, 1) := by decide +kernel
theorem dX12_change_13 : decode cX12_change 13 = .ok (.aload_n 0, 1) := by decide +kernel
theorem dX12_change_14 : decode cX12_change 14 = .ok (.getfield 9, 3) := by decide +kernel
theorem dX12_change_17 : decode cX12_change 17 = .ok (.iload_n 1, 1) := by decide +kernel
theorem dX12_change_18 : decode cX12_change 18 = .ok (.iaload, 1) := by decide +kernel
theorem dX12_change_19 : decode cX12_change 19 = .ok (.iastore, 1) := by decide +kernel
theorem dX12_change_20 : decode cX12_change 20 = .ok (.iinc 1 1, 3) := by decide +kernel
theorem dX12_change_23 : decode cX12_change 23 = .ok (.goto (-21), 3) := by decide +kernel
theorem dX12_change_26 : decode cX12_change 26 = .ok (.aload_n 0, 1) := by decide +kernel
theorem dX12_change_27 : decode cX12_change 27 = .ok (.invokevirtual 316, 3) := by decide +kernel
theorem dX12_change_30 : decode cX12_change 30 = .ok (.return_, 1) := by decide +kernel
theorem dX12_note_0 : decode cX12_note 0 = .ok (.aload_n 0, 1) := by decide +kernel
theorem dX12_note_1 : decode cX12_note 1 = .ok (.getfield 319, 3) := by decide +kernel
theorem dX12_note_4 : decode cX12_note 4 = .ok (.bipush 10, 2) := by decide +kernel
theorem dX12_note_6 : decode cX12_note 6 = .ok (.if_icmp .ne 43, 3) := by decide +kernel
theorem dX12_note_9 : decode cX12_note 9 = .ok (.iconst 0, 1) := by decide +kernel
theorem dX12_note_10 : decode cX12_note 10 = .ok (.istore_n 1, 1) := by decide +kernel
theorem dX12_note_11 : decode cX12_note 11 = .ok (.iload_n 1, 1) := by decide +kernel
theorem dX12_note_12 : decode cX12_note 12 = .ok (.sipush 297, 3) := by decide +kernel
theorem dX12_note_15 : decode cX12_note 15 = .ok (.if_icmp .ge 24, 3) := by decide +kernel
theorem dX12_note_18 : decode cX12_note 18 = .ok (.aload_n 0, 1) := by decide +kernel
theorem dX12_note_19 : decode cX12_note 19 = .ok (.getfield 54, 3) := by decide +kernel
theorem dX12_note_22 : decode cX12_note 22 = .ok (.iload_n 1, 1) := by decide +kernel
theorem dX12_note_23 : decode cX12_note 23 = .ok (.aload_n 0, 1) := by decide +kernel
theorem dX12_note_24 : decode cX12_note 24 = .ok (.getfield 54, 3) := by decide +kernel
theorem dX12_note_27 : decode cX12_note 27 = .ok (.iload_n 1, 1) := by decide +kernel
theorem dX12_note_28 : decode cX12_note 28 = .ok (.bipush 33, 2) := by decide +kernel
theorem dX12_note_30 : decode cX12_note 30 = .ok (.iadd, 1) := by decide +kernel
theorem dX12_note_31 : decode cX12_note 31 = .ok (.iaload, 1) := by decide +kernel
theorem dX12_note_32 : decode cX12_note 32 = .ok (.iastore, 1) := by decide +kernel
theorem dX12_note_33 : decode cX12_note 33 = .ok (.iinc 1 1, 3) := by decide +kernel
theorem dX12_note_36 : decode cX12_note 36 = .ok (.goto (-25), 3) := by decide +kernel
theorem dX12_note_39 : decode cX12_note 39 = .ok (.aload_n 0, 1) := by decide +kernel
theorem dX12_note_40 : decode cX12_note 40 = .ok (.dup, 1) := by decide +kernel
theorem dX12_note_41 : decode cX12_note 41 = .ok (.getfield 319, 3) := by decide +kernel
theorem dX12_note_44 : decode cX12_note 44 = .ok (.iconst 1, 1) := by decide +kernel
theorem dX12_note_45 : decode cX12_note 45 = .ok (.isub, 1) := by decide +kernel
theorem dX12_note_46 : decode cX12_note 46 = .ok (.putfield 319, 3) := by decide +kernel
theorem dX12_note_49 : decode cX12_note 49 = .ok (.iconst 0, 1) := by decide +kernel
theorem dX12_note_50 : decode cX12_note 50 = .ok (.istore_n 1, 1) := by decide +kernel
theorem dX12_note_51 : decode cX12_note 51 = .ok (.iload_n 1, 1) := by decide +kernel
theorem dX12_note_52 : decode cX12_note 52 = .ok (.bipush 33, 2) := by decide +kernel
theorem dX12_note_54 : decode cX12_note 54 = .ok (.if_icmp .ge 29, 3) := by decide +kernel
theorem dX12_note_57 : decode cX12_note 57 = .ok (.aload_n 0, 1) := by decide +kernel
theorem dX12_note_58 : decode cX12_note 58 = .ok (.getfield 54, 3) := by decide +kernel
theorem dX12_note_61 : decode cX12_note 61 = .ok (.bipush 33, 2) := by decide +kernel
theorem dX12_note_63 : decode cX12_note 63 = .ok (.aload_n 0, 1) := by decide +kernel
theorem dX12_note_64 : decode cX12_note 64 = .ok (.getfield 319, 3) := by decide +kernel
theorem dX12_note_67 : decode cX12_note 67 = .ok (.imul, 1) := by decide +kernel
theorem dX12_note_68 : decode cX12_note 68 = .ok (.iload_n 1, 1) := by decide +kernel
theorem dX12_note_69 : decode cX12_note 69 = .ok (.iadd, 1) := by decide +kernel
theorem dX12_note_70 : decode cX12_note 70 = .ok (.aload_n 0, 1) := by decide +kernel
theorem dX12_note_71 : decode cX12_note 71 = .ok (.getfield 51, 3) := by decide +kernel
theorem dX12_note_74 : decode cX12_note 74 = .ok (.iload_n 1, 1) := by decide +kernel
theorem dX12_note_75 : decode cX12_note 75 = .ok (.iaload, 1) := by decide +kernel
theorem dX12_note_76 : decode cX12_note 76 = .ok (.iastore, 1) := by decide +kernel
theorem dX12_note_77 : decode cX12_note 77 = .ok (.iinc 1 1, 3) := by decide +kernel
theorem dX12_note_80 : decode cX12_note 80 = .ok (.goto (-29), 3) := by decide +kernel
theorem dX12_note_83 : decode cX12_note 83 = .ok (.aload_n 0, 1) := by decide +kernel
theorem dX12_note_84 : decode cX12_note 84 = .ok (.dup, 1) := by decide +kernel
theorem dX12_note_85 : decode cX12_note 85 = .ok (.getfield 319, 3) := by decide +kernel
theorem dX12_note_88 : decode cX12_note 88 = .ok (.iconst 1, 1) := by decide +kernel
theorem dX12_note_89 : decode cX12_note 89 = .ok (.iadd, 1) := by decide +kernel
theorem dX12_note_90 : decode cX12_note 90 = .ok (.putfield 319, 3) := by decide +kernel
theorem dX12_note_93 : decode cX12_note 93 = .ok (.return_, 1) := by decide +kernel
theorem dX12_undo_0 : decode cX12_undo 0 = .ok (.aload_n 0, 1) := by decide +kernel
theorem dX12_undo_1 : decode cX12_undo 1 = .ok (.iconst 0, 1) := by decide +kernel
theorem dX12_undo_2 : decode cX12_undo 2 = .ok (.putfield 64, 3) := by decide +kernel
theorem dX12_undo_5 : decode cX12_undo 5 = .ok (.aload_n 0, 1) := by decide +kernel
theorem dX12_undo_6 : decode cX12_undo 6 = .ok (.getfield 319, 3) := by decide +kernel
theorem dX12_undo_9 : decode cX12_undo 9 = .ok (.ifCond .ne 5, 3) := by decide +kernel
theorem dX12_undo_12 : decode cX12_undo 12 = .ok (.iconst (-1), 1) := by decide +kernel
theorem dX12_undo_13 : decode cX12_undo 13 = .ok (.ireturn, 1) := by decide +kernel
theorem dX12_undo_14 : decode cX12_undo 14 = .ok (.aload_n 0, 1) := by decide +kernel
theorem dX12_undo_15 : decode cX12_undo 15 = .ok (.dup, 1) := by decide +kernel
theorem dX12_undo_16 : decode cX12_undo 16 = .ok (.getfield 319, 3) := by decide +kernel
theorem dX12_undo_19 : decode cX12_undo 19 = .ok (.iconst 1, 1) := by decide +kernel
theorem dX12_undo_20 : decode cX12_undo 20 = .ok (.isub, 1) := by decide +kernel
theorem dX12_undo_21 : decode cX12_undo 21 = .ok (.putfield 319, 3) := by decide +kernel
theorem dX12_undo_24 : decode cX12_undo 24 = .ok (.iconst 0, 1) := by decide +kernel
theorem dX12_undo_25 : decode cX12_undo 25 = .ok (.istore_n 1, 1) := by decide +kernel
theorem dX12_undo_26 : decode cX12_undo 26 = .ok (.iload_n 1, 1) := by decide +kernel
theorem dX12_undo_27 : decode cX12_undo 27 = .ok (.bipush 33, 2) := by decide +kernel
theorem dX12_undo_29 : decode cX12_undo 29 = .ok (.if_icmp .ge 29, 3) := by decide +kernel
theorem dX12_undo_32 : decode cX12_undo 32 = .ok (.aload_n 0, 1) := by decide +kernel
theorem dX12_undo_33 : decode cX12_undo 33 = .ok (.getfield 9, 3) := by decide +kernel
theorem dX12_undo_36 : decode cX12_undo 36 = .ok (.iload_n 1, 1) := by decide +kernel
theorem dX12_undo_37 : decode cX12_undo 37 = .ok (.aload_n 0, 1) := by decide +kernel
theorem dX12_undo_38 : decode cX12_undo 38 = .ok (.getfield 54, 3) := by decide +kernel
theorem dX12_undo_41 : decode cX12_undo 41 = .ok (.bipush 33, 2) := by decide +kernel
theorem dX12_undo_43 : decode cX12_undo 43 = .ok (.aload_n 0, 1) := by decide +kernel
theorem dX12_undo_44 : decode cX12_undo 44 = .ok (.getfield 319, 3) := by decide +kernel
theorem dX12_undo_47 : decode cX12_undo 47 = .ok (.imul, 1) := by decide +kernel
theorem dX12_undo_48 : decode cX12_undo 48 = .ok (.iload_n 1, 1) := by decide +kernel
theorem dX12_undo_49 : decode cX12_undo 49 = .ok (.iadd, 1) := by decide +kernel
theorem dX12_undo_50 : decode cX12_undo 50 = .ok (.iaload, 1) := by decide +kernel
theorem dX12_undo_51 : decode cX12_undo 51 = .ok (.iastore, 1) := by decide +kernel
theorem dX12_undo_52 : decode cX12_undo 52 = .ok (.iinc 1 1, 3) := by decide +kernel
theorem dX12_undo_55 : decode cX12_undo 55 = .ok (.goto (-29), 3) := by decide +kernel
theorem dX12_undo_58 : decode cX12_undo 58 = .ok (.aload_n 0, 1) := by decide +kernel
theorem dX12_undo_59 : decode cX12_undo 59 = .ok (.getfield 319, 3) := by decide +kernel
theorem dX12_undo_62 : decode cX12_undo 62 = .ok (.ireturn, 1) := by decide +kernel
theorem dX12_draw_0 : decode cX12_draw 0 = .ok (.aload_n 0, 1) := by decide +kernel
theorem dX12_draw_1 : decode cX12_draw 1 = .ok (.aload_n 0, 1) := by decide +kernel
theorem dX12_draw_2 : decode cX12_draw 2 = .ok (.getfield 322, 3) := by decide +kernel
theorem dX12_draw_5 : decode cX12_draw 5 = .ok (.ldc_w 325, 3) := by decide +kernel
theorem dX12_draw_8 : decode cX12_draw 8 = .ok (.imul, 1) := by decide +kernel
theorem dX12_draw_9 : decode cX12_draw 9 = .ok (.sipush 12345, 3) := by decide +kernel
theorem dX12_draw_12 : decode cX12_draw 12 = .ok (.iadd, 1) := by decide +kernel
theorem dX12_draw_13 : decode cX12_draw 13 = .ok (.putfield 322, 3) := by decide +kernel
theorem dX12_draw_16 : decode cX12_draw 16 = .ok (.aload_n 0, 1) := by decide +kernel
theorem dX12_draw_17 : decode cX12_draw 17 = .ok (.getfield 322, 3) := by decide +kernel
theorem dX12_draw_20 : decode cX12_draw 20 = .ok (.bipush 16, 2) := by decide +kernel
theorem dX12_draw_22 : decode cX12_draw 22 = .ok (.iushr, 1) := by decide +kernel
theorem dX12_draw_23 : decode cX12_draw 23 = .ok (.iload_n 1, 1) := by decide +kernel
theorem dX12_draw_24 : decode cX12_draw 24 = .ok (.irem, 1) := by decide +kernel
theorem dX12_draw_25 : decode cX12_draw 25 = .ok (.ireturn, 1) := by decide +kernel
theorem dX12_years_0 : decode cX12_years 0 = .ok (.aload_n 0, 1) := by decide +kernel
theorem dX12_years_1 : decode cX12_years 1 = .ok (.iconst 0, 1) := by decide +kernel
theorem dX12_years_2 : decode cX12_years 2 = .ok (.putfield 64, 3) := by decide +kernel
theorem dX12_years_5 : decode cX12_years 5 = .ok (.iload_n 2, 1) := by decide +kernel
theorem dX12_years_6 : decode cX12_years 6 = .ok (.iconst 1, 1) := by decide +kernel
theorem dX12_years_7 : decode cX12_years 7 = .ok (.bipush 20, 2) := by decide +kernel
theorem dX12_years_9 : decode cX12_years 9 = .ok (.invokestatic 71, 3) := by decide +kernel
theorem dX12_years_12 : decode cX12_years 12 = .ok (.ifCond .eq 13, 3) := by decide +kernel
theorem dX12_years_15 : decode cX12_years 15 = .ok (.iload_n 3, 1) := by decide +kernel
theorem dX12_years_16 : decode cX12_years 16 = .ok (.iconst 1, 1) := by decide +kernel
theorem dX12_years_17 : decode cX12_years 17 = .ok (.bipush 9, 2) := by decide +kernel
theorem dX12_years_19 : decode cX12_years 19 = .ok (.invokestatic 71, 3) := by decide +kernel
theorem dX12_years_22 : decode cX12_years 22 = .ok (.ifCond .ne 5, 3) := by decide +kernel
theorem dX12_years_25 : decode cX12_years 25 = .ok (.iconst (-1), 1) := by decide +kernel
theorem dX12_years_26 : decode cX12_years 26 = .ok (.ireturn, 1) := by decide +kernel
theorem dX12_years_27 : decode cX12_years 27 = .ok (.aload_n 0, 1) := by decide +kernel
theorem dX12_years_28 : decode cX12_years 28 = .ok (.getfield 9, 3) := by decide +kernel
theorem dX12_years_31 : decode cX12_years 31 = .ok (.iconst 0, 1) := by decide +kernel
theorem dX12_years_32 : decode cX12_years 32 = .ok (.iaload, 1) := by decide +kernel
theorem dX12_years_33 : decode cX12_years 33 = .ok (.iconst 2, 1) := by decide +kernel
theorem dX12_years_34 : decode cX12_years 34 = .ok (.if_icmp .ge 6, 3) := by decide +kernel
theorem dX12_years_37 : decode cX12_years 37 = .ok (.bipush (-2), 2) := by decide +kernel
theorem dX12_years_39 : decode cX12_years 39 = .ok (.ireturn, 1) := by decide +kernel
theorem dX12_years_40 : decode cX12_years 40 = .ok (.aload_n 0, 1) := by decide +kernel
theorem dX12_years_41 : decode cX12_years 41 = .ok (.iload_n 1, 1) := by decide +kernel
theorem dX12_years_42 : decode cX12_years 42 = .ok (.putfield 322, 3) := by decide +kernel
theorem dX12_years_45 : decode cX12_years 45 = .ok (.aload_n 0, 1) := by decide +kernel
theorem dX12_years_46 : decode cX12_years 46 = .ok (.invokevirtual 257, 3) := by decide +kernel
theorem dX12_years_49 : decode cX12_years 49 = .ok (.iconst 0, 1) := by decide +kernel
theorem dX12_years_50 : decode cX12_years 50 = .ok (.istore 4, 2) := by decide +kernel
theorem dX12_years_52 : decode cX12_years 52 = .ok (.iload 4, 2) := by decide +kernel
theorem dX12_years_54 : decode cX12_years 54 = .ok (.iload_n 2, 1) := by decide +kernel
theorem dX12_years_55 : decode cX12_years 55 = .ok (.if_icmp .ge 48, 3) := by decide +kernel
theorem dX12_years_58 : decode cX12_years 58 = .ok (.aload_n 0, 1) := by decide +kernel
theorem dX12_years_59 : decode cX12_years 59 = .ok (.aload_n 0, 1) := by decide +kernel
theorem dX12_years_60 : decode cX12_years 60 = .ok (.getfield 9, 3) := by decide +kernel
theorem dX12_years_63 : decode cX12_years 63 = .ok (.iconst 0, 1) := by decide +kernel
theorem dX12_years_64 : decode cX12_years 64 = .ok (.iaload, 1) := by decide +kernel
theorem dX12_years_65 : decode cX12_years 65 = .ok (.invokevirtual 326, 3) := by decide +kernel
theorem dX12_years_68 : decode cX12_years 68 = .ok (.istore 5, 2) := by decide +kernel
theorem dX12_years_70 : decode cX12_years 70 = .ok (.aload_n 0, 1) := by decide +kernel
theorem dX12_years_71 : decode cX12_years 71 = .ok (.aload_n 0, 1) := by decide +kernel
theorem dX12_years_72 : decode cX12_years 72 = .ok (.getfield 9, 3) := by decide +kernel
theorem dX12_years_75 : decode cX12_years 75 = .ok (.iconst 0, 1) := by decide +kernel
theorem dX12_years_76 : decode cX12_years 76 = .ok (.iaload, 1) := by decide +kernel
theorem dX12_years_77 : decode cX12_years 77 = .ok (.invokevirtual 326, 3) := by decide +kernel
theorem dX12_years_80 : decode cX12_years 80 = .ok (.istore 6, 2) := by decide +kernel
theorem dX12_years_82 : decode cX12_years 82 = .ok (.iload 5, 2) := by decide +kernel
theorem dX12_years_84 : decode cX12_years 84 = .ok (.iload 6, 2) := by decide +kernel
theorem dX12_years_86 : decode cX12_years 86 = .ok (.if_icmp .eq 11, 3) := by decide +kernel
theorem dX12_years_89 : decode cX12_years 89 = .ok (.aload_n 0, 1) := by decide +kernel
theorem dX12_years_90 : decode cX12_years 90 = .ok (.iload 5, 2) := by decide +kernel
theorem dX12_years_92 : decode cX12_years 92 = .ok (.iload 6, 2) := by decide +kernel
theorem dX12_years_94 : decode cX12_years 94 = .ok (.invokevirtual 283, 3) := by decide +kernel
theorem dX12_years_97 : decode cX12_years 97 = .ok (.iinc 4 1, 3) := by decide +kernel
theorem dX12_years_100 : decode cX12_years 100 = .ok (.goto (-48), 3) := by decide +kernel
theorem dX12_years_103 : decode cX12_years 103 = .ok (.aload_n 0, 1) := by decide +kernel
theorem dX12_years_104 : decode cX12_years 104 = .ok (.iconst 1, 1) := by decide +kernel
theorem dX12_years_105 : decode cX12_years 105 = .ok (.invokevirtual 179, 3) := by decide +kernel
theorem dX12_years_108 : decode cX12_years 108 = .ok (.istore 4, 2) := by decide +kernel
theorem dX12_years_110 : decode cX12_years 110 = .ok (.aload_n 0, 1) := by decide +kernel
theorem dX12_years_111 : decode cX12_years 111 = .ok (.iconst 0, 1) := by decide +kernel
theorem dX12_years_112 : decode cX12_years 112 = .ok (.aload_n 0, 1) := by decide +kernel
theorem dX12_years_113 : decode cX12_years 113 = .ok (.getfield 9, 3) := by decide +kernel
theorem dX12_years_116 : decode cX12_years 116 = .ok (.iconst 0, 1) := by decide +kernel
theorem dX12_years_117 : decode cX12_years 117 = .ok (.iaload, 1) := by decide +kernel
theorem dX12_years_118 : decode cX12_years 118 = .ok (.iload_n 3, 1) := by decide +kernel
theorem dX12_years_119 : decode cX12_years 119 = .ok (.invokevirtual 248, 3) := by decide +kernel
theorem dX12_years_122 : decode cX12_years 122 = .ok (.istore 5, 2) := by decide +kernel
theorem dX12_years_124 : decode cX12_years 124 = .ok (.aload_n 0, 1) := by decide +kernel
theorem dX12_years_125 : decode cX12_years 125 = .ok (.iconst 1, 1) := by decide +kernel
theorem dX12_years_126 : decode cX12_years 126 = .ok (.invokevirtual 179, 3) := by decide +kernel
theorem dX12_years_129 : decode cX12_years 129 = .ok (.istore 6, 2) := by decide +kernel
theorem dX12_years_131 : decode cX12_years 131 = .ok (.aload_n 0, 1) := by decide +kernel
theorem dX12_years_132 : decode cX12_years 132 = .ok (.invokevirtual 260, 3) := by decide +kernel
theorem dX12_years_135 : decode cX12_years 135 = .ok (.aload_n 0, 1) := by decide +kernel
theorem dX12_years_136 : decode cX12_years 136 = .ok (.iconst 0, 1) := by decide +kernel
theorem dX12_years_137 : decode cX12_years 137 = .ok (.putfield 68, 3) := by decide +kernel
theorem dX12_years_140 : decode cX12_years 140 = .ok (.aload_n 0, 1) := by decide +kernel
theorem dX12_years_141 : decode cX12_years 141 = .ok (.iload 4, 2) := by decide +kernel
theorem dX12_years_143 : decode cX12_years 143 = .ok (.i2l, 1) := by decide +kernel
theorem dX12_years_144 : decode cX12_years 144 = .ok (.invokevirtual 167, 3) := by decide +kernel
theorem dX12_years_147 : decode cX12_years 147 = .ok (.aload_n 0, 1) := by decide +kernel
theorem dX12_years_148 : decode cX12_years 148 = .ok (.iload 5, 2) := by decide +kernel
theorem dX12_years_150 : decode cX12_years 150 = .ok (.i2l, 1) := by decide +kernel
theorem dX12_years_151 : decode cX12_years 151 = .ok (.invokevirtual 167, 3) := by decide +kernel
theorem dX12_years_154 : decode cX12_years 154 = .ok (.iload 6, 2) := by decide +kernel
theorem dX12_years_156 : decode cX12_years 156 = .ok (.ireturn, 1) := by decide +kernel
theorem dX12_keep_0 : decode cX12_keep 0 = .ok (.aload_n 0, 1) := by decide +kernel
theorem dX12_keep_1 : decode cX12_keep 1 = .ok (.iconst 0, 1) := by decide +kernel
theorem dX12_keep_2 : decode cX12_keep 2 = .ok (.putfield 64, 3) := by decide +kernel
theorem dX12_keep_5 : decode cX12_keep 5 = .ok (.iload_n 1, 1) := by decide +kernel
theorem dX12_keep_6 : decode cX12_keep 6 = .ok (.iconst 0, 1) := by decide +kernel
theorem dX12_keep_7 : decode cX12_keep 7 = .ok (.iconst 1, 1) := by decide +kernel
theorem dX12_keep_8 : decode cX12_keep 8 = .ok (.invokestatic 71, 3) := by decide +kernel
theorem dX12_keep_11 : decode cX12_keep 11 = .ok (.ifCond .ne 5, 3) := by decide +kernel
theorem dX12_keep_14 : decode cX12_keep 14 = .ok (.iconst 0, 1) := by decide +kernel
theorem dX12_keep_15 : decode cX12_keep 15 = .ok (.ireturn, 1) := by decide +kernel
theorem dX12_keep_16 : decode cX12_keep 16 = .ok (.aload_n 0, 1) := by decide +kernel
theorem dX12_keep_17 : decode cX12_keep 17 = .ok (.getfield 60, 3) := by decide +kernel
theorem dX12_keep_20 : decode cX12_keep 20 = .ok (.iload_n 1, 1) := by decide +kernel
theorem dX12_keep_21 : decode cX12_keep 21 = .ok (.iconst 1, 1) := by decide +kernel
theorem dX12_keep_22 : decode cX12_keep 22 = .ok (.bastore, 1) := by decide +kernel
theorem dX12_keep_23 : decode cX12_keep 23 = .ok (.iconst 0, 1) := by decide +kernel
theorem dX12_keep_24 : decode cX12_keep 24 = .ok (.istore_n 2, 1) := by decide +kernel
theorem dX12_keep_25 : decode cX12_keep 25 = .ok (.iload_n 2, 1) := by decide +kernel
theorem dX12_keep_26 : decode cX12_keep 26 = .ok (.bipush 33, 2) := by decide +kernel
theorem dX12_keep_28 : decode cX12_keep 28 = .ok (.if_icmp .ge 26, 3) := by decide +kernel
theorem dX12_keep_31 : decode cX12_keep 31 = .ok (.aload_n 0, 1) := by decide +kernel
theorem dX12_keep_32 : decode cX12_keep 32 = .ok (.getfield 57, 3) := by decide +kernel
theorem dX12_keep_35 : decode cX12_keep 35 = .ok (.bipush 33, 2) := by decide +kernel
theorem dX12_keep_37 : decode cX12_keep 37 = .ok (.iload_n 1, 1) := by decide +kernel
theorem dX12_keep_38 : decode cX12_keep 38 = .ok (.imul, 1) := by decide +kernel
theorem dX12_keep_39 : decode cX12_keep 39 = .ok (.iload_n 2, 1) := by decide +kernel
theorem dX12_keep_40 : decode cX12_keep 40 = .ok (.iadd, 1) := by decide +kernel
theorem dX12_keep_41 : decode cX12_keep 41 = .ok (.aload_n 0, 1) := by decide +kernel
theorem dX12_keep_42 : decode cX12_keep 42 = .ok (.getfield 9, 3) := by decide +kernel
theorem dX12_keep_45 : decode cX12_keep 45 = .ok (.iload_n 2, 1) := by decide +kernel
theorem dX12_keep_46 : decode cX12_keep 46 = .ok (.iaload, 1) := by decide +kernel
theorem dX12_keep_47 : decode cX12_keep 47 = .ok (.iastore, 1) := by decide +kernel
theorem dX12_keep_48 : decode cX12_keep 48 = .ok (.iinc 2 1, 3) := by decide +kernel
theorem dX12_keep_51 : decode cX12_keep 51 = .ok (.goto (-26), 3) := by decide +kernel
theorem dX12_keep_54 : decode cX12_keep 54 = .ok (.iconst 1, 1) := by decide +kernel
theorem dX12_keep_55 : decode cX12_keep 55 = .ok (.ireturn, 1) := by decide +kernel
theorem dX12_again_0 : decode cX12_again 0 = .ok (.aload_n 0, 1) := by decide +kernel
theorem dX12_again_1 : decode cX12_again 1 = .ok (.iconst 0, 1) := by decide +kernel
theorem dX12_again_2 : decode cX12_again 2 = .ok (.putfield 64, 3) := by decide +kernel
theorem dX12_again_5 : decode cX12_again 5 = .ok (.iload_n 1, 1) := by decide +kernel
theorem dX12_again_6 : decode cX12_again 6 = .ok (.iconst 0, 1) := by decide +kernel
theorem dX12_again_7 : decode cX12_again 7 = .ok (.iconst 1, 1) := by decide +kernel
theorem dX12_again_8 : decode cX12_again 8 = .ok (.invokestatic 71, 3) := by decide +kernel
theorem dX12_again_11 : decode cX12_again 11 = .ok (.ifCond .eq 12, 3) := by decide +kernel
theorem dX12_again_14 : decode cX12_again 14 = .ok (.aload_n 0, 1) := by decide +kernel
theorem dX12_again_15 : decode cX12_again 15 = .ok (.getfield 60, 3) := by decide +kernel
theorem dX12_again_18 : decode cX12_again 18 = .ok (.iload_n 1, 1) := by decide +kernel
theorem dX12_again_19 : decode cX12_again 19 = .ok (.baload, 1) := by decide +kernel
theorem dX12_again_20 : decode cX12_again 20 = .ok (.ifCond .ne 5, 3) := by decide +kernel
theorem dX12_again_23 : decode cX12_again 23 = .ok (.iconst 0, 1) := by decide +kernel
theorem dX12_again_24 : decode cX12_again 24 = .ok (.ireturn, 1) := by decide +kernel
theorem dX12_again_25 : decode cX12_again 25 = .ok (.iconst 0, 1) := by decide +kernel
theorem dX12_again_26 : decode cX12_again 26 = .ok (.istore_n 2, 1) := by decide +kernel
theorem dX12_again_27 : decode cX12_again 27 = .ok (.iload_n 2, 1) := by decide +kernel
theorem dX12_again_28 : decode cX12_again 28 = .ok (.bipush 33, 2) := by decide +kernel
theorem dX12_again_30 : decode cX12_again 30 = .ok (.if_icmp .ge 26, 3) := by decide +kernel
theorem dX12_again_33 : decode cX12_again 33 = .ok (.aload_n 0, 1) := by decide +kernel
theorem dX12_again_34 : decode cX12_again 34 = .ok (.getfield 9, 3) := by decide +kernel
theorem dX12_again_37 : decode cX12_again 37 = .ok (.iload_n 2, 1) := by decide +kernel
theorem dX12_again_38 : decode cX12_again 38 = .ok (.aload_n 0, 1) := by decide +kernel
theorem dX12_again_39 : decode cX12_again 39 = .ok (.getfield 57, 3) := by decide +kernel
theorem dX12_again_42 : decode cX12_again 42 = .ok (.bipush 33, 2) := by decide +kernel
theorem dX12_again_44 : decode cX12_again 44 = .ok (.iload_n 1, 1) := by decide +kernel
theorem dX12_again_45 : decode cX12_again 45 = .ok (.imul, 1) := by decide +kernel
theorem dX12_again_46 : decode cX12_again 46 = .ok (.iload_n 2, 1) := by decide +kernel
theorem dX12_again_47 : decode cX12_again 47 = .ok (.iadd, 1) := by decide +kernel
theorem dX12_again_48 : decode cX12_again 48 = .ok (.iaload, 1) := by decide +kernel
theorem dX12_again_49 : decode cX12_again 49 = .ok (.iastore, 1) := by decide +kernel
theorem dX12_again_50 : decode cX12_again 50 = .ok (.iinc 2 1, 3) := by decide +kernel
theorem dX12_again_53 : decode cX12_again 53 = .ok (.goto (-26), 3) := by decide +kernel
theorem dX12_again_56 : decode cX12_again 56 = .ok (.aload_n 0, 1) := by decide +kernel
theorem dX12_again_57 : decode cX12_again 57 = .ok (.iconst 0, 1) := by decide +kernel
theorem dX12_again_58 : decode cX12_again 58 = .ok (.putfield 319, 3) := by decide +kernel
theorem dX12_again_61 : decode cX12_again 61 = .ok (.iconst 1, 1) := by decide +kernel
theorem dX12_again_62 : decode cX12_again 62 = .ok (.ireturn, 1) := by decide +kernel
theorem dX12_allTerms_0 : decode cX12_allTerms 0 = .ok (.iconst 0, 1) := by decide +kernel
theorem dX12_allTerms_1 : decode cX12_allTerms 1 = .ok (.istore_n 1, 1) := by decide +kernel
theorem dX12_allTerms_2 : decode cX12_allTerms 2 = .ok (.iconst 0, 1) := by decide +kernel
theorem dX12_allTerms_3 : decode cX12_allTerms 3 = .ok (.istore_n 2, 1) := by decide +kernel
theorem dX12_allTerms_4 : decode cX12_allTerms 4 = .ok (.iload_n 2, 1) := by decide +kernel
theorem dX12_allTerms_5 : decode cX12_allTerms 5 = .ok (.aload_n 0, 1) := by decide +kernel
theorem dX12_allTerms_6 : decode cX12_allTerms 6 = .ok (.getfield 9, 3) := by decide +kernel
theorem dX12_allTerms_9 : decode cX12_allTerms 9 = .ok (.iconst 0, 1) := by decide +kernel
theorem dX12_allTerms_10 : decode cX12_allTerms 10 = .ok (.iaload, 1) := by decide +kernel
theorem dX12_allTerms_11 : decode cX12_allTerms 11 = .ok (.if_icmp .ge 20, 3) := by decide +kernel
theorem dX12_allTerms_14 : decode cX12_allTerms 14 = .ok (.iload_n 1, 1) := by decide +kernel
theorem dX12_allTerms_15 : decode cX12_allTerms 15 = .ok (.aload_n 0, 1) := by decide +kernel
theorem dX12_allTerms_16 : decode cX12_allTerms 16 = .ok (.getfield 9, 3) := by decide +kernel
theorem dX12_allTerms_19 : decode cX12_allTerms 19 = .ok (.iconst 1, 1) := by decide +kernel
theorem dX12_allTerms_20 : decode cX12_allTerms 20 = .ok (.iload_n 2, 1) := by decide +kernel
theorem dX12_allTerms_21 : decode cX12_allTerms 21 = .ok (.iadd, 1) := by decide +kernel
theorem dX12_allTerms_22 : decode cX12_allTerms 22 = .ok (.iaload, 1) := by decide +kernel
theorem dX12_allTerms_23 : decode cX12_allTerms 23 = .ok (.ior, 1) := by decide +kernel
theorem dX12_allTerms_24 : decode cX12_allTerms 24 = .ok (.istore_n 1, 1) := by decide +kernel
theorem dX12_allTerms_25 : decode cX12_allTerms 25 = .ok (.iinc 2 1, 3) := by decide +kernel
theorem dX12_allTerms_28 : decode cX12_allTerms 28 = .ok (.goto (-24), 3) := by decide +kernel
theorem dX12_allTerms_31 : decode cX12_allTerms 31 = .ok (.iload_n 1, 1) := by decide +kernel
theorem dX12_allTerms_32 : decode cX12_allTerms 32 = .ok (.ireturn, 1) := by decide +kernel
theorem dX12_termMany_0 : decode cX12_termMany 0 = .ok (.iconst 0, 1) := by decide +kernel
theorem dX12_termMany_1 : decode cX12_termMany 1 = .ok (.istore_n 1, 1) := by decide +kernel
theorem dX12_termMany_2 : decode cX12_termMany 2 = .ok (.iconst 0, 1) := by decide +kernel
theorem dX12_termMany_3 : decode cX12_termMany 3 = .ok (.istore_n 2, 1) := by decide +kernel
theorem dX12_termMany_4 : decode cX12_termMany 4 = .ok (.iload_n 2, 1) := by decide +kernel
theorem dX12_termMany_5 : decode cX12_termMany 5 = .ok (.aload_n 0, 1) := by decide +kernel
theorem dX12_termMany_6 : decode cX12_termMany 6 = .ok (.getfield 9, 3) := by decide +kernel
theorem dX12_termMany_9 : decode cX12_termMany 9 = .ok (.iconst 0, 1) := by decide +kernel
theorem dX12_termMany_10 : decode cX12_termMany 10 = .ok (.iaload, 1) := by decide +kernel
theorem dX12_termMany_11 : decode cX12_termMany 11 = .ok (.if_icmp .ge 23, 3) := by decide +kernel
theorem dX12_termMany_14 : decode cX12_termMany 14 = .ok (.iload_n 1, 1) := by decide +kernel
theorem dX12_termMany_15 : decode cX12_termMany 15 = .ok (.aload_n 0, 1) := by decide +kernel
theorem dX12_termMany_16 : decode cX12_termMany 16 = .ok (.getfield 9, 3) := by decide +kernel
theorem dX12_termMany_19 : decode cX12_termMany 19 = .ok (.iconst 1, 1) := by decide +kernel
theorem dX12_termMany_20 : decode cX12_termMany 20 = .ok (.iload_n 2, 1) := by decide +kernel
theorem dX12_termMany_21 : decode cX12_termMany 21 = .ok (.iadd, 1) := by decide +kernel
theorem dX12_termMany_22 : decode cX12_termMany 22 = .ok (.iaload, 1) := by decide +kernel
theorem dX12_termMany_23 : decode cX12_termMany 23 = .ok (.invokestatic 136, 3) := by decide +kernel
theorem dX12_termMany_26 : decode cX12_termMany 26 = .ok (.iadd, 1) := by decide +kernel
theorem dX12_termMany_27 : decode cX12_termMany 27 = .ok (.istore_n 1, 1) := by decide +kernel
theorem dX12_termMany_28 : decode cX12_termMany 28 = .ok (.iinc 2 1, 3) := by decide +kernel
theorem dX12_termMany_31 : decode cX12_termMany 31 = .ok (.goto (-27), 3) := by decide +kernel
theorem dX12_termMany_34 : decode cX12_termMany 34 = .ok (.iload_n 1, 1) := by decide +kernel
theorem dX12_termMany_35 : decode cX12_termMany 35 = .ok (.ireturn, 1) := by decide +kernel
theorem dX12_count_0 : decode cX12_count 0 = .ok (.aload_n 0, 1) := by decide +kernel
theorem dX12_count_1 : decode cX12_count 1 = .ok (.iconst 0, 1) := by decide +kernel
theorem dX12_count_2 : decode cX12_count 2 = .ok (.putfield 64, 3) := by decide +kernel
theorem dX12_count_5 : decode cX12_count 5 = .ok (.iload_n 1, 1) := by decide +kernel
theorem dX12_count_6 : decode cX12_count 6 = .ok (.tableswitch 79 0 6 #[42, 49, 54, 59, 64, 69, 74], 42) := by decide +kernel
theorem dX12_count_48 : decode cX12_count 48 = .ok (.aload_n 0, 1) := by decide +kernel
theorem dX12_count_49 : decode cX12_count 49 = .ok (.getfield 9, 3) := by decide +kernel
theorem dX12_count_52 : decode cX12_count 52 = .ok (.iconst 0, 1) := by decide +kernel
theorem dX12_count_53 : decode cX12_count 53 = .ok (.iaload, 1) := by decide +kernel
theorem dX12_count_54 : decode cX12_count 54 = .ok (.ireturn, 1) := by decide +kernel
theorem dX12_count_55 : decode cX12_count 55 = .ok (.aload_n 0, 1) := by decide +kernel
theorem dX12_count_56 : decode cX12_count 56 = .ok (.invokevirtual 329, 3) := by decide +kernel
theorem dX12_count_59 : decode cX12_count 59 = .ok (.ireturn, 1) := by decide +kernel
theorem dX12_count_60 : decode cX12_count 60 = .ok (.aload_n 0, 1) := by decide +kernel
theorem dX12_count_61 : decode cX12_count 61 = .ok (.getfield 319, 3) := by decide +kernel
theorem dX12_count_64 : decode cX12_count 64 = .ok (.ireturn, 1) := by decide +kernel
theorem dX12_count_65 : decode cX12_count 65 = .ok (.aload_n 0, 1) := by decide +kernel
theorem dX12_count_66 : decode cX12_count 66 = .ok (.getfield 304, 3) := by decide +kernel
theorem dX12_count_69 : decode cX12_count 69 = .ok (.ireturn, 1) := by decide +kernel
theorem dX12_count_70 : decode cX12_count 70 = .ok (.aload_n 0, 1) := by decide +kernel
theorem dX12_count_71 : decode cX12_count 71 = .ok (.getfield 68, 3) := by decide +kernel
theorem dX12_count_74 : decode cX12_count 74 = .ok (.ireturn, 1) := by decide +kernel
theorem dX12_count_75 : decode cX12_count 75 = .ok (.aload_n 0, 1) := by decide +kernel
theorem dX12_count_76 : decode cX12_count 76 = .ok (.getfield 83, 3) := by decide +kernel
theorem dX12_count_79 : decode cX12_count 79 = .ok (.ireturn, 1) := by decide +kernel
theorem dX12_count_80 : decode cX12_count 80 = .ok (.aload_n 0, 1) := by decide +kernel
theorem dX12_count_81 : decode cX12_count 81 = .ok (.invokevirtual 332, 3) := by decide +kernel
theorem dX12_count_84 : decode cX12_count 84 = .ok (.ireturn, 1) := by decide +kernel
theorem dX12_count_85 : decode cX12_count 85 = .ok (.iconst (-1), 1) := by decide +kernel
theorem dX12_count_86 : decode cX12_count 86 = .ok (.ireturn, 1) := by decide +kernel
theorem dX12_row_0 : decode cX12_row 0 = .ok (.aload_n 0, 1) := by decide +kernel
theorem dX12_row_1 : decode cX12_row 1 = .ok (.iconst 0, 1) := by decide +kernel
theorem dX12_row_2 : decode cX12_row 2 = .ok (.putfield 64, 3) := by decide +kernel
theorem dX12_row_5 : decode cX12_row 5 = .ok (.iload_n 1, 1) := by decide +kernel
theorem dX12_row_6 : decode cX12_row 6 = .ok (.iconst 0, 1) := by decide +kernel
theorem dX12_row_7 : decode cX12_row 7 = .ok (.aload_n 0, 1) := by decide +kernel
theorem dX12_row_8 : decode cX12_row 8 = .ok (.getfield 68, 3) := by decide +kernel
theorem dX12_row_11 : decode cX12_row 11 = .ok (.iconst 1, 1) := by decide +kernel
theorem dX12_row_12 : decode cX12_row 12 = .ok (.isub, 1) := by decide +kernel
theorem dX12_row_13 : decode cX12_row 13 = .ok (.invokestatic 71, 3) := by decide +kernel
theorem dX12_row_16 : decode cX12_row 16 = .ok (.ifCond .eq 12, 3) := by decide +kernel
theorem dX12_row_19 : decode cX12_row 19 = .ok (.aload_n 0, 1) := by decide +kernel
theorem dX12_row_20 : decode cX12_row 20 = .ok (.getfield 17, 3) := by decide +kernel
theorem dX12_row_23 : decode cX12_row 23 = .ok (.iload_n 1, 1) := by decide +kernel
theorem dX12_row_24 : decode cX12_row 24 = .ok (.laload, 1) := by decide +kernel
theorem dX12_row_25 : decode cX12_row 25 = .ok (.goto 8, 3) := by decide +kernel
theorem dX12_row_28 : decode cX12_row 28 = .ok (.aload_n 0, 1) := by decide +kernel
theorem dX12_row_29 : decode cX12_row 29 = .ok (.invokevirtual 133, 3) := by decide +kernel
theorem dX12_row_32 : decode cX12_row 32 = .ok (.i2l, 1) := by decide +kernel
theorem dX12_row_33 : decode cX12_row 33 = .ok (.lreturn, 1) := by decide +kernel
