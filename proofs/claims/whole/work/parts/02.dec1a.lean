theorem dX7_init_0 : decode cX7_init 0 = .ok (.aload_n 0, 1) := by decide +kernel
theorem dX7_init_1 : decode cX7_init 1 = .ok (.invokespecial 3, 3) := by decide +kernel
theorem dX7_init_4 : decode cX7_init 4 = .ok (.aload_n 0, 1) := by decide +kernel
theorem dX7_init_5 : decode cX7_init 5 = .ok (.bipush 16, 2) := by decide +kernel
theorem dX7_init_7 : decode cX7_init 7 = .ok (.newarray .int, 2) := by decide +kernel
theorem dX7_init_9 : decode cX7_init 9 = .ok (.putfield 9, 3) := by decide +kernel
theorem dX7_init_12 : decode cX7_init 12 = .ok (.aload_n 0, 1) := by decide +kernel
theorem dX7_init_13 : decode cX7_init 13 = .ok (.bipush 16, 2) := by decide +kernel
theorem dX7_init_15 : decode cX7_init 15 = .ok (.newarray .int, 2) := by decide +kernel
theorem dX7_init_17 : decode cX7_init 17 = .ok (.putfield 15, 3) := by decide +kernel
theorem dX7_init_20 : decode cX7_init 20 = .ok (.aload_n 0, 1) := by decide +kernel
theorem dX7_init_21 : decode cX7_init 21 = .ok (.iconst 0, 1) := by decide +kernel
theorem dX7_init_22 : decode cX7_init 22 = .ok (.putfield 18, 3) := by decide +kernel
theorem dX7_init_25 : decode cX7_init 25 = .ok (.return_, 1) := by decide +kernel
theorem dX7_size_0 : decode cX7_size 0 = .ok (.aload_n 0, 1) := by decide +kernel
theorem dX7_size_1 : decode cX7_size 1 = .ok (.getfield 18, 3) := by decide +kernel
theorem dX7_size_4 : decode cX7_size 4 = .ok (.ireturn, 1) := by decide +kernel
theorem dX7_has_0 : decode cX7_has 0 = .ok (.iload_n 1, 1) := by decide +kernel
theorem dX7_has_1 : decode cX7_has 1 = .ok (.ifCond .lt 15, 3) := by decide +kernel
theorem dX7_has_4 : decode cX7_has 4 = .ok (.iload_n 1, 1) := by decide +kernel
theorem dX7_has_5 : decode cX7_has 5 = .ok (.aload_n 0, 1) := by decide +kernel
theorem dX7_has_6 : decode cX7_has 6 = .ok (.getfield 18, 3) := by decide +kernel
theorem dX7_has_9 : decode cX7_has 9 = .ok (.if_icmp .ge 7, 3) := by decide +kernel
theorem dX7_has_12 : decode cX7_has 12 = .ok (.iconst 1, 1) := by decide +kernel
theorem dX7_has_13 : decode cX7_has 13 = .ok (.goto 4, 3) := by decide +kernel
theorem dX7_has_16 : decode cX7_has 16 = .ok (.iconst 0, 1) := by decide +kernel
theorem dX7_has_17 : decode cX7_has 17 = .ok (.ireturn, 1) := by decide +kernel
theorem dX7_termsOf_0 : decode cX7_termsOf 0 = .ok (.aload_n 0, 1) := by decide +kernel
theorem dX7_termsOf_1 : decode cX7_termsOf 1 = .ok (.iload_n 1, 1) := by decide +kernel
theorem dX7_termsOf_2 : decode cX7_termsOf 2 = .ok (.invokevirtual 22, 3) := by decide +kernel
theorem dX7_termsOf_5 : decode cX7_termsOf 5 = .ok (.ifCond .eq 12, 3) := by decide +kernel
theorem dX7_termsOf_8 : decode cX7_termsOf 8 = .ok (.aload_n 0, 1) := by decide +kernel
theorem dX7_termsOf_9 : decode cX7_termsOf 9 = .ok (.getfield 9, 3) := by decide +kernel
theorem dX7_termsOf_12 : decode cX7_termsOf 12 = .ok (.iload_n 1, 1) := by decide +kernel
theorem dX7_termsOf_13 : decode cX7_termsOf 13 = .ok (.iaload, 1) := by decide +kernel
theorem dX7_termsOf_14 : decode cX7_termsOf 14 = .ok (.goto 4, 3) := by decide +kernel
theorem dX7_termsOf_17 : decode cX7_termsOf 17 = .ok (.iconst 0, 1) := by decide +kernel
theorem dX7_termsOf_18 : decode cX7_termsOf 18 = .ok (.ireturn, 1) := by decide +kernel
theorem dX7_documentAt_0 : decode cX7_documentAt 0 = .ok (.aload_n 0, 1) := by decide +kernel
theorem dX7_documentAt_1 : decode cX7_documentAt 1 = .ok (.iload_n 1, 1) := by decide +kernel
theorem dX7_documentAt_2 : decode cX7_documentAt 2 = .ok (.invokevirtual 22, 3) := by decide +kernel
theorem dX7_documentAt_5 : decode cX7_documentAt 5 = .ok (.ifCond .eq 12, 3) := by decide +kernel
theorem dX7_documentAt_8 : decode cX7_documentAt 8 = .ok (.aload_n 0, 1) := by decide +kernel
theorem dX7_documentAt_9 : decode cX7_documentAt 9 = .ok (.getfield 15, 3) := by decide +kernel
theorem dX7_documentAt_12 : decode cX7_documentAt 12 = .ok (.iload_n 1, 1) := by decide +kernel
theorem dX7_documentAt_13 : decode cX7_documentAt 13 = .ok (.iaload, 1) := by decide +kernel
theorem dX7_documentAt_14 : decode cX7_documentAt 14 = .ok (.goto 4, 3) := by decide +kernel
theorem dX7_documentAt_17 : decode cX7_documentAt 17 = .ok (.iconst (-1), 1) := by decide +kernel
theorem dX7_documentAt_18 : decode cX7_documentAt 18 = .ok (.ireturn, 1) := by decide +kernel
theorem dX7_termsAt_0 : decode cX7_termsAt 0 = .ok (.iload_n 1, 1) := by decide +kernel
theorem dX7_termsAt_1 : decode cX7_termsAt 1 = .ok (.ifCond .lt 20, 3) := by decide +kernel
theorem dX7_termsAt_4 : decode cX7_termsAt 4 = .ok (.iload_n 1, 1) := by decide +kernel
theorem dX7_termsAt_5 : decode cX7_termsAt 5 = .ok (.aload_n 0, 1) := by decide +kernel
theorem dX7_termsAt_6 : decode cX7_termsAt 6 = .ok (.getfield 18, 3) := by decide +kernel
theorem dX7_termsAt_9 : decode cX7_termsAt 9 = .ok (.if_icmp .ge 12, 3) := by decide +kernel
theorem dX7_termsAt_12 : decode cX7_termsAt 12 = .ok (.aload_n 0, 1) := by decide +kernel
theorem dX7_termsAt_13 : decode cX7_termsAt 13 = .ok (.getfield 15, 3) := by decide +kernel
theorem dX7_termsAt_16 : decode cX7_termsAt 16 = .ok (.iload_n 1, 1) := by decide +kernel
theorem dX7_termsAt_17 : decode cX7_termsAt 17 = .ok (.iaload, 1) := by decide +kernel
theorem dX7_termsAt_18 : decode cX7_termsAt 18 = .ok (.goto 4, 3) := by decide +kernel
theorem dX7_termsAt_21 : decode cX7_termsAt 21 = .ok (.iconst (-1), 1) := by decide +kernel
theorem dX7_termsAt_22 : decode cX7_termsAt 22 = .ok (.istore_n 2, 1) := by decide +kernel
theorem dX7_termsAt_23 : decode cX7_termsAt 23 = .ok (.iload_n 2, 1) := by decide +kernel
theorem dX7_termsAt_24 : decode cX7_termsAt 24 = .ok (.ifCond .lt 20, 3) := by decide +kernel
theorem dX7_termsAt_27 : decode cX7_termsAt 27 = .ok (.iload_n 2, 1) := by decide +kernel
theorem dX7_termsAt_28 : decode cX7_termsAt 28 = .ok (.aload_n 0, 1) := by decide +kernel
theorem dX7_termsAt_29 : decode cX7_termsAt 29 = .ok (.getfield 18, 3) := by decide +kernel
theorem dX7_termsAt_32 : decode cX7_termsAt 32 = .ok (.if_icmp .ge 12, 3) := by decide +kernel
theorem dX7_termsAt_35 : decode cX7_termsAt 35 = .ok (.aload_n 0, 1) := by decide +kernel
theorem dX7_termsAt_36 : decode cX7_termsAt 36 = .ok (.getfield 9, 3) := by decide +kernel
theorem dX7_termsAt_39 : decode cX7_termsAt 39 = .ok (.iload_n 2, 1) := by decide +kernel
theorem dX7_termsAt_40 : decode cX7_termsAt 40 = .ok (.iaload, 1) := by decide +kernel
theorem dX7_termsAt_41 : decode cX7_termsAt 41 = .ok (.goto 4, 3) := by decide +kernel
theorem dX7_termsAt_44 : decode cX7_termsAt 44 = .ok (.iconst 0, 1) := by decide +kernel
theorem dX7_termsAt_45 : decode cX7_termsAt 45 = .ok (.ireturn, 1) := by decide +kernel
theorem dX7_numberOf_0 : decode cX7_numberOf 0 = .ok (.iconst 0, 1) := by decide +kernel
theorem dX7_numberOf_1 : decode cX7_numberOf 1 = .ok (.istore_n 2, 1) := by decide +kernel
theorem dX7_numberOf_2 : decode cX7_numberOf 2 = .ok (.iload_n 2, 1) := by decide +kernel
theorem dX7_numberOf_3 : decode cX7_numberOf 3 = .ok (.aload_n 0, 1) := by decide +kernel
theorem dX7_numberOf_4 : decode cX7_numberOf 4 = .ok (.getfield 18, 3) := by decide +kernel
theorem dX7_numberOf_7 : decode cX7_numberOf 7 = .ok (.if_icmp .ge 21, 3) := by decide +kernel
theorem dX7_numberOf_10 : decode cX7_numberOf 10 = .ok (.aload_n 0, 1) := by decide +kernel
theorem dX7_numberOf_11 : decode cX7_numberOf 11 = .ok (.getfield 15, 3) := by decide +kernel
theorem dX7_numberOf_14 : decode cX7_numberOf 14 = .ok (.iload_n 2, 1) := by decide +kernel
theorem dX7_numberOf_15 : decode cX7_numberOf 15 = .ok (.iaload, 1) := by decide +kernel
theorem dX7_numberOf_16 : decode cX7_numberOf 16 = .ok (.iload_n 1, 1) := by decide +kernel
theorem dX7_numberOf_17 : decode cX7_numberOf 17 = .ok (.if_icmp .ne 5, 3) := by decide +kernel
theorem dX7_numberOf_20 : decode cX7_numberOf 20 = .ok (.iload_n 2, 1) := by decide +kernel
theorem dX7_numberOf_21 : decode cX7_numberOf 21 = .ok (.ireturn, 1) := by decide +kernel
theorem dX7_numberOf_22 : decode cX7_numberOf 22 = .ok (.iinc 2 1, 3) := by decide +kernel
theorem dX7_numberOf_25 : decode cX7_numberOf 25 = .ok (.goto (-23), 3) := by decide +kernel
theorem dX7_numberOf_28 : decode cX7_numberOf 28 = .ok (.iconst (-1), 1) := by decide +kernel
theorem dX7_numberOf_29 : decode cX7_numberOf 29 = .ok (.ireturn, 1) := by decide +kernel
theorem dX7_clear_0 : decode cX7_clear 0 = .ok (.aload_n 0, 1) := by decide +kernel
theorem dX7_clear_1 : decode cX7_clear 1 = .ok (.iconst 0, 1) := by decide +kernel
theorem dX7_clear_2 : decode cX7_clear 2 = .ok (.putfield 18, 3) := by decide +kernel
theorem dX7_clear_5 : decode cX7_clear 5 = .ok (.return_, 1) := by decide +kernel
theorem dX7_add_0 : decode cX7_add 0 = .ok (.aload_n 0, 1) := by decide +kernel
theorem dX7_add_1 : decode cX7_add 1 = .ok (.getfield 18, 3) := by decide +kernel
theorem dX7_add_4 : decode cX7_add 4 = .ok (.bipush 16, 2) := by decide +kernel
theorem dX7_add_6 : decode cX7_add 6 = .ok (.if_icmp .ge 36, 3) := by decide +kernel
theorem dX7_add_9 : decode cX7_add 9 = .ok (.aload_n 0, 1) := by decide +kernel
theorem dX7_add_10 : decode cX7_add 10 = .ok (.getfield 9, 3) := by decide +kernel
theorem dX7_add_13 : decode cX7_add 13 = .ok (.aload_n 0, 1) := by decide +kernel
theorem dX7_add_14 : decode cX7_add 14 = .ok (.getfield 18, 3) := by decide +kernel
theorem dX7_add_17 : decode cX7_add 17 = .ok (.iload_n 1, 1) := by decide +kernel
theorem dX7_add_18 : decode cX7_add 18 = .ok (.iastore, 1) := by decide +kernel
theorem dX7_add_19 : decode cX7_add 19 = .ok (.aload_n 0, 1) := by decide +kernel
theorem dX7_add_20 : decode cX7_add 20 = .ok (.getfield 15, 3) := by decide +kernel
theorem dX7_add_23 : decode cX7_add 23 = .ok (.aload_n 0, 1) := by decide +kernel
theorem dX7_add_24 : decode cX7_add 24 = .ok (.getfield 18, 3) := by decide +kernel
theorem dX7_add_27 : decode cX7_add 27 = .ok (.aload_n 0, 1) := by decide +kernel
theorem dX7_add_28 : decode cX7_add 28 = .ok (.getfield 18, 3) := by decide +kernel
theorem dX7_add_31 : decode cX7_add 31 = .ok (.iastore, 1) := by decide +kernel
theorem dX7_add_32 : decode cX7_add 32 = .ok (.aload_n 0, 1) := by decide +kernel
theorem dX7_add_33 : decode cX7_add 33 = .ok (.dup, 1) := by decide +kernel
theorem dX7_add_34 : decode cX7_add 34 = .ok (.getfield 18, 3) := by decide +kernel
theorem dX7_add_37 : decode cX7_add 37 = .ok (.iconst 1, 1) := by decide +kernel
theorem dX7_add_38 : decode cX7_add 38 = .ok (.iadd, 1) := by decide +kernel
theorem dX7_add_39 : decode cX7_add 39 = .ok (.putfield 18, 3) := by decide +kernel
theorem dX7_add_42 : decode cX7_add 42 = .ok (.return_, 1) := by decide +kernel
theorem dX7_setTerms_0 : decode cX7_setTerms 0 = .ok (.aload_n 0, 1) := by decide +kernel
theorem dX7_setTerms_1 : decode cX7_setTerms 1 = .ok (.iload_n 1, 1) := by decide +kernel
theorem dX7_setTerms_2 : decode cX7_setTerms 2 = .ok (.invokevirtual 22, 3) := by decide +kernel
theorem dX7_setTerms_5 : decode cX7_setTerms 5 = .ok (.ifCond .eq 10, 3) := by decide +kernel
theorem dX7_setTerms_8 : decode cX7_setTerms 8 = .ok (.aload_n 0, 1) := by decide +kernel
theorem dX7_setTerms_9 : decode cX7_setTerms 9 = .ok (.getfield 9, 3) := by decide +kernel
theorem dX7_setTerms_12 : decode cX7_setTerms 12 = .ok (.iload_n 1, 1) := by decide +kernel
theorem dX7_setTerms_13 : decode cX7_setTerms 13 = .ok (.iload_n 2, 1) := by decide +kernel
theorem dX7_setTerms_14 : decode cX7_setTerms 14 = .ok (.iastore, 1) := by decide +kernel
theorem dX7_setTerms_15 : decode cX7_setTerms 15 = .ok (.return_, 1) := by decide +kernel
theorem dX7_lay_0 : decode cX7_lay 0 = .ok (.aload_n 0, 1) := by decide +kernel
theorem dX7_lay_1 : decode cX7_lay 1 = .ok (.iload_n 1, 1) := by decide +kernel
theorem dX7_lay_2 : decode cX7_lay 2 = .ok (.invokevirtual 22, 3) := by decide +kernel
theorem dX7_lay_5 : decode cX7_lay 5 = .ok (.ifCond .eq 18, 3) := by decide +kernel
theorem dX7_lay_8 : decode cX7_lay 8 = .ok (.aload_n 0, 1) := by decide +kernel
theorem dX7_lay_9 : decode cX7_lay 9 = .ok (.iload_n 2, 1) := by decide +kernel
theorem dX7_lay_10 : decode cX7_lay 10 = .ok (.invokevirtual 22, 3) := by decide +kernel
theorem dX7_lay_13 : decode cX7_lay 13 = .ok (.ifCond .eq 10, 3) := by decide +kernel
theorem dX7_lay_16 : decode cX7_lay 16 = .ok (.aload_n 0, 1) := by decide +kernel
theorem dX7_lay_17 : decode cX7_lay 17 = .ok (.getfield 15, 3) := by decide +kernel
theorem dX7_lay_20 : decode cX7_lay 20 = .ok (.iload_n 1, 1) := by decide +kernel
theorem dX7_lay_21 : decode cX7_lay 21 = .ok (.iload_n 2, 1) := by decide +kernel
theorem dX7_lay_22 : decode cX7_lay 22 = .ok (.iastore, 1) := by decide +kernel
theorem dX7_lay_23 : decode cX7_lay 23 = .ok (.return_, 1) := by decide +kernel
theorem dX7_copyFrom_0 : decode cX7_copyFrom 0 = .ok (.aload_n 0, 1) := by decide +kernel
theorem dX7_copyFrom_1 : decode cX7_copyFrom 1 = .ok (.aload_n 1, 1) := by decide +kernel
theorem dX7_copyFrom_2 : decode cX7_copyFrom 2 = .ok (.getfield 18, 3) := by decide +kernel
theorem dX7_copyFrom_5 : decode cX7_copyFrom 5 = .ok (.putfield 18, 3) := by decide +kernel
theorem dX7_copyFrom_8 : decode cX7_copyFrom 8 = .ok (.iconst 0, 1) := by decide +kernel
theorem dX7_copyFrom_9 : decode cX7_copyFrom 9 = .ok (.istore_n 2, 1) := by decide +kernel
theorem dX7_copyFrom_10 : decode cX7_copyFrom 10 = .ok (.iload_n 2, 1) := by decide +kernel
theorem dX7_copyFrom_11 : decode cX7_copyFrom 11 = .ok (.aload_n 0, 1) := by decide +kernel
theorem dX7_copyFrom_12 : decode cX7_copyFrom 12 = .ok (.getfield 18, 3) := by decide +kernel
theorem dX7_copyFrom_15 : decode cX7_copyFrom 15 = .ok (.if_icmp .ge 33, 3) := by decide +kernel
theorem dX7_copyFrom_18 : decode cX7_copyFrom 18 = .ok (.aload_n 0, 1) := by decide +kernel
theorem dX7_copyFrom_19 : decode cX7_copyFrom 19 = .ok (.getfield 9, 3) := by decide +kernel
theorem dX7_copyFrom_22 : decode cX7_copyFrom 22 = .ok (.iload_n 2, 1) := by decide +kernel
theorem dX7_copyFrom_23 : decode cX7_copyFrom 23 = .ok (.aload_n 1, 1) := by decide +kernel
theorem dX7_copyFrom_24 : decode cX7_copyFrom 24 = .ok (.getfield 9, 3) := by decide +kernel
theorem dX7_copyFrom_27 : decode cX7_copyFrom 27 = .ok (.iload_n 2, 1) := by decide +kernel
theorem dX7_copyFrom_28 : decode cX7_copyFrom 28 = .ok (.iaload, 1) := by decide +kernel
theorem dX7_copyFrom_29 : decode cX7_copyFrom 29 = .ok (.iastore, 1) := by decide +kernel
theorem dX7_copyFrom_30 : decode cX7_copyFrom 30 = .ok (.aload_n 0, 1) := by decide +kernel
theorem dX7_copyFrom_31 : decode cX7_copyFrom 31 = .ok (.getfield 15, 3) := by decide +kernel
theorem dX7_copyFrom_34 : decode cX7_copyFrom 34 = .ok (.iload_n 2, 1) := by decide +kernel
theorem dX7_copyFrom_35 : decode cX7_copyFrom 35 = .ok (.aload_n 1, 1) := by decide +kernel
theorem dX7_copyFrom_36 : decode cX7_copyFrom 36 = .ok (.getfield 15, 3) := by decide +kernel
theorem dX7_copyFrom_39 : decode cX7_copyFrom 39 = .ok (.iload_n 2, 1) := by decide +kernel
theorem dX7_copyFrom_40 : decode cX7_copyFrom 40 = .ok (.iaload, 1) := by decide +kernel
theorem dX7_copyFrom_41 : decode cX7_copyFrom 41 = .ok (.iastore, 1) := by decide +kernel
theorem dX7_copyFrom_42 : decode cX7_copyFrom 42 = .ok (.iinc 2 1, 3) := by decide +kernel
theorem dX7_copyFrom_45 : decode cX7_copyFrom 45 = .ok (.goto (-35), 3) := by decide +kernel
theorem dX7_copyFrom_48 : decode cX7_copyFrom 48 = .ok (.return_, 1) := by decide +kernel
theorem dX7_swap_0 : decode cX7_swap 0 = .ok (.aload_n 0, 1) := by decide +kernel
theorem dX7_swap_1 : decode cX7_swap 1 = .ok (.iload_n 1, 1) := by decide +kernel
theorem dX7_swap_2 : decode cX7_swap 2 = .ok (.invokevirtual 22, 3) := by decide +kernel
theorem dX7_swap_5 : decode cX7_swap 5 = .ok (.ifCond .eq 37, 3) := by decide +kernel
theorem dX7_swap_8 : decode cX7_swap 8 = .ok (.aload_n 0, 1) := by decide +kernel
theorem dX7_swap_9 : decode cX7_swap 9 = .ok (.iload_n 2, 1) := by decide +kernel
theorem dX7_swap_10 : decode cX7_swap 10 = .ok (.invokevirtual 22, 3) := by decide +kernel
theorem dX7_swap_13 : decode cX7_swap 13 = .ok (.ifCond .eq 29, 3) := by decide +kernel
theorem dX7_swap_16 : decode cX7_swap 16 = .ok (.aload_n 0, 1) := by decide +kernel
theorem dX7_swap_17 : decode cX7_swap 17 = .ok (.getfield 15, 3) := by decide +kernel
theorem dX7_swap_20 : decode cX7_swap 20 = .ok (.iload_n 1, 1) := by decide +kernel
theorem dX7_swap_21 : decode cX7_swap 21 = .ok (.iaload, 1) := by decide +kernel
theorem dX7_swap_22 : decode cX7_swap 22 = .ok (.istore_n 3, 1) := by decide +kernel
theorem dX7_swap_23 : decode cX7_swap 23 = .ok (.aload_n 0, 1) := by decide +kernel
theorem dX7_swap_24 : decode cX7_swap 24 = .ok (.getfield 15, 3) := by decide +kernel
theorem dX7_swap_27 : decode cX7_swap 27 = .ok (.iload_n 1, 1) := by decide +kernel
theorem dX7_swap_28 : decode cX7_swap 28 = .ok (.aload_n 0, 1) := by decide +kernel
theorem dX7_swap_29 : decode cX7_swap 29 = .ok (.getfield 15, 3) := by decide +kernel
theorem dX7_swap_32 : decode cX7_swap 32 = .ok (.iload_n 2, 1) := by decide +kernel
theorem dX7_swap_33 : decode cX7_swap 33 = .ok (.iaload, 1) := by decide +kernel
theorem dX7_swap_34 : decode cX7_swap 34 = .ok (.iastore, 1) := by decide +kernel
theorem dX7_swap_35 : decode cX7_swap 35 = .ok (.aload_n 0, 1) := by decide +kernel
theorem dX7_swap_36 : decode cX7_swap 36 = .ok (.getfield 15, 3) := by decide +kernel
theorem dX7_swap_39 : decode cX7_swap 39 = .ok (.iload_n 2, 1) := by decide +kernel
theorem dX7_swap_40 : decode cX7_swap 40 = .ok (.iload_n 3, 1) := by decide +kernel
theorem dX7_swap_41 : decode cX7_swap 41 = .ok (.iastore, 1) := by decide +kernel
theorem dX7_swap_42 : decode cX7_swap 42 = .ok (.return_, 1) := by decide +kernel
theorem dX7_move_0 : decode cX7_move 0 = .ok (.iload_n 1, 1) := by decide +kernel
theorem dX7_move_1 : decode cX7_move 1 = .ok (.istore_n 3, 1) := by decide +kernel
theorem dX7_move_2 : decode cX7_move 2 = .ok (.iload_n 3, 1) := by decide +kernel
theorem dX7_move_3 : decode cX7_move 3 = .ok (.iload_n 2, 1) := by decide +kernel
theorem dX7_move_4 : decode cX7_move 4 = .ok (.if_icmp .ge 17, 3) := by decide +kernel
theorem dX7_move_7 : decode cX7_move 7 = .ok (.aload_n 0, 1) := by decide +kernel
theorem dX7_move_8 : decode cX7_move 8 = .ok (.iload_n 3, 1) := by decide +kernel
theorem dX7_move_9 : decode cX7_move 9 = .ok (.iload_n 3, 1) := by decide +kernel
theorem dX7_move_10 : decode cX7_move 10 = .ok (.iconst 1, 1) := by decide +kernel
theorem dX7_move_11 : decode cX7_move 11 = .ok (.iadd, 1) := by decide +kernel
theorem dX7_move_12 : decode cX7_move 12 = .ok (.invokevirtual 26, 3) := by decide +kernel
theorem dX7_move_15 : decode cX7_move 15 = .ok (.iinc 3 1, 3) := by decide +kernel
theorem dX7_move_18 : decode cX7_move 18 = .ok (.goto (-16), 3) := by decide +kernel
theorem dX7_move_21 : decode cX7_move 21 = .ok (.iload_n 1, 1) := by decide +kernel
theorem dX7_move_22 : decode cX7_move 22 = .ok (.istore_n 3, 1) := by decide +kernel
theorem dX7_move_23 : decode cX7_move 23 = .ok (.iload_n 3, 1) := by decide +kernel
theorem dX7_move_24 : decode cX7_move 24 = .ok (.iload_n 2, 1) := by decide +kernel
theorem dX7_move_25 : decode cX7_move 25 = .ok (.if_icmp .le 17, 3) := by decide +kernel
theorem dX7_move_28 : decode cX7_move 28 = .ok (.aload_n 0, 1) := by decide +kernel
theorem dX7_move_29 : decode cX7_move 29 = .ok (.iload_n 3, 1) := by decide +kernel
theorem dX7_move_30 : decode cX7_move 30 = .ok (.iload_n 3, 1) := by decide +kernel
theorem dX7_move_31 : decode cX7_move 31 = .ok (.iconst 1, 1) := by decide +kernel
theorem dX7_move_32 : decode cX7_move 32 = .ok (.isub, 1) := by decide +kernel
theorem dX7_move_33 : decode cX7_move 33 = .ok (.invokevirtual 26, 3) := by decide +kernel
theorem dX7_move_36 : decode cX7_move 36 = .ok (.iinc 3 (-1), 3) := by decide +kernel
theorem dX7_move_39 : decode cX7_move 39 = .ok (.goto (-16), 3) := by decide +kernel
theorem dX7_move_42 : decode cX7_move 42 = .ok (.return_, 1) := by decide +kernel
theorem dX7_unlike_0 : decode cX7_unlike 0 = .ok (.iconst 0, 1) := by decide +kernel
theorem dX7_unlike_1 : decode cX7_unlike 1 = .ok (.istore_n 2, 1) := by decide +kernel
theorem dX7_unlike_2 : decode cX7_unlike 2 = .ok (.iconst 0, 1) := by decide +kernel
theorem dX7_unlike_3 : decode cX7_unlike 3 = .ok (.istore_n 3, 1) := by decide +kernel
theorem dX7_unlike_4 : decode cX7_unlike 4 = .ok (.iload_n 3, 1) := by decide +kernel
theorem dX7_unlike_5 : decode cX7_unlike 5 = .ok (.aload_n 0, 1) := by decide +kernel
theorem dX7_unlike_6 : decode cX7_unlike 6 = .ok (.getfield 18, 3) := by decide +kernel
theorem dX7_unlike_9 : decode cX7_unlike 9 = .ok (.if_icmp .ge 25, 3) := by decide +kernel
theorem dX7_unlike_12 : decode cX7_unlike 12 = .ok (.aload_n 0, 1) := by decide +kernel
theorem dX7_unlike_13 : decode cX7_unlike 13 = .ok (.iload_n 3, 1) := by decide +kernel
theorem dX7_unlike_14 : decode cX7_unlike 14 = .ok (.invokevirtual 30, 3) := by decide +kernel
theorem dX7_unlike_17 : decode cX7_unlike 17 = .ok (.aload_n 1, 1) := by decide +kernel
theorem dX7_unlike_18 : decode cX7_unlike 18 = .ok (.iload_n 3, 1) := by decide +kernel
theorem dX7_unlike_19 : decode cX7_unlike 19 = .ok (.invokevirtual 30, 3) := by decide +kernel
theorem dX7_unlike_22 : decode cX7_unlike 22 = .ok (.if_icmp .eq 6, 3) := by decide +kernel
theorem dX7_unlike_25 : decode cX7_unlike 25 = .ok (.iinc 2 1, 3) := by decide +kernel
theorem dX7_unlike_28 : decode cX7_unlike 28 = .ok (.iinc 3 1, 3) := by decide +kernel
theorem dX7_unlike_31 : decode cX7_unlike 31 = .ok (.goto (-27), 3) := by decide +kernel
theorem dX7_unlike_34 : decode cX7_unlike 34 = .ok (.iload_n 2, 1) := by decide +kernel
theorem dX7_unlike_35 : decode cX7_unlike 35 = .ok (.ireturn, 1) := by decide +kernel
theorem dX7_listOf_0 : decode cX7_listOf 0 = .ok (.iconst 0, 1) := by decide +kernel
theorem dX7_listOf_1 : decode cX7_listOf 1 = .ok (.istore_n 2, 1) := by decide +kernel
theorem dX7_listOf_2 : decode cX7_listOf 2 = .ok (.iconst 0, 1) := by decide +kernel
theorem dX7_listOf_3 : decode cX7_listOf 3 = .ok (.istore_n 3, 1) := by decide +kernel
theorem dX7_listOf_4 : decode cX7_listOf 4 = .ok (.iload_n 3, 1) := by decide +kernel
theorem dX7_listOf_5 : decode cX7_listOf 5 = .ok (.aload_n 0, 1) := by decide +kernel
theorem dX7_listOf_6 : decode cX7_listOf 6 = .ok (.getfield 18, 3) := by decide +kernel
theorem dX7_listOf_9 : decode cX7_listOf 9 = .ok (.if_icmp .ge 23, 3) := by decide +kernel
theorem dX7_listOf_12 : decode cX7_listOf 12 = .ok (.iload_n 2, 1) := by decide +kernel
theorem dX7_listOf_13 : decode cX7_listOf 13 = .ok (.aload_n 0, 1) := by decide +kernel
theorem dX7_listOf_14 : decode cX7_listOf 14 = .ok (.iload_n 3, 1) := by decide +kernel
theorem dX7_listOf_15 : decode cX7_listOf 15 = .ok (.invokevirtual 34, 3) := by decide +kernel
theorem dX7_listOf_18 : decode cX7_listOf 18 = .ok (.iload_n 1, 1) := by decide +kernel
theorem dX7_listOf_19 : decode cX7_listOf 19 = .ok (.ishr, 1) := by decide +kernel
theorem dX7_listOf_20 : decode cX7_listOf 20 = .ok (.iconst 1, 1) := by decide +kernel
theorem dX7_listOf_21 : decode cX7_listOf 21 = .ok (.iand, 1) := by decide +kernel
theorem dX7_listOf_22 : decode cX7_listOf 22 = .ok (.iload_n 3, 1) := by decide +kernel
theorem dX7_listOf_23 : decode cX7_listOf 23 = .ok (.ishl, 1) := by decide +kernel
theorem dX7_listOf_24 : decode cX7_listOf 24 = .ok (.ior, 1) := by decide +kernel
theorem dX7_listOf_25 : decode cX7_listOf 25 = .ok (.istore_n 2, 1) := by decide +kernel
theorem dX7_listOf_26 : decode cX7_listOf 26 = .ok (.iinc 3 1, 3) := by decide +kernel
theorem dX7_listOf_29 : decode cX7_listOf 29 = .ok (.goto (-25), 3) := by decide +kernel
theorem dX7_listOf_32 : decode cX7_listOf 32 = .ok (.iload_n 2, 1) := by decide +kernel
theorem dX7_listOf_33 : decode cX7_listOf 33 = .ok (.ireturn, 1) := by decide +kernel
theorem dX7_manyWith_0 : decode cX7_manyWith 0 = .ok (.iconst 0, 1) := by decide +kernel
theorem dX7_manyWith_1 : decode cX7_manyWith 1 = .ok (.istore 4, 2) := by decide +kernel
theorem dX7_manyWith_3 : decode cX7_manyWith 3 = .ok (.iload_n 2, 1) := by decide +kernel
theorem dX7_manyWith_4 : decode cX7_manyWith 4 = .ok (.istore 5, 2) := by decide +kernel
theorem dX7_manyWith_6 : decode cX7_manyWith 6 = .ok (.iload 5, 2) := by decide +kernel
theorem dX7_manyWith_8 : decode cX7_manyWith 8 = .ok (.iload_n 2, 1) := by decide +kernel
theorem dX7_manyWith_9 : decode cX7_manyWith 9 = .ok (.iload_n 3, 1) := by decide +kernel
theorem dX7_manyWith_10 : decode cX7_manyWith 10 = .ok (.iadd, 1) := by decide +kernel
theorem dX7_manyWith_11 : decode cX7_manyWith 11 = .ok (.if_icmp .ge 24, 3) := by decide +kernel
theorem dX7_manyWith_14 : decode cX7_manyWith 14 = .ok (.iload 4, 2) := by decide +kernel
theorem dX7_manyWith_16 : decode cX7_manyWith 16 = .ok (.aload_n 0, 1) := by decide +kernel
theorem dX7_manyWith_17 : decode cX7_manyWith 17 = .ok (.iload 5, 2) := by decide +kernel
theorem dX7_manyWith_19 : decode cX7_manyWith 19 = .ok (.invokevirtual 34, 3) := by decide +kernel
theorem dX7_manyWith_22 : decode cX7_manyWith 22 = .ok (.iload_n 1, 1) := by decide +kernel
theorem dX7_manyWith_23 : decode cX7_manyWith 23 = .ok (.ishr, 1) := by decide +kernel
theorem dX7_manyWith_24 : decode cX7_manyWith 24 = .ok (.iconst 1, 1) := by decide +kernel
theorem dX7_manyWith_25 : decode cX7_manyWith 25 = .ok (.iand, 1) := by decide +kernel
theorem dX7_manyWith_26 : decode cX7_manyWith 26 = .ok (.iadd, 1) := by decide +kernel
theorem dX7_manyWith_27 : decode cX7_manyWith 27 = .ok (.istore 4, 2) := by decide +kernel
theorem dX7_manyWith_29 : decode cX7_manyWith 29 = .ok (.iinc 5 1, 3) := by decide +kernel
theorem dX7_manyWith_32 : decode cX7_manyWith 32 = .ok (.goto (-26), 3) := by decide +kernel
theorem dX7_manyWith_35 : decode cX7_manyWith 35 = .ok (.iload 4, 2) := by decide +kernel
theorem dX7_manyWith_37 : decode cX7_manyWith 37 = .ok (.ireturn, 1) := by decide +kernel
theorem dX7_documentsWith_0 : decode cX7_documentsWith 0 = .ok (.iconst 0, 1) := by decide +kernel
theorem dX7_documentsWith_1 : decode cX7_documentsWith 1 = .ok (.istore_n 2, 1) := by decide +kernel
theorem dX7_documentsWith_2 : decode cX7_documentsWith 2 = .ok (.iconst 0, 1) := by decide +kernel
theorem dX7_documentsWith_3 : decode cX7_documentsWith 3 = .ok (.istore_n 3, 1) := by decide +kernel
theorem dX7_documentsWith_4 : decode cX7_documentsWith 4 = .ok (.iload_n 3, 1) := by decide +kernel
theorem dX7_documentsWith_5 : decode cX7_documentsWith 5 = .ok (.aload_n 0, 1) := by decide +kernel
theorem dX7_documentsWith_6 : decode cX7_documentsWith 6 = .ok (.getfield 18, 3) := by decide +kernel
theorem dX7_documentsWith_9 : decode cX7_documentsWith 9 = .ok (.if_icmp .ge 24, 3) := by decide +kernel
theorem dX7_documentsWith_12 : decode cX7_documentsWith 12 = .ok (.iload_n 2, 1) := by decide +kernel
theorem dX7_documentsWith_13 : decode cX7_documentsWith 13 = .ok (.aload_n 0, 1) := by decide +kernel
theorem dX7_documentsWith_14 : decode cX7_documentsWith 14 = .ok (.getfield 9, 3) := by decide +kernel
theorem dX7_documentsWith_17 : decode cX7_documentsWith 17 = .ok (.iload_n 3, 1) := by decide +kernel
theorem dX7_documentsWith_18 : decode cX7_documentsWith 18 = .ok (.iaload, 1) := by decide +kernel
theorem dX7_documentsWith_19 : decode cX7_documentsWith 19 = .ok (.iload_n 1, 1) := by decide +kernel
theorem dX7_documentsWith_20 : decode cX7_documentsWith 20 = .ok (.ishr, 1) := by decide +kernel
theorem dX7_documentsWith_21 : decode cX7_documentsWith 21 = .ok (.iconst 1, 1) := by decide +kernel
theorem dX7_documentsWith_22 : decode cX7_documentsWith 22 = .ok (.iand, 1) := by decide +kernel
theorem dX7_documentsWith_23 : decode cX7_documentsWith 23 = .ok (.iload_n 3, 1) := by decide +kernel
theorem dX7_documentsWith_24 : decode cX7_documentsWith 24 = .ok (.ishl, 1) := by decide +kernel
theorem dX7_documentsWith_25 : decode cX7_documentsWith 25 = .ok (.ior, 1) := by decide +kernel
theorem dX7_documentsWith_26 : decode cX7_documentsWith 26 = .ok (.istore_n 2, 1) := by decide +kernel
theorem dX7_documentsWith_27 : decode cX7_documentsWith 27 = .ok (.iinc 3 1, 3) := by decide +kernel
theorem dX7_documentsWith_30 : decode cX7_documentsWith 30 = .ok (.goto (-26), 3) := by decide +kernel
theorem dX7_documentsWith_33 : decode cX7_documentsWith 33 = .ok (.iload_n 2, 1) := by decide +kernel
theorem dX7_documentsWith_34 : decode cX7_documentsWith 34 = .ok (.ireturn, 1) := by decide +kernel
theorem dX7_bitsOfAll_0 : decode cX7_bitsOfAll 0 = .ok (.iconst 0, 1) := by decide +kernel
theorem dX7_bitsOfAll_1 : decode cX7_bitsOfAll 1 = .ok (.istore_n 2, 1) := by decide +kernel
theorem dX7_bitsOfAll_2 : decode cX7_bitsOfAll 2 = .ok (.iconst 0, 1) := by decide +kernel
theorem dX7_bitsOfAll_3 : decode cX7_bitsOfAll 3 = .ok (.istore_n 3, 1) := by decide +kernel
theorem dX7_bitsOfAll_4 : decode cX7_bitsOfAll 4 = .ok (.iload_n 3, 1) := by decide +kernel
theorem dX7_bitsOfAll_5 : decode cX7_bitsOfAll 5 = .ok (.bipush 8, 2) := by decide +kernel
theorem dX7_bitsOfAll_7 : decode cX7_bitsOfAll 7 = .ok (.if_icmp .ge 25, 3) := by decide +kernel
theorem dX7_bitsOfAll_10 : decode cX7_bitsOfAll 10 = .ok (.iload_n 2, 1) := by decide +kernel
theorem dX7_bitsOfAll_11 : decode cX7_bitsOfAll 11 = .ok (.aload_n 0, 1) := by decide +kernel
theorem dX7_bitsOfAll_12 : decode cX7_bitsOfAll 12 = .ok (.iload_n 3, 1) := by decide +kernel
theorem dX7_bitsOfAll_13 : decode cX7_bitsOfAll 13 = .ok (.invokevirtual 37, 3) := by decide +kernel
theorem dX7_bitsOfAll_16 : decode cX7_bitsOfAll 16 = .ok (.iload_n 1, 1) := by decide +kernel
theorem dX7_bitsOfAll_17 : decode cX7_bitsOfAll 17 = .ok (.aload_n 0, 1) := by decide +kernel
theorem dX7_bitsOfAll_18 : decode cX7_bitsOfAll 18 = .ok (.getfield 18, 3) := by decide +kernel
theorem dX7_bitsOfAll_21 : decode cX7_bitsOfAll 21 = .ok (.invokestatic 40, 3) := by decide +kernel
theorem dX7_bitsOfAll_24 : decode cX7_bitsOfAll 24 = .ok (.iadd, 1) := by decide +kernel
theorem dX7_bitsOfAll_25 : decode cX7_bitsOfAll 25 = .ok (.istore_n 2, 1) := by decide +kernel
theorem dX7_bitsOfAll_26 : decode cX7_bitsOfAll 26 = .ok (.iinc 3 1, 3) := by decide +kernel
theorem dX7_bitsOfAll_29 : decode cX7_bitsOfAll 29 = .ok (.goto (-25), 3) := by decide +kernel
theorem dX7_bitsOfAll_32 : decode cX7_bitsOfAll 32 = .ok (.iload_n 2, 1) := by decide +kernel
theorem dX7_bitsOfAll_33 : decode cX7_bitsOfAll 33 = .ok (.ireturn, 1) := by decide +kernel
theorem dX7_sortBy_0 : decode cX7_sortBy 0 = .ok (.iload_n 1, 1) := by decide +kernel
theorem dX7_sortBy_1 : decode cX7_sortBy 1 = .ok (.ifCond .eq 8, 3) := by decide +kernel
theorem dX7_sortBy_4 : decode cX7_sortBy 4 = .ok (.iload_n 1, 1) := by decide +kernel
theorem dX7_sortBy_5 : decode cX7_sortBy 5 = .ok (.iconst 1, 1) := by decide +kernel
theorem dX7_sortBy_6 : decode cX7_sortBy 6 = .ok (.if_icmp .ne 11, 3) := by decide +kernel
theorem dX7_sortBy_9 : decode cX7_sortBy 9 = .ok (.aload_n 0, 1) := by decide +kernel
theorem dX7_sortBy_10 : decode cX7_sortBy 10 = .ok (.iload_n 1, 1) := by decide +kernel
theorem dX7_sortBy_11 : decode cX7_sortBy 11 = .ok (.invokevirtual 46, 3) := by decide +kernel
theorem dX7_sortBy_14 : decode cX7_sortBy 14 = .ok (.goto 19, 3) := by decide +kernel
theorem dX7_sortBy_17 : decode cX7_sortBy 17 = .ok (.iload_n 1, 1) := by decide +kernel
theorem dX7_sortBy_18 : decode cX7_sortBy 18 = .ok (.iconst 2, 1) := by decide +kernel
theorem dX7_sortBy_19 : decode cX7_sortBy 19 = .ok (.if_icmp .ne 10, 3) := by decide +kernel
theorem dX7_sortBy_22 : decode cX7_sortBy 22 = .ok (.aload_n 0, 1) := by decide +kernel
theorem dX7_sortBy_23 : decode cX7_sortBy 23 = .ok (.invokevirtual 50, 3) := by decide +kernel
theorem dX7_sortBy_26 : decode cX7_sortBy 26 = .ok (.goto 7, 3) := by decide +kernel
theorem dX7_sortBy_29 : decode cX7_sortBy 29 = .ok (.aload_n 0, 1) := by decide +kernel
theorem dX7_sortBy_30 : decode cX7_sortBy 30 = .ok (.invokevirtual 53, 3) := by decide +kernel
theorem dX7_sortBy_33 : decode cX7_sortBy 33 = .ok (.return_, 1) := by decide +kernel
theorem dX7_sortByKeys_0 : decode cX7_sortByKeys 0 = .ok (.iconst 1, 1) := by decide +kernel
theorem dX7_sortByKeys_1 : decode cX7_sortByKeys 1 = .ok (.istore_n 2, 1) := by decide +kernel
theorem dX7_sortByKeys_2 : decode cX7_sortByKeys 2 = .ok (.iload_n 2, 1) := by decide +kernel
theorem dX7_sortByKeys_3 : decode cX7_sortByKeys 3 = .ok (.aload_n 0, 1) := by decide +kernel
theorem dX7_sortByKeys_4 : decode cX7_sortByKeys 4 = .ok (.getfield 18, 3) := by decide +kernel
theorem dX7_sortByKeys_7 : decode cX7_sortByKeys 7 = .ok (.if_icmp .ge 46, 3) := by decide +kernel
theorem dX7_sortByKeys_10 : decode cX7_sortByKeys 10 = .ok (.iload_n 2, 1) := by decide +kernel
theorem dX7_sortByKeys_11 : decode cX7_sortByKeys 11 = .ok (.istore_n 3, 1) := by decide +kernel
theorem dX7_sortByKeys_12 : decode cX7_sortByKeys 12 = .ok (.iload_n 3, 1) := by decide +kernel
theorem dX7_sortByKeys_13 : decode cX7_sortByKeys 13 = .ok (.ifCond .le 34, 3) := by decide +kernel
theorem dX7_sortByKeys_16 : decode cX7_sortByKeys 16 = .ok (.aload_n 0, 1) := by decide +kernel
theorem dX7_sortByKeys_17 : decode cX7_sortByKeys 17 = .ok (.iload_n 3, 1) := by decide +kernel
theorem dX7_sortByKeys_18 : decode cX7_sortByKeys 18 = .ok (.iconst 1, 1) := by decide +kernel
theorem dX7_sortByKeys_19 : decode cX7_sortByKeys 19 = .ok (.isub, 1) := by decide +kernel
theorem dX7_sortByKeys_20 : decode cX7_sortByKeys 20 = .ok (.iload_n 1, 1) := by decide +kernel
theorem dX7_sortByKeys_21 : decode cX7_sortByKeys 21 = .ok (.invokevirtual 56, 3) := by decide +kernel
theorem dX7_sortByKeys_24 : decode cX7_sortByKeys 24 = .ok (.aload_n 0, 1) := by decide +kernel
theorem dX7_sortByKeys_25 : decode cX7_sortByKeys 25 = .ok (.iload_n 3, 1) := by decide +kernel
theorem dX7_sortByKeys_26 : decode cX7_sortByKeys 26 = .ok (.iload_n 1, 1) := by decide +kernel
theorem dX7_sortByKeys_27 : decode cX7_sortByKeys 27 = .ok (.invokevirtual 56, 3) := by decide +kernel
theorem dX7_sortByKeys_30 : decode cX7_sortByKeys 30 = .ok (.if_icmp .le 17, 3) := by decide +kernel
theorem dX7_sortByKeys_33 : decode cX7_sortByKeys 33 = .ok (.aload_n 0, 1) := by decide +kernel
theorem dX7_sortByKeys_34 : decode cX7_sortByKeys 34 = .ok (.iload_n 3, 1) := by decide +kernel
theorem dX7_sortByKeys_35 : decode cX7_sortByKeys 35 = .ok (.iconst 1, 1) := by decide +kernel
theorem dX7_sortByKeys_36 : decode cX7_sortByKeys 36 = .ok (.isub, 1) := by decide +kernel
theorem dX7_sortByKeys_37 : decode cX7_sortByKeys 37 = .ok (.iload_n 3, 1) := by decide +kernel
theorem dX7_sortByKeys_38 : decode cX7_sortByKeys 38 = .ok (.invokevirtual 26, 3) := by decide +kernel
theorem dX7_sortByKeys_41 : decode cX7_sortByKeys 41 = .ok (.iinc 3 (-1), 3) := by decide +kernel
theorem dX7_sortByKeys_44 : decode cX7_sortByKeys 44 = .ok (.goto (-32), 3) := by decide +kernel
theorem dX7_sortByKeys_47 : decode cX7_sortByKeys 47 = .ok (.iinc 2 1, 3) := by decide +kernel
theorem dX7_sortByKeys_50 : decode cX7_sortByKeys 50 = .ok (.goto (-48), 3) := by decide +kernel
theorem dX7_sortByKeys_53 : decode cX7_sortByKeys 53 = .ok (.return_, 1) := by decide +kernel
theorem dX7_keyAt_0 : decode cX7_keyAt 0 = .ok (.aload_n 0, 1) := by decide +kernel
theorem dX7_keyAt_1 : decode cX7_keyAt 1 = .ok (.iload_n 1, 1) := by decide +kernel
theorem dX7_keyAt_2 : decode cX7_keyAt 2 = .ok (.invokevirtual 34, 3) := by decide +kernel
theorem dX7_keyAt_5 : decode cX7_keyAt 5 = .ok (.istore_n 3, 1) := by decide +kernel
theorem dX7_keyAt_6 : decode cX7_keyAt 6 = .ok (.iload_n 2, 1) := by decide +kernel
theorem dX7_keyAt_7 : decode cX7_keyAt 7 = .ok (.ifCond .ne 7, 3) := by decide +kernel
theorem dX7_keyAt_10 : decode cX7_keyAt 10 = .ok (.iload_n 3, 1) := by decide +kernel
theorem dX7_keyAt_11 : decode cX7_keyAt 11 = .ok (.goto 8, 3) := by decide +kernel
theorem dX7_keyAt_14 : decode cX7_keyAt 14 = .ok (.iload_n 3, 1) := by decide +kernel
theorem dX7_keyAt_15 : decode cX7_keyAt 15 = .ok (.invokestatic 60, 3) := by decide +kernel
theorem dX7_keyAt_18 : decode cX7_keyAt 18 = .ok (.ineg, 1) := by decide +kernel
theorem dX7_keyAt_19 : decode cX7_keyAt 19 = .ok (.ireturn, 1) := by decide +kernel
theorem dX7_chainByLikeness_0 : decode cX7_chainByLikeness 0 = .ok (.iconst 1, 1) := by decide +kernel
theorem dX7_chainByLikeness_1 : decode cX7_chainByLikeness 1 = .ok (.istore_n 1, 1) := by decide +kernel
theorem dX7_chainByLikeness_2 : decode cX7_chainByLikeness 2 = .ok (.iload_n 1, 1) := by decide +kernel
theorem dX7_chainByLikeness_3 : decode cX7_chainByLikeness 3 = .ok (.aload_n 0, 1) := by decide +kernel
theorem dX7_chainByLikeness_4 : decode cX7_chainByLikeness 4 = .ok (.getfield 18, 3) := by decide +kernel
theorem dX7_chainByLikeness_7 : decode cX7_chainByLikeness 7 = .ok (.if_icmp .ge 21, 3) := by decide +kernel
theorem dX7_chainByLikeness_10 : decode cX7_chainByLikeness 10 = .ok (.aload_n 0, 1) := by decide +kernel
theorem dX7_chainByLikeness_11 : decode cX7_chainByLikeness 11 = .ok (.aload_n 0, 1) := by decide +kernel
theorem dX7_chainByLikeness_12 : decode cX7_chainByLikeness 12 = .ok (.iload_n 1, 1) := by decide +kernel
theorem dX7_chainByLikeness_13 : decode cX7_chainByLikeness 13 = .ok (.iconst 1, 1) := by decide +kernel
theorem dX7_chainByLikeness_14 : decode cX7_chainByLikeness 14 = .ok (.isub, 1) := by decide +kernel
theorem dX7_chainByLikeness_15 : decode cX7_chainByLikeness 15 = .ok (.invokevirtual 65, 3) := by decide +kernel
theorem dX7_chainByLikeness_18 : decode cX7_chainByLikeness 18 = .ok (.iload_n 1, 1) := by decide +kernel
theorem dX7_chainByLikeness_19 : decode cX7_chainByLikeness 19 = .ok (.invokevirtual 68, 3) := by decide +kernel
theorem dX7_chainByLikeness_22 : decode cX7_chainByLikeness 22 = .ok (.iinc 1 1, 3) := by decide +kernel
theorem dX7_chainByLikeness_25 : decode cX7_chainByLikeness 25 = .ok (.goto (-23), 3) := by decide +kernel
theorem dX7_chainByLikeness_28 : decode cX7_chainByLikeness 28 = .ok (.return_, 1) := by decide +kernel
theorem dX7_mostAlikeBehind_0 : decode cX7_mostAlikeBehind 0 = .ok (.iload_n 1, 1) := by decide +kernel
theorem dX7_mostAlikeBehind_1 : decode cX7_mostAlikeBehind 1 = .ok (.iconst 1, 1) := by decide +kernel
theorem dX7_mostAlikeBehind_2 : decode cX7_mostAlikeBehind 2 = .ok (.iadd, 1) := by decide +kernel
theorem dX7_mostAlikeBehind_3 : decode cX7_mostAlikeBehind 3 = .ok (.istore_n 2, 1) := by decide +kernel
theorem dX7_mostAlikeBehind_4 : decode cX7_mostAlikeBehind 4 = .ok (.aload_n 0, 1) := by decide +kernel
theorem dX7_mostAlikeBehind_5 : decode cX7_mostAlikeBehind 5 = .ok (.iload_n 1, 1) := by decide +kernel
theorem dX7_mostAlikeBehind_6 : decode cX7_mostAlikeBehind 6 = .ok (.invokevirtual 34, 3) := by decide +kernel
theorem dX7_mostAlikeBehind_9 : decode cX7_mostAlikeBehind 9 = .ok (.aload_n 0, 1) := by decide +kernel
theorem dX7_mostAlikeBehind_10 : decode cX7_mostAlikeBehind 10 = .ok (.iload_n 2, 1) := by decide +kernel
theorem dX7_mostAlikeBehind_11 : decode cX7_mostAlikeBehind 11 = .ok (.invokevirtual 34, 3) := by decide +kernel
theorem dX7_mostAlikeBehind_14 : decode cX7_mostAlikeBehind 14 = .ok (.invokestatic 71, 3) := by decide +kernel
theorem dX7_mostAlikeBehind_17 : decode cX7_mostAlikeBehind 17 = .ok (.istore_n 3, 1) := by decide +kernel
theorem dX7_mostAlikeBehind_18 : decode cX7_mostAlikeBehind 18 = .ok (.iload_n 2, 1) := by decide +kernel
theorem dX7_mostAlikeBehind_19 : decode cX7_mostAlikeBehind 19 = .ok (.iconst 1, 1) := by decide +kernel
theorem dX7_mostAlikeBehind_20 : decode cX7_mostAlikeBehind 20 = .ok (.iadd, 1) := by decide +kernel
theorem dX7_mostAlikeBehind_21 : decode cX7_mostAlikeBehind 21 = .ok (.istore 4, 2) := by decide +kernel
theorem dX7_mostAlikeBehind_23 : decode cX7_mostAlikeBehind 23 = .ok (.iload 4, 2) := by decide +kernel
theorem dX7_mostAlikeBehind_25 : decode cX7_mostAlikeBehind 25 = .ok (.aload_n 0, 1) := by decide +kernel
theorem dX7_mostAlikeBehind_26 : decode cX7_mostAlikeBehind 26 = .ok (.getfield 18, 3) := by decide +kernel
theorem dX7_mostAlikeBehind_29 : decode cX7_mostAlikeBehind 29 = .ok (.if_icmp .ge 37, 3) := by decide +kernel
theorem dX7_mostAlikeBehind_32 : decode cX7_mostAlikeBehind 32 = .ok (.aload_n 0, 1) := by decide +kernel
theorem dX7_mostAlikeBehind_33 : decode cX7_mostAlikeBehind 33 = .ok (.iload_n 1, 1) := by decide +kernel
theorem dX7_mostAlikeBehind_34 : decode cX7_mostAlikeBehind 34 = .ok (.invokevirtual 34, 3) := by decide +kernel
theorem dX7_mostAlikeBehind_37 : decode cX7_mostAlikeBehind 37 = .ok (.aload_n 0, 1) := by decide +kernel
theorem dX7_mostAlikeBehind_38 : decode cX7_mostAlikeBehind 38 = .ok (.iload 4, 2) := by decide +kernel
theorem dX7_mostAlikeBehind_40 : decode cX7_mostAlikeBehind 40 = .ok (.invokevirtual 34, 3) := by decide +kernel
theorem dX7_mostAlikeBehind_43 : decode cX7_mostAlikeBehind 43 = .ok (.invokestatic 71, 3) := by decide +kernel
theorem dX7_mostAlikeBehind_46 : decode cX7_mostAlikeBehind 46 = .ok (.istore 5, 2) := by decide +kernel
theorem dX7_mostAlikeBehind_48 : decode cX7_mostAlikeBehind 48 = .ok (.iload 5, 2) := by decide +kernel
theorem dX7_mostAlikeBehind_50 : decode cX7_mostAlikeBehind 50 = .ok (.iload_n 3, 1) := by decide +kernel
theorem dX7_mostAlikeBehind_51 : decode cX7_mostAlikeBehind 51 = .ok (.if_icmp .le 9, 3) := by decide +kernel
theorem dX7_mostAlikeBehind_54 : decode cX7_mostAlikeBehind 54 = .ok (.iload 5, 2) := by decide +kernel
theorem dX7_mostAlikeBehind_56 : decode cX7_mostAlikeBehind 56 = .ok (.istore_n 3, 1) := by decide +kernel
theorem dX7_mostAlikeBehind_57 : decode cX7_mostAlikeBehind 57 = .ok (.iload 4, 2) := by decide +kernel
theorem dX7_mostAlikeBehind_59 : decode cX7_mostAlikeBehind 59 = .ok (.istore_n 2, 1) := by decide +kernel
theorem dX7_mostAlikeBehind_60 : decode cX7_mostAlikeBehind 60 = .ok (.iinc 4 1, 3) := by decide +kernel
theorem dX7_mostAlikeBehind_63 : decode cX7_mostAlikeBehind 63 = .ok (.goto (-40), 3) := by decide +kernel
theorem dX7_mostAlikeBehind_66 : decode cX7_mostAlikeBehind 66 = .ok (.iload_n 2, 1) := by decide +kernel
theorem dX7_mostAlikeBehind_67 : decode cX7_mostAlikeBehind 67 = .ok (.ireturn, 1) := by decide +kernel
theorem dX7_turnAbout_0 : decode cX7_turnAbout 0 = .ok (.iconst 0, 1) := by decide +kernel
theorem dX7_turnAbout_1 : decode cX7_turnAbout 1 = .ok (.istore_n 1, 1) := by decide +kernel
theorem dX7_turnAbout_2 : decode cX7_turnAbout 2 = .ok (.iload_n 1, 1) := by decide +kernel
theorem dX7_turnAbout_3 : decode cX7_turnAbout 3 = .ok (.aload_n 0, 1) := by decide +kernel
theorem dX7_turnAbout_4 : decode cX7_turnAbout 4 = .ok (.getfield 18, 3) := by decide +kernel
theorem dX7_turnAbout_7 : decode cX7_turnAbout 7 = .ok (.iconst 2, 1) := by decide +kernel
theorem dX7_turnAbout_8 : decode cX7_turnAbout 8 = .ok (.idiv, 1) := by decide +kernel
theorem dX7_turnAbout_9 : decode cX7_turnAbout 9 = .ok (.if_icmp .ge 22, 3) := by decide +kernel
theorem dX7_turnAbout_12 : decode cX7_turnAbout 12 = .ok (.aload_n 0, 1) := by decide +kernel
theorem dX7_turnAbout_13 : decode cX7_turnAbout 13 = .ok (.iload_n 1, 1) := by decide +kernel
theorem dX7_turnAbout_14 : decode cX7_turnAbout 14 = .ok (.aload_n 0, 1) := by decide +kernel
theorem dX7_turnAbout_15 : decode cX7_turnAbout 15 = .ok (.getfield 18, 3) := by decide +kernel
theorem dX7_turnAbout_18 : decode cX7_turnAbout 18 = .ok (.iconst 1, 1) := by decide +kernel
theorem dX7_turnAbout_19 : decode cX7_turnAbout 19 = .ok (.isub, 1) := by decide +kernel
theorem dX7_turnAbout_20 : decode cX7_turnAbout 20 = .ok (.iload_n 1, 1) := by decide +kernel
theorem dX7_turnAbout_21 : decode cX7_turnAbout 21 = .ok (.isub, 1) := by decide +kernel
theorem dX7_turnAbout_22 : decode cX7_turnAbout 22 = .ok (.invokevirtual 26, 3) := by decide +kernel
theorem dX7_turnAbout_25 : decode cX7_turnAbout 25 = .ok (.iinc 1 1, 3) := by decide +kernel
theorem dX7_turnAbout_28 : decode cX7_turnAbout 28 = .ok (.goto (-26), 3) := by decide +kernel
theorem dX7_turnAbout_31 : decode cX7_turnAbout 31 = .ok (.return_, 1) := by decide +kernel
theorem dX7_termsOfAny_0 : decode cX7_termsOfAny 0 = .ok (.iconst 0, 1) := by decide +kernel
theorem dX7_termsOfAny_1 : decode cX7_termsOfAny 1 = .ok (.istore_n 1, 1) := by decide +kernel
theorem dX7_termsOfAny_2 : decode cX7_termsOfAny 2 = .ok (.iconst 0, 1) := by decide +kernel
theorem dX7_termsOfAny_3 : decode cX7_termsOfAny 3 = .ok (.istore_n 2, 1) := by decide +kernel
theorem dX7_termsOfAny_4 : decode cX7_termsOfAny 4 = .ok (.iload_n 2, 1) := by decide +kernel
theorem dX7_termsOfAny_5 : decode cX7_termsOfAny 5 = .ok (.aload_n 0, 1) := by decide +kernel
theorem dX7_termsOfAny_6 : decode cX7_termsOfAny 6 = .ok (.getfield 18, 3) := by decide +kernel
theorem dX7_termsOfAny_9 : decode cX7_termsOfAny 9 = .ok (.if_icmp .ge 18, 3) := by decide +kernel
theorem dX7_termsOfAny_12 : decode cX7_termsOfAny 12 = .ok (.iload_n 1, 1) := by decide +kernel
theorem dX7_termsOfAny_13 : decode cX7_termsOfAny 13 = .ok (.aload_n 0, 1) := by decide +kernel
theorem dX7_termsOfAny_14 : decode cX7_termsOfAny 14 = .ok (.getfield 9, 3) := by decide +kernel
theorem dX7_termsOfAny_17 : decode cX7_termsOfAny 17 = .ok (.iload_n 2, 1) := by decide +kernel
theorem dX7_termsOfAny_18 : decode cX7_termsOfAny 18 = .ok (.iaload, 1) := by decide +kernel
theorem dX7_termsOfAny_19 : decode cX7_termsOfAny 19 = .ok (.ior, 1) := by decide +kernel
theorem dX7_termsOfAny_20 : decode cX7_termsOfAny 20 = .ok (.istore_n 1, 1) := by decide +kernel
theorem dX7_termsOfAny_21 : decode cX7_termsOfAny 21 = .ok (.iinc 2 1, 3) := by decide +kernel
theorem dX7_termsOfAny_24 : decode cX7_termsOfAny 24 = .ok (.goto (-20), 3) := by decide +kernel
theorem dX7_termsOfAny_27 : decode cX7_termsOfAny 27 = .ok (.iload_n 1, 1) := by decide +kernel
theorem dX7_termsOfAny_28 : decode cX7_termsOfAny 28 = .ok (.ireturn, 1) := by decide +kernel
theorem dX7_termsTogether_0 : decode cX7_termsTogether 0 = .ok (.iconst 0, 1) := by decide +kernel
theorem dX7_termsTogether_1 : decode cX7_termsTogether 1 = .ok (.istore_n 1, 1) := by decide +kernel
theorem dX7_termsTogether_2 : decode cX7_termsTogether 2 = .ok (.iconst 0, 1) := by decide +kernel
theorem dX7_termsTogether_3 : decode cX7_termsTogether 3 = .ok (.istore_n 2, 1) := by decide +kernel
theorem dX7_termsTogether_4 : decode cX7_termsTogether 4 = .ok (.iload_n 2, 1) := by decide +kernel
theorem dX7_termsTogether_5 : decode cX7_termsTogether 5 = .ok (.aload_n 0, 1) := by decide +kernel
theorem dX7_termsTogether_6 : decode cX7_termsTogether 6 = .ok (.getfield 18, 3) := by decide +kernel
theorem dX7_termsTogether_9 : decode cX7_termsTogether 9 = .ok (.if_icmp .ge 21, 3) := by decide +kernel
theorem dX7_termsTogether_12 : decode cX7_termsTogether 12 = .ok (.iload_n 1, 1) := by decide +kernel
theorem dX7_termsTogether_13 : decode cX7_termsTogether 13 = .ok (.aload_n 0, 1) := by decide +kernel
theorem dX7_termsTogether_14 : decode cX7_termsTogether 14 = .ok (.getfield 9, 3) := by decide +kernel
theorem dX7_termsTogether_17 : decode cX7_termsTogether 17 = .ok (.iload_n 2, 1) := by decide +kernel
theorem dX7_termsTogether_18 : decode cX7_termsTogether 18 = .ok (.iaload, 1) := by decide +kernel
theorem dX7_termsTogether_19 : decode cX7_termsTogether 19 = .ok (.invokestatic 60, 3) := by decide +kernel
theorem dX7_termsTogether_22 : decode cX7_termsTogether 22 = .ok (.iadd, 1) := by decide +kernel
theorem dX7_termsTogether_23 : decode cX7_termsTogether 23 = .ok (.istore_n 1, 1) := by decide +kernel
theorem dX7_termsTogether_24 : decode cX7_termsTogether 24 = .ok (.iinc 2 1, 3) := by decide +kernel
theorem dX7_termsTogether_27 : decode cX7_termsTogether 27 = .ok (.goto (-23), 3) := by decide +kernel
theorem dX7_termsTogether_30 : decode cX7_termsTogether 30 = .ok (.iload_n 1, 1) := by decide +kernel
theorem dX7_termsTogether_31 : decode cX7_termsTogether 31 = .ok (.ireturn, 1) := by decide +kernel
theorem dX8_init_0 : decode cX8_init 0 = .ok (.aload_n 0, 1) := by decide +kernel
theorem dX8_init_1 : decode cX8_init 1 = .ok (.invokespecial 1, 3) := by decide +kernel
theorem dX8_init_4 : decode cX8_init 4 = .ok (.aload_n 0, 1) := by decide +kernel
theorem dX8_init_5 : decode cX8_init 5 = .ok (.bipush 10, 2) := by decide +kernel
theorem dX8_init_7 : decode cX8_init 7 = .ok (.anewarray 9, 3) := by decide +kernel
theorem dX8_init_10 : decode cX8_init 10 = .ok (.putfield 11, 3) := by decide +kernel
theorem dX8_init_13 : decode cX8_init 13 = .ok (.aload_n 0, 1) := by decide +kernel
theorem dX8_init_14 : decode cX8_init 14 = .ok (.iconst 0, 1) := by decide +kernel
theorem dX8_init_15 : decode cX8_init 15 = .ok (.putfield 15, 3) := by decide +kernel
theorem dX8_init_18 : decode cX8_init 18 = .ok (.aload_n 0, 1) := by decide +kernel
theorem dX8_init_19 : decode cX8_init 19 = .ok (.iconst 0, 1) := by decide +kernel
theorem dX8_init_20 : decode cX8_init 20 = .ok (.putfield 19, 3) := by decide +kernel
theorem dX8_init_23 : decode cX8_init 23 = .ok (.iconst 0, 1) := by decide +kernel
theorem dX8_init_24 : decode cX8_init 24 = .ok (.istore_n 1, 1) := by decide +kernel
theorem dX8_init_25 : decode cX8_init 25 = .ok (.iload_n 1, 1) := by decide +kernel
theorem dX8_init_26 : decode cX8_init 26 = .ok (.bipush 10, 2) := by decide +kernel
theorem dX8_init_28 : decode cX8_init 28 = .ok (.if_icmp .ge 22, 3) := by decide +kernel
theorem dX8_init_31 : decode cX8_init 31 = .ok (.aload_n 0, 1) := by decide +kernel
theorem dX8_init_32 : decode cX8_init 32 = .ok (.getfield 11, 3) := by decide +kernel
theorem dX8_init_35 : decode cX8_init 35 = .ok (.iload_n 1, 1) := by decide +kernel
theorem dX8_init_36 : decode cX8_init 36 = .ok (.new 9, 3) := by decide +kernel
theorem dX8_init_39 : decode cX8_init 39 = .ok (.dup, 1) := by decide +kernel
theorem dX8_init_40 : decode cX8_init 40 = .ok (.invokespecial 22, 3) := by decide +kernel
theorem dX8_init_43 : decode cX8_init 43 = .ok (.aastore, 1) := by decide +kernel
theorem dX8_init_44 : decode cX8_init 44 = .ok (.iinc 1 1, 3) := by decide +kernel
theorem dX8_init_47 : decode cX8_init 47 = .ok (.goto (-22), 3) := by decide +kernel
theorem dX8_init_50 : decode cX8_init 50 = .ok (.return_, 1) := by decide +kernel
theorem dX8_size_0 : decode cX8_size 0 = .ok (.aload_n 0, 1) := by decide +kernel
theorem dX8_size_1 : decode cX8_size 1 = .ok (.getfield 15, 3) := by decide +kernel
theorem dX8_size_4 : decode cX8_size 4 = .ok (.ireturn, 1) := by decide +kernel
theorem dX8_clear_0 : decode cX8_clear 0 = .ok (.aload_n 0, 1) := by decide +kernel
theorem dX8_clear_1 : decode cX8_clear 1 = .ok (.iconst 0, 1) := by decide +kernel
theorem dX8_clear_2 : decode cX8_clear 2 = .ok (.putfield 15, 3) := by decide +kernel
theorem dX8_clear_5 : decode cX8_clear 5 = .ok (.return_, 1) := by decide +kernel
theorem dX8_push_0 : decode cX8_push 0 = .ok (.aload_n 0, 1) := by decide +kernel
theorem dX8_push_1 : decode cX8_push 1 = .ok (.getfield 11, 3) := by decide +kernel
theorem dX8_push_4 : decode cX8_push 4 = .ok (.aload_n 0, 1) := by decide +kernel
theorem dX8_push_5 : decode cX8_push 5 = .ok (.getfield 19, 3) := by decide +kernel
theorem dX8_push_8 : decode cX8_push 8 = .ok (.aaload, 1) := by decide +kernel
theorem dX8_push_9 : decode cX8_push 9 = .ok (.aload_n 1, 1) := by decide +kernel
theorem dX8_push_10 : decode cX8_push 10 = .ok (.invokevirtual 23, 3) := by decide +kernel
theorem dX8_push_13 : decode cX8_push 13 = .ok (.aload_n 0, 1) := by decide +kernel
theorem dX8_push_14 : decode cX8_push 14 = .ok (.aload_n 0, 1) := by decide +kernel
theorem dX8_push_15 : decode cX8_push 15 = .ok (.getfield 19, 3) := by decide +kernel
theorem dX8_push_18 : decode cX8_push 18 = .ok (.iconst 1, 1) := by decide +kernel
theorem dX8_push_19 : decode cX8_push 19 = .ok (.iadd, 1) := by decide +kernel
theorem dX8_push_20 : decode cX8_push 20 = .ok (.bipush 10, 2) := by decide +kernel
theorem dX8_push_22 : decode cX8_push 22 = .ok (.irem, 1) := by decide +kernel
theorem dX8_push_23 : decode cX8_push 23 = .ok (.putfield 19, 3) := by decide +kernel
theorem dX8_push_26 : decode cX8_push 26 = .ok (.aload_n 0, 1) := by decide +kernel
theorem dX8_push_27 : decode cX8_push 27 = .ok (.aload_n 0, 1) := by decide +kernel
theorem dX8_push_28 : decode cX8_push 28 = .ok (.getfield 15, 3) := by decide +kernel
theorem dX8_push_31 : decode cX8_push 31 = .ok (.iconst 1, 1) := by decide +kernel
theorem dX8_push_32 : decode cX8_push 32 = .ok (.iadd, 1) := by decide +kernel
theorem dX8_push_33 : decode cX8_push 33 = .ok (.bipush 10, 2) := by decide +kernel
theorem dX8_push_35 : decode cX8_push 35 = .ok (.invokestatic 27, 3) := by decide +kernel
theorem dX8_push_38 : decode cX8_push 38 = .ok (.putfield 15, 3) := by decide +kernel
theorem dX8_push_41 : decode cX8_push 41 = .ok (.return_, 1) := by decide +kernel
theorem dX8_pop_0 : decode cX8_pop 0 = .ok (.aload_n 0, 1) := by decide +kernel
theorem dX8_pop_1 : decode cX8_pop 1 = .ok (.getfield 15, 3) := by decide +kernel
theorem dX8_pop_4 : decode cX8_pop 4 = .ok (.iconst 1, 1) := by decide +kernel
theorem dX8_pop_5 : decode cX8_pop 5 = .ok (.if_icmp .ge 5, 3) := by decide +kernel
theorem dX8_pop_8 : decode cX8_pop 8 = .ok (.iconst 0, 1) := by decide +kernel
theorem dX8_pop_9 : decode cX8_pop 9 = .ok (.ireturn, 1) := by decide +kernel
theorem dX8_pop_10 : decode cX8_pop 10 = .ok (.aload_n 0, 1) := by decide +kernel
theorem dX8_pop_11 : decode cX8_pop 11 = .ok (.aload_n 0, 1) := by decide +kernel
theorem dX8_pop_12 : decode cX8_pop 12 = .ok (.getfield 19, 3) := by decide +kernel
theorem dX8_pop_15 : decode cX8_pop 15 = .ok (.bipush 10, 2) := by decide +kernel
theorem dX8_pop_17 : decode cX8_pop 17 = .ok (.iadd, 1) := by decide +kernel
theorem dX8_pop_18 : decode cX8_pop 18 = .ok (.iconst 1, 1) := by decide +kernel
theorem dX8_pop_19 : decode cX8_pop 19 = .ok (.isub, 1) := by decide +kernel
theorem dX8_pop_20 : decode cX8_pop 20 = .ok (.bipush 10, 2) := by decide +kernel
theorem dX8_pop_22 : decode cX8_pop 22 = .ok (.irem, 1) := by decide +kernel
theorem dX8_pop_23 : decode cX8_pop 23 = .ok (.putfield 19, 3) := by decide +kernel
theorem dX8_pop_26 : decode cX8_pop 26 = .ok (.aload_n 0, 1) := by decide +kernel
theorem dX8_pop_27 : decode cX8_pop 27 = .ok (.dup, 1) := by decide +kernel
theorem dX8_pop_28 : decode cX8_pop 28 = .ok (.getfield 15, 3) := by decide +kernel
theorem dX8_pop_31 : decode cX8_pop 31 = .ok (.iconst 1, 1) := by decide +kernel
theorem dX8_pop_32 : decode cX8_pop 32 = .ok (.isub, 1) := by decide +kernel
theorem dX8_pop_33 : decode cX8_pop 33 = .ok (.putfield 15, 3) := by decide +kernel
theorem dX8_pop_36 : decode cX8_pop 36 = .ok (.aload_n 1, 1) := by decide +kernel
theorem dX8_pop_37 : decode cX8_pop 37 = .ok (.aload_n 0, 1) := by decide +kernel
theorem dX8_pop_38 : decode cX8_pop 38 = .ok (.getfield 11, 3) := by decide +kernel
theorem dX8_pop_41 : decode cX8_pop 41 = .ok (.aload_n 0, 1) := by decide +kernel
theorem dX8_pop_42 : decode cX8_pop 42 = .ok (.getfield 19, 3) := by decide +kernel
theorem dX8_pop_45 : decode cX8_pop 45 = .ok (.aaload, 1) := by decide +kernel
theorem dX8_pop_46 : decode cX8_pop 46 = .ok (.invokevirtual 23, 3) := by decide +kernel
theorem dX8_pop_49 : decode cX8_pop 49 = .ok (.iconst 1, 1) := by decide +kernel
theorem dX8_pop_50 : decode cX8_pop 50 = .ok (.ireturn, 1) := by decide +kernel
theorem dX9_init_0 : decode cX9_init 0 = .ok (.aload_n 0, 1) := by decide +kernel
theorem dX9_init_1 : decode cX9_init 1 = .ok (.invokespecial 3, 3) := by decide +kernel
theorem dX9_init_4 : decode cX9_init 4 = .ok (.aload_n 0, 1) := by decide +kernel
theorem dX9_init_5 : decode cX9_init 5 = .ok (.bipush 8, 2) := by decide +kernel
theorem dX9_init_7 : decode cX9_init 7 = .ok (.newarray .int, 2) := by decide +kernel
theorem dX9_init_9 : decode cX9_init 9 = .ok (.putfield 9, 3) := by decide +kernel
theorem dX9_init_12 : decode cX9_init 12 = .ok (.aload_n 0, 1) := by decide +kernel
theorem dX9_init_13 : decode cX9_init 13 = .ok (.bipush 8, 2) := by decide +kernel
theorem dX9_init_15 : decode cX9_init 15 = .ok (.newarray .int, 2) := by decide +kernel
theorem dX9_init_17 : decode cX9_init 17 = .ok (.putfield 15, 3) := by decide +kernel
theorem dX9_init_20 : decode cX9_init 20 = .ok (.aload_n 0, 1) := by decide +kernel
theorem dX9_init_21 : decode cX9_init 21 = .ok (.iconst (-1), 1) := by decide +kernel
theorem dX9_init_22 : decode cX9_init 22 = .ok (.putfield 18, 3) := by decide +kernel
theorem dX9_init_25 : decode cX9_init 25 = .ok (.aload_n 0, 1) := by decide +kernel
theorem dX9_init_26 : decode cX9_init 26 = .ok (.iconst (-1), 1) := by decide +kernel
theorem dX9_init_27 : decode cX9_init 27 = .ok (.putfield 22, 3) := by decide +kernel
theorem dX9_init_30 : decode cX9_init 30 = .ok (.return_, 1) := by decide +kernel
theorem dX9_first_0 : decode cX9_first 0 = .ok (.aload_n 0, 1) := by decide +kernel
theorem dX9_first_1 : decode cX9_first 1 = .ok (.getfield 18, 3) := by decide +kernel
theorem dX9_first_4 : decode cX9_first 4 = .ok (.ireturn, 1) := by decide +kernel
theorem dX9_second_0 : decode cX9_second 0 = .ok (.aload_n 0, 1) := by decide +kernel
theorem dX9_second_1 : decode cX9_second 1 = .ok (.getfield 22, 3) := by decide +kernel
theorem dX9_second_4 : decode cX9_second 4 = .ok (.ireturn, 1) := by decide +kernel
theorem dX9_find_0 : decode cX9_find 0 = .ok (.iconst 0, 1) := by decide +kernel
theorem dX9_find_1 : decode cX9_find 1 = .ok (.istore_n 2, 1) := by decide +kernel
theorem dX9_find_2 : decode cX9_find 2 = .ok (.iload_n 2, 1) := by decide +kernel
theorem dX9_find_3 : decode cX9_find 3 = .ok (.bipush 8, 2) := by decide +kernel
theorem dX9_find_5 : decode cX9_find 5 = .ok (.if_icmp .ge 40, 3) := by decide +kernel
theorem dX9_find_8 : decode cX9_find 8 = .ok (.aload_n 0, 1) := by decide +kernel
theorem dX9_find_9 : decode cX9_find 9 = .ok (.getfield 9, 3) := by decide +kernel
theorem dX9_find_12 : decode cX9_find 12 = .ok (.iload_n 2, 1) := by decide +kernel
theorem dX9_find_13 : decode cX9_find 13 = .ok (.aload_n 1, 1) := by decide +kernel
theorem dX9_find_14 : decode cX9_find 14 = .ok (.iload_n 2, 1) := by decide +kernel
theorem dX9_find_15 : decode cX9_find 15 = .ok (.invokevirtual 25, 3) := by decide +kernel
theorem dX9_find_18 : decode cX9_find 18 = .ok (.iastore, 1) := by decide +kernel
theorem dX9_find_19 : decode cX9_find 19 = .ok (.aload_n 0, 1) := by decide +kernel
theorem dX9_find_20 : decode cX9_find 20 = .ok (.getfield 15, 3) := by decide +kernel
theorem dX9_find_23 : decode cX9_find 23 = .ok (.iload_n 2, 1) := by decide +kernel
theorem dX9_find_24 : decode cX9_find 24 = .ok (.aload_n 0, 1) := by decide +kernel
theorem dX9_find_25 : decode cX9_find 25 = .ok (.getfield 9, 3) := by decide +kernel
theorem dX9_find_28 : decode cX9_find 28 = .ok (.iload_n 2, 1) := by decide +kernel
theorem dX9_find_29 : decode cX9_find 29 = .ok (.iaload, 1) := by decide +kernel
theorem dX9_find_30 : decode cX9_find 30 = .ok (.iconst 1, 1) := by decide +kernel
theorem dX9_find_31 : decode cX9_find 31 = .ok (.aload_n 1, 1) := by decide +kernel
theorem dX9_find_32 : decode cX9_find 32 = .ok (.invokevirtual 31, 3) := by decide +kernel
theorem dX9_find_35 : decode cX9_find 35 = .ok (.invokestatic 35, 3) := by decide +kernel
theorem dX9_find_38 : decode cX9_find 38 = .ok (.iastore, 1) := by decide +kernel
theorem dX9_find_39 : decode cX9_find 39 = .ok (.iinc 2 1, 3) := by decide +kernel
theorem dX9_find_42 : decode cX9_find 42 = .ok (.goto (-40), 3) := by decide +kernel
theorem dX9_find_45 : decode cX9_find 45 = .ok (.iconst 0, 1) := by decide +kernel
theorem dX9_find_46 : decode cX9_find 46 = .ok (.istore_n 2, 1) := by decide +kernel
theorem dX9_find_47 : decode cX9_find 47 = .ok (.iconst 0, 1) := by decide +kernel
theorem dX9_find_48 : decode cX9_find 48 = .ok (.istore_n 3, 1) := by decide +kernel
theorem dX9_find_49 : decode cX9_find 49 = .ok (.iload_n 3, 1) := by decide +kernel
theorem dX9_find_50 : decode cX9_find 50 = .ok (.aload_n 1, 1) := by decide +kernel
theorem dX9_find_51 : decode cX9_find 51 = .ok (.invokevirtual 31, 3) := by decide +kernel
theorem dX9_find_54 : decode cX9_find 54 = .ok (.if_icmp .ge 59, 3) := by decide +kernel
theorem dX9_find_57 : decode cX9_find 57 = .ok (.iload_n 3, 1) := by decide +kernel
theorem dX9_find_58 : decode cX9_find 58 = .ok (.iconst 1, 1) := by decide +kernel
theorem dX9_find_59 : decode cX9_find 59 = .ok (.iadd, 1) := by decide +kernel
theorem dX9_find_60 : decode cX9_find 60 = .ok (.istore 4, 2) := by decide +kernel
theorem dX9_find_62 : decode cX9_find 62 = .ok (.iload 4, 2) := by decide +kernel
theorem dX9_find_64 : decode cX9_find 64 = .ok (.aload_n 1, 1) := by decide +kernel
theorem dX9_find_65 : decode cX9_find 65 = .ok (.invokevirtual 31, 3) := by decide +kernel
theorem dX9_find_68 : decode cX9_find 68 = .ok (.if_icmp .ge 39, 3) := by decide +kernel
theorem dX9_find_71 : decode cX9_find 71 = .ok (.aload_n 0, 1) := by decide +kernel
theorem dX9_find_72 : decode cX9_find 72 = .ok (.aload_n 1, 1) := by decide +kernel
theorem dX9_find_73 : decode cX9_find 73 = .ok (.iload_n 3, 1) := by decide +kernel
theorem dX9_find_74 : decode cX9_find 74 = .ok (.iload 4, 2) := by decide +kernel
theorem dX9_find_76 : decode cX9_find 76 = .ok (.invokevirtual 41, 3) := by decide +kernel
theorem dX9_find_79 : decode cX9_find 79 = .ok (.istore 5, 2) := by decide +kernel
theorem dX9_find_81 : decode cX9_find 81 = .ok (.iload 5, 2) := by decide +kernel
theorem dX9_find_83 : decode cX9_find 83 = .ok (.iload_n 2, 1) := by decide +kernel
theorem dX9_find_84 : decode cX9_find 84 = .ok (.if_icmp .le 17, 3) := by decide +kernel
theorem dX9_find_87 : decode cX9_find 87 = .ok (.iload 5, 2) := by decide +kernel
theorem dX9_find_89 : decode cX9_find 89 = .ok (.istore_n 2, 1) := by decide +kernel
theorem dX9_find_90 : decode cX9_find 90 = .ok (.aload_n 0, 1) := by decide +kernel
theorem dX9_find_91 : decode cX9_find 91 = .ok (.iload_n 3, 1) := by decide +kernel
theorem dX9_find_92 : decode cX9_find 92 = .ok (.putfield 18, 3) := by decide +kernel
theorem dX9_find_95 : decode cX9_find 95 = .ok (.aload_n 0, 1) := by decide +kernel
theorem dX9_find_96 : decode cX9_find 96 = .ok (.iload 4, 2) := by decide +kernel
theorem dX9_find_98 : decode cX9_find 98 = .ok (.putfield 22, 3) := by decide +kernel
theorem dX9_find_101 : decode cX9_find 101 = .ok (.iinc 4 1, 3) := by decide +kernel
theorem dX9_find_104 : decode cX9_find 104 = .ok (.goto (-42), 3) := by decide +kernel
theorem dX9_find_107 : decode cX9_find 107 = .ok (.iinc 3 1, 3) := by decide +kernel
theorem dX9_find_110 : decode cX9_find 110 = .ok (.goto (-61), 3) := by decide +kernel
theorem dX9_find_113 : decode cX9_find 113 = .ok (.iload_n 2, 1) := by decide +kernel
theorem dX9_find_114 : decode cX9_find 114 = .ok (.ireturn, 1) := by decide +kernel
theorem dX9_takenOff_0 : decode cX9_takenOff 0 = .ok (.aload_n 1, 1) := by decide +kernel
theorem dX9_takenOff_1 : decode cX9_takenOff 1 = .ok (.iload_n 2, 1) := by decide +kernel
theorem dX9_takenOff_2 : decode cX9_takenOff 2 = .ok (.invokevirtual 45, 3) := by decide +kernel
theorem dX9_takenOff_5 : decode cX9_takenOff 5 = .ok (.aload_n 1, 1) := by decide +kernel
theorem dX9_takenOff_6 : decode cX9_takenOff 6 = .ok (.iload_n 3, 1) := by decide +kernel
theorem dX9_takenOff_7 : decode cX9_takenOff 7 = .ok (.invokevirtual 45, 3) := by decide +kernel
theorem dX9_takenOff_10 : decode cX9_takenOff 10 = .ok (.ixor, 1) := by decide +kernel
theorem dX9_takenOff_11 : decode cX9_takenOff 11 = .ok (.istore 4, 2) := by decide +kernel
theorem dX9_takenOff_13 : decode cX9_takenOff 13 = .ok (.iconst 1, 1) := by decide +kernel
theorem dX9_takenOff_14 : decode cX9_takenOff 14 = .ok (.iload_n 2, 1) := by decide +kernel
theorem dX9_takenOff_15 : decode cX9_takenOff 15 = .ok (.ishl, 1) := by decide +kernel
theorem dX9_takenOff_16 : decode cX9_takenOff 16 = .ok (.iconst 1, 1) := by decide +kernel
theorem dX9_takenOff_17 : decode cX9_takenOff 17 = .ok (.iload_n 3, 1) := by decide +kernel
theorem dX9_takenOff_18 : decode cX9_takenOff 18 = .ok (.ishl, 1) := by decide +kernel
theorem dX9_takenOff_19 : decode cX9_takenOff 19 = .ok (.ior, 1) := by decide +kernel
theorem dX9_takenOff_20 : decode cX9_takenOff 20 = .ok (.istore 5, 2) := by decide +kernel
theorem dX9_takenOff_22 : decode cX9_takenOff 22 = .ok (.iconst 0, 1) := by decide +kernel
theorem dX9_takenOff_23 : decode cX9_takenOff 23 = .ok (.istore 6, 2) := by decide +kernel
theorem dX9_takenOff_25 : decode cX9_takenOff 25 = .ok (.iconst 0, 1) := by decide +kernel
theorem dX9_takenOff_26 : decode cX9_takenOff 26 = .ok (.istore 7, 2) := by decide +kernel
theorem dX9_takenOff_28 : decode cX9_takenOff 28 = .ok (.iload 7, 2) := by decide +kernel
theorem dX9_takenOff_30 : decode cX9_takenOff 30 = .ok (.bipush 8, 2) := by decide +kernel
theorem dX9_takenOff_32 : decode cX9_takenOff 32 = .ok (.if_icmp .ge 51, 3) := by decide +kernel
theorem dX9_takenOff_35 : decode cX9_takenOff 35 = .ok (.iload 4, 2) := by decide +kernel
theorem dX9_takenOff_37 : decode cX9_takenOff 37 = .ok (.iload 7, 2) := by decide +kernel
theorem dX9_takenOff_39 : decode cX9_takenOff 39 = .ok (.ishr, 1) := by decide +kernel
theorem dX9_takenOff_40 : decode cX9_takenOff 40 = .ok (.iconst 1, 1) := by decide +kernel
theorem dX9_takenOff_41 : decode cX9_takenOff 41 = .ok (.iand, 1) := by decide +kernel
theorem dX9_takenOff_42 : decode cX9_takenOff 42 = .ok (.iconst 1, 1) := by decide +kernel
theorem dX9_takenOff_43 : decode cX9_takenOff 43 = .ok (.if_icmp .ne 34, 3) := by decide +kernel
theorem dX9_takenOff_46 : decode cX9_takenOff 46 = .ok (.iload 6, 2) := by decide +kernel
theorem dX9_takenOff_48 : decode cX9_takenOff 48 = .ok (.aload_n 0, 1) := by decide +kernel
theorem dX9_takenOff_49 : decode cX9_takenOff 49 = .ok (.getfield 15, 3) := by decide +kernel
theorem dX9_takenOff_52 : decode cX9_takenOff 52 = .ok (.iload 7, 2) := by decide +kernel
theorem dX9_takenOff_54 : decode cX9_takenOff 54 = .ok (.iaload, 1) := by decide +kernel
theorem dX9_takenOff_55 : decode cX9_takenOff 55 = .ok (.aload_n 0, 1) := by decide +kernel
theorem dX9_takenOff_56 : decode cX9_takenOff 56 = .ok (.getfield 9, 3) := by decide +kernel
theorem dX9_takenOff_59 : decode cX9_takenOff 59 = .ok (.iload 7, 2) := by decide +kernel
theorem dX9_takenOff_61 : decode cX9_takenOff 61 = .ok (.iaload, 1) := by decide +kernel
theorem dX9_takenOff_62 : decode cX9_takenOff 62 = .ok (.iload 5, 2) := by decide +kernel
theorem dX9_takenOff_64 : decode cX9_takenOff 64 = .ok (.ixor, 1) := by decide +kernel
theorem dX9_takenOff_65 : decode cX9_takenOff 65 = .ok (.iconst 1, 1) := by decide +kernel
theorem dX9_takenOff_66 : decode cX9_takenOff 66 = .ok (.aload_n 1, 1) := by decide +kernel
theorem dX9_takenOff_67 : decode cX9_takenOff 67 = .ok (.invokevirtual 31, 3) := by decide +kernel
theorem dX9_takenOff_70 : decode cX9_takenOff 70 = .ok (.invokestatic 35, 3) := by decide +kernel
theorem dX9_takenOff_73 : decode cX9_takenOff 73 = .ok (.isub, 1) := by decide +kernel
theorem dX9_takenOff_74 : decode cX9_takenOff 74 = .ok (.iadd, 1) := by decide +kernel
theorem dX9_takenOff_75 : decode cX9_takenOff 75 = .ok (.istore 6, 2) := by decide +kernel
theorem dX9_takenOff_77 : decode cX9_takenOff 77 = .ok (.iinc 7 1, 3) := by decide +kernel
theorem dX9_takenOff_80 : decode cX9_takenOff 80 = .ok (.goto (-52), 3) := by decide +kernel
theorem dX9_takenOff_83 : decode cX9_takenOff 83 = .ok (.iload 6, 2) := by decide +kernel
theorem dX9_takenOff_85 : decode cX9_takenOff 85 = .ok (.ireturn, 1) := by decide +kernel
theorem dX10_init_0 : decode cX10_init 0 = .ok (.aload_n 0, 1) := by decide +kernel
theorem dX10_init_1 : decode cX10_init 1 = .ok (.invokespecial 3, 3) := by decide +kernel
theorem dX10_init_4 : decode cX10_init 4 = .ok (.aload_n 0, 1) := by decide +kernel
theorem dX10_init_5 : decode cX10_init 5 = .ok (.bipush 80, 2) := by decide +kernel
theorem dX10_init_7 : decode cX10_init 7 = .ok (.newarray .char, 2) := by decide +kernel
theorem dX10_init_9 : decode cX10_init 9 = .ok (.putfield 11, 3) := by decide +kernel
theorem dX10_init_12 : decode cX10_init 12 = .ok (.aload_n 0, 1) := by decide +kernel
theorem dX10_init_13 : decode cX10_init 13 = .ok (.iconst 0, 1) := by decide +kernel
theorem dX10_init_14 : decode cX10_init 14 = .ok (.putfield 15, 3) := by decide +kernel
theorem dX10_init_17 : decode cX10_init 17 = .ok (.return_, 1) := by decide +kernel
theorem dX10_length_0 : decode cX10_length 0 = .ok (.aload_n 0, 1) := by decide +kernel
theorem dX10_length_1 : decode cX10_length 1 = .ok (.getfield 15, 3) := by decide +kernel
theorem dX10_length_4 : decode cX10_length 4 = .ok (.ireturn, 1) := by decide +kernel
theorem dX10_clear_0 : decode cX10_clear 0 = .ok (.aload_n 0, 1) := by decide +kernel
theorem dX10_clear_1 : decode cX10_clear 1 = .ok (.iconst 0, 1) := by decide +kernel
theorem dX10_clear_2 : decode cX10_clear 2 = .ok (.putfield 15, 3) := by decide +kernel
theorem dX10_clear_5 : decode cX10_clear 5 = .ok (.return_, 1) := by decide +kernel
theorem dX10_add_0 : decode cX10_add 0 = .ok (.aload_n 0, 1) := by decide +kernel
theorem dX10_add_1 : decode cX10_add 1 = .ok (.getfield 15, 3) := by decide +kernel
theorem dX10_add_4 : decode cX10_add 4 = .ok (.iconst 4, 1) := by decide +kernel
theorem dX10_add_5 : decode cX10_add 5 = .ok (.iadd, 1) := by decide +kernel
theorem dX10_add_6 : decode cX10_add 6 = .ok (.bipush 80, 2) := by decide +kernel
theorem dX10_add_8 : decode cX10_add 8 = .ok (.if_icmp .le 5, 3) := by decide +kernel
theorem dX10_add_11 : decode cX10_add 11 = .ok (.iconst 0, 1) := by decide +kernel
theorem dX10_add_12 : decode cX10_add 12 = .ok (.ireturn, 1) := by decide +kernel
theorem dX10_add_13 : decode cX10_add 13 = .ok (.bipush 24, 2) := by decide +kernel
theorem dX10_add_15 : decode cX10_add 15 = .ok (.istore_n 2, 1) := by decide +kernel
theorem dX10_add_16 : decode cX10_add 16 = .ok (.iload_n 2, 1) := by decide +kernel
theorem dX10_add_17 : decode cX10_add 17 = .ok (.ifCond .lt 36, 3) := by decide +kernel
theorem dX10_add_20 : decode cX10_add 20 = .ok (.aload_n 0, 1) := by decide +kernel
theorem dX10_add_21 : decode cX10_add 21 = .ok (.getfield 11, 3) := by decide +kernel
theorem dX10_add_24 : decode cX10_add 24 = .ok (.aload_n 0, 1) := by decide +kernel
theorem dX10_add_25 : decode cX10_add 25 = .ok (.getfield 15, 3) := by decide +kernel
theorem dX10_add_28 : decode cX10_add 28 = .ok (.iload_n 1, 1) := by decide +kernel
theorem dX10_add_29 : decode cX10_add 29 = .ok (.iload_n 2, 1) := by decide +kernel
theorem dX10_add_30 : decode cX10_add 30 = .ok (.iushr, 1) := by decide +kernel
theorem dX10_add_31 : decode cX10_add 31 = .ok (.sipush 255, 3) := by decide +kernel
theorem dX10_add_34 : decode cX10_add 34 = .ok (.iand, 1) := by decide +kernel
theorem dX10_add_35 : decode cX10_add 35 = .ok (.i2c, 1) := by decide +kernel
theorem dX10_add_36 : decode cX10_add 36 = .ok (.castore, 1) := by decide +kernel
theorem dX10_add_37 : decode cX10_add 37 = .ok (.aload_n 0, 1) := by decide +kernel
theorem dX10_add_38 : decode cX10_add 38 = .ok (.dup, 1) := by decide +kernel
theorem dX10_add_39 : decode cX10_add 39 = .ok (.getfield 15, 3) := by decide +kernel
theorem dX10_add_42 : decode cX10_add 42 = .ok (.iconst 1, 1) := by decide +kernel
theorem dX10_add_43 : decode cX10_add 43 = .ok (.iadd, 1) := by decide +kernel
theorem dX10_add_44 : decode cX10_add 44 = .ok (.putfield 15, 3) := by decide +kernel
theorem dX10_add_47 : decode cX10_add 47 = .ok (.iinc 2 (-8), 3) := by decide +kernel
theorem dX10_add_50 : decode cX10_add 50 = .ok (.goto (-34), 3) := by decide +kernel
theorem dX10_add_53 : decode cX10_add 53 = .ok (.iconst 1, 1) := by decide +kernel
theorem dX10_add_54 : decode cX10_add 54 = .ok (.ireturn, 1) := by decide +kernel
theorem dX10_cut_0 : decode cX10_cut 0 = .ok (.iload_n 1, 1) := by decide +kernel
theorem dX10_cut_1 : decode cX10_cut 1 = .ok (.ifCond .lt 11, 3) := by decide +kernel
theorem dX10_cut_4 : decode cX10_cut 4 = .ok (.iload_n 1, 1) := by decide +kernel
theorem dX10_cut_5 : decode cX10_cut 5 = .ok (.aload_n 0, 1) := by decide +kernel
theorem dX10_cut_6 : decode cX10_cut 6 = .ok (.getfield 15, 3) := by decide +kernel
theorem dX10_cut_9 : decode cX10_cut 9 = .ok (.if_icmp .le 5, 3) := by decide +kernel
theorem dX10_cut_12 : decode cX10_cut 12 = .ok (.iconst 0, 1) := by decide +kernel
theorem dX10_cut_13 : decode cX10_cut 13 = .ok (.ireturn, 1) := by decide +kernel
theorem dX10_cut_14 : decode cX10_cut 14 = .ok (.aload_n 0, 1) := by decide +kernel
theorem dX10_cut_15 : decode cX10_cut 15 = .ok (.iload_n 1, 1) := by decide +kernel
theorem dX10_cut_16 : decode cX10_cut 16 = .ok (.putfield 15, 3) := by decide +kernel
theorem dX10_cut_19 : decode cX10_cut 19 = .ok (.iconst 1, 1) := by decide +kernel
theorem dX10_cut_20 : decode cX10_cut 20 = .ok (.ireturn, 1) := by decide +kernel
theorem dX10_signAt_0 : decode cX10_signAt 0 = .ok (.iload_n 1, 1) := by decide +kernel
theorem dX10_signAt_1 : decode cX10_signAt 1 = .ok (.ifCond .lt 20, 3) := by decide +kernel
theorem dX10_signAt_4 : decode cX10_signAt 4 = .ok (.iload_n 1, 1) := by decide +kernel
theorem dX10_signAt_5 : decode cX10_signAt 5 = .ok (.aload_n 0, 1) := by decide +kernel
theorem dX10_signAt_6 : decode cX10_signAt 6 = .ok (.getfield 15, 3) := by decide +kernel
theorem dX10_signAt_9 : decode cX10_signAt 9 = .ok (.if_icmp .ge 12, 3) := by decide +kernel
theorem dX10_signAt_12 : decode cX10_signAt 12 = .ok (.aload_n 0, 1) := by decide +kernel
theorem dX10_signAt_13 : decode cX10_signAt 13 = .ok (.getfield 11, 3) := by decide +kernel
theorem dX10_signAt_16 : decode cX10_signAt 16 = .ok (.iload_n 1, 1) := by decide +kernel
theorem dX10_signAt_17 : decode cX10_signAt 17 = .ok (.caload, 1) := by decide +kernel
theorem dX10_signAt_18 : decode cX10_signAt 18 = .ok (.goto 4, 3) := by decide +kernel
theorem dX10_signAt_21 : decode cX10_signAt 21 = .ok (.iconst (-1), 1) := by decide +kernel
theorem dX10_signAt_22 : decode cX10_signAt 22 = .ok (.ireturn, 1) := by decide +kernel
theorem dX10_digitAt_0 : decode cX10_digitAt 0 = .ok (.aload_n 0, 1) := by decide +kernel
theorem dX10_digitAt_1 : decode cX10_digitAt 1 = .ok (.iload_n 1, 1) := by decide +kernel
theorem dX10_digitAt_2 : decode cX10_digitAt 2 = .ok (.invokevirtual 19, 3) := by decide +kernel
theorem dX10_digitAt_5 : decode cX10_digitAt 5 = .ok (.istore_n 2, 1) := by decide +kernel
theorem dX10_digitAt_6 : decode cX10_digitAt 6 = .ok (.iload_n 2, 1) := by decide +kernel
theorem dX10_digitAt_7 : decode cX10_digitAt 7 = .ok (.bipush 48, 2) := by decide +kernel
theorem dX10_digitAt_9 : decode cX10_digitAt 9 = .ok (.if_icmp .lt 16, 3) := by decide +kernel
theorem dX10_digitAt_12 : decode cX10_digitAt 12 = .ok (.iload_n 2, 1) := by decide +kernel
theorem dX10_digitAt_13 : decode cX10_digitAt 13 = .ok (.bipush 57, 2) := by decide +kernel
theorem dX10_digitAt_15 : decode cX10_digitAt 15 = .ok (.if_icmp .gt 10, 3) := by decide +kernel
theorem dX10_digitAt_18 : decode cX10_digitAt 18 = .ok (.iload_n 2, 1) := by decide +kernel
theorem dX10_digitAt_19 : decode cX10_digitAt 19 = .ok (.bipush 48, 2) := by decide +kernel
theorem dX10_digitAt_21 : decode cX10_digitAt 21 = .ok (.isub, 1) := by decide +kernel
theorem dX10_digitAt_22 : decode cX10_digitAt 22 = .ok (.goto 4, 3) := by decide +kernel
theorem dX10_digitAt_25 : decode cX10_digitAt 25 = .ok (.iconst (-1), 1) := by decide +kernel
theorem dX10_digitAt_26 : decode cX10_digitAt 26 = .ok (.ireturn, 1) := by decide +kernel
theorem dX10_pairAt_0 : decode cX10_pairAt 0 = .ok (.aload_n 0, 1) := by decide +kernel
theorem dX10_pairAt_1 : decode cX10_pairAt 1 = .ok (.iload_n 1, 1) := by decide +kernel
theorem dX10_pairAt_2 : decode cX10_pairAt 2 = .ok (.invokevirtual 23, 3) := by decide +kernel
theorem dX10_pairAt_5 : decode cX10_pairAt 5 = .ok (.istore_n 2, 1) := by decide +kernel
theorem dX10_pairAt_6 : decode cX10_pairAt 6 = .ok (.aload_n 0, 1) := by decide +kernel
theorem dX10_pairAt_7 : decode cX10_pairAt 7 = .ok (.iload_n 1, 1) := by decide +kernel
theorem dX10_pairAt_8 : decode cX10_pairAt 8 = .ok (.iconst 1, 1) := by decide +kernel
theorem dX10_pairAt_9 : decode cX10_pairAt 9 = .ok (.iadd, 1) := by decide +kernel
theorem dX10_pairAt_10 : decode cX10_pairAt 10 = .ok (.invokevirtual 23, 3) := by decide +kernel
theorem dX10_pairAt_13 : decode cX10_pairAt 13 = .ok (.istore_n 3, 1) := by decide +kernel
theorem dX10_pairAt_14 : decode cX10_pairAt 14 = .ok (.iload_n 2, 1) := by decide +kernel
theorem dX10_pairAt_15 : decode cX10_pairAt 15 = .ok (.iconst (-1), 1) := by decide +kernel
theorem dX10_pairAt_16 : decode cX10_pairAt 16 = .ok (.if_icmp .eq 8, 3) := by decide +kernel
theorem dX10_pairAt_19 : decode cX10_pairAt 19 = .ok (.iload_n 3, 1) := by decide +kernel
theorem dX10_pairAt_20 : decode cX10_pairAt 20 = .ok (.iconst (-1), 1) := by decide +kernel
theorem dX10_pairAt_21 : decode cX10_pairAt 21 = .ok (.if_icmp .ne 7, 3) := by decide +kernel
theorem dX10_pairAt_24 : decode cX10_pairAt 24 = .ok (.iconst (-1), 1) := by decide +kernel
theorem dX10_pairAt_25 : decode cX10_pairAt 25 = .ok (.goto 9, 3) := by decide +kernel
theorem dX10_pairAt_28 : decode cX10_pairAt 28 = .ok (.iload_n 2, 1) := by decide +kernel
theorem dX10_pairAt_29 : decode cX10_pairAt 29 = .ok (.bipush 10, 2) := by decide +kernel
theorem dX10_pairAt_31 : decode cX10_pairAt 31 = .ok (.imul, 1) := by decide +kernel
theorem dX10_pairAt_32 : decode cX10_pairAt 32 = .ok (.iload_n 3, 1) := by decide +kernel
theorem dX10_pairAt_33 : decode cX10_pairAt 33 = .ok (.iadd, 1) := by decide +kernel
theorem dX10_pairAt_34 : decode cX10_pairAt 34 = .ok (.ireturn, 1) := by decide +kernel
theorem dJ6_bitCount_0f7a4_0 : decode cJ6_bitCount_0f7a4 0 = .ok (.iload_n 0, 1) := by decide +kernel
theorem dJ6_bitCount_0f7a4_1 : decode cJ6_bitCount_0f7a4 1 = .ok (.iload_n 0, 1) := by decide +kernel
theorem dJ6_bitCount_0f7a4_2 : decode cJ6_bitCount_0f7a4 2 = .ok (.iconst 1, 1) := by decide +kernel
theorem dJ6_bitCount_0f7a4_3 : decode cJ6_bitCount_0f7a4 3 = .ok (.iushr, 1) := by decide +kernel
theorem dJ6_bitCount_0f7a4_4 : decode cJ6_bitCount_0f7a4 4 = .ok (.ldc_w 265, 3) := by decide +kernel
theorem dJ6_bitCount_0f7a4_7 : decode cJ6_bitCount_0f7a4 7 = .ok (.iand, 1) := by decide +kernel
theorem dJ6_bitCount_0f7a4_8 : decode cJ6_bitCount_0f7a4 8 = .ok (.isub, 1) := by decide +kernel
theorem dJ6_bitCount_0f7a4_9 : decode cJ6_bitCount_0f7a4 9 = .ok (.istore_n 0, 1) := by decide +kernel
theorem dJ6_bitCount_0f7a4_10 : decode cJ6_bitCount_0f7a4 10 = .ok (.iload_n 0, 1) := by decide +kernel
theorem dJ6_bitCount_0f7a4_11 : decode cJ6_bitCount_0f7a4 11 = .ok (.ldc_w 266, 3) := by decide +kernel
theorem dJ6_bitCount_0f7a4_14 : decode cJ6_bitCount_0f7a4 14 = .ok (.iand, 1) := by decide +kernel
theorem dJ6_bitCount_0f7a4_15 : decode cJ6_bitCount_0f7a4 15 = .ok (.iload_n 0, 1) := by decide +kernel
theorem dJ6_bitCount_0f7a4_16 : decode cJ6_bitCount_0f7a4 16 = .ok (.iconst 2, 1) := by decide +kernel
theorem dJ6_bitCount_0f7a4_17 : decode cJ6_bitCount_0f7a4 17 = .ok (.iushr, 1) := by decide +kernel
theorem dJ6_bitCount_0f7a4_18 : decode cJ6_bitCount_0f7a4 18 = .ok (.ldc_w 266, 3) := by decide +kernel
theorem dJ6_bitCount_0f7a4_21 : decode cJ6_bitCount_0f7a4 21 = .ok (.iand, 1) := by decide +kernel
theorem dJ6_bitCount_0f7a4_22 : decode cJ6_bitCount_0f7a4 22 = .ok (.iadd, 1) := by decide +kernel
theorem dJ6_bitCount_0f7a4_23 : decode cJ6_bitCount_0f7a4 23 = .ok (.istore_n 0, 1) := by decide +kernel
theorem dJ6_bitCount_0f7a4_24 : decode cJ6_bitCount_0f7a4 24 = .ok (.iload_n 0, 1) := by decide +kernel
theorem dJ6_bitCount_0f7a4_25 : decode cJ6_bitCount_0f7a4 25 = .ok (.iload_n 0, 1) := by decide +kernel
theorem dJ6_bitCount_0f7a4_26 : decode cJ6_bitCount_0f7a4 26 = .ok (.iconst 4, 1) := by decide +kernel
theorem dJ6_bitCount_0f7a4_27 : decode cJ6_bitCount_0f7a4 27 = .ok (.iushr, 1) := by decide +kernel
theorem dJ6_bitCount_0f7a4_28 : decode cJ6_bitCount_0f7a4 28 = .ok (.iadd, 1) := by decide +kernel
theorem dJ6_bitCount_0f7a4_29 : decode cJ6_bitCount_0f7a4 29 = .ok (.ldc_w 267, 3) := by decide +kernel
theorem dJ6_bitCount_0f7a4_32 : decode cJ6_bitCount_0f7a4 32 = .ok (.iand, 1) := by decide +kernel
theorem dJ6_bitCount_0f7a4_33 : decode cJ6_bitCount_0f7a4 33 = .ok (.istore_n 0, 1) := by decide +kernel
theorem dJ6_bitCount_0f7a4_34 : decode cJ6_bitCount_0f7a4 34 = .ok (.iload_n 0, 1) := by decide +kernel
theorem dJ6_bitCount_0f7a4_35 : decode cJ6_bitCount_0f7a4 35 = .ok (.iload_n 0, 1) := by decide +kernel
theorem dJ6_bitCount_0f7a4_36 : decode cJ6_bitCount_0f7a4 36 = .ok (.bipush 8, 2) := by decide +kernel
theorem dJ6_bitCount_0f7a4_38 : decode cJ6_bitCount_0f7a4 38 = .ok (.iushr, 1) := by decide +kernel
theorem dJ6_bitCount_0f7a4_39 : decode cJ6_bitCount_0f7a4 39 = .ok (.iadd, 1) := by decide +kernel
theorem dJ6_bitCount_0f7a4_40 : decode cJ6_bitCount_0f7a4 40 = .ok (.istore_n 0, 1) := by decide +kernel
theorem dJ6_bitCount_0f7a4_41 : decode cJ6_bitCount_0f7a4 41 = .ok (.iload_n 0, 1) := by decide +kernel
theorem dJ6_bitCount_0f7a4_42 : decode cJ6_bitCount_0f7a4 42 = .ok (.iload_n 0, 1) := by decide +kernel
theorem dJ6_bitCount_0f7a4_43 : decode cJ6_bitCount_0f7a4 43 = .ok (.bipush 16, 2) := by decide +kernel
theorem dJ6_bitCount_0f7a4_45 : decode cJ6_bitCount_0f7a4 45 = .ok (.iushr, 1) := by decide +kernel
theorem dJ6_bitCount_0f7a4_46 : decode cJ6_bitCount_0f7a4 46 = .ok (.iadd, 1) := by decide +kernel
theorem dJ6_bitCount_0f7a4_47 : decode cJ6_bitCount_0f7a4 47 = .ok (.istore_n 0, 1) := by decide +kernel
theorem dJ6_bitCount_0f7a4_48 : decode cJ6_bitCount_0f7a4 48 = .ok (.iload_n 0, 1) := by decide +kernel
theorem dJ6_bitCount_0f7a4_49 : decode cJ6_bitCount_0f7a4 49 = .ok (.bipush 63, 2) := by decide +kernel
theorem dJ6_bitCount_0f7a4_51 : decode cJ6_bitCount_0f7a4 51 = .ok (.iand, 1) := by decide +kernel
theorem dJ6_bitCount_0f7a4_52 : decode cJ6_bitCount_0f7a4 52 = .ok (.ireturn, 1) := by decide +kernel
theorem dJ9_max_7cf53_0 : decode cJ9_max_7cf53 0 = .ok (.iload_n 0, 1) := by decide +kernel
theorem dJ9_max_7cf53_1 : decode cJ9_max_7cf53 1 = .ok (.iload_n 1, 1) := by decide +kernel
theorem dJ9_max_7cf53_2 : decode cJ9_max_7cf53 2 = .ok (.if_icmp .lt 7, 3) := by decide +kernel
theorem dJ9_max_7cf53_5 : decode cJ9_max_7cf53 5 = .ok (.iload_n 0, 1) := by decide +kernel
theorem dJ9_max_7cf53_6 : decode cJ9_max_7cf53 6 = .ok (.goto 4, 3) := by decide +kernel
theorem dJ9_max_7cf53_9 : decode cJ9_max_7cf53 9 = .ok (.iload_n 1, 1) := by decide +kernel
theorem dJ9_max_7cf53_10 : decode cJ9_max_7cf53 10 = .ok (.ireturn, 1) := by decide +kernel
theorem dJ9_min_7cf53_0 : decode cJ9_min_7cf53 0 = .ok (.iload_n 0, 1) := by decide +kernel
theorem dJ9_min_7cf53_1 : decode cJ9_min_7cf53 1 = .ok (.iload_n 1, 1) := by decide +kernel
theorem dJ9_min_7cf53_2 : decode cJ9_min_7cf53 2 = .ok (.if_icmp .gt 7, 3) := by decide +kernel
theorem dJ9_min_7cf53_5 : decode cJ9_min_7cf53 5 = .ok (.iload_n 0, 1) := by decide +kernel
theorem dJ9_min_7cf53_6 : decode cJ9_min_7cf53 6 = .ok (.goto 4, 3) := by decide +kernel
theorem dJ9_min_7cf53_9 : decode cJ9_min_7cf53 9 = .ok (.iload_n 1, 1) := by decide +kernel
theorem dJ9_min_7cf53_10 : decode cJ9_min_7cf53 10 = .ok (.ireturn, 1) := by decide +kernel
