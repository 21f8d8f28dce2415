theorem dX11_init_0 : decode cX11_init 0 = .ok (.aload_n 0, 1) := by decide +kernel
theorem dX11_init_1 : decode cX11_init 1 = .ok (.invokespecial 1, 3) := by decide +kernel
theorem dX11_init_4 : decode cX11_init 4 = .ok (.aload_n 0, 1) := by decide +kernel
theorem dX11_init_5 : decode cX11_init 5 = .ok (.new 7, 3) := by decide +kernel
theorem dX11_init_8 : decode cX11_init 8 = .ok (.dup, 1) := by decide +kernel
theorem dX11_init_9 : decode cX11_init 9 = .ok (.invokespecial 9, 3) := by decide +kernel
theorem dX11_init_12 : decode cX11_init 12 = .ok (.putfield 10, 3) := by decide +kernel
theorem dX11_init_15 : decode cX11_init 15 = .ok (.aload_n 0, 1) := by decide +kernel
theorem dX11_init_16 : decode cX11_init 16 = .ok (.new 16, 3) := by decide +kernel
theorem dX11_init_19 : decode cX11_init 19 = .ok (.dup, 1) := by decide +kernel
theorem dX11_init_20 : decode cX11_init 20 = .ok (.invokespecial 18, 3) := by decide +kernel
theorem dX11_init_23 : decode cX11_init 23 = .ok (.putfield 19, 3) := by decide +kernel
theorem dX11_init_26 : decode cX11_init 26 = .ok (.aload_n 0, 1) := by decide +kernel
theorem dX11_init_27 : decode cX11_init 27 = .ok (.new 23, 3) := by decide +kernel
theorem dX11_init_30 : decode cX11_init 30 = .ok (.dup, 1) := by decide +kernel
theorem dX11_init_31 : decode cX11_init 31 = .ok (.invokespecial 25, 3) := by decide +kernel
theorem dX11_init_34 : decode cX11_init 34 = .ok (.putfield 26, 3) := by decide +kernel
theorem dX11_init_37 : decode cX11_init 37 = .ok (.aload_n 0, 1) := by decide +kernel
theorem dX11_init_38 : decode cX11_init 38 = .ok (.new 23, 3) := by decide +kernel
theorem dX11_init_41 : decode cX11_init 41 = .ok (.dup, 1) := by decide +kernel
theorem dX11_init_42 : decode cX11_init 42 = .ok (.invokespecial 25, 3) := by decide +kernel
theorem dX11_init_45 : decode cX11_init 45 = .ok (.putfield 30, 3) := by decide +kernel
theorem dX11_init_48 : decode cX11_init 48 = .ok (.aload_n 0, 1) := by decide +kernel
theorem dX11_init_49 : decode cX11_init 49 = .ok (.new 23, 3) := by decide +kernel
theorem dX11_init_52 : decode cX11_init 52 = .ok (.dup, 1) := by decide +kernel
theorem dX11_init_53 : decode cX11_init 53 = .ok (.invokespecial 25, 3) := by decide +kernel
theorem dX11_init_56 : decode cX11_init 56 = .ok (.putfield 33, 3) := by decide +kernel
theorem dX11_init_59 : decode cX11_init 59 = .ok (.aload_n 0, 1) := by decide +kernel
theorem dX11_init_60 : decode cX11_init 60 = .ok (.new 36, 3) := by decide +kernel
theorem dX11_init_63 : decode cX11_init 63 = .ok (.dup, 1) := by decide +kernel
theorem dX11_init_64 : decode cX11_init 64 = .ok (.invokespecial 38, 3) := by decide +kernel
theorem dX11_init_67 : decode cX11_init 67 = .ok (.putfield 39, 3) := by decide +kernel
theorem dX11_init_70 : decode cX11_init 70 = .ok (.aload_n 0, 1) := by decide +kernel
theorem dX11_init_71 : decode cX11_init 71 = .ok (.iconst 2, 1) := by decide +kernel
theorem dX11_init_72 : decode cX11_init 72 = .ok (.anewarray 23, 3) := by decide +kernel
theorem dX11_init_75 : decode cX11_init 75 = .ok (.putfield 43, 3) := by decide +kernel
theorem dX11_init_78 : decode cX11_init 78 = .ok (.aload_n 0, 1) := by decide +kernel
theorem dX11_init_79 : decode cX11_init 79 = .ok (.iconst 2, 1) := by decide +kernel
theorem dX11_init_80 : decode cX11_init 80 = .ok (.newarray .boolean, 2) := by decide +kernel
theorem dX11_init_82 : decode cX11_init 82 = .ok (.putfield 47, 3) := by decide +kernel
theorem dX11_init_85 : decode cX11_init 85 = .ok (.aload_n 0, 1) := by decide +kernel
theorem dX11_init_86 : decode cX11_init 86 = .ok (.new 51, 3) := by decide +kernel
theorem dX11_init_89 : decode cX11_init 89 = .ok (.dup, 1) := by decide +kernel
theorem dX11_init_90 : decode cX11_init 90 = .ok (.invokespecial 53, 3) := by decide +kernel
theorem dX11_init_93 : decode cX11_init 93 = .ok (.putfield 54, 3) := by decide +kernel
theorem dX11_init_96 : decode cX11_init 96 = .ok (.aload_n 0, 1) := by decide +kernel
theorem dX11_init_97 : decode cX11_init 97 = .ok (.new 58, 3) := by decide +kernel
theorem dX11_init_100 : decode cX11_init 100 = .ok (.dup, 1) := by decide +kernel
theorem dX11_init_101 : decode cX11_init 101 = .ok (.invokespecial 60, 3) := by decide +kernel
theorem dX11_init_104 : decode cX11_init 104 = .ok (.putfield 61, 3) := by decide +kernel
theorem dX11_init_107 : decode cX11_init 107 = .ok (.aload_n 0, 1) := by decide +kernel
theorem dX11_init_108 : decode cX11_init 108 = .ok (.new 65, 3) := by decide +kernel
theorem dX11_init_111 : decode cX11_init 111 = .ok (.dup, 1) := by decide +kernel
theorem dX11_init_112 : decode cX11_init 112 = .ok (.invokespecial 67, 3) := by decide +kernel
theorem dX11_init_115 : decode cX11_init 115 = .ok (.putfield 68, 3) := by decide +kernel
theorem dX11_init_118 : decode cX11_init 118 = .ok (.aload_n 0, 1) := by decide +kernel
theorem dX11_init_119 : decode cX11_init 119 = .ok (.new 72, 3) := by decide +kernel
theorem dX11_init_122 : decode cX11_init 122 = .ok (.dup, 1) := by decide +kernel
theorem dX11_init_123 : decode cX11_init 123 = .ok (.invokespecial 74, 3) := by decide +kernel
theorem dX11_init_126 : decode cX11_init 126 = .ok (.putfield 75, 3) := by decide +kernel
theorem dX11_init_129 : decode cX11_init 129 = .ok (.aload_n 0, 1) := by decide +kernel
theorem dX11_init_130 : decode cX11_init 130 = .ok (.new 79, 3) := by decide +kernel
theorem dX11_init_133 : decode cX11_init 133 = .ok (.dup, 1) := by decide +kernel
theorem dX11_init_134 : decode cX11_init 134 = .ok (.invokespecial 81, 3) := by decide +kernel
theorem dX11_init_137 : decode cX11_init 137 = .ok (.putfield 82, 3) := by decide +kernel
theorem dX11_init_140 : decode cX11_init 140 = .ok (.iconst 0, 1) := by decide +kernel
theorem dX11_init_141 : decode cX11_init 141 = .ok (.istore_n 1, 1) := by decide +kernel
theorem dX11_init_142 : decode cX11_init 142 = .ok (.iload_n 1, 1) := by decide +kernel
theorem dX11_init_143 : decode cX11_init 143 = .ok (.iconst 2, 1) := by decide +kernel
theorem dX11_init_144 : decode cX11_init 144 = .ok (.if_icmp .ge 22, 3) := by decide +kernel
theorem dX11_init_147 : decode cX11_init 147 = .ok (.aload_n 0, 1) := by decide +kernel
theorem dX11_init_148 : decode cX11_init 148 = .ok (.getfield 43, 3) := by decide +kernel
theorem dX11_init_151 : decode cX11_init 151 = .ok (.iload_n 1, 1) := by decide +kernel
theorem dX11_init_152 : decode cX11_init 152 = .ok (.new 23, 3) := by decide +kernel
theorem dX11_init_155 : decode cX11_init 155 = .ok (.dup, 1) := by decide +kernel
theorem dX11_init_156 : decode cX11_init 156 = .ok (.invokespecial 25, 3) := by decide +kernel
theorem dX11_init_159 : decode cX11_init 159 = .ok (.aastore, 1) := by decide +kernel
theorem dX11_init_160 : decode cX11_init 160 = .ok (.iinc 1 1, 3) := by decide +kernel
theorem dX11_init_163 : decode cX11_init 163 = .ok (.goto (-21), 3) := by decide +kernel
theorem dX11_init_166 : decode cX11_init 166 = .ok (.return_, 1) := by decide +kernel
theorem dX11_sign_0 : decode cX11_sign 0 = .ok (.aload_n 0, 1) := by decide +kernel
theorem dX11_sign_1 : decode cX11_sign 1 = .ok (.getfield 10, 3) := by decide +kernel
theorem dX11_sign_4 : decode cX11_sign 4 = .ok (.iload_n 1, 1) := by decide +kernel
theorem dX11_sign_5 : decode cX11_sign 5 = .ok (.invokevirtual 86, 3) := by decide +kernel
theorem dX11_sign_8 : decode cX11_sign 8 = .ok (.ifCond .eq 13, 3) := by decide +kernel
theorem dX11_sign_11 : decode cX11_sign 11 = .ok (.aload_n 0, 1) := by decide +kernel
theorem dX11_sign_12 : decode cX11_sign 12 = .ok (.getfield 10, 3) := by decide +kernel
theorem dX11_sign_15 : decode cX11_sign 15 = .ok (.invokevirtual 90, 3) := by decide +kernel
theorem dX11_sign_18 : decode cX11_sign 18 = .ok (.goto 4, 3) := by decide +kernel
theorem dX11_sign_21 : decode cX11_sign 21 = .ok (.iconst (-1), 1) := by decide +kernel
theorem dX11_sign_22 : decode cX11_sign 22 = .ok (.ireturn, 1) := by decide +kernel
theorem dX11_end_0 : decode cX11_end 0 = .ok (.aload_n 0, 1) := by decide +kernel
theorem dX11_end_1 : decode cX11_end 1 = .ok (.getfield 10, 3) := by decide +kernel
theorem dX11_end_4 : decode cX11_end 4 = .ok (.iload_n 1, 1) := by decide +kernel
theorem dX11_end_5 : decode cX11_end 5 = .ok (.invokevirtual 94, 3) := by decide +kernel
theorem dX11_end_8 : decode cX11_end 8 = .ok (.ireturn, 1) := by decide +kernel
theorem dX11_documents_0 : decode cX11_documents 0 = .ok (.aload_n 0, 1) := by decide +kernel
theorem dX11_documents_1 : decode cX11_documents 1 = .ok (.getfield 10, 3) := by decide +kernel
theorem dX11_documents_4 : decode cX11_documents 4 = .ok (.aload_n 0, 1) := by decide +kernel
theorem dX11_documents_5 : decode cX11_documents 5 = .ok (.getfield 30, 3) := by decide +kernel
theorem dX11_documents_8 : decode cX11_documents 8 = .ok (.invokestatic 97, 3) := by decide +kernel
theorem dX11_documents_11 : decode cX11_documents 11 = .ok (.istore_n 1, 1) := by decide +kernel
theorem dX11_documents_12 : decode cX11_documents 12 = .ok (.aload_n 0, 1) := by decide +kernel
theorem dX11_documents_13 : decode cX11_documents 13 = .ok (.getfield 10, 3) := by decide +kernel
theorem dX11_documents_16 : decode cX11_documents 16 = .ok (.invokevirtual 103, 3) := by decide +kernel
theorem dX11_documents_19 : decode cX11_documents 19 = .ok (.iload_n 1, 1) := by decide +kernel
theorem dX11_documents_20 : decode cX11_documents 20 = .ok (.iconst (-1), 1) := by decide +kernel
theorem dX11_documents_21 : decode cX11_documents 21 = .ok (.if_icmp .eq 7, 3) := by decide +kernel
theorem dX11_documents_24 : decode cX11_documents 24 = .ok (.iconst (-1), 1) := by decide +kernel
theorem dX11_documents_25 : decode cX11_documents 25 = .ok (.iload_n 1, 1) := by decide +kernel
theorem dX11_documents_26 : decode cX11_documents 26 = .ok (.isub, 1) := by decide +kernel
theorem dX11_documents_27 : decode cX11_documents 27 = .ok (.ireturn, 1) := by decide +kernel
theorem dX11_documents_28 : decode cX11_documents 28 = .ok (.aload_n 0, 1) := by decide +kernel
theorem dX11_documents_29 : decode cX11_documents 29 = .ok (.getfield 39, 3) := by decide +kernel
theorem dX11_documents_32 : decode cX11_documents 32 = .ok (.aload_n 0, 1) := by decide +kernel
theorem dX11_documents_33 : decode cX11_documents 33 = .ok (.getfield 26, 3) := by decide +kernel
theorem dX11_documents_36 : decode cX11_documents 36 = .ok (.invokevirtual 106, 3) := by decide +kernel
theorem dX11_documents_39 : decode cX11_documents 39 = .ok (.aload_n 0, 1) := by decide +kernel
theorem dX11_documents_40 : decode cX11_documents 40 = .ok (.getfield 26, 3) := by decide +kernel
theorem dX11_documents_43 : decode cX11_documents 43 = .ok (.aload_n 0, 1) := by decide +kernel
theorem dX11_documents_44 : decode cX11_documents 44 = .ok (.getfield 30, 3) := by decide +kernel
theorem dX11_documents_47 : decode cX11_documents 47 = .ok (.invokevirtual 110, 3) := by decide +kernel
theorem dX11_documents_50 : decode cX11_documents 50 = .ok (.aload_n 0, 1) := by decide +kernel
theorem dX11_documents_51 : decode cX11_documents 51 = .ok (.getfield 26, 3) := by decide +kernel
theorem dX11_documents_54 : decode cX11_documents 54 = .ok (.invokevirtual 113, 3) := by decide +kernel
theorem dX11_documents_57 : decode cX11_documents 57 = .ok (.ireturn, 1) := by decide +kernel
theorem dX11_order_0 : decode cX11_order 0 = .ok (.aload_n 0, 1) := by decide +kernel
theorem dX11_order_1 : decode cX11_order 1 = .ok (.getfield 30, 3) := by decide +kernel
theorem dX11_order_4 : decode cX11_order 4 = .ok (.aload_n 0, 1) := by decide +kernel
theorem dX11_order_5 : decode cX11_order 5 = .ok (.getfield 26, 3) := by decide +kernel
theorem dX11_order_8 : decode cX11_order 8 = .ok (.invokevirtual 110, 3) := by decide +kernel
theorem dX11_order_11 : decode cX11_order 11 = .ok (.aload_n 0, 1) := by decide +kernel
theorem dX11_order_12 : decode cX11_order 12 = .ok (.getfield 10, 3) := by decide +kernel
theorem dX11_order_15 : decode cX11_order 15 = .ok (.aload_n 0, 1) := by decide +kernel
theorem dX11_order_16 : decode cX11_order 16 = .ok (.getfield 30, 3) := by decide +kernel
theorem dX11_order_19 : decode cX11_order 19 = .ok (.invokestatic 116, 3) := by decide +kernel
theorem dX11_order_22 : decode cX11_order 22 = .ok (.istore_n 1, 1) := by decide +kernel
theorem dX11_order_23 : decode cX11_order 23 = .ok (.aload_n 0, 1) := by decide +kernel
theorem dX11_order_24 : decode cX11_order 24 = .ok (.getfield 10, 3) := by decide +kernel
theorem dX11_order_27 : decode cX11_order 27 = .ok (.invokevirtual 103, 3) := by decide +kernel
theorem dX11_order_30 : decode cX11_order 30 = .ok (.iload_n 1, 1) := by decide +kernel
theorem dX11_order_31 : decode cX11_order 31 = .ok (.iconst (-1), 1) := by decide +kernel
theorem dX11_order_32 : decode cX11_order 32 = .ok (.if_icmp .eq 7, 3) := by decide +kernel
theorem dX11_order_35 : decode cX11_order 35 = .ok (.iconst (-1), 1) := by decide +kernel
theorem dX11_order_36 : decode cX11_order 36 = .ok (.iload_n 1, 1) := by decide +kernel
theorem dX11_order_37 : decode cX11_order 37 = .ok (.isub, 1) := by decide +kernel
theorem dX11_order_38 : decode cX11_order 38 = .ok (.ireturn, 1) := by decide +kernel
theorem dX11_order_39 : decode cX11_order 39 = .ok (.aload_n 0, 1) := by decide +kernel
theorem dX11_order_40 : decode cX11_order 40 = .ok (.getfield 30, 3) := by decide +kernel
theorem dX11_order_43 : decode cX11_order 43 = .ok (.aload_n 0, 1) := by decide +kernel
theorem dX11_order_44 : decode cX11_order 44 = .ok (.getfield 26, 3) := by decide +kernel
theorem dX11_order_47 : decode cX11_order 47 = .ok (.invokevirtual 119, 3) := by decide +kernel
theorem dX11_order_50 : decode cX11_order 50 = .ok (.istore_n 2, 1) := by decide +kernel
theorem dX11_order_51 : decode cX11_order 51 = .ok (.aload_n 0, 1) := by decide +kernel
theorem dX11_order_52 : decode cX11_order 52 = .ok (.getfield 39, 3) := by decide +kernel
theorem dX11_order_55 : decode cX11_order 55 = .ok (.aload_n 0, 1) := by decide +kernel
theorem dX11_order_56 : decode cX11_order 56 = .ok (.getfield 26, 3) := by decide +kernel
theorem dX11_order_59 : decode cX11_order 59 = .ok (.invokevirtual 106, 3) := by decide +kernel
theorem dX11_order_62 : decode cX11_order 62 = .ok (.aload_n 0, 1) := by decide +kernel
theorem dX11_order_63 : decode cX11_order 63 = .ok (.getfield 26, 3) := by decide +kernel
theorem dX11_order_66 : decode cX11_order 66 = .ok (.aload_n 0, 1) := by decide +kernel
theorem dX11_order_67 : decode cX11_order 67 = .ok (.getfield 30, 3) := by decide +kernel
theorem dX11_order_70 : decode cX11_order 70 = .ok (.invokevirtual 110, 3) := by decide +kernel
theorem dX11_order_73 : decode cX11_order 73 = .ok (.iload_n 2, 1) := by decide +kernel
theorem dX11_order_74 : decode cX11_order 74 = .ok (.ireturn, 1) := by decide +kernel
theorem dX11_document_0 : decode cX11_document 0 = .ok (.aload_n 0, 1) := by decide +kernel
theorem dX11_document_1 : decode cX11_document 1 = .ok (.getfield 26, 3) := by decide +kernel
theorem dX11_document_4 : decode cX11_document 4 = .ok (.iload_n 1, 1) := by decide +kernel
theorem dX11_document_5 : decode cX11_document 5 = .ok (.invokevirtual 123, 3) := by decide +kernel
theorem dX11_document_8 : decode cX11_document 8 = .ok (.ifCond .eq 12, 3) := by decide +kernel
theorem dX11_document_11 : decode cX11_document 11 = .ok (.iload_n 2, 1) := by decide +kernel
theorem dX11_document_12 : decode cX11_document 12 = .ok (.ifCond .lt 8, 3) := by decide +kernel
theorem dX11_document_15 : decode cX11_document 15 = .ok (.iload_n 2, 1) := by decide +kernel
theorem dX11_document_16 : decode cX11_document 16 = .ok (.iconst 2, 1) := by decide +kernel
theorem dX11_document_17 : decode cX11_document 17 = .ok (.if_icmp .le 13, 3) := by decide +kernel
theorem dX11_document_20 : decode cX11_document 20 = .ok (.new 126, 3) := by decide +kernel
theorem dX11_document_23 : decode cX11_document 23 = .ok (.dup, 1) := by decide +kernel
theorem dX11_document_24 : decode cX11_document 24 = .ok (.ldc 128, 2) := by decide +kernel
theorem dX11_document_26 : decode cX11_document 26 = .ok (.invokespecial 130, 3) := by decide +kernel
theorem dX11_document_29 : decode cX11_document 29 = .ok (.athrow, 1) := by decide +kernel
theorem dX11_document_30 : decode cX11_document 30 = .ok (.iload_n 2, 1) := by decide +kernel
theorem dX11_document_31 : decode cX11_document 31 = .ok (.iconst 1, 1) := by decide +kernel
theorem dX11_document_32 : decode cX11_document 32 = .ok (.if_icmp .ne 12, 3) := by decide +kernel
theorem dX11_document_35 : decode cX11_document 35 = .ok (.aload_n 0, 1) := by decide +kernel
theorem dX11_document_36 : decode cX11_document 36 = .ok (.getfield 26, 3) := by decide +kernel
theorem dX11_document_39 : decode cX11_document 39 = .ok (.iload_n 1, 1) := by decide +kernel
theorem dX11_document_40 : decode cX11_document 40 = .ok (.invokevirtual 133, 3) := by decide +kernel
theorem dX11_document_43 : decode cX11_document 43 = .ok (.ireturn, 1) := by decide +kernel
theorem dX11_document_44 : decode cX11_document 44 = .ok (.aload_n 0, 1) := by decide +kernel
theorem dX11_document_45 : decode cX11_document 45 = .ok (.getfield 26, 3) := by decide +kernel
theorem dX11_document_48 : decode cX11_document 48 = .ok (.iload_n 1, 1) := by decide +kernel
theorem dX11_document_49 : decode cX11_document 49 = .ok (.invokevirtual 137, 3) := by decide +kernel
theorem dX11_document_52 : decode cX11_document 52 = .ok (.istore_n 3, 1) := by decide +kernel
theorem dX11_document_53 : decode cX11_document 53 = .ok (.iload_n 2, 1) := by decide +kernel
theorem dX11_document_54 : decode cX11_document 54 = .ok (.ifCond .ne 7, 3) := by decide +kernel
theorem dX11_document_57 : decode cX11_document 57 = .ok (.iload_n 3, 1) := by decide +kernel
theorem dX11_document_58 : decode cX11_document 58 = .ok (.goto 7, 3) := by decide +kernel
theorem dX11_document_61 : decode cX11_document 61 = .ok (.iload_n 3, 1) := by decide +kernel
theorem dX11_document_62 : decode cX11_document 62 = .ok (.invokestatic 140, 3) := by decide +kernel
theorem dX11_document_65 : decode cX11_document 65 = .ok (.ireturn, 1) := by decide +kernel
theorem dX11_at_0 : decode cX11_at 0 = .ok (.aload_n 0, 1) := by decide +kernel
theorem dX11_at_1 : decode cX11_at 1 = .ok (.getfield 26, 3) := by decide +kernel
theorem dX11_at_4 : decode cX11_at 4 = .ok (.iload_n 1, 1) := by decide +kernel
theorem dX11_at_5 : decode cX11_at 5 = .ok (.invokevirtual 123, 3) := by decide +kernel
theorem dX11_at_8 : decode cX11_at 8 = .ok (.ifCond .ne 13, 3) := by decide +kernel
theorem dX11_at_11 : decode cX11_at 11 = .ok (.new 126, 3) := by decide +kernel
theorem dX11_at_14 : decode cX11_at 14 = .ok (.dup, 1) := by decide +kernel
theorem dX11_at_15 : decode cX11_at 15 = .ok (.ldc 145, 2) := by decide +kernel
theorem dX11_at_17 : decode cX11_at 17 = .ok (.invokespecial 130, 3) := by decide +kernel
theorem dX11_at_20 : decode cX11_at 20 = .ok (.athrow, 1) := by decide +kernel
theorem dX11_at_21 : decode cX11_at 21 = .ok (.aload_n 0, 1) := by decide +kernel
theorem dX11_at_22 : decode cX11_at 22 = .ok (.getfield 26, 3) := by decide +kernel
theorem dX11_at_25 : decode cX11_at 25 = .ok (.iload_n 1, 1) := by decide +kernel
theorem dX11_at_26 : decode cX11_at 26 = .ok (.invokevirtual 147, 3) := by decide +kernel
theorem dX11_at_29 : decode cX11_at 29 = .ok (.ireturn, 1) := by decide +kernel
theorem dX11_sheet_0 : decode cX11_sheet 0 = .ok (.iload_n 1, 1) := by decide +kernel
theorem dX11_sheet_1 : decode cX11_sheet 1 = .ok (.ifCond .lt 14, 3) := by decide +kernel
theorem dX11_sheet_4 : decode cX11_sheet 4 = .ok (.iload_n 1, 1) := by decide +kernel
theorem dX11_sheet_5 : decode cX11_sheet 5 = .ok (.iconst 3, 1) := by decide +kernel
theorem dX11_sheet_6 : decode cX11_sheet 6 = .ok (.if_icmp .gt 9, 3) := by decide +kernel
theorem dX11_sheet_9 : decode cX11_sheet 9 = .ok (.iload_n 2, 1) := by decide +kernel
theorem dX11_sheet_10 : decode cX11_sheet 10 = .ok (.bipush 16, 2) := by decide +kernel
theorem dX11_sheet_12 : decode cX11_sheet 12 = .ok (.if_icmp .le 5, 3) := by decide +kernel
theorem dX11_sheet_15 : decode cX11_sheet 15 = .ok (.iconst (-1), 1) := by decide +kernel
theorem dX11_sheet_16 : decode cX11_sheet 16 = .ok (.ireturn, 1) := by decide +kernel
theorem dX11_sheet_17 : decode cX11_sheet 17 = .ok (.iload_n 1, 1) := by decide +kernel
theorem dX11_sheet_18 : decode cX11_sheet 18 = .ok (.iconst 3, 1) := by decide +kernel
theorem dX11_sheet_19 : decode cX11_sheet 19 = .ok (.if_icmp .ne 14, 3) := by decide +kernel
theorem dX11_sheet_22 : decode cX11_sheet 22 = .ok (.aload_n 0, 1) := by decide +kernel
theorem dX11_sheet_23 : decode cX11_sheet 23 = .ok (.iconst 0, 1) := by decide +kernel
theorem dX11_sheet_24 : decode cX11_sheet 24 = .ok (.iconst 0, 1) := by decide +kernel
theorem dX11_sheet_25 : decode cX11_sheet 25 = .ok (.iconst 0, 1) := by decide +kernel
theorem dX11_sheet_26 : decode cX11_sheet 26 = .ok (.invokevirtual 150, 3) := by decide +kernel
theorem dX11_sheet_29 : decode cX11_sheet 29 = .ok (.pop, 1) := by decide +kernel
theorem dX11_sheet_30 : decode cX11_sheet 30 = .ok (.bipush (-3), 2) := by decide +kernel
theorem dX11_sheet_32 : decode cX11_sheet 32 = .ok (.ireturn, 1) := by decide +kernel
theorem dX11_sheet_33 : decode cX11_sheet 33 = .ok (.iload_n 2, 1) := by decide +kernel
theorem dX11_sheet_34 : decode cX11_sheet 34 = .ok (.ifCond .ge 6, 3) := by decide +kernel
theorem dX11_sheet_37 : decode cX11_sheet 37 = .ok (.bipush (-2), 2) := by decide +kernel
theorem dX11_sheet_39 : decode cX11_sheet 39 = .ok (.ireturn, 1) := by decide +kernel
theorem dX11_sheet_40 : decode cX11_sheet 40 = .ok (.aload_n 0, 1) := by decide +kernel
theorem dX11_sheet_41 : decode cX11_sheet 41 = .ok (.iload_n 2, 1) := by decide +kernel
theorem dX11_sheet_42 : decode cX11_sheet 42 = .ok (.iload_n 3, 1) := by decide +kernel
theorem dX11_sheet_43 : decode cX11_sheet 43 = .ok (.iload 4, 2) := by decide +kernel
theorem dX11_sheet_45 : decode cX11_sheet 45 = .ok (.invokevirtual 150, 3) := by decide +kernel
theorem dX11_sheet_48 : decode cX11_sheet 48 = .ok (.ireturn, 1) := by decide +kernel
theorem dX11_fillIn_0 : decode cX11_fillIn 0 = .ok (.iconst 0, 1) := by decide +kernel
theorem dX11_fillIn_1 : decode cX11_fillIn 1 = .ok (.istore 4, 2) := by decide +kernel
theorem dX11_fillIn_3 : decode cX11_fillIn 3 = .ok (.iconst 0, 1) := by decide +kernel
theorem dX11_fillIn_4 : decode cX11_fillIn 4 = .ok (.istore 5, 2) := by decide +kernel
theorem dX11_fillIn_6 : decode cX11_fillIn 6 = .ok (.iload 5, 2) := by decide +kernel
theorem dX11_fillIn_8 : decode cX11_fillIn 8 = .ok (.aload_n 0, 1) := by decide +kernel
theorem dX11_fillIn_9 : decode cX11_fillIn 9 = .ok (.getfield 26, 3) := by decide +kernel
theorem dX11_fillIn_12 : decode cX11_fillIn 12 = .ok (.invokevirtual 113, 3) := by decide +kernel
theorem dX11_fillIn_15 : decode cX11_fillIn 15 = .ok (.if_icmp .ge 50, 3) := by decide +kernel
theorem dX11_fillIn_18 : decode cX11_fillIn 18 = .ok (.iload 5, 2) := by decide +kernel
theorem dX11_fillIn_20 : decode cX11_fillIn 20 = .ok (.iload_n 1, 1) := by decide +kernel
theorem dX11_fillIn_21 : decode cX11_fillIn 21 = .ok (.if_icmp .ge 16, 3) := by decide +kernel
theorem dX11_fillIn_24 : decode cX11_fillIn 24 = .ok (.iload_n 2, 1) := by decide +kernel
theorem dX11_fillIn_25 : decode cX11_fillIn 25 = .ok (.iload 5, 2) := by decide +kernel
theorem dX11_fillIn_27 : decode cX11_fillIn 27 = .ok (.iload_n 3, 1) := by decide +kernel
theorem dX11_fillIn_28 : decode cX11_fillIn 28 = .ok (.imul, 1) := by decide +kernel
theorem dX11_fillIn_29 : decode cX11_fillIn 29 = .ok (.iadd, 1) := by decide +kernel
theorem dX11_fillIn_30 : decode cX11_fillIn 30 = .ok (.sipush 255, 3) := by decide +kernel
theorem dX11_fillIn_33 : decode cX11_fillIn 33 = .ok (.iand, 1) := by decide +kernel
theorem dX11_fillIn_34 : decode cX11_fillIn 34 = .ok (.goto 4, 3) := by decide +kernel
theorem dX11_fillIn_37 : decode cX11_fillIn 37 = .ok (.iconst 0, 1) := by decide +kernel
theorem dX11_fillIn_38 : decode cX11_fillIn 38 = .ok (.istore 6, 2) := by decide +kernel
theorem dX11_fillIn_40 : decode cX11_fillIn 40 = .ok (.aload_n 0, 1) := by decide +kernel
theorem dX11_fillIn_41 : decode cX11_fillIn 41 = .ok (.getfield 26, 3) := by decide +kernel
theorem dX11_fillIn_44 : decode cX11_fillIn 44 = .ok (.iload 5, 2) := by decide +kernel
theorem dX11_fillIn_46 : decode cX11_fillIn 46 = .ok (.iload 6, 2) := by decide +kernel
theorem dX11_fillIn_48 : decode cX11_fillIn 48 = .ok (.invokevirtual 154, 3) := by decide +kernel
theorem dX11_fillIn_51 : decode cX11_fillIn 51 = .ok (.iload 6, 2) := by decide +kernel
theorem dX11_fillIn_53 : decode cX11_fillIn 53 = .ok (.ifCond .eq 6, 3) := by decide +kernel
theorem dX11_fillIn_56 : decode cX11_fillIn 56 = .ok (.iinc 4 1, 3) := by decide +kernel
theorem dX11_fillIn_59 : decode cX11_fillIn 59 = .ok (.iinc 5 1, 3) := by decide +kernel
theorem dX11_fillIn_62 : decode cX11_fillIn 62 = .ok (.goto (-56), 3) := by decide +kernel
theorem dX11_fillIn_65 : decode cX11_fillIn 65 = .ok (.iload 4, 2) := by decide +kernel
theorem dX11_fillIn_67 : decode cX11_fillIn 67 = .ok (.ireturn, 1) := by decide +kernel
theorem dX11_list_0 : decode cX11_list 0 = .ok (.iload_n 1, 1) := by decide +kernel
theorem dX11_list_1 : decode cX11_list 1 = .ok (.invokestatic 158, 3) := by decide +kernel
theorem dX11_list_4 : decode cX11_list 4 = .ok (.ifCond .ne 5, 3) := by decide +kernel
theorem dX11_list_7 : decode cX11_list 7 = .ok (.iconst (-1), 1) := by decide +kernel
theorem dX11_list_8 : decode cX11_list 8 = .ok (.ireturn, 1) := by decide +kernel
theorem dX11_list_9 : decode cX11_list 9 = .ok (.aload_n 0, 1) := by decide +kernel
theorem dX11_list_10 : decode cX11_list 10 = .ok (.aload_n 0, 1) := by decide +kernel
theorem dX11_list_11 : decode cX11_list 11 = .ok (.getfield 26, 3) := by decide +kernel
theorem dX11_list_14 : decode cX11_list 14 = .ok (.iload_n 1, 1) := by decide +kernel
theorem dX11_list_15 : decode cX11_list 15 = .ok (.invokevirtual 161, 3) := by decide +kernel
theorem dX11_list_18 : decode cX11_list 18 = .ok (.invokevirtual 164, 3) := by decide +kernel
theorem dX11_list_21 : decode cX11_list 21 = .ok (.ireturn, 1) := by decide +kernel
theorem dX11_bits_0 : decode cX11_bits 0 = .ok (.iload_n 1, 1) := by decide +kernel
theorem dX11_bits_1 : decode cX11_bits 1 = .ok (.invokestatic 158, 3) := by decide +kernel
theorem dX11_bits_4 : decode cX11_bits 4 = .ok (.ifCond .eq 10, 3) := by decide +kernel
theorem dX11_bits_7 : decode cX11_bits 7 = .ok (.iload_n 2, 1) := by decide +kernel
theorem dX11_bits_8 : decode cX11_bits 8 = .ok (.invokestatic 167, 3) := by decide +kernel
theorem dX11_bits_11 : decode cX11_bits 11 = .ok (.ifCond .ne 5, 3) := by decide +kernel
theorem dX11_bits_14 : decode cX11_bits 14 = .ok (.iconst (-1), 1) := by decide +kernel
theorem dX11_bits_15 : decode cX11_bits 15 = .ok (.ireturn, 1) := by decide +kernel
theorem dX11_bits_16 : decode cX11_bits 16 = .ok (.aload_n 0, 1) := by decide +kernel
theorem dX11_bits_17 : decode cX11_bits 17 = .ok (.getfield 26, 3) := by decide +kernel
theorem dX11_bits_20 : decode cX11_bits 20 = .ok (.iload_n 1, 1) := by decide +kernel
theorem dX11_bits_21 : decode cX11_bits 21 = .ok (.invokevirtual 161, 3) := by decide +kernel
theorem dX11_bits_24 : decode cX11_bits 24 = .ok (.istore_n 3, 1) := by decide +kernel
theorem dX11_bits_25 : decode cX11_bits 25 = .ok (.aload_n 0, 1) := by decide +kernel
theorem dX11_bits_26 : decode cX11_bits 26 = .ok (.getfield 19, 3) := by decide +kernel
theorem dX11_bits_29 : decode cX11_bits 29 = .ok (.iload_n 3, 1) := by decide +kernel
theorem dX11_bits_30 : decode cX11_bits 30 = .ok (.invokestatic 170, 3) := by decide +kernel
theorem dX11_bits_33 : decode cX11_bits 33 = .ok (.i2l, 1) := by decide +kernel
theorem dX11_bits_34 : decode cX11_bits 34 = .ok (.invokevirtual 175, 3) := by decide +kernel
theorem dX11_bits_37 : decode cX11_bits 37 = .ok (.iload_n 3, 1) := by decide +kernel
theorem dX11_bits_38 : decode cX11_bits 38 = .ok (.iload_n 2, 1) := by decide +kernel
theorem dX11_bits_39 : decode cX11_bits 39 = .ok (.aload_n 0, 1) := by decide +kernel
theorem dX11_bits_40 : decode cX11_bits 40 = .ok (.getfield 26, 3) := by decide +kernel
theorem dX11_bits_43 : decode cX11_bits 43 = .ok (.invokevirtual 113, 3) := by decide +kernel
theorem dX11_bits_46 : decode cX11_bits 46 = .ok (.invokestatic 179, 3) := by decide +kernel
theorem dX11_bits_49 : decode cX11_bits 49 = .ok (.ireturn, 1) := by decide +kernel
theorem dX11_all_0 : decode cX11_all 0 = .ok (.iload_n 1, 1) := by decide +kernel
theorem dX11_all_1 : decode cX11_all 1 = .ok (.invokestatic 167, 3) := by decide +kernel
theorem dX11_all_4 : decode cX11_all 4 = .ok (.ifCond .ne 5, 3) := by decide +kernel
theorem dX11_all_7 : decode cX11_all 7 = .ok (.iconst (-1), 1) := by decide +kernel
theorem dX11_all_8 : decode cX11_all 8 = .ok (.ireturn, 1) := by decide +kernel
theorem dX11_all_9 : decode cX11_all 9 = .ok (.iconst 0, 1) := by decide +kernel
theorem dX11_all_10 : decode cX11_all 10 = .ok (.istore_n 2, 1) := by decide +kernel
theorem dX11_all_11 : decode cX11_all 11 = .ok (.aload_n 0, 1) := by decide +kernel
theorem dX11_all_12 : decode cX11_all 12 = .ok (.getfield 19, 3) := by decide +kernel
theorem dX11_all_15 : decode cX11_all 15 = .ok (.invokevirtual 182, 3) := by decide +kernel
theorem dX11_all_18 : decode cX11_all 18 = .ok (.iconst 0, 1) := by decide +kernel
theorem dX11_all_19 : decode cX11_all 19 = .ok (.istore_n 3, 1) := by decide +kernel
theorem dX11_all_20 : decode cX11_all 20 = .ok (.iload_n 3, 1) := by decide +kernel
theorem dX11_all_21 : decode cX11_all 21 = .ok (.bipush 8, 2) := by decide +kernel
theorem dX11_all_23 : decode cX11_all 23 = .ok (.if_icmp .ge 45, 3) := by decide +kernel
theorem dX11_all_26 : decode cX11_all 26 = .ok (.aload_n 0, 1) := by decide +kernel
theorem dX11_all_27 : decode cX11_all 27 = .ok (.getfield 26, 3) := by decide +kernel
theorem dX11_all_30 : decode cX11_all 30 = .ok (.iload_n 3, 1) := by decide +kernel
theorem dX11_all_31 : decode cX11_all 31 = .ok (.invokevirtual 161, 3) := by decide +kernel
theorem dX11_all_34 : decode cX11_all 34 = .ok (.iload_n 1, 1) := by decide +kernel
theorem dX11_all_35 : decode cX11_all 35 = .ok (.aload_n 0, 1) := by decide +kernel
theorem dX11_all_36 : decode cX11_all 36 = .ok (.getfield 26, 3) := by decide +kernel
theorem dX11_all_39 : decode cX11_all 39 = .ok (.invokevirtual 113, 3) := by decide +kernel
theorem dX11_all_42 : decode cX11_all 42 = .ok (.invokestatic 179, 3) := by decide +kernel
theorem dX11_all_45 : decode cX11_all 45 = .ok (.istore 4, 2) := by decide +kernel
theorem dX11_all_47 : decode cX11_all 47 = .ok (.aload_n 0, 1) := by decide +kernel
theorem dX11_all_48 : decode cX11_all 48 = .ok (.getfield 19, 3) := by decide +kernel
theorem dX11_all_51 : decode cX11_all 51 = .ok (.iload 4, 2) := by decide +kernel
theorem dX11_all_53 : decode cX11_all 53 = .ok (.i2l, 1) := by decide +kernel
theorem dX11_all_54 : decode cX11_all 54 = .ok (.invokevirtual 185, 3) := by decide +kernel
theorem dX11_all_57 : decode cX11_all 57 = .ok (.iload_n 2, 1) := by decide +kernel
theorem dX11_all_58 : decode cX11_all 58 = .ok (.iload 4, 2) := by decide +kernel
theorem dX11_all_60 : decode cX11_all 60 = .ok (.iadd, 1) := by decide +kernel
theorem dX11_all_61 : decode cX11_all 61 = .ok (.istore_n 2, 1) := by decide +kernel
theorem dX11_all_62 : decode cX11_all 62 = .ok (.iinc 3 1, 3) := by decide +kernel
theorem dX11_all_65 : decode cX11_all 65 = .ok (.goto (-45), 3) := by decide +kernel
theorem dX11_all_68 : decode cX11_all 68 = .ok (.iload_n 2, 1) := by decide +kernel
theorem dX11_all_69 : decode cX11_all 69 = .ok (.ireturn, 1) := by decide +kernel
theorem dX11_shortest_0 : decode cX11_shortest 0 = .ok (.iload_n 1, 1) := by decide +kernel
theorem dX11_shortest_1 : decode cX11_shortest 1 = .ok (.invokestatic 158, 3) := by decide +kernel
theorem dX11_shortest_4 : decode cX11_shortest 4 = .ok (.ifCond .ne 5, 3) := by decide +kernel
theorem dX11_shortest_7 : decode cX11_shortest 7 = .ok (.iconst (-1), 1) := by decide +kernel
theorem dX11_shortest_8 : decode cX11_shortest 8 = .ok (.ireturn, 1) := by decide +kernel
theorem dX11_shortest_9 : decode cX11_shortest 9 = .ok (.aload_n 0, 1) := by decide +kernel
theorem dX11_shortest_10 : decode cX11_shortest 10 = .ok (.getfield 26, 3) := by decide +kernel
theorem dX11_shortest_13 : decode cX11_shortest 13 = .ok (.iload_n 1, 1) := by decide +kernel
theorem dX11_shortest_14 : decode cX11_shortest 14 = .ok (.invokevirtual 161, 3) := by decide +kernel
theorem dX11_shortest_17 : decode cX11_shortest 17 = .ok (.istore_n 2, 1) := by decide +kernel
theorem dX11_shortest_18 : decode cX11_shortest 18 = .ok (.iload_n 2, 1) := by decide +kernel
theorem dX11_shortest_19 : decode cX11_shortest 19 = .ok (.ifCond .ne 6, 3) := by decide +kernel
theorem dX11_shortest_22 : decode cX11_shortest 22 = .ok (.bipush (-2), 2) := by decide +kernel
theorem dX11_shortest_24 : decode cX11_shortest 24 = .ok (.ireturn, 1) := by decide +kernel
theorem dX11_shortest_25 : decode cX11_shortest 25 = .ok (.iconst 0, 1) := by decide +kernel
theorem dX11_shortest_26 : decode cX11_shortest 26 = .ok (.istore_n 3, 1) := by decide +kernel
theorem dX11_shortest_27 : decode cX11_shortest 27 = .ok (.iload_n 2, 1) := by decide +kernel
theorem dX11_shortest_28 : decode cX11_shortest 28 = .ok (.iconst 0, 1) := by decide +kernel
theorem dX11_shortest_29 : decode cX11_shortest 29 = .ok (.aload_n 0, 1) := by decide +kernel
theorem dX11_shortest_30 : decode cX11_shortest 30 = .ok (.getfield 26, 3) := by decide +kernel
theorem dX11_shortest_33 : decode cX11_shortest 33 = .ok (.invokevirtual 113, 3) := by decide +kernel
theorem dX11_shortest_36 : decode cX11_shortest 36 = .ok (.invokestatic 179, 3) := by decide +kernel
theorem dX11_shortest_39 : decode cX11_shortest 39 = .ok (.istore 4, 2) := by decide +kernel
theorem dX11_shortest_41 : decode cX11_shortest 41 = .ok (.iconst 1, 1) := by decide +kernel
theorem dX11_shortest_42 : decode cX11_shortest 42 = .ok (.istore 5, 2) := by decide +kernel
theorem dX11_shortest_44 : decode cX11_shortest 44 = .ok (.iload 5, 2) := by decide +kernel
theorem dX11_shortest_46 : decode cX11_shortest 46 = .ok (.iconst 4, 1) := by decide +kernel
theorem dX11_shortest_47 : decode cX11_shortest 47 = .ok (.if_icmp .ge 38, 3) := by decide +kernel
theorem dX11_shortest_50 : decode cX11_shortest 50 = .ok (.iload_n 2, 1) := by decide +kernel
theorem dX11_shortest_51 : decode cX11_shortest 51 = .ok (.iload 5, 2) := by decide +kernel
theorem dX11_shortest_53 : decode cX11_shortest 53 = .ok (.aload_n 0, 1) := by decide +kernel
theorem dX11_shortest_54 : decode cX11_shortest 54 = .ok (.getfield 26, 3) := by decide +kernel
theorem dX11_shortest_57 : decode cX11_shortest 57 = .ok (.invokevirtual 113, 3) := by decide +kernel
theorem dX11_shortest_60 : decode cX11_shortest 60 = .ok (.invokestatic 179, 3) := by decide +kernel
theorem dX11_shortest_63 : decode cX11_shortest 63 = .ok (.istore 6, 2) := by decide +kernel
theorem dX11_shortest_65 : decode cX11_shortest 65 = .ok (.iload 6, 2) := by decide +kernel
theorem dX11_shortest_67 : decode cX11_shortest 67 = .ok (.iload 4, 2) := by decide +kernel
theorem dX11_shortest_69 : decode cX11_shortest 69 = .ok (.if_icmp .ge 10, 3) := by decide +kernel
theorem dX11_shortest_72 : decode cX11_shortest 72 = .ok (.iload 6, 2) := by decide +kernel
theorem dX11_shortest_74 : decode cX11_shortest 74 = .ok (.istore 4, 2) := by decide +kernel
theorem dX11_shortest_76 : decode cX11_shortest 76 = .ok (.iload 5, 2) := by decide +kernel
theorem dX11_shortest_78 : decode cX11_shortest 78 = .ok (.istore_n 3, 1) := by decide +kernel
theorem dX11_shortest_79 : decode cX11_shortest 79 = .ok (.iinc 5 1, 3) := by decide +kernel
theorem dX11_shortest_82 : decode cX11_shortest 82 = .ok (.goto (-38), 3) := by decide +kernel
theorem dX11_shortest_85 : decode cX11_shortest 85 = .ok (.aload_n 0, 1) := by decide +kernel
theorem dX11_shortest_86 : decode cX11_shortest 86 = .ok (.getfield 19, 3) := by decide +kernel
theorem dX11_shortest_89 : decode cX11_shortest 89 = .ok (.iload 4, 2) := by decide +kernel
theorem dX11_shortest_91 : decode cX11_shortest 91 = .ok (.i2l, 1) := by decide +kernel
theorem dX11_shortest_92 : decode cX11_shortest 92 = .ok (.invokevirtual 175, 3) := by decide +kernel
theorem dX11_shortest_95 : decode cX11_shortest 95 = .ok (.iload_n 3, 1) := by decide +kernel
theorem dX11_shortest_96 : decode cX11_shortest 96 = .ok (.ireturn, 1) := by decide +kernel
theorem dX11_written_0 : decode cX11_written 0 = .ok (.iload_n 1, 1) := by decide +kernel
theorem dX11_written_1 : decode cX11_written 1 = .ok (.invokestatic 158, 3) := by decide +kernel
theorem dX11_written_4 : decode cX11_written 4 = .ok (.ifCond .eq 10, 3) := by decide +kernel
theorem dX11_written_7 : decode cX11_written 7 = .ok (.iload_n 2, 1) := by decide +kernel
theorem dX11_written_8 : decode cX11_written 8 = .ok (.invokestatic 167, 3) := by decide +kernel
theorem dX11_written_11 : decode cX11_written 11 = .ok (.ifCond .ne 5, 3) := by decide +kernel
theorem dX11_written_14 : decode cX11_written 14 = .ok (.iconst (-1), 1) := by decide +kernel
theorem dX11_written_15 : decode cX11_written 15 = .ok (.ireturn, 1) := by decide +kernel
theorem dX11_written_16 : decode cX11_written 16 = .ok (.aload_n 0, 1) := by decide +kernel
theorem dX11_written_17 : decode cX11_written 17 = .ok (.getfield 68, 3) := by decide +kernel
theorem dX11_written_20 : decode cX11_written 20 = .ok (.aload_n 0, 1) := by decide +kernel
theorem dX11_written_21 : decode cX11_written 21 = .ok (.getfield 26, 3) := by decide +kernel
theorem dX11_written_24 : decode cX11_written 24 = .ok (.iload_n 1, 1) := by decide +kernel
theorem dX11_written_25 : decode cX11_written 25 = .ok (.invokevirtual 161, 3) := by decide +kernel
theorem dX11_written_28 : decode cX11_written 28 = .ok (.iload_n 2, 1) := by decide +kernel
theorem dX11_written_29 : decode cX11_written 29 = .ok (.aload_n 0, 1) := by decide +kernel
theorem dX11_written_30 : decode cX11_written 30 = .ok (.getfield 26, 3) := by decide +kernel
theorem dX11_written_33 : decode cX11_written 33 = .ok (.invokevirtual 113, 3) := by decide +kernel
theorem dX11_written_36 : decode cX11_written 36 = .ok (.invokevirtual 187, 3) := by decide +kernel
theorem dX11_written_39 : decode cX11_written 39 = .ok (.aload_n 0, 1) := by decide +kernel
theorem dX11_written_40 : decode cX11_written 40 = .ok (.getfield 19, 3) := by decide +kernel
theorem dX11_written_43 : decode cX11_written 43 = .ok (.invokevirtual 182, 3) := by decide +kernel
theorem dX11_written_46 : decode cX11_written 46 = .ok (.iconst 0, 1) := by decide +kernel
theorem dX11_written_47 : decode cX11_written 47 = .ok (.istore_n 3, 1) := by decide +kernel
theorem dX11_written_48 : decode cX11_written 48 = .ok (.iload_n 3, 1) := by decide +kernel
theorem dX11_written_49 : decode cX11_written 49 = .ok (.aload_n 0, 1) := by decide +kernel
theorem dX11_written_50 : decode cX11_written 50 = .ok (.getfield 68, 3) := by decide +kernel
theorem dX11_written_53 : decode cX11_written 53 = .ok (.invokevirtual 191, 3) := by decide +kernel
theorem dX11_written_56 : decode cX11_written 56 = .ok (.if_icmp .ge 25, 3) := by decide +kernel
theorem dX11_written_59 : decode cX11_written 59 = .ok (.aload_n 0, 1) := by decide +kernel
theorem dX11_written_60 : decode cX11_written 60 = .ok (.getfield 19, 3) := by decide +kernel
theorem dX11_written_63 : decode cX11_written 63 = .ok (.aload_n 0, 1) := by decide +kernel
theorem dX11_written_64 : decode cX11_written 64 = .ok (.getfield 68, 3) := by decide +kernel
theorem dX11_written_67 : decode cX11_written 67 = .ok (.iload_n 3, 1) := by decide +kernel
theorem dX11_written_68 : decode cX11_written 68 = .ok (.invokevirtual 194, 3) := by decide +kernel
theorem dX11_written_71 : decode cX11_written 71 = .ok (.i2l, 1) := by decide +kernel
theorem dX11_written_72 : decode cX11_written 72 = .ok (.invokevirtual 185, 3) := by decide +kernel
theorem dX11_written_75 : decode cX11_written 75 = .ok (.iinc 3 1, 3) := by decide +kernel
theorem dX11_written_78 : decode cX11_written 78 = .ok (.goto (-30), 3) := by decide +kernel
theorem dX11_written_81 : decode cX11_written 81 = .ok (.aload_n 0, 1) := by decide +kernel
theorem dX11_written_82 : decode cX11_written 82 = .ok (.getfield 68, 3) := by decide +kernel
theorem dX11_written_85 : decode cX11_written 85 = .ok (.invokevirtual 191, 3) := by decide +kernel
theorem dX11_written_88 : decode cX11_written 88 = .ok (.ireturn, 1) := by decide +kernel
theorem dX11_read_0 : decode cX11_read 0 = .ok (.iload_n 1, 1) := by decide +kernel
theorem dX11_read_1 : decode cX11_read 1 = .ok (.invokestatic 167, 3) := by decide +kernel
theorem dX11_read_4 : decode cX11_read 4 = .ok (.ifCond .eq 13, 3) := by decide +kernel
theorem dX11_read_7 : decode cX11_read 7 = .ok (.iload_n 2, 1) := by decide +kernel
theorem dX11_read_8 : decode cX11_read 8 = .ok (.ifCond .lt 9, 3) := by decide +kernel
theorem dX11_read_11 : decode cX11_read 11 = .ok (.iload_n 2, 1) := by decide +kernel
theorem dX11_read_12 : decode cX11_read 12 = .ok (.bipush 16, 2) := by decide +kernel
theorem dX11_read_14 : decode cX11_read 14 = .ok (.if_icmp .le 13, 3) := by decide +kernel
theorem dX11_read_17 : decode cX11_read 17 = .ok (.aload_n 0, 1) := by decide +kernel
theorem dX11_read_18 : decode cX11_read 18 = .ok (.getfield 10, 3) := by decide +kernel
theorem dX11_read_21 : decode cX11_read 21 = .ok (.invokevirtual 103, 3) := by decide +kernel
theorem dX11_read_24 : decode cX11_read 24 = .ok (.bipush (-100), 2) := by decide +kernel
theorem dX11_read_26 : decode cX11_read 26 = .ok (.ireturn, 1) := by decide +kernel
theorem dX11_read_27 : decode cX11_read 27 = .ok (.aload_n 0, 1) := by decide +kernel
theorem dX11_read_28 : decode cX11_read 28 = .ok (.getfield 75, 3) := by decide +kernel
theorem dX11_read_31 : decode cX11_read 31 = .ok (.aload_n 0, 1) := by decide +kernel
theorem dX11_read_32 : decode cX11_read 32 = .ok (.getfield 10, 3) := by decide +kernel
theorem dX11_read_35 : decode cX11_read 35 = .ok (.iload_n 1, 1) := by decide +kernel
theorem dX11_read_36 : decode cX11_read 36 = .ok (.iload_n 2, 1) := by decide +kernel
theorem dX11_read_37 : decode cX11_read 37 = .ok (.aload_n 0, 1) := by decide +kernel
theorem dX11_read_38 : decode cX11_read 38 = .ok (.getfield 26, 3) := by decide +kernel
theorem dX11_read_41 : decode cX11_read 41 = .ok (.invokevirtual 113, 3) := by decide +kernel
theorem dX11_read_44 : decode cX11_read 44 = .ok (.invokevirtual 197, 3) := by decide +kernel
theorem dX11_read_47 : decode cX11_read 47 = .ok (.istore_n 3, 1) := by decide +kernel
theorem dX11_read_48 : decode cX11_read 48 = .ok (.aload_n 0, 1) := by decide +kernel
theorem dX11_read_49 : decode cX11_read 49 = .ok (.getfield 10, 3) := by decide +kernel
theorem dX11_read_52 : decode cX11_read 52 = .ok (.invokevirtual 103, 3) := by decide +kernel
theorem dX11_read_55 : decode cX11_read 55 = .ok (.iload_n 3, 1) := by decide +kernel
theorem dX11_read_56 : decode cX11_read 56 = .ok (.iload_n 2, 1) := by decide +kernel
theorem dX11_read_57 : decode cX11_read 57 = .ok (.if_icmp .ge 7, 3) := by decide +kernel
theorem dX11_read_60 : decode cX11_read 60 = .ok (.iconst (-1), 1) := by decide +kernel
theorem dX11_read_61 : decode cX11_read 61 = .ok (.iload_n 3, 1) := by decide +kernel
theorem dX11_read_62 : decode cX11_read 62 = .ok (.isub, 1) := by decide +kernel
theorem dX11_read_63 : decode cX11_read 63 = .ok (.ireturn, 1) := by decide +kernel
theorem dX11_read_64 : decode cX11_read 64 = .ok (.aload_n 0, 1) := by decide +kernel
theorem dX11_read_65 : decode cX11_read 65 = .ok (.getfield 19, 3) := by decide +kernel
theorem dX11_read_68 : decode cX11_read 68 = .ok (.invokevirtual 182, 3) := by decide +kernel
theorem dX11_read_71 : decode cX11_read 71 = .ok (.iconst 0, 1) := by decide +kernel
theorem dX11_read_72 : decode cX11_read 72 = .ok (.istore 4, 2) := by decide +kernel
theorem dX11_read_74 : decode cX11_read 74 = .ok (.iload 4, 2) := by decide +kernel
theorem dX11_read_76 : decode cX11_read 76 = .ok (.iload_n 2, 1) := by decide +kernel
theorem dX11_read_77 : decode cX11_read 77 = .ok (.if_icmp .ge 26, 3) := by decide +kernel
theorem dX11_read_80 : decode cX11_read 80 = .ok (.aload_n 0, 1) := by decide +kernel
theorem dX11_read_81 : decode cX11_read 81 = .ok (.getfield 19, 3) := by decide +kernel
theorem dX11_read_84 : decode cX11_read 84 = .ok (.aload_n 0, 1) := by decide +kernel
theorem dX11_read_85 : decode cX11_read 85 = .ok (.getfield 75, 3) := by decide +kernel
theorem dX11_read_88 : decode cX11_read 88 = .ok (.iload 4, 2) := by decide +kernel
theorem dX11_read_90 : decode cX11_read 90 = .ok (.invokevirtual 201, 3) := by decide +kernel
theorem dX11_read_93 : decode cX11_read 93 = .ok (.i2l, 1) := by decide +kernel
theorem dX11_read_94 : decode cX11_read 94 = .ok (.invokevirtual 185, 3) := by decide +kernel
theorem dX11_read_97 : decode cX11_read 97 = .ok (.iinc 4 1, 3) := by decide +kernel
theorem dX11_read_100 : decode cX11_read 100 = .ok (.goto (-26), 3) := by decide +kernel
theorem dX11_read_103 : decode cX11_read 103 = .ok (.aload_n 0, 1) := by decide +kernel
theorem dX11_read_104 : decode cX11_read 104 = .ok (.getfield 75, 3) := by decide +kernel
theorem dX11_read_107 : decode cX11_read 107 = .ok (.invokevirtual 204, 3) := by decide +kernel
theorem dX11_read_110 : decode cX11_read 110 = .ok (.ireturn, 1) := by decide +kernel
theorem dX11_least_0 : decode cX11_least 0 = .ok (.iload_n 1, 1) := by decide +kernel
theorem dX11_least_1 : decode cX11_least 1 = .ok (.invokestatic 158, 3) := by decide +kernel
theorem dX11_least_4 : decode cX11_least 4 = .ok (.ifCond .ne 5, 3) := by decide +kernel
theorem dX11_least_7 : decode cX11_least 7 = .ok (.iconst (-1), 1) := by decide +kernel
theorem dX11_least_8 : decode cX11_least 8 = .ok (.ireturn, 1) := by decide +kernel
theorem dX11_least_9 : decode cX11_least 9 = .ok (.aload_n 0, 1) := by decide +kernel
theorem dX11_least_10 : decode cX11_least 10 = .ok (.iload_n 1, 1) := by decide +kernel
theorem dX11_least_11 : decode cX11_least 11 = .ok (.invokevirtual 207, 3) := by decide +kernel
theorem dX11_least_14 : decode cX11_least 14 = .ok (.istore_n 2, 1) := by decide +kernel
theorem dX11_least_15 : decode cX11_least 15 = .ok (.aload_n 0, 1) := by decide +kernel
theorem dX11_least_16 : decode cX11_least 16 = .ok (.getfield 19, 3) := by decide +kernel
theorem dX11_least_19 : decode cX11_least 19 = .ok (.iload_n 2, 1) := by decide +kernel
theorem dX11_least_20 : decode cX11_least 20 = .ok (.i2l, 1) := by decide +kernel
theorem dX11_least_21 : decode cX11_least 21 = .ok (.invokevirtual 175, 3) := by decide +kernel
theorem dX11_least_24 : decode cX11_least 24 = .ok (.iload_n 2, 1) := by decide +kernel
theorem dX11_least_25 : decode cX11_least 25 = .ok (.invokestatic 210, 3) := by decide +kernel
theorem dX11_least_28 : decode cX11_least 28 = .ok (.ireturn, 1) := by decide +kernel
theorem dX11_waysOf_0 : decode cX11_waysOf 0 = .ok (.aload_n 0, 1) := by decide +kernel
theorem dX11_waysOf_1 : decode cX11_waysOf 1 = .ok (.getfield 26, 3) := by decide +kernel
theorem dX11_waysOf_4 : decode cX11_waysOf 4 = .ok (.invokevirtual 113, 3) := by decide +kernel
theorem dX11_waysOf_7 : decode cX11_waysOf 7 = .ok (.aload_n 0, 1) := by decide +kernel
theorem dX11_waysOf_8 : decode cX11_waysOf 8 = .ok (.getfield 26, 3) := by decide +kernel
theorem dX11_waysOf_11 : decode cX11_waysOf 11 = .ok (.iload_n 1, 1) := by decide +kernel
theorem dX11_waysOf_12 : decode cX11_waysOf 12 = .ok (.invokevirtual 161, 3) := by decide +kernel
theorem dX11_waysOf_15 : decode cX11_waysOf 15 = .ok (.invokestatic 140, 3) := by decide +kernel
theorem dX11_waysOf_18 : decode cX11_waysOf 18 = .ok (.invokestatic 213, 3) := by decide +kernel
theorem dX11_waysOf_21 : decode cX11_waysOf 21 = .ok (.ireturn, 1) := by decide +kernel
theorem dX11_audit_0 : decode cX11_audit 0 = .ok (.iconst 0, 1) := by decide +kernel
theorem dX11_audit_1 : decode cX11_audit 1 = .ok (.istore_n 1, 1) := by decide +kernel
theorem dX11_audit_2 : decode cX11_audit 2 = .ok (.iconst 0, 1) := by decide +kernel
theorem dX11_audit_3 : decode cX11_audit 3 = .ok (.istore_n 2, 1) := by decide +kernel
theorem dX11_audit_4 : decode cX11_audit 4 = .ok (.iload_n 2, 1) := by decide +kernel
theorem dX11_audit_5 : decode cX11_audit 5 = .ok (.bipush 8, 2) := by decide +kernel
theorem dX11_audit_7 : decode cX11_audit 7 = .ok (.if_icmp .ge 20, 3) := by decide +kernel
theorem dX11_audit_10 : decode cX11_audit 10 = .ok (.iload_n 1, 1) := by decide +kernel
theorem dX11_audit_11 : decode cX11_audit 11 = .ok (.aload_n 0, 1) := by decide +kernel
theorem dX11_audit_12 : decode cX11_audit 12 = .ok (.iload_n 2, 1) := by decide +kernel
theorem dX11_audit_13 : decode cX11_audit 13 = .ok (.invokevirtual 207, 3) := by decide +kernel
theorem dX11_audit_16 : decode cX11_audit 16 = .ok (.invokestatic 210, 3) := by decide +kernel
theorem dX11_audit_19 : decode cX11_audit 19 = .ok (.iadd, 1) := by decide +kernel
theorem dX11_audit_20 : decode cX11_audit 20 = .ok (.istore_n 1, 1) := by decide +kernel
theorem dX11_audit_21 : decode cX11_audit 21 = .ok (.iinc 2 1, 3) := by decide +kernel
theorem dX11_audit_24 : decode cX11_audit 24 = .ok (.goto (-20), 3) := by decide +kernel
theorem dX11_audit_27 : decode cX11_audit 27 = .ok (.aload_n 0, 1) := by decide +kernel
theorem dX11_audit_28 : decode cX11_audit 28 = .ok (.getfield 19, 3) := by decide +kernel
theorem dX11_audit_31 : decode cX11_audit 31 = .ok (.invokevirtual 182, 3) := by decide +kernel
theorem dX11_audit_34 : decode cX11_audit 34 = .ok (.iconst 0, 1) := by decide +kernel
theorem dX11_audit_35 : decode cX11_audit 35 = .ok (.istore_n 2, 1) := by decide +kernel
theorem dX11_audit_36 : decode cX11_audit 36 = .ok (.iload_n 2, 1) := by decide +kernel
theorem dX11_audit_37 : decode cX11_audit 37 = .ok (.iconst 4, 1) := by decide +kernel
theorem dX11_audit_38 : decode cX11_audit 38 = .ok (.if_icmp .ge 27, 3) := by decide +kernel
theorem dX11_audit_41 : decode cX11_audit 41 = .ok (.aload_n 0, 1) := by decide +kernel
theorem dX11_audit_42 : decode cX11_audit 42 = .ok (.getfield 19, 3) := by decide +kernel
theorem dX11_audit_45 : decode cX11_audit 45 = .ok (.aload_n 0, 1) := by decide +kernel
theorem dX11_audit_46 : decode cX11_audit 46 = .ok (.getfield 26, 3) := by decide +kernel
theorem dX11_audit_49 : decode cX11_audit 49 = .ok (.iload_n 2, 1) := by decide +kernel
theorem dX11_audit_50 : decode cX11_audit 50 = .ok (.invokevirtual 217, 3) := by decide +kernel
theorem dX11_audit_53 : decode cX11_audit 53 = .ok (.iload_n 1, 1) := by decide +kernel
theorem dX11_audit_54 : decode cX11_audit 54 = .ok (.isub, 1) := by decide +kernel
theorem dX11_audit_55 : decode cX11_audit 55 = .ok (.i2l, 1) := by decide +kernel
theorem dX11_audit_56 : decode cX11_audit 56 = .ok (.invokevirtual 185, 3) := by decide +kernel
theorem dX11_audit_59 : decode cX11_audit 59 = .ok (.iinc 2 1, 3) := by decide +kernel
theorem dX11_audit_62 : decode cX11_audit 62 = .ok (.goto (-26), 3) := by decide +kernel
theorem dX11_audit_65 : decode cX11_audit 65 = .ok (.iload_n 1, 1) := by decide +kernel
theorem dX11_audit_66 : decode cX11_audit 66 = .ok (.ireturn, 1) := by decide +kernel
theorem dX11_halves_0 : decode cX11_halves 0 = .ok (.aload_n 0, 1) := by decide +kernel
theorem dX11_halves_1 : decode cX11_halves 1 = .ok (.getfield 33, 3) := by decide +kernel
theorem dX11_halves_4 : decode cX11_halves 4 = .ok (.aload_n 0, 1) := by decide +kernel
theorem dX11_halves_5 : decode cX11_halves 5 = .ok (.getfield 26, 3) := by decide +kernel
theorem dX11_halves_8 : decode cX11_halves 8 = .ok (.invokevirtual 110, 3) := by decide +kernel
theorem dX11_halves_11 : decode cX11_halves 11 = .ok (.aload_n 0, 1) := by decide +kernel
theorem dX11_halves_12 : decode cX11_halves 12 = .ok (.aload_n 0, 1) := by decide +kernel
theorem dX11_halves_13 : decode cX11_halves 13 = .ok (.aload_n 0, 1) := by decide +kernel
theorem dX11_halves_14 : decode cX11_halves 14 = .ok (.getfield 26, 3) := by decide +kernel
theorem dX11_halves_17 : decode cX11_halves 17 = .ok (.iload_n 1, 1) := by decide +kernel
theorem dX11_halves_18 : decode cX11_halves 18 = .ok (.invokevirtual 220, 3) := by decide +kernel
theorem dX11_halves_21 : decode cX11_halves 21 = .ok (.invokevirtual 224, 3) := by decide +kernel
theorem dX11_halves_24 : decode cX11_halves 24 = .ok (.ireturn, 1) := by decide +kernel
theorem dX11_would_0 : decode cX11_would 0 = .ok (.aload_n 0, 1) := by decide +kernel
theorem dX11_would_1 : decode cX11_would 1 = .ok (.getfield 30, 3) := by decide +kernel
theorem dX11_would_4 : decode cX11_would 4 = .ok (.aload_n 0, 1) := by decide +kernel
theorem dX11_would_5 : decode cX11_would 5 = .ok (.getfield 26, 3) := by decide +kernel
theorem dX11_would_8 : decode cX11_would 8 = .ok (.invokevirtual 110, 3) := by decide +kernel
theorem dX11_would_11 : decode cX11_would 11 = .ok (.aload_n 0, 1) := by decide +kernel
theorem dX11_would_12 : decode cX11_would 12 = .ok (.aload_n 0, 1) := by decide +kernel
theorem dX11_would_13 : decode cX11_would 13 = .ok (.getfield 30, 3) := by decide +kernel
theorem dX11_would_16 : decode cX11_would 16 = .ok (.iload_n 1, 1) := by decide +kernel
theorem dX11_would_17 : decode cX11_would 17 = .ok (.invokevirtual 220, 3) := by decide +kernel
theorem dX11_would_20 : decode cX11_would 20 = .ok (.ireturn, 1) := by decide +kernel
theorem dX11_gain_0 : decode cX11_gain 0 = .ok (.aload_n 0, 1) := by decide +kernel
theorem dX11_gain_1 : decode cX11_gain 1 = .ok (.getfield 26, 3) := by decide +kernel
theorem dX11_gain_4 : decode cX11_gain 4 = .ok (.iload_n 1, 1) := by decide +kernel
theorem dX11_gain_5 : decode cX11_gain 5 = .ok (.invokevirtual 123, 3) := by decide +kernel
theorem dX11_gain_8 : decode cX11_gain 8 = .ok (.ifCond .ne 5, 3) := by decide +kernel
theorem dX11_gain_11 : decode cX11_gain 11 = .ok (.iconst (-1), 1) := by decide +kernel
theorem dX11_gain_12 : decode cX11_gain 12 = .ok (.ireturn, 1) := by decide +kernel
theorem dX11_gain_13 : decode cX11_gain 13 = .ok (.aload_n 0, 1) := by decide +kernel
theorem dX11_gain_14 : decode cX11_gain 14 = .ok (.getfield 26, 3) := by decide +kernel
theorem dX11_gain_17 : decode cX11_gain 17 = .ok (.invokevirtual 113, 3) := by decide +kernel
theorem dX11_gain_20 : decode cX11_gain 20 = .ok (.iconst 2, 1) := by decide +kernel
theorem dX11_gain_21 : decode cX11_gain 21 = .ok (.if_icmp .ge 6, 3) := by decide +kernel
theorem dX11_gain_24 : decode cX11_gain 24 = .ok (.bipush (-2), 2) := by decide +kernel
theorem dX11_gain_26 : decode cX11_gain 26 = .ok (.ireturn, 1) := by decide +kernel
theorem dX11_gain_27 : decode cX11_gain 27 = .ok (.aload_n 0, 1) := by decide +kernel
theorem dX11_gain_28 : decode cX11_gain 28 = .ok (.getfield 26, 3) := by decide +kernel
theorem dX11_gain_31 : decode cX11_gain 31 = .ok (.iload_n 1, 1) := by decide +kernel
theorem dX11_gain_32 : decode cX11_gain 32 = .ok (.invokevirtual 133, 3) := by decide +kernel
theorem dX11_gain_35 : decode cX11_gain 35 = .ok (.istore_n 2, 1) := by decide +kernel
theorem dX11_gain_36 : decode cX11_gain 36 = .ok (.aload_n 0, 1) := by decide +kernel
theorem dX11_gain_37 : decode cX11_gain 37 = .ok (.getfield 54, 3) := by decide +kernel
theorem dX11_gain_40 : decode cX11_gain 40 = .ok (.aload_n 0, 1) := by decide +kernel
theorem dX11_gain_41 : decode cX11_gain 41 = .ok (.getfield 26, 3) := by decide +kernel
theorem dX11_gain_44 : decode cX11_gain 44 = .ok (.iconst 0, 1) := by decide +kernel
theorem dX11_gain_45 : decode cX11_gain 45 = .ok (.aload_n 0, 1) := by decide +kernel
theorem dX11_gain_46 : decode cX11_gain 46 = .ok (.getfield 26, 3) := by decide +kernel
theorem dX11_gain_49 : decode cX11_gain 49 = .ok (.invokevirtual 113, 3) := by decide +kernel
theorem dX11_gain_52 : decode cX11_gain 52 = .ok (.invokevirtual 227, 3) := by decide +kernel
theorem dX11_gain_55 : decode cX11_gain 55 = .ok (.aload_n 0, 1) := by decide +kernel
theorem dX11_gain_56 : decode cX11_gain 56 = .ok (.getfield 19, 3) := by decide +kernel
theorem dX11_gain_59 : decode cX11_gain 59 = .ok (.iload_n 2, 1) := by decide +kernel
theorem dX11_gain_60 : decode cX11_gain 60 = .ok (.aload_n 0, 1) := by decide +kernel
theorem dX11_gain_61 : decode cX11_gain 61 = .ok (.getfield 26, 3) := by decide +kernel
theorem dX11_gain_64 : decode cX11_gain 64 = .ok (.invokevirtual 113, 3) := by decide +kernel
theorem dX11_gain_67 : decode cX11_gain 67 = .ok (.invokestatic 231, 3) := by decide +kernel
theorem dX11_gain_70 : decode cX11_gain 70 = .ok (.if_icmp .ge 7, 3) := by decide +kernel
theorem dX11_gain_73 : decode cX11_gain 73 = .ok (.lconst 1, 1) := by decide +kernel
theorem dX11_gain_74 : decode cX11_gain 74 = .ok (.goto 6, 3) := by decide +kernel
theorem dX11_gain_77 : decode cX11_gain 77 = .ok (.ldc2_w 234, 3) := by decide +kernel
theorem dX11_gain_80 : decode cX11_gain 80 = .ok (.invokevirtual 175, 3) := by decide +kernel
theorem dX11_gain_83 : decode cX11_gain 83 = .ok (.sipush 1000, 3) := by decide +kernel
theorem dX11_gain_86 : decode cX11_gain 86 = .ok (.aload_n 0, 1) := by decide +kernel
theorem dX11_gain_87 : decode cX11_gain 87 = .ok (.getfield 54, 3) := by decide +kernel
theorem dX11_gain_90 : decode cX11_gain 90 = .ok (.iload_n 2, 1) := by decide +kernel
theorem dX11_gain_91 : decode cX11_gain 91 = .ok (.invokevirtual 236, 3) := by decide +kernel
theorem dX11_gain_94 : decode cX11_gain 94 = .ok (.iadd, 1) := by decide +kernel
theorem dX11_gain_95 : decode cX11_gain 95 = .ok (.ireturn, 1) := by decide +kernel
theorem dX11_sorts_0 : decode cX11_sorts 0 = .ok (.aload_n 0, 1) := by decide +kernel
theorem dX11_sorts_1 : decode cX11_sorts 1 = .ok (.getfield 33, 3) := by decide +kernel
theorem dX11_sorts_4 : decode cX11_sorts 4 = .ok (.aload_n 0, 1) := by decide +kernel
theorem dX11_sorts_5 : decode cX11_sorts 5 = .ok (.getfield 26, 3) := by decide +kernel
theorem dX11_sorts_8 : decode cX11_sorts 8 = .ok (.invokevirtual 110, 3) := by decide +kernel
theorem dX11_sorts_11 : decode cX11_sorts 11 = .ok (.aload_n 0, 1) := by decide +kernel
theorem dX11_sorts_12 : decode cX11_sorts 12 = .ok (.aload_n 0, 1) := by decide +kernel
theorem dX11_sorts_13 : decode cX11_sorts 13 = .ok (.iload_n 1, 1) := by decide +kernel
theorem dX11_sorts_14 : decode cX11_sorts 14 = .ok (.invokevirtual 239, 3) := by decide +kernel
theorem dX11_sorts_17 : decode cX11_sorts 17 = .ok (.invokevirtual 224, 3) := by decide +kernel
theorem dX11_sorts_20 : decode cX11_sorts 20 = .ok (.ireturn, 1) := by decide +kernel
theorem dX11_swaps_0 : decode cX11_swaps 0 = .ok (.aload_n 0, 1) := by decide +kernel
theorem dX11_swaps_1 : decode cX11_swaps 1 = .ok (.getfield 33, 3) := by decide +kernel
theorem dX11_swaps_4 : decode cX11_swaps 4 = .ok (.aload_n 0, 1) := by decide +kernel
theorem dX11_swaps_5 : decode cX11_swaps 5 = .ok (.getfield 26, 3) := by decide +kernel
theorem dX11_swaps_8 : decode cX11_swaps 8 = .ok (.invokevirtual 110, 3) := by decide +kernel
theorem dX11_swaps_11 : decode cX11_swaps 11 = .ok (.aload_n 0, 1) := by decide +kernel
theorem dX11_swaps_12 : decode cX11_swaps 12 = .ok (.aload_n 0, 1) := by decide +kernel
theorem dX11_swaps_13 : decode cX11_swaps 13 = .ok (.iload_n 1, 1) := by decide +kernel
theorem dX11_swaps_14 : decode cX11_swaps 14 = .ok (.iload_n 2, 1) := by decide +kernel
theorem dX11_swaps_15 : decode cX11_swaps 15 = .ok (.iconst 0, 1) := by decide +kernel
theorem dX11_swaps_16 : decode cX11_swaps 16 = .ok (.invokevirtual 242, 3) := by decide +kernel
theorem dX11_swaps_19 : decode cX11_swaps 19 = .ok (.invokevirtual 224, 3) := by decide +kernel
theorem dX11_swaps_22 : decode cX11_swaps 22 = .ok (.ireturn, 1) := by decide +kernel
theorem dX11_moves_0 : decode cX11_moves 0 = .ok (.aload_n 0, 1) := by decide +kernel
theorem dX11_moves_1 : decode cX11_moves 1 = .ok (.getfield 33, 3) := by decide +kernel
theorem dX11_moves_4 : decode cX11_moves 4 = .ok (.aload_n 0, 1) := by decide +kernel
theorem dX11_moves_5 : decode cX11_moves 5 = .ok (.getfield 26, 3) := by decide +kernel
theorem dX11_moves_8 : decode cX11_moves 8 = .ok (.invokevirtual 110, 3) := by decide +kernel
theorem dX11_moves_11 : decode cX11_moves 11 = .ok (.aload_n 0, 1) := by decide +kernel
theorem dX11_moves_12 : decode cX11_moves 12 = .ok (.aload_n 0, 1) := by decide +kernel
theorem dX11_moves_13 : decode cX11_moves 13 = .ok (.iload_n 1, 1) := by decide +kernel
theorem dX11_moves_14 : decode cX11_moves 14 = .ok (.iload_n 2, 1) := by decide +kernel
theorem dX11_moves_15 : decode cX11_moves 15 = .ok (.iconst 1, 1) := by decide +kernel
theorem dX11_moves_16 : decode cX11_moves 16 = .ok (.invokevirtual 242, 3) := by decide +kernel
theorem dX11_moves_19 : decode cX11_moves 19 = .ok (.invokevirtual 224, 3) := by decide +kernel
theorem dX11_moves_22 : decode cX11_moves 22 = .ok (.ireturn, 1) := by decide +kernel
theorem dX11_best_0 : decode cX11_best 0 = .ok (.aload_n 0, 1) := by decide +kernel
theorem dX11_best_1 : decode cX11_best 1 = .ok (.getfield 61, 3) := by decide +kernel
theorem dX11_best_4 : decode cX11_best 4 = .ok (.aload_n 0, 1) := by decide +kernel
theorem dX11_best_5 : decode cX11_best 5 = .ok (.getfield 26, 3) := by decide +kernel
theorem dX11_best_8 : decode cX11_best 8 = .ok (.invokevirtual 246, 3) := by decide +kernel
theorem dX11_best_11 : decode cX11_best 11 = .ok (.istore_n 1, 1) := by decide +kernel
theorem dX11_best_12 : decode cX11_best 12 = .ok (.iload_n 1, 1) := by decide +kernel
theorem dX11_best_13 : decode cX11_best 13 = .ok (.iconst 1, 1) := by decide +kernel
theorem dX11_best_14 : decode cX11_best 14 = .ok (.if_icmp .ge 6, 3) := by decide +kernel
theorem dX11_best_17 : decode cX11_best 17 = .ok (.bipush (-2), 2) := by decide +kernel
theorem dX11_best_19 : decode cX11_best 19 = .ok (.ireturn, 1) := by decide +kernel
theorem dX11_best_20 : decode cX11_best 20 = .ok (.aload_n 0, 1) := by decide +kernel
theorem dX11_best_21 : decode cX11_best 21 = .ok (.getfield 19, 3) := by decide +kernel
theorem dX11_best_24 : decode cX11_best 24 = .ok (.aload_n 0, 1) := by decide +kernel
theorem dX11_best_25 : decode cX11_best 25 = .ok (.getfield 61, 3) := by decide +kernel
theorem dX11_best_28 : decode cX11_best 28 = .ok (.invokevirtual 249, 3) := by decide +kernel
theorem dX11_best_31 : decode cX11_best 31 = .ok (.i2l, 1) := by decide +kernel
theorem dX11_best_32 : decode cX11_best 32 = .ok (.aload_n 0, 1) := by decide +kernel
theorem dX11_best_33 : decode cX11_best 33 = .ok (.getfield 61, 3) := by decide +kernel
theorem dX11_best_36 : decode cX11_best 36 = .ok (.invokevirtual 252, 3) := by decide +kernel
theorem dX11_best_39 : decode cX11_best 39 = .ok (.i2l, 1) := by decide +kernel
theorem dX11_best_40 : decode cX11_best 40 = .ok (.invokevirtual 255, 3) := by decide +kernel
theorem dX11_best_43 : decode cX11_best 43 = .ok (.iload_n 1, 1) := by decide +kernel
theorem dX11_best_44 : decode cX11_best 44 = .ok (.ireturn, 1) := by decide +kernel
theorem dX11_place_0 : decode cX11_place 0 = .ok (.aload_n 0, 1) := by decide +kernel
theorem dX11_place_1 : decode cX11_place 1 = .ok (.getfield 26, 3) := by decide +kernel
theorem dX11_place_4 : decode cX11_place 4 = .ok (.iload_n 1, 1) := by decide +kernel
theorem dX11_place_5 : decode cX11_place 5 = .ok (.invokevirtual 123, 3) := by decide +kernel
theorem dX11_place_8 : decode cX11_place 8 = .ok (.ifCond .ne 5, 3) := by decide +kernel
theorem dX11_place_11 : decode cX11_place 11 = .ok (.iconst (-1), 1) := by decide +kernel
theorem dX11_place_12 : decode cX11_place 12 = .ok (.ireturn, 1) := by decide +kernel
theorem dX11_place_13 : decode cX11_place 13 = .ok (.aload_n 0, 1) := by decide +kernel
theorem dX11_place_14 : decode cX11_place 14 = .ok (.getfield 26, 3) := by decide +kernel
theorem dX11_place_17 : decode cX11_place 17 = .ok (.iload_n 1, 1) := by decide +kernel
theorem dX11_place_18 : decode cX11_place 18 = .ok (.invokevirtual 133, 3) := by decide +kernel
theorem dX11_place_21 : decode cX11_place 21 = .ok (.istore_n 2, 1) := by decide +kernel
theorem dX11_place_22 : decode cX11_place 22 = .ok (.iconst (-1), 1) := by decide +kernel
theorem dX11_place_23 : decode cX11_place 23 = .ok (.istore_n 3, 1) := by decide +kernel
theorem dX11_place_24 : decode cX11_place 24 = .ok (.iconst 0, 1) := by decide +kernel
theorem dX11_place_25 : decode cX11_place 25 = .ok (.istore 4, 2) := by decide +kernel
theorem dX11_place_27 : decode cX11_place 27 = .ok (.iconst 0, 1) := by decide +kernel
theorem dX11_place_28 : decode cX11_place 28 = .ok (.istore 5, 2) := by decide +kernel
theorem dX11_place_30 : decode cX11_place 30 = .ok (.iload 5, 2) := by decide +kernel
theorem dX11_place_32 : decode cX11_place 32 = .ok (.aload_n 0, 1) := by decide +kernel
theorem dX11_place_33 : decode cX11_place 33 = .ok (.getfield 26, 3) := by decide +kernel
theorem dX11_place_36 : decode cX11_place 36 = .ok (.invokevirtual 113, 3) := by decide +kernel
theorem dX11_place_39 : decode cX11_place 39 = .ok (.if_icmp .ge 59, 3) := by decide +kernel
theorem dX11_place_42 : decode cX11_place 42 = .ok (.aload_n 0, 1) := by decide +kernel
theorem dX11_place_43 : decode cX11_place 43 = .ok (.getfield 30, 3) := by decide +kernel
theorem dX11_place_46 : decode cX11_place 46 = .ok (.aload_n 0, 1) := by decide +kernel
theorem dX11_place_47 : decode cX11_place 47 = .ok (.getfield 26, 3) := by decide +kernel
theorem dX11_place_50 : decode cX11_place 50 = .ok (.invokevirtual 110, 3) := by decide +kernel
theorem dX11_place_53 : decode cX11_place 53 = .ok (.aload_n 0, 1) := by decide +kernel
theorem dX11_place_54 : decode cX11_place 54 = .ok (.getfield 30, 3) := by decide +kernel
theorem dX11_place_57 : decode cX11_place 57 = .ok (.iload_n 2, 1) := by decide +kernel
theorem dX11_place_58 : decode cX11_place 58 = .ok (.iload 5, 2) := by decide +kernel
theorem dX11_place_60 : decode cX11_place 60 = .ok (.invokevirtual 259, 3) := by decide +kernel
theorem dX11_place_63 : decode cX11_place 63 = .ok (.aload_n 0, 1) := by decide +kernel
theorem dX11_place_64 : decode cX11_place 64 = .ok (.getfield 30, 3) := by decide +kernel
theorem dX11_place_67 : decode cX11_place 67 = .ok (.iconst 1, 1) := by decide +kernel
theorem dX11_place_68 : decode cX11_place 68 = .ok (.invokevirtual 217, 3) := by decide +kernel
theorem dX11_place_71 : decode cX11_place 71 = .ok (.istore 6, 2) := by decide +kernel
theorem dX11_place_73 : decode cX11_place 73 = .ok (.iload_n 3, 1) := by decide +kernel
theorem dX11_place_74 : decode cX11_place 74 = .ok (.iconst (-1), 1) := by decide +kernel
theorem dX11_place_75 : decode cX11_place 75 = .ok (.if_icmp .eq 10, 3) := by decide +kernel
theorem dX11_place_78 : decode cX11_place 78 = .ok (.iload 6, 2) := by decide +kernel
theorem dX11_place_80 : decode cX11_place 80 = .ok (.iload 4, 2) := by decide +kernel
theorem dX11_place_82 : decode cX11_place 82 = .ok (.if_icmp .ge 10, 3) := by decide +kernel
theorem dX11_place_85 : decode cX11_place 85 = .ok (.iload 6, 2) := by decide +kernel
theorem dX11_place_87 : decode cX11_place 87 = .ok (.istore 4, 2) := by decide +kernel
theorem dX11_place_89 : decode cX11_place 89 = .ok (.iload 5, 2) := by decide +kernel
theorem dX11_place_91 : decode cX11_place 91 = .ok (.istore_n 3, 1) := by decide +kernel
theorem dX11_place_92 : decode cX11_place 92 = .ok (.iinc 5 1, 3) := by decide +kernel
theorem dX11_place_95 : decode cX11_place 95 = .ok (.goto (-65), 3) := by decide +kernel
theorem dX11_place_98 : decode cX11_place 98 = .ok (.aload_n 0, 1) := by decide +kernel
theorem dX11_place_99 : decode cX11_place 99 = .ok (.getfield 19, 3) := by decide +kernel
theorem dX11_place_102 : decode cX11_place 102 = .ok (.iload 4, 2) := by decide +kernel
theorem dX11_place_104 : decode cX11_place 104 = .ok (.i2l, 1) := by decide +kernel
theorem dX11_place_105 : decode cX11_place 105 = .ok (.invokevirtual 175, 3) := by decide +kernel
theorem dX11_place_108 : decode cX11_place 108 = .ok (.iload_n 3, 1) := by decide +kernel
theorem dX11_place_109 : decode cX11_place 109 = .ok (.ireturn, 1) := by decide +kernel
theorem dX11_climbs_0 : decode cX11_climbs 0 = .ok (.aload_n 0, 1) := by decide +kernel
theorem dX11_climbs_1 : decode cX11_climbs 1 = .ok (.getfield 33, 3) := by decide +kernel
theorem dX11_climbs_4 : decode cX11_climbs 4 = .ok (.aload_n 0, 1) := by decide +kernel
theorem dX11_climbs_5 : decode cX11_climbs 5 = .ok (.getfield 26, 3) := by decide +kernel
theorem dX11_climbs_8 : decode cX11_climbs 8 = .ok (.invokevirtual 110, 3) := by decide +kernel
theorem dX11_climbs_11 : decode cX11_climbs 11 = .ok (.aload_n 0, 1) := by decide +kernel
theorem dX11_climbs_12 : decode cX11_climbs 12 = .ok (.aload_n 0, 1) := by decide +kernel
theorem dX11_climbs_13 : decode cX11_climbs 13 = .ok (.iload_n 1, 1) := by decide +kernel
theorem dX11_climbs_14 : decode cX11_climbs 14 = .ok (.invokevirtual 262, 3) := by decide +kernel
theorem dX11_climbs_17 : decode cX11_climbs 17 = .ok (.invokevirtual 224, 3) := by decide +kernel
theorem dX11_climbs_20 : decode cX11_climbs 20 = .ok (.ireturn, 1) := by decide +kernel
theorem dX11_remembered_0 : decode cX11_remembered 0 = .ok (.iload_n 1, 1) := by decide +kernel
theorem dX11_remembered_1 : decode cX11_remembered 1 = .ok (.ifCond .lt 14, 3) := by decide +kernel
theorem dX11_remembered_4 : decode cX11_remembered 4 = .ok (.aload_n 0, 1) := by decide +kernel
theorem dX11_remembered_5 : decode cX11_remembered 5 = .ok (.getfield 39, 3) := by decide +kernel
theorem dX11_remembered_8 : decode cX11_remembered 8 = .ok (.aload_n 0, 1) := by decide +kernel
theorem dX11_remembered_9 : decode cX11_remembered 9 = .ok (.getfield 33, 3) := by decide +kernel
theorem dX11_remembered_12 : decode cX11_remembered 12 = .ok (.invokevirtual 106, 3) := by decide +kernel
theorem dX11_remembered_15 : decode cX11_remembered 15 = .ok (.iload_n 1, 1) := by decide +kernel
theorem dX11_remembered_16 : decode cX11_remembered 16 = .ok (.ireturn, 1) := by decide +kernel
theorem dX11_halved_0 : decode cX11_halved 0 = .ok (.iload_n 2, 1) := by decide +kernel
theorem dX11_halved_1 : decode cX11_halved 1 = .ok (.iconst 1, 1) := by decide +kernel
theorem dX11_halved_2 : decode cX11_halved 2 = .ok (.if_icmp .lt 9, 3) := by decide +kernel
theorem dX11_halved_5 : decode cX11_halved 5 = .ok (.iload_n 2, 1) := by decide +kernel
theorem dX11_halved_6 : decode cX11_halved 6 = .ok (.bipush 9, 2) := by decide +kernel
theorem dX11_halved_8 : decode cX11_halved 8 = .ok (.if_icmp .le 5, 3) := by decide +kernel
theorem dX11_halved_11 : decode cX11_halved 11 = .ok (.iconst (-1), 1) := by decide +kernel
theorem dX11_halved_12 : decode cX11_halved 12 = .ok (.ireturn, 1) := by decide +kernel
theorem dX11_halved_13 : decode cX11_halved 13 = .ok (.aload_n 1, 1) := by decide +kernel
theorem dX11_halved_14 : decode cX11_halved 14 = .ok (.invokevirtual 113, 3) := by decide +kernel
theorem dX11_halved_17 : decode cX11_halved 17 = .ok (.iconst 2, 1) := by decide +kernel
theorem dX11_halved_18 : decode cX11_halved 18 = .ok (.if_icmp .ge 6, 3) := by decide +kernel
theorem dX11_halved_21 : decode cX11_halved 21 = .ok (.bipush (-2), 2) := by decide +kernel
theorem dX11_halved_23 : decode cX11_halved 23 = .ok (.ireturn, 1) := by decide +kernel
theorem dX11_halved_24 : decode cX11_halved 24 = .ok (.aload_n 1, 1) := by decide +kernel
theorem dX11_halved_25 : decode cX11_halved 25 = .ok (.iconst 1, 1) := by decide +kernel
theorem dX11_halved_26 : decode cX11_halved 26 = .ok (.invokevirtual 217, 3) := by decide +kernel
theorem dX11_halved_29 : decode cX11_halved 29 = .ok (.istore_n 3, 1) := by decide +kernel
theorem dX11_halved_30 : decode cX11_halved 30 = .ok (.aload_n 0, 1) := by decide +kernel
theorem dX11_halved_31 : decode cX11_halved 31 = .ok (.getfield 54, 3) := by decide +kernel
theorem dX11_halved_34 : decode cX11_halved 34 = .ok (.aload_n 1, 1) := by decide +kernel
theorem dX11_halved_35 : decode cX11_halved 35 = .ok (.iload_n 2, 1) := by decide +kernel
theorem dX11_halved_36 : decode cX11_halved 36 = .ok (.invokevirtual 265, 3) := by decide +kernel
theorem dX11_halved_39 : decode cX11_halved 39 = .ok (.istore 4, 2) := by decide +kernel
theorem dX11_halved_41 : decode cX11_halved 41 = .ok (.aload_n 0, 1) := by decide +kernel
theorem dX11_halved_42 : decode cX11_halved 42 = .ok (.getfield 19, 3) := by decide +kernel
theorem dX11_halved_45 : decode cX11_halved 45 = .ok (.iload_n 3, 1) := by decide +kernel
theorem dX11_halved_46 : decode cX11_halved 46 = .ok (.i2l, 1) := by decide +kernel
theorem dX11_halved_47 : decode cX11_halved 47 = .ok (.aload_n 1, 1) := by decide +kernel
theorem dX11_halved_48 : decode cX11_halved 48 = .ok (.iconst 1, 1) := by decide +kernel
theorem dX11_halved_49 : decode cX11_halved 49 = .ok (.invokevirtual 217, 3) := by decide +kernel
theorem dX11_halved_52 : decode cX11_halved 52 = .ok (.i2l, 1) := by decide +kernel
theorem dX11_halved_53 : decode cX11_halved 53 = .ok (.invokevirtual 255, 3) := by decide +kernel
theorem dX11_halved_56 : decode cX11_halved 56 = .ok (.iload 4, 2) := by decide +kernel
theorem dX11_halved_58 : decode cX11_halved 58 = .ok (.ireturn, 1) := by decide +kernel
theorem dX11_sorted_0 : decode cX11_sorted 0 = .ok (.iload_n 1, 1) := by decide +kernel
theorem dX11_sorted_1 : decode cX11_sorted 1 = .ok (.ifCond .lt 8, 3) := by decide +kernel
theorem dX11_sorted_4 : decode cX11_sorted 4 = .ok (.iload_n 1, 1) := by decide +kernel
theorem dX11_sorted_5 : decode cX11_sorted 5 = .ok (.iconst 4, 1) := by decide +kernel
theorem dX11_sorted_6 : decode cX11_sorted 6 = .ok (.if_icmp .lt 5, 3) := by decide +kernel
theorem dX11_sorted_9 : decode cX11_sorted 9 = .ok (.iconst (-1), 1) := by decide +kernel
theorem dX11_sorted_10 : decode cX11_sorted 10 = .ok (.ireturn, 1) := by decide +kernel
theorem dX11_sorted_11 : decode cX11_sorted 11 = .ok (.aload_n 0, 1) := by decide +kernel
theorem dX11_sorted_12 : decode cX11_sorted 12 = .ok (.getfield 30, 3) := by decide +kernel
theorem dX11_sorted_15 : decode cX11_sorted 15 = .ok (.aload_n 0, 1) := by decide +kernel
theorem dX11_sorted_16 : decode cX11_sorted 16 = .ok (.getfield 26, 3) := by decide +kernel
theorem dX11_sorted_19 : decode cX11_sorted 19 = .ok (.invokevirtual 110, 3) := by decide +kernel
theorem dX11_sorted_22 : decode cX11_sorted 22 = .ok (.aload_n 0, 1) := by decide +kernel
theorem dX11_sorted_23 : decode cX11_sorted 23 = .ok (.getfield 26, 3) := by decide +kernel
theorem dX11_sorted_26 : decode cX11_sorted 26 = .ok (.iload_n 1, 1) := by decide +kernel
theorem dX11_sorted_27 : decode cX11_sorted 27 = .ok (.invokevirtual 268, 3) := by decide +kernel
theorem dX11_sorted_30 : decode cX11_sorted 30 = .ok (.aload_n 0, 1) := by decide +kernel
theorem dX11_sorted_31 : decode cX11_sorted 31 = .ok (.getfield 26, 3) := by decide +kernel
theorem dX11_sorted_34 : decode cX11_sorted 34 = .ok (.aload_n 0, 1) := by decide +kernel
theorem dX11_sorted_35 : decode cX11_sorted 35 = .ok (.getfield 30, 3) := by decide +kernel
theorem dX11_sorted_38 : decode cX11_sorted 38 = .ok (.invokevirtual 119, 3) := by decide +kernel
theorem dX11_sorted_41 : decode cX11_sorted 41 = .ok (.ireturn, 1) := by decide +kernel
theorem dX11_relaid_0 : decode cX11_relaid 0 = .ok (.aload_n 0, 1) := by decide +kernel
theorem dX11_relaid_1 : decode cX11_relaid 1 = .ok (.getfield 26, 3) := by decide +kernel
theorem dX11_relaid_4 : decode cX11_relaid 4 = .ok (.iload_n 1, 1) := by decide +kernel
theorem dX11_relaid_5 : decode cX11_relaid 5 = .ok (.invokevirtual 123, 3) := by decide +kernel
theorem dX11_relaid_8 : decode cX11_relaid 8 = .ok (.ifCond .eq 14, 3) := by decide +kernel
theorem dX11_relaid_11 : decode cX11_relaid 11 = .ok (.aload_n 0, 1) := by decide +kernel
theorem dX11_relaid_12 : decode cX11_relaid 12 = .ok (.getfield 26, 3) := by decide +kernel
theorem dX11_relaid_15 : decode cX11_relaid 15 = .ok (.iload_n 2, 1) := by decide +kernel
theorem dX11_relaid_16 : decode cX11_relaid 16 = .ok (.invokevirtual 123, 3) := by decide +kernel
theorem dX11_relaid_19 : decode cX11_relaid 19 = .ok (.ifCond .ne 5, 3) := by decide +kernel
theorem dX11_relaid_22 : decode cX11_relaid 22 = .ok (.iconst (-1), 1) := by decide +kernel
theorem dX11_relaid_23 : decode cX11_relaid 23 = .ok (.ireturn, 1) := by decide +kernel
theorem dX11_relaid_24 : decode cX11_relaid 24 = .ok (.iload_n 1, 1) := by decide +kernel
theorem dX11_relaid_25 : decode cX11_relaid 25 = .ok (.iload_n 2, 1) := by decide +kernel
theorem dX11_relaid_26 : decode cX11_relaid 26 = .ok (.if_icmp .ne 6, 3) := by decide +kernel
theorem dX11_relaid_29 : decode cX11_relaid 29 = .ok (.bipush (-2), 2) := by decide +kernel
theorem dX11_relaid_31 : decode cX11_relaid 31 = .ok (.ireturn, 1) := by decide +kernel
theorem dX11_relaid_32 : decode cX11_relaid 32 = .ok (.aload_n 0, 1) := by decide +kernel
theorem dX11_relaid_33 : decode cX11_relaid 33 = .ok (.getfield 26, 3) := by decide +kernel
theorem dX11_relaid_36 : decode cX11_relaid 36 = .ok (.iconst 1, 1) := by decide +kernel
theorem dX11_relaid_37 : decode cX11_relaid 37 = .ok (.invokevirtual 217, 3) := by decide +kernel
theorem dX11_relaid_40 : decode cX11_relaid 40 = .ok (.istore 4, 2) := by decide +kernel
theorem dX11_relaid_42 : decode cX11_relaid 42 = .ok (.iload_n 3, 1) := by decide +kernel
theorem dX11_relaid_43 : decode cX11_relaid 43 = .ok (.ifCond .eq 15, 3) := by decide +kernel
theorem dX11_relaid_46 : decode cX11_relaid 46 = .ok (.aload_n 0, 1) := by decide +kernel
theorem dX11_relaid_47 : decode cX11_relaid 47 = .ok (.getfield 26, 3) := by decide +kernel
theorem dX11_relaid_50 : decode cX11_relaid 50 = .ok (.iload_n 1, 1) := by decide +kernel
theorem dX11_relaid_51 : decode cX11_relaid 51 = .ok (.iload_n 2, 1) := by decide +kernel
theorem dX11_relaid_52 : decode cX11_relaid 52 = .ok (.invokevirtual 259, 3) := by decide +kernel
theorem dX11_relaid_55 : decode cX11_relaid 55 = .ok (.goto 12, 3) := by decide +kernel
theorem dX11_relaid_58 : decode cX11_relaid 58 = .ok (.aload_n 0, 1) := by decide +kernel
theorem dX11_relaid_59 : decode cX11_relaid 59 = .ok (.getfield 26, 3) := by decide +kernel
theorem dX11_relaid_62 : decode cX11_relaid 62 = .ok (.iload_n 1, 1) := by decide +kernel
theorem dX11_relaid_63 : decode cX11_relaid 63 = .ok (.iload_n 2, 1) := by decide +kernel
theorem dX11_relaid_64 : decode cX11_relaid 64 = .ok (.invokevirtual 272, 3) := by decide +kernel
theorem dX11_relaid_67 : decode cX11_relaid 67 = .ok (.sipush 1000, 3) := by decide +kernel
theorem dX11_relaid_70 : decode cX11_relaid 70 = .ok (.iload 4, 2) := by decide +kernel
theorem dX11_relaid_72 : decode cX11_relaid 72 = .ok (.iadd, 1) := by decide +kernel
theorem dX11_relaid_73 : decode cX11_relaid 73 = .ok (.aload_n 0, 1) := by decide +kernel
theorem dX11_relaid_74 : decode cX11_relaid 74 = .ok (.getfield 26, 3) := by decide +kernel
theorem dX11_relaid_77 : decode cX11_relaid 77 = .ok (.iconst 1, 1) := by decide +kernel
theorem dX11_relaid_78 : decode cX11_relaid 78 = .ok (.invokevirtual 217, 3) := by decide +kernel
theorem dX11_relaid_81 : decode cX11_relaid 81 = .ok (.isub, 1) := by decide +kernel
theorem dX11_relaid_82 : decode cX11_relaid 82 = .ok (.ireturn, 1) := by decide +kernel
theorem dX11_climbed_0 : decode cX11_climbed 0 = .ok (.iload_n 1, 1) := by decide +kernel
theorem dX11_climbed_1 : decode cX11_climbed 1 = .ok (.iconst 1, 1) := by decide +kernel
theorem dX11_climbed_2 : decode cX11_climbed 2 = .ok (.if_icmp .lt 9, 3) := by decide +kernel
theorem dX11_climbed_5 : decode cX11_climbed 5 = .ok (.iload_n 1, 1) := by decide +kernel
theorem dX11_climbed_6 : decode cX11_climbed 6 = .ok (.bipush 20, 2) := by decide +kernel
theorem dX11_climbed_8 : decode cX11_climbed 8 = .ok (.if_icmp .le 5, 3) := by decide +kernel
theorem dX11_climbed_11 : decode cX11_climbed 11 = .ok (.iconst (-1), 1) := by decide +kernel
theorem dX11_climbed_12 : decode cX11_climbed 12 = .ok (.ireturn, 1) := by decide +kernel
theorem dX11_climbed_13 : decode cX11_climbed 13 = .ok (.iconst 0, 1) := by decide +kernel
theorem dX11_climbed_14 : decode cX11_climbed 14 = .ok (.istore_n 2, 1) := by decide +kernel
theorem dX11_climbed_15 : decode cX11_climbed 15 = .ok (.iload_n 2, 1) := by decide +kernel
theorem dX11_climbed_16 : decode cX11_climbed 16 = .ok (.iload_n 1, 1) := by decide +kernel
theorem dX11_climbed_17 : decode cX11_climbed 17 = .ok (.if_icmp .ge 44, 3) := by decide +kernel
theorem dX11_climbed_20 : decode cX11_climbed 20 = .ok (.aload_n 0, 1) := by decide +kernel
theorem dX11_climbed_21 : decode cX11_climbed 21 = .ok (.getfield 61, 3) := by decide +kernel
theorem dX11_climbed_24 : decode cX11_climbed 24 = .ok (.aload_n 0, 1) := by decide +kernel
theorem dX11_climbed_25 : decode cX11_climbed 25 = .ok (.getfield 26, 3) := by decide +kernel
theorem dX11_climbed_28 : decode cX11_climbed 28 = .ok (.invokevirtual 246, 3) := by decide +kernel
theorem dX11_climbed_31 : decode cX11_climbed 31 = .ok (.ifCond .le 30, 3) := by decide +kernel
theorem dX11_climbed_34 : decode cX11_climbed 34 = .ok (.aload_n 0, 1) := by decide +kernel
theorem dX11_climbed_35 : decode cX11_climbed 35 = .ok (.getfield 26, 3) := by decide +kernel
theorem dX11_climbed_38 : decode cX11_climbed 38 = .ok (.aload_n 0, 1) := by decide +kernel
theorem dX11_climbed_39 : decode cX11_climbed 39 = .ok (.getfield 61, 3) := by decide +kernel
theorem dX11_climbed_42 : decode cX11_climbed 42 = .ok (.invokevirtual 249, 3) := by decide +kernel
theorem dX11_climbed_45 : decode cX11_climbed 45 = .ok (.aload_n 0, 1) := by decide +kernel
theorem dX11_climbed_46 : decode cX11_climbed 46 = .ok (.getfield 61, 3) := by decide +kernel
theorem dX11_climbed_49 : decode cX11_climbed 49 = .ok (.invokevirtual 252, 3) := by decide +kernel
theorem dX11_climbed_52 : decode cX11_climbed 52 = .ok (.invokevirtual 272, 3) := by decide +kernel
theorem dX11_climbed_55 : decode cX11_climbed 55 = .ok (.iinc 2 1, 3) := by decide +kernel
theorem dX11_climbed_58 : decode cX11_climbed 58 = .ok (.goto (-43), 3) := by decide +kernel
theorem dX11_climbed_61 : decode cX11_climbed 61 = .ok (.aload_n 0, 1) := by decide +kernel
theorem dX11_climbed_62 : decode cX11_climbed 62 = .ok (.getfield 19, 3) := by decide +kernel
theorem dX11_climbed_65 : decode cX11_climbed 65 = .ok (.aload_n 0, 1) := by decide +kernel
theorem dX11_climbed_66 : decode cX11_climbed 66 = .ok (.getfield 26, 3) := by decide +kernel
theorem dX11_climbed_69 : decode cX11_climbed 69 = .ok (.iconst 1, 1) := by decide +kernel
theorem dX11_climbed_70 : decode cX11_climbed 70 = .ok (.invokevirtual 217, 3) := by decide +kernel
theorem dX11_climbed_73 : decode cX11_climbed 73 = .ok (.i2l, 1) := by decide +kernel
theorem dX11_climbed_74 : decode cX11_climbed 74 = .ok (.invokevirtual 175, 3) := by decide +kernel
theorem dX11_climbed_77 : decode cX11_climbed 77 = .ok (.iload_n 2, 1) := by decide +kernel
theorem dX11_climbed_78 : decode cX11_climbed 78 = .ok (.ireturn, 1) := by decide +kernel
theorem dX11_having_0 : decode cX11_having 0 = .ok (.iload_n 1, 1) := by decide +kernel
theorem dX11_having_1 : decode cX11_having 1 = .ok (.ifCond .lt 10, 3) := by decide +kernel
theorem dX11_having_4 : decode cX11_having 4 = .ok (.iload_n 1, 1) := by decide +kernel
theorem dX11_having_5 : decode cX11_having 5 = .ok (.sipush 255, 3) := by decide +kernel
theorem dX11_having_8 : decode cX11_having 8 = .ok (.if_icmp .le 5, 3) := by decide +kernel
theorem dX11_having_11 : decode cX11_having 11 = .ok (.iconst (-1), 1) := by decide +kernel
theorem dX11_having_12 : decode cX11_having 12 = .ok (.ireturn, 1) := by decide +kernel
theorem dX11_having_13 : decode cX11_having 13 = .ok (.iconst 0, 1) := by decide +kernel
theorem dX11_having_14 : decode cX11_having 14 = .ok (.istore_n 2, 1) := by decide +kernel
theorem dX11_having_15 : decode cX11_having 15 = .ok (.iconst 0, 1) := by decide +kernel
theorem dX11_having_16 : decode cX11_having 16 = .ok (.istore_n 3, 1) := by decide +kernel
theorem dX11_having_17 : decode cX11_having 17 = .ok (.iload_n 3, 1) := by decide +kernel
theorem dX11_having_18 : decode cX11_having 18 = .ok (.aload_n 0, 1) := by decide +kernel
theorem dX11_having_19 : decode cX11_having 19 = .ok (.getfield 26, 3) := by decide +kernel
theorem dX11_having_22 : decode cX11_having 22 = .ok (.invokevirtual 113, 3) := by decide +kernel
theorem dX11_having_25 : decode cX11_having 25 = .ok (.if_icmp .ge 29, 3) := by decide +kernel
theorem dX11_having_28 : decode cX11_having 28 = .ok (.aload_n 0, 1) := by decide +kernel
theorem dX11_having_29 : decode cX11_having 29 = .ok (.getfield 26, 3) := by decide +kernel
theorem dX11_having_32 : decode cX11_having 32 = .ok (.iload_n 3, 1) := by decide +kernel
theorem dX11_having_33 : decode cX11_having 33 = .ok (.invokevirtual 275, 3) := by decide +kernel
theorem dX11_having_36 : decode cX11_having 36 = .ok (.iload_n 1, 1) := by decide +kernel
theorem dX11_having_37 : decode cX11_having 37 = .ok (.iand, 1) := by decide +kernel
theorem dX11_having_38 : decode cX11_having 38 = .ok (.iload_n 1, 1) := by decide +kernel
theorem dX11_having_39 : decode cX11_having 39 = .ok (.if_icmp .ne 9, 3) := by decide +kernel
theorem dX11_having_42 : decode cX11_having 42 = .ok (.iload_n 2, 1) := by decide +kernel
theorem dX11_having_43 : decode cX11_having 43 = .ok (.iconst 1, 1) := by decide +kernel
theorem dX11_having_44 : decode cX11_having 44 = .ok (.iload_n 3, 1) := by decide +kernel
theorem dX11_having_45 : decode cX11_having 45 = .ok (.ishl, 1) := by decide +kernel
theorem dX11_having_46 : decode cX11_having 46 = .ok (.ior, 1) := by decide +kernel
theorem dX11_having_47 : decode cX11_having 47 = .ok (.istore_n 2, 1) := by decide +kernel
theorem dX11_having_48 : decode cX11_having 48 = .ok (.iinc 3 1, 3) := by decide +kernel
theorem dX11_having_51 : decode cX11_having 51 = .ok (.goto (-34), 3) := by decide +kernel
theorem dX11_having_54 : decode cX11_having 54 = .ok (.aload_n 0, 1) := by decide +kernel
theorem dX11_having_55 : decode cX11_having 55 = .ok (.iload_n 2, 1) := by decide +kernel
theorem dX11_having_56 : decode cX11_having 56 = .ok (.invokevirtual 164, 3) := by decide +kernel
theorem dX11_having_59 : decode cX11_having 59 = .ok (.ireturn, 1) := by decide +kernel
theorem dX11_compared_0 : decode cX11_compared 0 = .ok (.iload_n 1, 1) := by decide +kernel
theorem dX11_compared_1 : decode cX11_compared 1 = .ok (.invokestatic 158, 3) := by decide +kernel
theorem dX11_compared_4 : decode cX11_compared 4 = .ok (.ifCond .eq 15, 3) := by decide +kernel
theorem dX11_compared_7 : decode cX11_compared 7 = .ok (.iload_n 2, 1) := by decide +kernel
theorem dX11_compared_8 : decode cX11_compared 8 = .ok (.invokestatic 158, 3) := by decide +kernel
theorem dX11_compared_11 : decode cX11_compared 11 = .ok (.ifCond .eq 8, 3) := by decide +kernel
theorem dX11_compared_14 : decode cX11_compared 14 = .ok (.iload_n 1, 1) := by decide +kernel
theorem dX11_compared_15 : decode cX11_compared 15 = .ok (.iload_n 2, 1) := by decide +kernel
theorem dX11_compared_16 : decode cX11_compared 16 = .ok (.if_icmp .ne 5, 3) := by decide +kernel
theorem dX11_compared_19 : decode cX11_compared 19 = .ok (.iconst (-1), 1) := by decide +kernel
theorem dX11_compared_20 : decode cX11_compared 20 = .ok (.ireturn, 1) := by decide +kernel
theorem dX11_compared_21 : decode cX11_compared 21 = .ok (.aload_n 0, 1) := by decide +kernel
theorem dX11_compared_22 : decode cX11_compared 22 = .ok (.getfield 26, 3) := by decide +kernel
theorem dX11_compared_25 : decode cX11_compared 25 = .ok (.iload_n 1, 1) := by decide +kernel
theorem dX11_compared_26 : decode cX11_compared 26 = .ok (.invokevirtual 161, 3) := by decide +kernel
theorem dX11_compared_29 : decode cX11_compared 29 = .ok (.istore_n 3, 1) := by decide +kernel
theorem dX11_compared_30 : decode cX11_compared 30 = .ok (.aload_n 0, 1) := by decide +kernel
theorem dX11_compared_31 : decode cX11_compared 31 = .ok (.getfield 26, 3) := by decide +kernel
theorem dX11_compared_34 : decode cX11_compared 34 = .ok (.iload_n 2, 1) := by decide +kernel
theorem dX11_compared_35 : decode cX11_compared 35 = .ok (.invokevirtual 161, 3) := by decide +kernel
theorem dX11_compared_38 : decode cX11_compared 38 = .ok (.istore 4, 2) := by decide +kernel
theorem dX11_compared_40 : decode cX11_compared 40 = .ok (.iconst 0, 1) := by decide +kernel
theorem dX11_compared_41 : decode cX11_compared 41 = .ok (.istore 5, 2) := by decide +kernel
theorem dX11_compared_43 : decode cX11_compared 43 = .ok (.iconst 0, 1) := by decide +kernel
theorem dX11_compared_44 : decode cX11_compared 44 = .ok (.istore 6, 2) := by decide +kernel
theorem dX11_compared_46 : decode cX11_compared 46 = .ok (.iconst 0, 1) := by decide +kernel
theorem dX11_compared_47 : decode cX11_compared 47 = .ok (.istore 7, 2) := by decide +kernel
theorem dX11_compared_49 : decode cX11_compared 49 = .ok (.iload 7, 2) := by decide +kernel
theorem dX11_compared_51 : decode cX11_compared 51 = .ok (.bipush 32, 2) := by decide +kernel
theorem dX11_compared_53 : decode cX11_compared 53 = .ok (.if_icmp .ge 79, 3) := by decide +kernel
theorem dX11_compared_56 : decode cX11_compared 56 = .ok (.iload_n 3, 1) := by decide +kernel
theorem dX11_compared_57 : decode cX11_compared 57 = .ok (.ifCond .eq 75, 3) := by decide +kernel
theorem dX11_compared_60 : decode cX11_compared 60 = .ok (.iload 4, 2) := by decide +kernel
theorem dX11_compared_62 : decode cX11_compared 62 = .ok (.ifCond .eq 70, 3) := by decide +kernel
theorem dX11_compared_65 : decode cX11_compared 65 = .ok (.iload_n 3, 1) := by decide +kernel
theorem dX11_compared_66 : decode cX11_compared 66 = .ok (.iload_n 3, 1) := by decide +kernel
theorem dX11_compared_67 : decode cX11_compared 67 = .ok (.ineg, 1) := by decide +kernel
theorem dX11_compared_68 : decode cX11_compared 68 = .ok (.iand, 1) := by decide +kernel
theorem dX11_compared_69 : decode cX11_compared 69 = .ok (.istore 8, 2) := by decide +kernel
theorem dX11_compared_71 : decode cX11_compared 71 = .ok (.iload 4, 2) := by decide +kernel
theorem dX11_compared_73 : decode cX11_compared 73 = .ok (.iload 4, 2) := by decide +kernel
theorem dX11_compared_75 : decode cX11_compared 75 = .ok (.ineg, 1) := by decide +kernel
theorem dX11_compared_76 : decode cX11_compared 76 = .ok (.iand, 1) := by decide +kernel
theorem dX11_compared_77 : decode cX11_compared 77 = .ok (.istore 9, 2) := by decide +kernel
theorem dX11_compared_79 : decode cX11_compared 79 = .ok (.iinc 5 1, 3) := by decide +kernel
theorem dX11_compared_82 : decode cX11_compared 82 = .ok (.iload 8, 2) := by decide +kernel
theorem dX11_compared_84 : decode cX11_compared 84 = .ok (.iload 9, 2) := by decide +kernel
theorem dX11_compared_86 : decode cX11_compared 86 = .ok (.if_icmp .ne 6, 3) := by decide +kernel
theorem dX11_compared_89 : decode cX11_compared 89 = .ok (.iinc 6 1, 3) := by decide +kernel
theorem dX11_compared_92 : decode cX11_compared 92 = .ok (.iload_n 3, 1) := by decide +kernel
theorem dX11_compared_93 : decode cX11_compared 93 = .ok (.iload 8, 2) := by decide +kernel
theorem dX11_compared_95 : decode cX11_compared 95 = .ok (.iload 9, 2) := by decide +kernel
theorem dX11_compared_97 : decode cX11_compared 97 = .ok (.if_icmp .gt 8, 3) := by decide +kernel
theorem dX11_compared_100 : decode cX11_compared 100 = .ok (.iload 8, 2) := by decide +kernel
theorem dX11_compared_102 : decode cX11_compared 102 = .ok (.goto 4, 3) := by decide +kernel
theorem dX11_compared_105 : decode cX11_compared 105 = .ok (.iconst 0, 1) := by decide +kernel
theorem dX11_compared_106 : decode cX11_compared 106 = .ok (.ixor, 1) := by decide +kernel
theorem dX11_compared_107 : decode cX11_compared 107 = .ok (.istore_n 3, 1) := by decide +kernel
theorem dX11_compared_108 : decode cX11_compared 108 = .ok (.iload 4, 2) := by decide +kernel
theorem dX11_compared_110 : decode cX11_compared 110 = .ok (.iload 9, 2) := by decide +kernel
theorem dX11_compared_112 : decode cX11_compared 112 = .ok (.iload 8, 2) := by decide +kernel
theorem dX11_compared_114 : decode cX11_compared 114 = .ok (.if_icmp .gt 8, 3) := by decide +kernel
theorem dX11_compared_117 : decode cX11_compared 117 = .ok (.iload 9, 2) := by decide +kernel
theorem dX11_compared_119 : decode cX11_compared 119 = .ok (.goto 4, 3) := by decide +kernel
theorem dX11_compared_122 : decode cX11_compared 122 = .ok (.iconst 0, 1) := by decide +kernel
theorem dX11_compared_123 : decode cX11_compared 123 = .ok (.ixor, 1) := by decide +kernel
theorem dX11_compared_124 : decode cX11_compared 124 = .ok (.istore 4, 2) := by decide +kernel
theorem dX11_compared_126 : decode cX11_compared 126 = .ok (.iinc 7 1, 3) := by decide +kernel
theorem dX11_compared_129 : decode cX11_compared 129 = .ok (.goto (-80), 3) := by decide +kernel
theorem dX11_compared_132 : decode cX11_compared 132 = .ok (.aload_n 0, 1) := by decide +kernel
theorem dX11_compared_133 : decode cX11_compared 133 = .ok (.getfield 19, 3) := by decide +kernel
theorem dX11_compared_136 : decode cX11_compared 136 = .ok (.iload 6, 2) := by decide +kernel
theorem dX11_compared_138 : decode cX11_compared 138 = .ok (.i2l, 1) := by decide +kernel
theorem dX11_compared_139 : decode cX11_compared 139 = .ok (.invokevirtual 175, 3) := by decide +kernel
theorem dX11_compared_142 : decode cX11_compared 142 = .ok (.iload 5, 2) := by decide +kernel
theorem dX11_compared_144 : decode cX11_compared 144 = .ok (.ireturn, 1) := by decide +kernel
theorem dX11_blocks_0 : decode cX11_blocks 0 = .ok (.iload_n 1, 1) := by decide +kernel
theorem dX11_blocks_1 : decode cX11_blocks 1 = .ok (.invokestatic 158, 3) := by decide +kernel
theorem dX11_blocks_4 : decode cX11_blocks 4 = .ok (.ifCond .eq 14, 3) := by decide +kernel
theorem dX11_blocks_7 : decode cX11_blocks 7 = .ok (.iload_n 2, 1) := by decide +kernel
theorem dX11_blocks_8 : decode cX11_blocks 8 = .ok (.iconst 1, 1) := by decide +kernel
theorem dX11_blocks_9 : decode cX11_blocks 9 = .ok (.if_icmp .lt 9, 3) := by decide +kernel
theorem dX11_blocks_12 : decode cX11_blocks 12 = .ok (.iload_n 2, 1) := by decide +kernel
theorem dX11_blocks_13 : decode cX11_blocks 13 = .ok (.bipush 16, 2) := by decide +kernel
theorem dX11_blocks_15 : decode cX11_blocks 15 = .ok (.if_icmp .le 5, 3) := by decide +kernel
theorem dX11_blocks_18 : decode cX11_blocks 18 = .ok (.iconst (-1), 1) := by decide +kernel
theorem dX11_blocks_19 : decode cX11_blocks 19 = .ok (.ireturn, 1) := by decide +kernel
theorem dX11_blocks_20 : decode cX11_blocks 20 = .ok (.aload_n 0, 1) := by decide +kernel
theorem dX11_blocks_21 : decode cX11_blocks 21 = .ok (.getfield 26, 3) := by decide +kernel
theorem dX11_blocks_24 : decode cX11_blocks 24 = .ok (.iload_n 1, 1) := by decide +kernel
theorem dX11_blocks_25 : decode cX11_blocks 25 = .ok (.invokevirtual 161, 3) := by decide +kernel
theorem dX11_blocks_28 : decode cX11_blocks 28 = .ok (.istore_n 3, 1) := by decide +kernel
theorem dX11_blocks_29 : decode cX11_blocks 29 = .ok (.iconst 0, 1) := by decide +kernel
theorem dX11_blocks_30 : decode cX11_blocks 30 = .ok (.istore 4, 2) := by decide +kernel
theorem dX11_blocks_32 : decode cX11_blocks 32 = .ok (.iconst 0, 1) := by decide +kernel
theorem dX11_blocks_33 : decode cX11_blocks 33 = .ok (.istore 5, 2) := by decide +kernel
theorem dX11_blocks_35 : decode cX11_blocks 35 = .ok (.iconst 0, 1) := by decide +kernel
theorem dX11_blocks_36 : decode cX11_blocks 36 = .ok (.istore 6, 2) := by decide +kernel
theorem dX11_blocks_38 : decode cX11_blocks 38 = .ok (.iload 6, 2) := by decide +kernel
theorem dX11_blocks_40 : decode cX11_blocks 40 = .ok (.bipush 16, 2) := by decide +kernel
theorem dX11_blocks_42 : decode cX11_blocks 42 = .ok (.if_icmp .ge 44, 3) := by decide +kernel
theorem dX11_blocks_45 : decode cX11_blocks 45 = .ok (.iload_n 3, 1) := by decide +kernel
theorem dX11_blocks_46 : decode cX11_blocks 46 = .ok (.iload 6, 2) := by decide +kernel
theorem dX11_blocks_48 : decode cX11_blocks 48 = .ok (.ishr, 1) := by decide +kernel
theorem dX11_blocks_49 : decode cX11_blocks 49 = .ok (.iconst 1, 1) := by decide +kernel
theorem dX11_blocks_50 : decode cX11_blocks 50 = .ok (.iload_n 2, 1) := by decide +kernel
theorem dX11_blocks_51 : decode cX11_blocks 51 = .ok (.ishl, 1) := by decide +kernel
theorem dX11_blocks_52 : decode cX11_blocks 52 = .ok (.iconst 1, 1) := by decide +kernel
theorem dX11_blocks_53 : decode cX11_blocks 53 = .ok (.isub, 1) := by decide +kernel
theorem dX11_blocks_54 : decode cX11_blocks 54 = .ok (.iand, 1) := by decide +kernel
theorem dX11_blocks_55 : decode cX11_blocks 55 = .ok (.invokestatic 140, 3) := by decide +kernel
theorem dX11_blocks_58 : decode cX11_blocks 58 = .ok (.istore 7, 2) := by decide +kernel
theorem dX11_blocks_60 : decode cX11_blocks 60 = .ok (.iload 7, 2) := by decide +kernel
theorem dX11_blocks_62 : decode cX11_blocks 62 = .ok (.ifCond .le 6, 3) := by decide +kernel
theorem dX11_blocks_65 : decode cX11_blocks 65 = .ok (.iinc 4 1, 3) := by decide +kernel
theorem dX11_blocks_68 : decode cX11_blocks 68 = .ok (.iload 5, 2) := by decide +kernel
theorem dX11_blocks_70 : decode cX11_blocks 70 = .ok (.iload 7, 2) := by decide +kernel
theorem dX11_blocks_72 : decode cX11_blocks 72 = .ok (.invokestatic 278, 3) := by decide +kernel
theorem dX11_blocks_75 : decode cX11_blocks 75 = .ok (.istore 5, 2) := by decide +kernel
theorem dX11_blocks_77 : decode cX11_blocks 77 = .ok (.iload 6, 2) := by decide +kernel
theorem dX11_blocks_79 : decode cX11_blocks 79 = .ok (.iload_n 2, 1) := by decide +kernel
theorem dX11_blocks_80 : decode cX11_blocks 80 = .ok (.iadd, 1) := by decide +kernel
theorem dX11_blocks_81 : decode cX11_blocks 81 = .ok (.istore 6, 2) := by decide +kernel
theorem dX11_blocks_83 : decode cX11_blocks 83 = .ok (.goto (-45), 3) := by decide +kernel
theorem dX11_blocks_86 : decode cX11_blocks 86 = .ok (.aload_n 0, 1) := by decide +kernel
theorem dX11_blocks_87 : decode cX11_blocks 87 = .ok (.getfield 19, 3) := by decide +kernel
theorem dX11_blocks_90 : decode cX11_blocks 90 = .ok (.iload 5, 2) := by decide +kernel
theorem dX11_blocks_92 : decode cX11_blocks 92 = .ok (.i2l, 1) := by decide +kernel
theorem dX11_blocks_93 : decode cX11_blocks 93 = .ok (.invokevirtual 175, 3) := by decide +kernel
theorem dX11_blocks_96 : decode cX11_blocks 96 = .ok (.iload 4, 2) := by decide +kernel
theorem dX11_blocks_98 : decode cX11_blocks 98 = .ok (.ireturn, 1) := by decide +kernel
theorem dX11_runs_0 : decode cX11_runs 0 = .ok (.iload_n 1, 1) := by decide +kernel
theorem dX11_runs_1 : decode cX11_runs 1 = .ok (.invokestatic 158, 3) := by decide +kernel
theorem dX11_runs_4 : decode cX11_runs 4 = .ok (.ifCond .ne 5, 3) := by decide +kernel
theorem dX11_runs_7 : decode cX11_runs 7 = .ok (.iconst (-1), 1) := by decide +kernel
theorem dX11_runs_8 : decode cX11_runs 8 = .ok (.ireturn, 1) := by decide +kernel
theorem dX11_runs_9 : decode cX11_runs 9 = .ok (.aload_n 0, 1) := by decide +kernel
theorem dX11_runs_10 : decode cX11_runs 10 = .ok (.getfield 26, 3) := by decide +kernel
theorem dX11_runs_13 : decode cX11_runs 13 = .ok (.iload_n 1, 1) := by decide +kernel
theorem dX11_runs_14 : decode cX11_runs 14 = .ok (.invokevirtual 161, 3) := by decide +kernel
theorem dX11_runs_17 : decode cX11_runs 17 = .ok (.istore_n 2, 1) := by decide +kernel
theorem dX11_runs_18 : decode cX11_runs 18 = .ok (.iconst 0, 1) := by decide +kernel
theorem dX11_runs_19 : decode cX11_runs 19 = .ok (.istore_n 3, 1) := by decide +kernel
theorem dX11_runs_20 : decode cX11_runs 20 = .ok (.iload_n 2, 1) := by decide +kernel
theorem dX11_runs_21 : decode cX11_runs 21 = .ok (.istore 4, 2) := by decide +kernel
theorem dX11_runs_23 : decode cX11_runs 23 = .ok (.iload 4, 2) := by decide +kernel
theorem dX11_runs_25 : decode cX11_runs 25 = .ok (.ifCond .eq 24, 3) := by decide +kernel
theorem dX11_runs_28 : decode cX11_runs 28 = .ok (.iload_n 3, 1) := by decide +kernel
theorem dX11_runs_29 : decode cX11_runs 29 = .ok (.bipush 16, 2) := by decide +kernel
theorem dX11_runs_31 : decode cX11_runs 31 = .ok (.if_icmp .ge 18, 3) := by decide +kernel
theorem dX11_runs_34 : decode cX11_runs 34 = .ok (.iinc 3 1, 3) := by decide +kernel
theorem dX11_runs_37 : decode cX11_runs 37 = .ok (.iload 4, 2) := by decide +kernel
theorem dX11_runs_39 : decode cX11_runs 39 = .ok (.iload 4, 2) := by decide +kernel
theorem dX11_runs_41 : decode cX11_runs 41 = .ok (.iconst 1, 1) := by decide +kernel
theorem dX11_runs_42 : decode cX11_runs 42 = .ok (.ishl, 1) := by decide +kernel
theorem dX11_runs_43 : decode cX11_runs 43 = .ok (.iand, 1) := by decide +kernel
theorem dX11_runs_44 : decode cX11_runs 44 = .ok (.istore 4, 2) := by decide +kernel
theorem dX11_runs_46 : decode cX11_runs 46 = .ok (.goto (-23), 3) := by decide +kernel
theorem dX11_runs_49 : decode cX11_runs 49 = .ok (.aload_n 0, 1) := by decide +kernel
theorem dX11_runs_50 : decode cX11_runs 50 = .ok (.getfield 19, 3) := by decide +kernel
theorem dX11_runs_53 : decode cX11_runs 53 = .ok (.iload_n 3, 1) := by decide +kernel
theorem dX11_runs_54 : decode cX11_runs 54 = .ok (.i2l, 1) := by decide +kernel
theorem dX11_runs_55 : decode cX11_runs 55 = .ok (.invokevirtual 175, 3) := by decide +kernel
theorem dX11_runs_58 : decode cX11_runs 58 = .ok (.iload_n 2, 1) := by decide +kernel
theorem dX11_runs_59 : decode cX11_runs 59 = .ok (.iload_n 2, 1) := by decide +kernel
theorem dX11_runs_60 : decode cX11_runs 60 = .ok (.iconst 1, 1) := by decide +kernel
theorem dX11_runs_61 : decode cX11_runs 61 = .ok (.ishl, 1) := by decide +kernel
theorem dX11_runs_62 : decode cX11_runs 62 = .ok (.iconst (-1), 1) := by decide +kernel
theorem dX11_runs_63 : decode cX11_runs 63 = .ok (.ixor, 1) := by decide +kernel
theorem dX11_runs_64 : decode cX11_runs 64 = .ok (.iand, 1) := by decide +kernel
theorem dX11_runs_65 : decode cX11_runs 65 = .ok (.invokestatic 140, 3) := by decide +kernel
theorem dX11_runs_68 : decode cX11_runs 68 = .ok (.ireturn, 1) := by decide +kernel
theorem dX11_likeness_0 : decode cX11_likeness 0 = .ok (.aload_n 0, 1) := by decide +kernel
theorem dX11_likeness_1 : decode cX11_likeness 1 = .ok (.getfield 26, 3) := by decide +kernel
theorem dX11_likeness_4 : decode cX11_likeness 4 = .ok (.invokevirtual 113, 3) := by decide +kernel
theorem dX11_likeness_7 : decode cX11_likeness 7 = .ok (.iconst 2, 1) := by decide +kernel
theorem dX11_likeness_8 : decode cX11_likeness 8 = .ok (.if_icmp .ge 6, 3) := by decide +kernel
theorem dX11_likeness_11 : decode cX11_likeness 11 = .ok (.bipush (-2), 2) := by decide +kernel
theorem dX11_likeness_13 : decode cX11_likeness 13 = .ok (.ireturn, 1) := by decide +kernel
theorem dX11_likeness_14 : decode cX11_likeness 14 = .ok (.iconst 0, 1) := by decide +kernel
theorem dX11_likeness_15 : decode cX11_likeness 15 = .ok (.istore_n 1, 1) := by decide +kernel
theorem dX11_likeness_16 : decode cX11_likeness 16 = .ok (.iconst 0, 1) := by decide +kernel
theorem dX11_likeness_17 : decode cX11_likeness 17 = .ok (.istore_n 2, 1) := by decide +kernel
theorem dX11_likeness_18 : decode cX11_likeness 18 = .ok (.aload_n 0, 1) := by decide +kernel
theorem dX11_likeness_19 : decode cX11_likeness 19 = .ok (.getfield 26, 3) := by decide +kernel
theorem dX11_likeness_22 : decode cX11_likeness 22 = .ok (.iconst 0, 1) := by decide +kernel
theorem dX11_likeness_23 : decode cX11_likeness 23 = .ok (.invokevirtual 275, 3) := by decide +kernel
theorem dX11_likeness_26 : decode cX11_likeness 26 = .ok (.aload_n 0, 1) := by decide +kernel
theorem dX11_likeness_27 : decode cX11_likeness 27 = .ok (.getfield 26, 3) := by decide +kernel
theorem dX11_likeness_30 : decode cX11_likeness 30 = .ok (.iconst 1, 1) := by decide +kernel
theorem dX11_likeness_31 : decode cX11_likeness 31 = .ok (.invokevirtual 275, 3) := by decide +kernel
theorem dX11_likeness_34 : decode cX11_likeness 34 = .ok (.invokestatic 283, 3) := by decide +kernel
theorem dX11_likeness_37 : decode cX11_likeness 37 = .ok (.istore_n 3, 1) := by decide +kernel
theorem dX11_likeness_38 : decode cX11_likeness 38 = .ok (.iconst 0, 1) := by decide +kernel
theorem dX11_likeness_39 : decode cX11_likeness 39 = .ok (.istore 4, 2) := by decide +kernel
theorem dX11_likeness_41 : decode cX11_likeness 41 = .ok (.iload 4, 2) := by decide +kernel
theorem dX11_likeness_43 : decode cX11_likeness 43 = .ok (.iconst 1, 1) := by decide +kernel
theorem dX11_likeness_44 : decode cX11_likeness 44 = .ok (.iadd, 1) := by decide +kernel
theorem dX11_likeness_45 : decode cX11_likeness 45 = .ok (.aload_n 0, 1) := by decide +kernel
theorem dX11_likeness_46 : decode cX11_likeness 46 = .ok (.getfield 26, 3) := by decide +kernel
theorem dX11_likeness_49 : decode cX11_likeness 49 = .ok (.invokevirtual 113, 3) := by decide +kernel
theorem dX11_likeness_52 : decode cX11_likeness 52 = .ok (.if_icmp .ge 51, 3) := by decide +kernel
theorem dX11_likeness_55 : decode cX11_likeness 55 = .ok (.aload_n 0, 1) := by decide +kernel
theorem dX11_likeness_56 : decode cX11_likeness 56 = .ok (.getfield 26, 3) := by decide +kernel
theorem dX11_likeness_59 : decode cX11_likeness 59 = .ok (.iload 4, 2) := by decide +kernel
theorem dX11_likeness_61 : decode cX11_likeness 61 = .ok (.invokevirtual 275, 3) := by decide +kernel
theorem dX11_likeness_64 : decode cX11_likeness 64 = .ok (.aload_n 0, 1) := by decide +kernel
theorem dX11_likeness_65 : decode cX11_likeness 65 = .ok (.getfield 26, 3) := by decide +kernel
theorem dX11_likeness_68 : decode cX11_likeness 68 = .ok (.iload 4, 2) := by decide +kernel
theorem dX11_likeness_70 : decode cX11_likeness 70 = .ok (.iconst 1, 1) := by decide +kernel
theorem dX11_likeness_71 : decode cX11_likeness 71 = .ok (.iadd, 1) := by decide +kernel
theorem dX11_likeness_72 : decode cX11_likeness 72 = .ok (.invokevirtual 275, 3) := by decide +kernel
theorem dX11_likeness_75 : decode cX11_likeness 75 = .ok (.invokestatic 283, 3) := by decide +kernel
theorem dX11_likeness_78 : decode cX11_likeness 78 = .ok (.istore 5, 2) := by decide +kernel
theorem dX11_likeness_80 : decode cX11_likeness 80 = .ok (.iload_n 1, 1) := by decide +kernel
theorem dX11_likeness_81 : decode cX11_likeness 81 = .ok (.iload 5, 2) := by decide +kernel
theorem dX11_likeness_83 : decode cX11_likeness 83 = .ok (.iadd, 1) := by decide +kernel
theorem dX11_likeness_84 : decode cX11_likeness 84 = .ok (.istore_n 1, 1) := by decide +kernel
theorem dX11_likeness_85 : decode cX11_likeness 85 = .ok (.iload 5, 2) := by decide +kernel
theorem dX11_likeness_87 : decode cX11_likeness 87 = .ok (.iload_n 3, 1) := by decide +kernel
theorem dX11_likeness_88 : decode cX11_likeness 88 = .ok (.if_icmp .ge 9, 3) := by decide +kernel
theorem dX11_likeness_91 : decode cX11_likeness 91 = .ok (.iload 5, 2) := by decide +kernel
theorem dX11_likeness_93 : decode cX11_likeness 93 = .ok (.istore_n 3, 1) := by decide +kernel
theorem dX11_likeness_94 : decode cX11_likeness 94 = .ok (.iload 4, 2) := by decide +kernel
theorem dX11_likeness_96 : decode cX11_likeness 96 = .ok (.istore_n 2, 1) := by decide +kernel
theorem dX11_likeness_97 : decode cX11_likeness 97 = .ok (.iinc 4 1, 3) := by decide +kernel
theorem dX11_likeness_100 : decode cX11_likeness 100 = .ok (.goto (-59), 3) := by decide +kernel
theorem dX11_likeness_103 : decode cX11_likeness 103 = .ok (.aload_n 0, 1) := by decide +kernel
theorem dX11_likeness_104 : decode cX11_likeness 104 = .ok (.getfield 19, 3) := by decide +kernel
theorem dX11_likeness_107 : decode cX11_likeness 107 = .ok (.iload_n 3, 1) := by decide +kernel
theorem dX11_likeness_108 : decode cX11_likeness 108 = .ok (.i2l, 1) := by decide +kernel
theorem dX11_likeness_109 : decode cX11_likeness 109 = .ok (.iload_n 2, 1) := by decide +kernel
theorem dX11_likeness_110 : decode cX11_likeness 110 = .ok (.i2l, 1) := by decide +kernel
theorem dX11_likeness_111 : decode cX11_likeness 111 = .ok (.invokevirtual 255, 3) := by decide +kernel
theorem dX11_likeness_114 : decode cX11_likeness 114 = .ok (.sipush 1000, 3) := by decide +kernel
theorem dX11_likeness_117 : decode cX11_likeness 117 = .ok (.iload_n 1, 1) := by decide +kernel
theorem dX11_likeness_118 : decode cX11_likeness 118 = .ok (.iadd, 1) := by decide +kernel
theorem dX11_likeness_119 : decode cX11_likeness 119 = .ok (.ireturn, 1) := by decide +kernel
theorem dX11_nearest_0 : decode cX11_nearest 0 = .ok (.aload_n 0, 1) := by decide +kernel
theorem dX11_nearest_1 : decode cX11_nearest 1 = .ok (.getfield 26, 3) := by decide +kernel
theorem dX11_nearest_4 : decode cX11_nearest 4 = .ok (.iload_n 1, 1) := by decide +kernel
theorem dX11_nearest_5 : decode cX11_nearest 5 = .ok (.invokevirtual 123, 3) := by decide +kernel
theorem dX11_nearest_8 : decode cX11_nearest 8 = .ok (.ifCond .ne 5, 3) := by decide +kernel
theorem dX11_nearest_11 : decode cX11_nearest 11 = .ok (.iconst (-1), 1) := by decide +kernel
theorem dX11_nearest_12 : decode cX11_nearest 12 = .ok (.ireturn, 1) := by decide +kernel
theorem dX11_nearest_13 : decode cX11_nearest 13 = .ok (.aload_n 0, 1) := by decide +kernel
theorem dX11_nearest_14 : decode cX11_nearest 14 = .ok (.getfield 26, 3) := by decide +kernel
theorem dX11_nearest_17 : decode cX11_nearest 17 = .ok (.invokevirtual 113, 3) := by decide +kernel
theorem dX11_nearest_20 : decode cX11_nearest 20 = .ok (.iconst 2, 1) := by decide +kernel
theorem dX11_nearest_21 : decode cX11_nearest 21 = .ok (.if_icmp .ge 6, 3) := by decide +kernel
theorem dX11_nearest_24 : decode cX11_nearest 24 = .ok (.bipush (-2), 2) := by decide +kernel
theorem dX11_nearest_26 : decode cX11_nearest 26 = .ok (.ireturn, 1) := by decide +kernel
theorem dX11_nearest_27 : decode cX11_nearest 27 = .ok (.iconst (-1), 1) := by decide +kernel
theorem dX11_nearest_28 : decode cX11_nearest 28 = .ok (.istore_n 2, 1) := by decide +kernel
theorem dX11_nearest_29 : decode cX11_nearest 29 = .ok (.iconst 0, 1) := by decide +kernel
theorem dX11_nearest_30 : decode cX11_nearest 30 = .ok (.istore_n 3, 1) := by decide +kernel
theorem dX11_nearest_31 : decode cX11_nearest 31 = .ok (.iconst 0, 1) := by decide +kernel
theorem dX11_nearest_32 : decode cX11_nearest 32 = .ok (.istore 4, 2) := by decide +kernel
theorem dX11_nearest_34 : decode cX11_nearest 34 = .ok (.iload 4, 2) := by decide +kernel
theorem dX11_nearest_36 : decode cX11_nearest 36 = .ok (.aload_n 0, 1) := by decide +kernel
theorem dX11_nearest_37 : decode cX11_nearest 37 = .ok (.getfield 26, 3) := by decide +kernel
theorem dX11_nearest_40 : decode cX11_nearest 40 = .ok (.invokevirtual 113, 3) := by decide +kernel
theorem dX11_nearest_43 : decode cX11_nearest 43 = .ok (.if_icmp .ge 54, 3) := by decide +kernel
theorem dX11_nearest_46 : decode cX11_nearest 46 = .ok (.aload_n 0, 1) := by decide +kernel
theorem dX11_nearest_47 : decode cX11_nearest 47 = .ok (.getfield 26, 3) := by decide +kernel
theorem dX11_nearest_50 : decode cX11_nearest 50 = .ok (.iload_n 1, 1) := by decide +kernel
theorem dX11_nearest_51 : decode cX11_nearest 51 = .ok (.invokevirtual 137, 3) := by decide +kernel
theorem dX11_nearest_54 : decode cX11_nearest 54 = .ok (.aload_n 0, 1) := by decide +kernel
theorem dX11_nearest_55 : decode cX11_nearest 55 = .ok (.getfield 26, 3) := by decide +kernel
theorem dX11_nearest_58 : decode cX11_nearest 58 = .ok (.iload 4, 2) := by decide +kernel
theorem dX11_nearest_60 : decode cX11_nearest 60 = .ok (.invokevirtual 137, 3) := by decide +kernel
theorem dX11_nearest_63 : decode cX11_nearest 63 = .ok (.invokestatic 283, 3) := by decide +kernel
theorem dX11_nearest_66 : decode cX11_nearest 66 = .ok (.istore 5, 2) := by decide +kernel
theorem dX11_nearest_68 : decode cX11_nearest 68 = .ok (.iload 4, 2) := by decide +kernel
theorem dX11_nearest_70 : decode cX11_nearest 70 = .ok (.iload_n 1, 1) := by decide +kernel
theorem dX11_nearest_71 : decode cX11_nearest 71 = .ok (.if_icmp .eq 20, 3) := by decide +kernel
theorem dX11_nearest_74 : decode cX11_nearest 74 = .ok (.iload_n 2, 1) := by decide +kernel
theorem dX11_nearest_75 : decode cX11_nearest 75 = .ok (.iconst (-1), 1) := by decide +kernel
theorem dX11_nearest_76 : decode cX11_nearest 76 = .ok (.if_icmp .eq 9, 3) := by decide +kernel
theorem dX11_nearest_79 : decode cX11_nearest 79 = .ok (.iload 5, 2) := by decide +kernel
theorem dX11_nearest_81 : decode cX11_nearest 81 = .ok (.iload_n 3, 1) := by decide +kernel
theorem dX11_nearest_82 : decode cX11_nearest 82 = .ok (.if_icmp .le 9, 3) := by decide +kernel
theorem dX11_nearest_85 : decode cX11_nearest 85 = .ok (.iload 4, 2) := by decide +kernel
theorem dX11_nearest_87 : decode cX11_nearest 87 = .ok (.istore_n 2, 1) := by decide +kernel
theorem dX11_nearest_88 : decode cX11_nearest 88 = .ok (.iload 5, 2) := by decide +kernel
theorem dX11_nearest_90 : decode cX11_nearest 90 = .ok (.istore_n 3, 1) := by decide +kernel
theorem dX11_nearest_91 : decode cX11_nearest 91 = .ok (.iinc 4 1, 3) := by decide +kernel
theorem dX11_nearest_94 : decode cX11_nearest 94 = .ok (.goto (-60), 3) := by decide +kernel
theorem dX11_nearest_97 : decode cX11_nearest 97 = .ok (.aload_n 0, 1) := by decide +kernel
theorem dX11_nearest_98 : decode cX11_nearest 98 = .ok (.getfield 19, 3) := by decide +kernel
theorem dX11_nearest_101 : decode cX11_nearest 101 = .ok (.sipush 1000, 3) := by decide +kernel
theorem dX11_nearest_104 : decode cX11_nearest 104 = .ok (.iload_n 3, 1) := by decide +kernel
theorem dX11_nearest_105 : decode cX11_nearest 105 = .ok (.iadd, 1) := by decide +kernel
theorem dX11_nearest_106 : decode cX11_nearest 106 = .ok (.i2l, 1) := by decide +kernel
theorem dX11_nearest_107 : decode cX11_nearest 107 = .ok (.invokevirtual 175, 3) := by decide +kernel
theorem dX11_nearest_110 : decode cX11_nearest 110 = .ok (.iload_n 2, 1) := by decide +kernel
theorem dX11_nearest_111 : decode cX11_nearest 111 = .ok (.ireturn, 1) := by decide +kernel
theorem dX11_heard_0 : decode cX11_heard 0 = .ok (.aload_n 0, 1) := by decide +kernel
theorem dX11_heard_1 : decode cX11_heard 1 = .ok (.getfield 82, 3) := by decide +kernel
theorem dX11_heard_4 : decode cX11_heard 4 = .ok (.iload_n 1, 1) := by decide +kernel
theorem dX11_heard_5 : decode cX11_heard 5 = .ok (.iload_n 2, 1) := by decide +kernel
theorem dX11_heard_6 : decode cX11_heard 6 = .ok (.iload_n 3, 1) := by decide +kernel
theorem dX11_heard_7 : decode cX11_heard 7 = .ok (.invokevirtual 286, 3) := by decide +kernel
theorem dX11_heard_10 : decode cX11_heard 10 = .ok (.ifCond .eq 13, 3) := by decide +kernel
theorem dX11_heard_13 : decode cX11_heard 13 = .ok (.aload_n 0, 1) := by decide +kernel
theorem dX11_heard_14 : decode cX11_heard 14 = .ok (.getfield 82, 3) := by decide +kernel
theorem dX11_heard_17 : decode cX11_heard 17 = .ok (.invokevirtual 289, 3) := by decide +kernel
theorem dX11_heard_20 : decode cX11_heard 20 = .ok (.goto 4, 3) := by decide +kernel
theorem dX11_heard_23 : decode cX11_heard 23 = .ok (.iconst (-1), 1) := by decide +kernel
theorem dX11_heard_24 : decode cX11_heard 24 = .ok (.ireturn, 1) := by decide +kernel
theorem dX11_forget_0 : decode cX11_forget 0 = .ok (.aload_n 0, 1) := by decide +kernel
theorem dX11_forget_1 : decode cX11_forget 1 = .ok (.getfield 82, 3) := by decide +kernel
theorem dX11_forget_4 : decode cX11_forget 4 = .ok (.invokevirtual 289, 3) := by decide +kernel
theorem dX11_forget_7 : decode cX11_forget 7 = .ok (.istore_n 1, 1) := by decide +kernel
theorem dX11_forget_8 : decode cX11_forget 8 = .ok (.aload_n 0, 1) := by decide +kernel
theorem dX11_forget_9 : decode cX11_forget 9 = .ok (.getfield 82, 3) := by decide +kernel
theorem dX11_forget_12 : decode cX11_forget 12 = .ok (.invokevirtual 290, 3) := by decide +kernel
theorem dX11_forget_15 : decode cX11_forget 15 = .ok (.iload_n 1, 1) := by decide +kernel
theorem dX11_forget_16 : decode cX11_forget 16 = .ok (.ireturn, 1) := by decide +kernel
theorem dX11_fits_0 : decode cX11_fits 0 = .ok (.aload_n 0, 1) := by decide +kernel
theorem dX11_fits_1 : decode cX11_fits 1 = .ok (.getfield 82, 3) := by decide +kernel
theorem dX11_fits_4 : decode cX11_fits 4 = .ok (.aload_n 0, 1) := by decide +kernel
theorem dX11_fits_5 : decode cX11_fits 5 = .ok (.getfield 26, 3) := by decide +kernel
theorem dX11_fits_8 : decode cX11_fits 8 = .ok (.invokevirtual 291, 3) := by decide +kernel
theorem dX11_fits_11 : decode cX11_fits 11 = .ok (.istore_n 1, 1) := by decide +kernel
theorem dX11_fits_12 : decode cX11_fits 12 = .ok (.aload_n 0, 1) := by decide +kernel
theorem dX11_fits_13 : decode cX11_fits 13 = .ok (.getfield 19, 3) := by decide +kernel
theorem dX11_fits_16 : decode cX11_fits 16 = .ok (.iload_n 1, 1) := by decide +kernel
theorem dX11_fits_17 : decode cX11_fits 17 = .ok (.invokestatic 140, 3) := by decide +kernel
theorem dX11_fits_20 : decode cX11_fits 20 = .ok (.i2l, 1) := by decide +kernel
theorem dX11_fits_21 : decode cX11_fits 21 = .ok (.invokevirtual 175, 3) := by decide +kernel
theorem dX11_fits_24 : decode cX11_fits 24 = .ok (.iload_n 1, 1) := by decide +kernel
theorem dX11_fits_25 : decode cX11_fits 25 = .ok (.ireturn, 1) := by decide +kernel
theorem dX11_asks_0 : decode cX11_asks 0 = .ok (.aload_n 0, 1) := by decide +kernel
theorem dX11_asks_1 : decode cX11_asks 1 = .ok (.getfield 82, 3) := by decide +kernel
theorem dX11_asks_4 : decode cX11_asks 4 = .ok (.aload_n 0, 1) := by decide +kernel
theorem dX11_asks_5 : decode cX11_asks 5 = .ok (.getfield 26, 3) := by decide +kernel
theorem dX11_asks_8 : decode cX11_asks 8 = .ok (.invokevirtual 291, 3) := by decide +kernel
theorem dX11_asks_11 : decode cX11_asks 11 = .ok (.istore_n 1, 1) := by decide +kernel
theorem dX11_asks_12 : decode cX11_asks 12 = .ok (.iload_n 1, 1) := by decide +kernel
theorem dX11_asks_13 : decode cX11_asks 13 = .ok (.ifCond .ne 6, 3) := by decide +kernel
theorem dX11_asks_16 : decode cX11_asks 16 = .ok (.bipush (-2), 2) := by decide +kernel
theorem dX11_asks_18 : decode cX11_asks 18 = .ok (.ireturn, 1) := by decide +kernel
theorem dX11_asks_19 : decode cX11_asks 19 = .ok (.iconst 0, 1) := by decide +kernel
theorem dX11_asks_20 : decode cX11_asks 20 = .ok (.istore_n 2, 1) := by decide +kernel
theorem dX11_asks_21 : decode cX11_asks 21 = .ok (.bipush 17, 2) := by decide +kernel
theorem dX11_asks_23 : decode cX11_asks 23 = .ok (.istore_n 3, 1) := by decide +kernel
theorem dX11_asks_24 : decode cX11_asks 24 = .ok (.iconst 0, 1) := by decide +kernel
theorem dX11_asks_25 : decode cX11_asks 25 = .ok (.istore 4, 2) := by decide +kernel
theorem dX11_asks_27 : decode cX11_asks 27 = .ok (.iload 4, 2) := by decide +kernel
theorem dX11_asks_29 : decode cX11_asks 29 = .ok (.bipush 8, 2) := by decide +kernel
theorem dX11_asks_31 : decode cX11_asks 31 = .ok (.if_icmp .ge 51, 3) := by decide +kernel
theorem dX11_asks_34 : decode cX11_asks 34 = .ok (.iload_n 1, 1) := by decide +kernel
theorem dX11_asks_35 : decode cX11_asks 35 = .ok (.aload_n 0, 1) := by decide +kernel
theorem dX11_asks_36 : decode cX11_asks 36 = .ok (.getfield 26, 3) := by decide +kernel
theorem dX11_asks_39 : decode cX11_asks 39 = .ok (.iload 4, 2) := by decide +kernel
theorem dX11_asks_41 : decode cX11_asks 41 = .ok (.invokevirtual 294, 3) := by decide +kernel
theorem dX11_asks_44 : decode cX11_asks 44 = .ok (.iand, 1) := by decide +kernel
theorem dX11_asks_45 : decode cX11_asks 45 = .ok (.invokestatic 140, 3) := by decide +kernel
theorem dX11_asks_48 : decode cX11_asks 48 = .ok (.istore 5, 2) := by decide +kernel
theorem dX11_asks_50 : decode cX11_asks 50 = .ok (.iload 5, 2) := by decide +kernel
theorem dX11_asks_52 : decode cX11_asks 52 = .ok (.iload_n 1, 1) := by decide +kernel
theorem dX11_asks_53 : decode cX11_asks 53 = .ok (.invokestatic 140, 3) := by decide +kernel
theorem dX11_asks_56 : decode cX11_asks 56 = .ok (.iload 5, 2) := by decide +kernel
theorem dX11_asks_58 : decode cX11_asks 58 = .ok (.isub, 1) := by decide +kernel
theorem dX11_asks_59 : decode cX11_asks 59 = .ok (.invokestatic 278, 3) := by decide +kernel
theorem dX11_asks_62 : decode cX11_asks 62 = .ok (.istore 6, 2) := by decide +kernel
theorem dX11_asks_64 : decode cX11_asks 64 = .ok (.iload 6, 2) := by decide +kernel
theorem dX11_asks_66 : decode cX11_asks 66 = .ok (.iload_n 3, 1) := by decide +kernel
theorem dX11_asks_67 : decode cX11_asks 67 = .ok (.if_icmp .ge 9, 3) := by decide +kernel
theorem dX11_asks_70 : decode cX11_asks 70 = .ok (.iload 6, 2) := by decide +kernel
theorem dX11_asks_72 : decode cX11_asks 72 = .ok (.istore_n 3, 1) := by decide +kernel
theorem dX11_asks_73 : decode cX11_asks 73 = .ok (.iload 4, 2) := by decide +kernel
theorem dX11_asks_75 : decode cX11_asks 75 = .ok (.istore_n 2, 1) := by decide +kernel
theorem dX11_asks_76 : decode cX11_asks 76 = .ok (.iinc 4 1, 3) := by decide +kernel
theorem dX11_asks_79 : decode cX11_asks 79 = .ok (.goto (-52), 3) := by decide +kernel
theorem dX11_asks_82 : decode cX11_asks 82 = .ok (.aload_n 0, 1) := by decide +kernel
theorem dX11_asks_83 : decode cX11_asks 83 = .ok (.getfield 19, 3) := by decide +kernel
theorem dX11_asks_86 : decode cX11_asks 86 = .ok (.iload_n 3, 1) := by decide +kernel
theorem dX11_asks_87 : decode cX11_asks 87 = .ok (.i2l, 1) := by decide +kernel
theorem dX11_asks_88 : decode cX11_asks 88 = .ok (.invokevirtual 175, 3) := by decide +kernel
theorem dX11_asks_91 : decode cX11_asks 91 = .ok (.iload_n 2, 1) := by decide +kernel
theorem dX11_asks_92 : decode cX11_asks 92 = .ok (.ireturn, 1) := by decide +kernel
theorem dX11_day_0 : decode cX11_day 0 = .ok (.aload_n 0, 1) := by decide +kernel
theorem dX11_day_1 : decode cX11_day 1 = .ok (.getfield 10, 3) := by decide +kernel
theorem dX11_day_4 : decode cX11_day 4 = .ok (.invokestatic 297, 3) := by decide +kernel
theorem dX11_day_7 : decode cX11_day 7 = .ok (.istore_n 1, 1) := by decide +kernel
theorem dX11_day_8 : decode cX11_day 8 = .ok (.iload_n 1, 1) := by decide +kernel
theorem dX11_day_9 : decode cX11_day 9 = .ok (.iconst (-1), 1) := by decide +kernel
theorem dX11_day_10 : decode cX11_day 10 = .ok (.if_icmp .eq 14, 3) := by decide +kernel
theorem dX11_day_13 : decode cX11_day 13 = .ok (.aload_n 0, 1) := by decide +kernel
theorem dX11_day_14 : decode cX11_day 14 = .ok (.getfield 10, 3) := by decide +kernel
theorem dX11_day_17 : decode cX11_day 17 = .ok (.invokevirtual 103, 3) := by decide +kernel
theorem dX11_day_20 : decode cX11_day 20 = .ok (.iconst (-1), 1) := by decide +kernel
theorem dX11_day_21 : decode cX11_day 21 = .ok (.iload_n 1, 1) := by decide +kernel
theorem dX11_day_22 : decode cX11_day 22 = .ok (.isub, 1) := by decide +kernel
theorem dX11_day_23 : decode cX11_day 23 = .ok (.ireturn, 1) := by decide +kernel
theorem dX11_day_24 : decode cX11_day 24 = .ok (.aload_n 0, 1) := by decide +kernel
theorem dX11_day_25 : decode cX11_day 25 = .ok (.getfield 33, 3) := by decide +kernel
theorem dX11_day_28 : decode cX11_day 28 = .ok (.aload_n 0, 1) := by decide +kernel
theorem dX11_day_29 : decode cX11_day 29 = .ok (.getfield 26, 3) := by decide +kernel
theorem dX11_day_32 : decode cX11_day 32 = .ok (.invokevirtual 110, 3) := by decide +kernel
theorem dX11_day_35 : decode cX11_day 35 = .ok (.iconst 0, 1) := by decide +kernel
theorem dX11_day_36 : decode cX11_day 36 = .ok (.istore_n 2, 1) := by decide +kernel
theorem dX11_day_37 : decode cX11_day 37 = .ok (.iconst 0, 1) := by decide +kernel
theorem dX11_day_38 : decode cX11_day 38 = .ok (.istore_n 3, 1) := by decide +kernel
theorem dX11_day_39 : decode cX11_day 39 = .ok (.iconst 0, 1) := by decide +kernel
theorem dX11_day_40 : decode cX11_day 40 = .ok (.istore 4, 2) := by decide +kernel
theorem dX11_day_42 : decode cX11_day 42 = .ok (.iload 4, 2) := by decide +kernel
theorem dX11_day_44 : decode cX11_day 44 = .ok (.aload_n 0, 1) := by decide +kernel
theorem dX11_day_45 : decode cX11_day 45 = .ok (.getfield 10, 3) := by decide +kernel
theorem dX11_day_48 : decode cX11_day 48 = .ok (.invokevirtual 90, 3) := by decide +kernel
theorem dX11_day_51 : decode cX11_day 51 = .ok (.if_icmp .ge 48, 3) := by decide +kernel
theorem dX11_day_54 : decode cX11_day 54 = .ok (.iload_n 3, 1) := by decide +kernel
theorem dX11_day_55 : decode cX11_day 55 = .ok (.ifCond .ne 44, 3) := by decide +kernel
theorem dX11_day_58 : decode cX11_day 58 = .ok (.aload_n 0, 1) := by decide +kernel
theorem dX11_day_59 : decode cX11_day 59 = .ok (.iload 4, 2) := by decide +kernel
theorem dX11_day_61 : decode cX11_day 61 = .ok (.invokevirtual 301, 3) := by decide +kernel
theorem dX11_day_64 : decode cX11_day 64 = .ok (.ifCond .ge 8, 3) := by decide +kernel
theorem dX11_day_67 : decode cX11_day 67 = .ok (.iconst 1, 1) := by decide +kernel
theorem dX11_day_68 : decode cX11_day 68 = .ok (.istore_n 3, 1) := by decide +kernel
theorem dX11_day_69 : decode cX11_day 69 = .ok (.goto 6, 3) := by decide +kernel
theorem dX11_day_72 : decode cX11_day 72 = .ok (.iinc 2 1, 3) := by decide +kernel
theorem dX11_day_75 : decode cX11_day 75 = .ok (.iload 4, 2) := by decide +kernel
theorem dX11_day_77 : decode cX11_day 77 = .ok (.iconst 1, 1) := by decide +kernel
theorem dX11_day_78 : decode cX11_day 78 = .ok (.aload_n 0, 1) := by decide +kernel
theorem dX11_day_79 : decode cX11_day 79 = .ok (.getfield 10, 3) := by decide +kernel
theorem dX11_day_82 : decode cX11_day 82 = .ok (.iload 4, 2) := by decide +kernel
theorem dX11_day_84 : decode cX11_day 84 = .ok (.invokevirtual 304, 3) := by decide +kernel
theorem dX11_day_87 : decode cX11_day 87 = .ok (.invokestatic 307, 3) := by decide +kernel
theorem dX11_day_90 : decode cX11_day 90 = .ok (.invokestatic 278, 3) := by decide +kernel
theorem dX11_day_93 : decode cX11_day 93 = .ok (.iadd, 1) := by decide +kernel
theorem dX11_day_94 : decode cX11_day 94 = .ok (.istore 4, 2) := by decide +kernel
theorem dX11_day_96 : decode cX11_day 96 = .ok (.goto (-54), 3) := by decide +kernel
theorem dX11_day_99 : decode cX11_day 99 = .ok (.aload_n 0, 1) := by decide +kernel
theorem dX11_day_100 : decode cX11_day 100 = .ok (.getfield 10, 3) := by decide +kernel
theorem dX11_day_103 : decode cX11_day 103 = .ok (.invokevirtual 103, 3) := by decide +kernel
theorem dX11_day_106 : decode cX11_day 106 = .ok (.iload_n 2, 1) := by decide +kernel
theorem dX11_day_107 : decode cX11_day 107 = .ok (.ifCond .le 14, 3) := by decide +kernel
theorem dX11_day_110 : decode cX11_day 110 = .ok (.aload_n 0, 1) := by decide +kernel
theorem dX11_day_111 : decode cX11_day 111 = .ok (.getfield 39, 3) := by decide +kernel
theorem dX11_day_114 : decode cX11_day 114 = .ok (.aload_n 0, 1) := by decide +kernel
theorem dX11_day_115 : decode cX11_day 115 = .ok (.getfield 33, 3) := by decide +kernel
theorem dX11_day_118 : decode cX11_day 118 = .ok (.invokevirtual 106, 3) := by decide +kernel
theorem dX11_day_121 : decode cX11_day 121 = .ok (.aload_n 0, 1) := by decide +kernel
theorem dX11_day_122 : decode cX11_day 122 = .ok (.getfield 19, 3) := by decide +kernel
theorem dX11_day_125 : decode cX11_day 125 = .ok (.iload_n 3, 1) := by decide +kernel
theorem dX11_day_126 : decode cX11_day 126 = .ok (.i2l, 1) := by decide +kernel
theorem dX11_day_127 : decode cX11_day 127 = .ok (.aload_n 0, 1) := by decide +kernel
theorem dX11_day_128 : decode cX11_day 128 = .ok (.getfield 26, 3) := by decide +kernel
theorem dX11_day_131 : decode cX11_day 131 = .ok (.iconst 1, 1) := by decide +kernel
theorem dX11_day_132 : decode cX11_day 132 = .ok (.invokevirtual 217, 3) := by decide +kernel
theorem dX11_day_135 : decode cX11_day 135 = .ok (.i2l, 1) := by decide +kernel
theorem dX11_day_136 : decode cX11_day 136 = .ok (.invokevirtual 255, 3) := by decide +kernel
theorem dX11_day_139 : decode cX11_day 139 = .ok (.iload_n 2, 1) := by decide +kernel
theorem dX11_day_140 : decode cX11_day 140 = .ok (.ireturn, 1) := by decide +kernel
theorem dX11_actAt_0 : decode cX11_actAt 0 = .ok (.aload_n 0, 1) := by decide +kernel
theorem dX11_actAt_1 : decode cX11_actAt 1 = .ok (.getfield 10, 3) := by decide +kernel
theorem dX11_actAt_4 : decode cX11_actAt 4 = .ok (.iload_n 1, 1) := by decide +kernel
theorem dX11_actAt_5 : decode cX11_actAt 5 = .ok (.invokevirtual 304, 3) := by decide +kernel
theorem dX11_actAt_8 : decode cX11_actAt 8 = .ok (.lookupswitch 153 #[(99, 138), (104, 104), (109, 78), (111, 123), (115, 52)], 52) := by decide +kernel
theorem dX11_actAt_60 : decode cX11_actAt 60 = .ok (.aload_n 0, 1) := by decide +kernel
theorem dX11_actAt_61 : decode cX11_actAt 61 = .ok (.aload_n 0, 1) := by decide +kernel
theorem dX11_actAt_62 : decode cX11_actAt 62 = .ok (.getfield 10, 3) := by decide +kernel
theorem dX11_actAt_65 : decode cX11_actAt 65 = .ok (.iload_n 1, 1) := by decide +kernel
theorem dX11_actAt_66 : decode cX11_actAt 66 = .ok (.iconst 1, 1) := by decide +kernel
theorem dX11_actAt_67 : decode cX11_actAt 67 = .ok (.iadd, 1) := by decide +kernel
theorem dX11_actAt_68 : decode cX11_actAt 68 = .ok (.invokevirtual 310, 3) := by decide +kernel
theorem dX11_actAt_71 : decode cX11_actAt 71 = .ok (.aload_n 0, 1) := by decide +kernel
theorem dX11_actAt_72 : decode cX11_actAt 72 = .ok (.getfield 10, 3) := by decide +kernel
theorem dX11_actAt_75 : decode cX11_actAt 75 = .ok (.iload_n 1, 1) := by decide +kernel
theorem dX11_actAt_76 : decode cX11_actAt 76 = .ok (.iconst 3, 1) := by decide +kernel
theorem dX11_actAt_77 : decode cX11_actAt 77 = .ok (.iadd, 1) := by decide +kernel
theorem dX11_actAt_78 : decode cX11_actAt 78 = .ok (.invokevirtual 310, 3) := by decide +kernel
theorem dX11_actAt_81 : decode cX11_actAt 81 = .ok (.iconst 0, 1) := by decide +kernel
theorem dX11_actAt_82 : decode cX11_actAt 82 = .ok (.invokevirtual 242, 3) := by decide +kernel
theorem dX11_actAt_85 : decode cX11_actAt 85 = .ok (.ireturn, 1) := by decide +kernel
theorem dX11_actAt_86 : decode cX11_actAt 86 = .ok (.aload_n 0, 1) := by decide +kernel
theorem dX11_actAt_87 : decode cX11_actAt 87 = .ok (.aload_n 0, 1) := by decide +kernel
theorem dX11_actAt_88 : decode cX11_actAt 88 = .ok (.getfield 10, 3) := by decide +kernel
theorem dX11_actAt_91 : decode cX11_actAt 91 = .ok (.iload_n 1, 1) := by decide +kernel
theorem dX11_actAt_92 : decode cX11_actAt 92 = .ok (.iconst 1, 1) := by decide +kernel
theorem dX11_actAt_93 : decode cX11_actAt 93 = .ok (.iadd, 1) := by decide +kernel
theorem dX11_actAt_94 : decode cX11_actAt 94 = .ok (.invokevirtual 310, 3) := by decide +kernel
theorem dX11_actAt_97 : decode cX11_actAt 97 = .ok (.aload_n 0, 1) := by decide +kernel
theorem dX11_actAt_98 : decode cX11_actAt 98 = .ok (.getfield 10, 3) := by decide +kernel
theorem dX11_actAt_101 : decode cX11_actAt 101 = .ok (.iload_n 1, 1) := by decide +kernel
theorem dX11_actAt_102 : decode cX11_actAt 102 = .ok (.iconst 3, 1) := by decide +kernel
theorem dX11_actAt_103 : decode cX11_actAt 103 = .ok (.iadd, 1) := by decide +kernel
theorem dX11_actAt_104 : decode cX11_actAt 104 = .ok (.invokevirtual 310, 3) := by decide +kernel
theorem dX11_actAt_107 : decode cX11_actAt 107 = .ok (.iconst 1, 1) := by decide +kernel
theorem dX11_actAt_108 : decode cX11_actAt 108 = .ok (.invokevirtual 242, 3) := by decide +kernel
theorem dX11_actAt_111 : decode cX11_actAt 111 = .ok (.ireturn, 1) := by decide +kernel
theorem dX11_actAt_112 : decode cX11_actAt 112 = .ok (.aload_n 0, 1) := by decide +kernel
theorem dX11_actAt_113 : decode cX11_actAt 113 = .ok (.aload_n 0, 1) := by decide +kernel
theorem dX11_actAt_114 : decode cX11_actAt 114 = .ok (.getfield 26, 3) := by decide +kernel
theorem dX11_actAt_117 : decode cX11_actAt 117 = .ok (.aload_n 0, 1) := by decide +kernel
theorem dX11_actAt_118 : decode cX11_actAt 118 = .ok (.getfield 10, 3) := by decide +kernel
theorem dX11_actAt_121 : decode cX11_actAt 121 = .ok (.iload_n 1, 1) := by decide +kernel
theorem dX11_actAt_122 : decode cX11_actAt 122 = .ok (.iconst 1, 1) := by decide +kernel
theorem dX11_actAt_123 : decode cX11_actAt 123 = .ok (.iadd, 1) := by decide +kernel
theorem dX11_actAt_124 : decode cX11_actAt 124 = .ok (.invokevirtual 313, 3) := by decide +kernel
theorem dX11_actAt_127 : decode cX11_actAt 127 = .ok (.invokevirtual 220, 3) := by decide +kernel
theorem dX11_actAt_130 : decode cX11_actAt 130 = .ok (.ireturn, 1) := by decide +kernel
theorem dX11_actAt_131 : decode cX11_actAt 131 = .ok (.aload_n 0, 1) := by decide +kernel
theorem dX11_actAt_132 : decode cX11_actAt 132 = .ok (.aload_n 0, 1) := by decide +kernel
theorem dX11_actAt_133 : decode cX11_actAt 133 = .ok (.getfield 10, 3) := by decide +kernel
theorem dX11_actAt_136 : decode cX11_actAt 136 = .ok (.iload_n 1, 1) := by decide +kernel
theorem dX11_actAt_137 : decode cX11_actAt 137 = .ok (.iconst 1, 1) := by decide +kernel
theorem dX11_actAt_138 : decode cX11_actAt 138 = .ok (.iadd, 1) := by decide +kernel
theorem dX11_actAt_139 : decode cX11_actAt 139 = .ok (.invokevirtual 313, 3) := by decide +kernel
theorem dX11_actAt_142 : decode cX11_actAt 142 = .ok (.invokevirtual 239, 3) := by decide +kernel
theorem dX11_actAt_145 : decode cX11_actAt 145 = .ok (.ireturn, 1) := by decide +kernel
theorem dX11_actAt_146 : decode cX11_actAt 146 = .ok (.aload_n 0, 1) := by decide +kernel
theorem dX11_actAt_147 : decode cX11_actAt 147 = .ok (.aload_n 0, 1) := by decide +kernel
theorem dX11_actAt_148 : decode cX11_actAt 148 = .ok (.getfield 10, 3) := by decide +kernel
theorem dX11_actAt_151 : decode cX11_actAt 151 = .ok (.iload_n 1, 1) := by decide +kernel
theorem dX11_actAt_152 : decode cX11_actAt 152 = .ok (.iconst 1, 1) := by decide +kernel
theorem dX11_actAt_153 : decode cX11_actAt 153 = .ok (.iadd, 1) := by decide +kernel
theorem dX11_actAt_154 : decode cX11_actAt 154 = .ok (.invokevirtual 310, 3) := by decide +kernel
theorem dX11_actAt_157 : decode cX11_actAt 157 = .ok (.invokevirtual 262, 3) := by decide +kernel
theorem dX11_actAt_160 : decode cX11_actAt 160 = .ok (.ireturn, 1) := by decide +kernel
theorem dX11_actAt_161 : decode cX11_actAt 161 = .ok (.iconst (-1), 1) := by decide +kernel
theorem dX11_actAt_162 : decode cX11_actAt 162 = .ok (.ireturn, 1) := by decide +kernel
theorem dX11_undo_0 : decode cX11_undo 0 = .ok (.aload_n 0, 1) := by decide +kernel
theorem dX11_undo_1 : decode cX11_undo 1 = .ok (.getfield 39, 3) := by decide +kernel
theorem dX11_undo_4 : decode cX11_undo 4 = .ok (.aload_n 0, 1) := by decide +kernel
theorem dX11_undo_5 : decode cX11_undo 5 = .ok (.getfield 26, 3) := by decide +kernel
theorem dX11_undo_8 : decode cX11_undo 8 = .ok (.invokevirtual 316, 3) := by decide +kernel
theorem dX11_undo_11 : decode cX11_undo 11 = .ok (.ifCond .eq 13, 3) := by decide +kernel
theorem dX11_undo_14 : decode cX11_undo 14 = .ok (.aload_n 0, 1) := by decide +kernel
theorem dX11_undo_15 : decode cX11_undo 15 = .ok (.getfield 39, 3) := by decide +kernel
theorem dX11_undo_18 : decode cX11_undo 18 = .ok (.invokevirtual 320, 3) := by decide +kernel
theorem dX11_undo_21 : decode cX11_undo 21 = .ok (.goto 4, 3) := by decide +kernel
theorem dX11_undo_24 : decode cX11_undo 24 = .ok (.iconst (-1), 1) := by decide +kernel
theorem dX11_undo_25 : decode cX11_undo 25 = .ok (.ireturn, 1) := by decide +kernel
theorem dX11_years_0 : decode cX11_years 0 = .ok (.iload_n 2, 1) := by decide +kernel
theorem dX11_years_1 : decode cX11_years 1 = .ok (.iconst 1, 1) := by decide +kernel
theorem dX11_years_2 : decode cX11_years 2 = .ok (.if_icmp .lt 20, 3) := by decide +kernel
theorem dX11_years_5 : decode cX11_years 5 = .ok (.iload_n 2, 1) := by decide +kernel
theorem dX11_years_6 : decode cX11_years 6 = .ok (.bipush 20, 2) := by decide +kernel
theorem dX11_years_8 : decode cX11_years 8 = .ok (.if_icmp .gt 14, 3) := by decide +kernel
theorem dX11_years_11 : decode cX11_years 11 = .ok (.iload_n 3, 1) := by decide +kernel
theorem dX11_years_12 : decode cX11_years 12 = .ok (.iconst 1, 1) := by decide +kernel
theorem dX11_years_13 : decode cX11_years 13 = .ok (.if_icmp .lt 9, 3) := by decide +kernel
theorem dX11_years_16 : decode cX11_years 16 = .ok (.iload_n 3, 1) := by decide +kernel
theorem dX11_years_17 : decode cX11_years 17 = .ok (.bipush 9, 2) := by decide +kernel
theorem dX11_years_19 : decode cX11_years 19 = .ok (.if_icmp .le 5, 3) := by decide +kernel
theorem dX11_years_22 : decode cX11_years 22 = .ok (.iconst (-1), 1) := by decide +kernel
theorem dX11_years_23 : decode cX11_years 23 = .ok (.ireturn, 1) := by decide +kernel
theorem dX11_years_24 : decode cX11_years 24 = .ok (.aload_n 0, 1) := by decide +kernel
theorem dX11_years_25 : decode cX11_years 25 = .ok (.getfield 26, 3) := by decide +kernel
theorem dX11_years_28 : decode cX11_years 28 = .ok (.invokevirtual 113, 3) := by decide +kernel
theorem dX11_years_31 : decode cX11_years 31 = .ok (.iconst 2, 1) := by decide +kernel
theorem dX11_years_32 : decode cX11_years 32 = .ok (.if_icmp .ge 6, 3) := by decide +kernel
theorem dX11_years_35 : decode cX11_years 35 = .ok (.bipush (-2), 2) := by decide +kernel
theorem dX11_years_37 : decode cX11_years 37 = .ok (.ireturn, 1) := by decide +kernel
theorem dX11_years_38 : decode cX11_years 38 = .ok (.aload_n 0, 1) := by decide +kernel
theorem dX11_years_39 : decode cX11_years 39 = .ok (.getfield 30, 3) := by decide +kernel
theorem dX11_years_42 : decode cX11_years 42 = .ok (.aload_n 0, 1) := by decide +kernel
theorem dX11_years_43 : decode cX11_years 43 = .ok (.getfield 26, 3) := by decide +kernel
theorem dX11_years_46 : decode cX11_years 46 = .ok (.invokevirtual 110, 3) := by decide +kernel
theorem dX11_years_49 : decode cX11_years 49 = .ok (.aload_n 0, 1) := by decide +kernel
theorem dX11_years_50 : decode cX11_years 50 = .ok (.getfield 30, 3) := by decide +kernel
theorem dX11_years_53 : decode cX11_years 53 = .ok (.iload_n 1, 1) := by decide +kernel
theorem dX11_years_54 : decode cX11_years 54 = .ok (.iload_n 2, 1) := by decide +kernel
theorem dX11_years_55 : decode cX11_years 55 = .ok (.invokestatic 321, 3) := by decide +kernel
theorem dX11_years_58 : decode cX11_years 58 = .ok (.aload_n 0, 1) := by decide +kernel
theorem dX11_years_59 : decode cX11_years 59 = .ok (.getfield 30, 3) := by decide +kernel
theorem dX11_years_62 : decode cX11_years 62 = .ok (.iconst 1, 1) := by decide +kernel
theorem dX11_years_63 : decode cX11_years 63 = .ok (.invokevirtual 217, 3) := by decide +kernel
theorem dX11_years_66 : decode cX11_years 66 = .ok (.istore 4, 2) := by decide +kernel
theorem dX11_years_68 : decode cX11_years 68 = .ok (.aload_n 0, 1) := by decide +kernel
theorem dX11_years_69 : decode cX11_years 69 = .ok (.getfield 54, 3) := by decide +kernel
theorem dX11_years_72 : decode cX11_years 72 = .ok (.aload_n 0, 1) := by decide +kernel
theorem dX11_years_73 : decode cX11_years 73 = .ok (.getfield 30, 3) := by decide +kernel
theorem dX11_years_76 : decode cX11_years 76 = .ok (.iload_n 3, 1) := by decide +kernel
theorem dX11_years_77 : decode cX11_years 77 = .ok (.invokevirtual 265, 3) := by decide +kernel
theorem dX11_years_80 : decode cX11_years 80 = .ok (.istore 5, 2) := by decide +kernel
theorem dX11_years_82 : decode cX11_years 82 = .ok (.aload_n 0, 1) := by decide +kernel
theorem dX11_years_83 : decode cX11_years 83 = .ok (.getfield 19, 3) := by decide +kernel
theorem dX11_years_86 : decode cX11_years 86 = .ok (.iload 4, 2) := by decide +kernel
theorem dX11_years_88 : decode cX11_years 88 = .ok (.i2l, 1) := by decide +kernel
theorem dX11_years_89 : decode cX11_years 89 = .ok (.iload 5, 2) := by decide +kernel
theorem dX11_years_91 : decode cX11_years 91 = .ok (.i2l, 1) := by decide +kernel
theorem dX11_years_92 : decode cX11_years 92 = .ok (.invokevirtual 255, 3) := by decide +kernel
theorem dX11_years_95 : decode cX11_years 95 = .ok (.aload_n 0, 1) := by decide +kernel
theorem dX11_years_96 : decode cX11_years 96 = .ok (.getfield 30, 3) := by decide +kernel
theorem dX11_years_99 : decode cX11_years 99 = .ok (.iconst 1, 1) := by decide +kernel
theorem dX11_years_100 : decode cX11_years 100 = .ok (.invokevirtual 217, 3) := by decide +kernel
theorem dX11_years_103 : decode cX11_years 103 = .ok (.ireturn, 1) := by decide +kernel
theorem dX11_shuffle_0 : decode cX11_shuffle 0 = .ok (.aload_n 0, 1) := by decide +kernel
theorem dX11_shuffle_1 : decode cX11_shuffle 1 = .ok (.invokevirtual 113, 3) := by decide +kernel
theorem dX11_shuffle_4 : decode cX11_shuffle 4 = .ok (.istore_n 3, 1) := by decide +kernel
theorem dX11_shuffle_5 : decode cX11_shuffle 5 = .ok (.iload_n 3, 1) := by decide +kernel
theorem dX11_shuffle_6 : decode cX11_shuffle 6 = .ok (.iconst 1, 1) := by decide +kernel
theorem dX11_shuffle_7 : decode cX11_shuffle 7 = .ok (.if_icmp .ge 4, 3) := by decide +kernel
theorem dX11_shuffle_10 : decode cX11_shuffle 10 = .ok (.return_, 1) := by decide +kernel
theorem dX11_shuffle_11 : decode cX11_shuffle 11 = .ok (.iload_n 1, 1) := by decide +kernel
theorem dX11_shuffle_12 : decode cX11_shuffle 12 = .ok (.istore 4, 2) := by decide +kernel
theorem dX11_shuffle_14 : decode cX11_shuffle 14 = .ok (.iconst 0, 1) := by decide +kernel
theorem dX11_shuffle_15 : decode cX11_shuffle 15 = .ok (.istore 5, 2) := by decide +kernel
theorem dX11_shuffle_17 : decode cX11_shuffle 17 = .ok (.iload 5, 2) := by decide +kernel
theorem dX11_shuffle_19 : decode cX11_shuffle 19 = .ok (.iload_n 2, 1) := by decide +kernel
theorem dX11_shuffle_20 : decode cX11_shuffle 20 = .ok (.if_icmp .ge 49, 3) := by decide +kernel
theorem dX11_shuffle_23 : decode cX11_shuffle 23 = .ok (.iload 4, 2) := by decide +kernel
theorem dX11_shuffle_25 : decode cX11_shuffle 25 = .ok (.invokestatic 324, 3) := by decide +kernel
theorem dX11_shuffle_28 : decode cX11_shuffle 28 = .ok (.istore 4, 2) := by decide +kernel
theorem dX11_shuffle_30 : decode cX11_shuffle 30 = .ok (.iload 4, 2) := by decide +kernel
theorem dX11_shuffle_32 : decode cX11_shuffle 32 = .ok (.bipush 16, 2) := by decide +kernel
theorem dX11_shuffle_34 : decode cX11_shuffle 34 = .ok (.iushr, 1) := by decide +kernel
theorem dX11_shuffle_35 : decode cX11_shuffle 35 = .ok (.iload_n 3, 1) := by decide +kernel
theorem dX11_shuffle_36 : decode cX11_shuffle 36 = .ok (.irem, 1) := by decide +kernel
theorem dX11_shuffle_37 : decode cX11_shuffle 37 = .ok (.istore 6, 2) := by decide +kernel
theorem dX11_shuffle_39 : decode cX11_shuffle 39 = .ok (.iload 4, 2) := by decide +kernel
theorem dX11_shuffle_41 : decode cX11_shuffle 41 = .ok (.invokestatic 324, 3) := by decide +kernel
theorem dX11_shuffle_44 : decode cX11_shuffle 44 = .ok (.istore 4, 2) := by decide +kernel
theorem dX11_shuffle_46 : decode cX11_shuffle 46 = .ok (.iload 4, 2) := by decide +kernel
theorem dX11_shuffle_48 : decode cX11_shuffle 48 = .ok (.bipush 16, 2) := by decide +kernel
theorem dX11_shuffle_50 : decode cX11_shuffle 50 = .ok (.iushr, 1) := by decide +kernel
theorem dX11_shuffle_51 : decode cX11_shuffle 51 = .ok (.iload_n 3, 1) := by decide +kernel
theorem dX11_shuffle_52 : decode cX11_shuffle 52 = .ok (.irem, 1) := by decide +kernel
theorem dX11_shuffle_53 : decode cX11_shuffle 53 = .ok (.istore 7, 2) := by decide +kernel
theorem dX11_shuffle_55 : decode cX11_shuffle 55 = .ok (.aload_n 0, 1) := by decide +kernel
theorem dX11_shuffle_56 : decode cX11_shuffle 56 = .ok (.iload 6, 2) := by decide +kernel
theorem dX11_shuffle_58 : decode cX11_shuffle 58 = .ok (.iload 7, 2) := by decide +kernel
theorem dX11_shuffle_60 : decode cX11_shuffle 60 = .ok (.invokevirtual 272, 3) := by decide +kernel
theorem dX11_shuffle_63 : decode cX11_shuffle 63 = .ok (.iinc 5 1, 3) := by decide +kernel
theorem dX11_shuffle_66 : decode cX11_shuffle 66 = .ok (.goto (-49), 3) := by decide +kernel
theorem dX11_shuffle_69 : decode cX11_shuffle 69 = .ok (.return_, 1) := by decide +kernel
theorem dX11_drawn_0 : decode cX11_drawn 0 = .ok (.iload_n 0, 1) := by decide +kernel
theorem dX11_drawn_1 : decode cX11_drawn 1 = .ok (.ldc_w 327, 3) := by decide +kernel
theorem dX11_drawn_4 : decode cX11_drawn 4 = .ok (.imul, 1) := by decide +kernel
theorem dX11_drawn_5 : decode cX11_drawn 5 = .ok (.sipush 12345, 3) := by decide +kernel
theorem dX11_drawn_8 : decode cX11_drawn 8 = .ok (.iadd, 1) := by decide +kernel
theorem dX11_drawn_9 : decode cX11_drawn 9 = .ok (.ireturn, 1) := by decide +kernel
theorem dX11_keep_0 : decode cX11_keep 0 = .ok (.iload_n 1, 1) := by decide +kernel
theorem dX11_keep_1 : decode cX11_keep 1 = .ok (.ifCond .lt 8, 3) := by decide +kernel
theorem dX11_keep_4 : decode cX11_keep 4 = .ok (.iload_n 1, 1) := by decide +kernel
theorem dX11_keep_5 : decode cX11_keep 5 = .ok (.iconst 2, 1) := by decide +kernel
theorem dX11_keep_6 : decode cX11_keep 6 = .ok (.if_icmp .lt 5, 3) := by decide +kernel
theorem dX11_keep_9 : decode cX11_keep 9 = .ok (.iconst 0, 1) := by decide +kernel
theorem dX11_keep_10 : decode cX11_keep 10 = .ok (.ireturn, 1) := by decide +kernel
theorem dX11_keep_11 : decode cX11_keep 11 = .ok (.aload_n 0, 1) := by decide +kernel
theorem dX11_keep_12 : decode cX11_keep 12 = .ok (.getfield 43, 3) := by decide +kernel
theorem dX11_keep_15 : decode cX11_keep 15 = .ok (.iload_n 1, 1) := by decide +kernel
theorem dX11_keep_16 : decode cX11_keep 16 = .ok (.aaload, 1) := by decide +kernel
theorem dX11_keep_17 : decode cX11_keep 17 = .ok (.aload_n 0, 1) := by decide +kernel
theorem dX11_keep_18 : decode cX11_keep 18 = .ok (.getfield 26, 3) := by decide +kernel
theorem dX11_keep_21 : decode cX11_keep 21 = .ok (.invokevirtual 110, 3) := by decide +kernel
theorem dX11_keep_24 : decode cX11_keep 24 = .ok (.aload_n 0, 1) := by decide +kernel
theorem dX11_keep_25 : decode cX11_keep 25 = .ok (.getfield 47, 3) := by decide +kernel
theorem dX11_keep_28 : decode cX11_keep 28 = .ok (.iload_n 1, 1) := by decide +kernel
theorem dX11_keep_29 : decode cX11_keep 29 = .ok (.iconst 1, 1) := by decide +kernel
theorem dX11_keep_30 : decode cX11_keep 30 = .ok (.bastore, 1) := by decide +kernel
theorem dX11_keep_31 : decode cX11_keep 31 = .ok (.iconst 1, 1) := by decide +kernel
theorem dX11_keep_32 : decode cX11_keep 32 = .ok (.ireturn, 1) := by decide +kernel
theorem dX11_again_0 : decode cX11_again 0 = .ok (.iload_n 1, 1) := by decide +kernel
theorem dX11_again_1 : decode cX11_again 1 = .ok (.ifCond .lt 17, 3) := by decide +kernel
theorem dX11_again_4 : decode cX11_again 4 = .ok (.iload_n 1, 1) := by decide +kernel
theorem dX11_again_5 : decode cX11_again 5 = .ok (.iconst 2, 1) := by decide +kernel
theorem dX11_again_6 : decode cX11_again 6 = .ok (.if_icmp .ge 12, 3) := by decide +kernel
theorem dX11_again_9 : decode cX11_again 9 = .ok (.aload_n 0, 1) := by decide +kernel
theorem dX11_again_10 : decode cX11_again 10 = .ok (.getfield 47, 3) := by decide +kernel
theorem dX11_again_13 : decode cX11_again 13 = .ok (.iload_n 1, 1) := by decide +kernel
theorem dX11_again_14 : decode cX11_again 14 = .ok (.baload, 1) := by decide +kernel
theorem dX11_again_15 : decode cX11_again 15 = .ok (.ifCond .ne 5, 3) := by decide +kernel
theorem dX11_again_18 : decode cX11_again 18 = .ok (.iconst 0, 1) := by decide +kernel
theorem dX11_again_19 : decode cX11_again 19 = .ok (.ireturn, 1) := by decide +kernel
theorem dX11_again_20 : decode cX11_again 20 = .ok (.aload_n 0, 1) := by decide +kernel
theorem dX11_again_21 : decode cX11_again 21 = .ok (.getfield 26, 3) := by decide +kernel
theorem dX11_again_24 : decode cX11_again 24 = .ok (.aload_n 0, 1) := by decide +kernel
theorem dX11_again_25 : decode cX11_again 25 = .ok (.getfield 43, 3) := by decide +kernel
theorem dX11_again_28 : decode cX11_again 28 = .ok (.iload_n 1, 1) := by decide +kernel
theorem dX11_again_29 : decode cX11_again 29 = .ok (.aaload, 1) := by decide +kernel
theorem dX11_again_30 : decode cX11_again 30 = .ok (.invokevirtual 110, 3) := by decide +kernel
theorem dX11_again_33 : decode cX11_again 33 = .ok (.aload_n 0, 1) := by decide +kernel
theorem dX11_again_34 : decode cX11_again 34 = .ok (.getfield 39, 3) := by decide +kernel
theorem dX11_again_37 : decode cX11_again 37 = .ok (.invokevirtual 328, 3) := by decide +kernel
theorem dX11_again_40 : decode cX11_again 40 = .ok (.iconst 1, 1) := by decide +kernel
theorem dX11_again_41 : decode cX11_again 41 = .ok (.ireturn, 1) := by decide +kernel
theorem dX11_count_0 : decode cX11_count 0 = .ok (.iload_n 1, 1) := by decide +kernel
theorem dX11_count_1 : decode cX11_count 1 = .ok (.tableswitch 99 0 6 #[43, 51, 59, 67, 75, 83, 91], 43) := by decide +kernel
theorem dX11_count_44 : decode cX11_count 44 = .ok (.aload_n 0, 1) := by decide +kernel
theorem dX11_count_45 : decode cX11_count 45 = .ok (.getfield 26, 3) := by decide +kernel
theorem dX11_count_48 : decode cX11_count 48 = .ok (.invokevirtual 113, 3) := by decide +kernel
theorem dX11_count_51 : decode cX11_count 51 = .ok (.ireturn, 1) := by decide +kernel
theorem dX11_count_52 : decode cX11_count 52 = .ok (.aload_n 0, 1) := by decide +kernel
theorem dX11_count_53 : decode cX11_count 53 = .ok (.getfield 26, 3) := by decide +kernel
theorem dX11_count_56 : decode cX11_count 56 = .ok (.invokevirtual 329, 3) := by decide +kernel
theorem dX11_count_59 : decode cX11_count 59 = .ok (.ireturn, 1) := by decide +kernel
theorem dX11_count_60 : decode cX11_count 60 = .ok (.aload_n 0, 1) := by decide +kernel
theorem dX11_count_61 : decode cX11_count 61 = .ok (.getfield 39, 3) := by decide +kernel
theorem dX11_count_64 : decode cX11_count 64 = .ok (.invokevirtual 320, 3) := by decide +kernel
theorem dX11_count_67 : decode cX11_count 67 = .ok (.ireturn, 1) := by decide +kernel
theorem dX11_count_68 : decode cX11_count 68 = .ok (.aload_n 0, 1) := by decide +kernel
theorem dX11_count_69 : decode cX11_count 69 = .ok (.getfield 82, 3) := by decide +kernel
theorem dX11_count_72 : decode cX11_count 72 = .ok (.invokevirtual 289, 3) := by decide +kernel
theorem dX11_count_75 : decode cX11_count 75 = .ok (.ireturn, 1) := by decide +kernel
theorem dX11_count_76 : decode cX11_count 76 = .ok (.aload_n 0, 1) := by decide +kernel
theorem dX11_count_77 : decode cX11_count 77 = .ok (.getfield 19, 3) := by decide +kernel
theorem dX11_count_80 : decode cX11_count 80 = .ok (.invokevirtual 332, 3) := by decide +kernel
theorem dX11_count_83 : decode cX11_count 83 = .ok (.ireturn, 1) := by decide +kernel
theorem dX11_count_84 : decode cX11_count 84 = .ok (.aload_n 0, 1) := by decide +kernel
theorem dX11_count_85 : decode cX11_count 85 = .ok (.getfield 10, 3) := by decide +kernel
theorem dX11_count_88 : decode cX11_count 88 = .ok (.invokevirtual 90, 3) := by decide +kernel
theorem dX11_count_91 : decode cX11_count 91 = .ok (.ireturn, 1) := by decide +kernel
theorem dX11_count_92 : decode cX11_count 92 = .ok (.aload_n 0, 1) := by decide +kernel
theorem dX11_count_93 : decode cX11_count 93 = .ok (.getfield 26, 3) := by decide +kernel
theorem dX11_count_96 : decode cX11_count 96 = .ok (.invokevirtual 333, 3) := by decide +kernel
theorem dX11_count_99 : decode cX11_count 99 = .ok (.ireturn, 1) := by decide +kernel
theorem dX11_count_100 : decode cX11_count 100 = .ok (.iconst (-1), 1) := by decide +kernel
theorem dX11_count_101 : decode cX11_count 101 = .ok (.ireturn, 1) := by decide +kernel
theorem dX11_row_0 : decode cX11_row 0 = .ok (.aload_n 0, 1) := by decide +kernel
theorem dX11_row_1 : decode cX11_row 1 = .ok (.getfield 19, 3) := by decide +kernel
theorem dX11_row_4 : decode cX11_row 4 = .ok (.iload_n 1, 1) := by decide +kernel
theorem dX11_row_5 : decode cX11_row 5 = .ok (.invokevirtual 336, 3) := by decide +kernel
theorem dX11_row_8 : decode cX11_row 8 = .ok (.ifCond .ne 14, 3) := by decide +kernel
theorem dX11_row_11 : decode cX11_row 11 = .ok (.new 126, 3) := by decide +kernel
theorem dX11_row_14 : decode cX11_row 14 = .ok (.dup, 1) := by decide +kernel
theorem dX11_row_15 : decode cX11_row 15 = .ok (.ldc_w 337, 3) := by decide +kernel
theorem dX11_row_18 : decode cX11_row 18 = .ok (.invokespecial 130, 3) := by decide +kernel
theorem dX11_row_21 : decode cX11_row 21 = .ok (.athrow, 1) := by decide +kernel
theorem dX11_row_22 : decode cX11_row 22 = .ok (.aload_n 0, 1) := by decide +kernel
theorem dX11_row_23 : decode cX11_row 23 = .ok (.getfield 19, 3) := by decide +kernel
theorem dX11_row_26 : decode cX11_row 26 = .ok (.iload_n 1, 1) := by decide +kernel
theorem dX11_row_27 : decode cX11_row 27 = .ok (.invokevirtual 339, 3) := by decide +kernel
theorem dX11_row_30 : decode cX11_row 30 = .ok (.lreturn, 1) := by decide +kernel
theorem dX11_isTerm_0 : decode cX11_isTerm 0 = .ok (.iload_n 0, 1) := by decide +kernel
theorem dX11_isTerm_1 : decode cX11_isTerm 1 = .ok (.ifCond .lt 13, 3) := by decide +kernel
theorem dX11_isTerm_4 : decode cX11_isTerm 4 = .ok (.iload_n 0, 1) := by decide +kernel
theorem dX11_isTerm_5 : decode cX11_isTerm 5 = .ok (.bipush 8, 2) := by decide +kernel
theorem dX11_isTerm_7 : decode cX11_isTerm 7 = .ok (.if_icmp .ge 7, 3) := by decide +kernel
theorem dX11_isTerm_10 : decode cX11_isTerm 10 = .ok (.iconst 1, 1) := by decide +kernel
theorem dX11_isTerm_11 : decode cX11_isTerm 11 = .ok (.goto 4, 3) := by decide +kernel
theorem dX11_isTerm_14 : decode cX11_isTerm 14 = .ok (.iconst 0, 1) := by decide +kernel
theorem dX11_isTerm_15 : decode cX11_isTerm 15 = .ok (.ireturn, 1) := by decide +kernel
theorem dX11_isCode_0 : decode cX11_isCode 0 = .ok (.iload_n 0, 1) := by decide +kernel
theorem dX11_isCode_1 : decode cX11_isCode 1 = .ok (.ifCond .lt 12, 3) := by decide +kernel
theorem dX11_isCode_4 : decode cX11_isCode 4 = .ok (.iload_n 0, 1) := by decide +kernel
theorem dX11_isCode_5 : decode cX11_isCode 5 = .ok (.iconst 4, 1) := by decide +kernel
theorem dX11_isCode_6 : decode cX11_isCode 6 = .ok (.if_icmp .ge 7, 3) := by decide +kernel
theorem dX11_isCode_9 : decode cX11_isCode 9 = .ok (.iconst 1, 1) := by decide +kernel
theorem dX11_isCode_10 : decode cX11_isCode 10 = .ok (.goto 4, 3) := by decide +kernel
theorem dX11_isCode_13 : decode cX11_isCode 13 = .ok (.iconst 0, 1) := by decide +kernel
theorem dX11_isCode_14 : decode cX11_isCode 14 = .ok (.ireturn, 1) := by decide +kernel
theorem dX11_tellNumbers_0 : decode cX11_tellNumbers 0 = .ok (.aload_n 0, 1) := by decide +kernel
theorem dX11_tellNumbers_1 : decode cX11_tellNumbers 1 = .ok (.getfield 19, 3) := by decide +kernel
theorem dX11_tellNumbers_4 : decode cX11_tellNumbers 4 = .ok (.invokevirtual 182, 3) := by decide +kernel
theorem dX11_tellNumbers_7 : decode cX11_tellNumbers 7 = .ok (.iconst 0, 1) := by decide +kernel
theorem dX11_tellNumbers_8 : decode cX11_tellNumbers 8 = .ok (.istore_n 2, 1) := by decide +kernel
theorem dX11_tellNumbers_9 : decode cX11_tellNumbers 9 = .ok (.iload_n 2, 1) := by decide +kernel
theorem dX11_tellNumbers_10 : decode cX11_tellNumbers 10 = .ok (.bipush 16, 2) := by decide +kernel
theorem dX11_tellNumbers_12 : decode cX11_tellNumbers 12 = .ok (.if_icmp .ge 27, 3) := by decide +kernel
theorem dX11_tellNumbers_15 : decode cX11_tellNumbers 15 = .ok (.iload_n 1, 1) := by decide +kernel
theorem dX11_tellNumbers_16 : decode cX11_tellNumbers 16 = .ok (.iload_n 2, 1) := by decide +kernel
theorem dX11_tellNumbers_17 : decode cX11_tellNumbers 17 = .ok (.ishr, 1) := by decide +kernel
theorem dX11_tellNumbers_18 : decode cX11_tellNumbers 18 = .ok (.iconst 1, 1) := by decide +kernel
theorem dX11_tellNumbers_19 : decode cX11_tellNumbers 19 = .ok (.iand, 1) := by decide +kernel
theorem dX11_tellNumbers_20 : decode cX11_tellNumbers 20 = .ok (.iconst 1, 1) := by decide +kernel
theorem dX11_tellNumbers_21 : decode cX11_tellNumbers 21 = .ok (.if_icmp .ne 12, 3) := by decide +kernel
theorem dX11_tellNumbers_24 : decode cX11_tellNumbers 24 = .ok (.aload_n 0, 1) := by decide +kernel
theorem dX11_tellNumbers_25 : decode cX11_tellNumbers 25 = .ok (.getfield 19, 3) := by decide +kernel
theorem dX11_tellNumbers_28 : decode cX11_tellNumbers 28 = .ok (.iload_n 2, 1) := by decide +kernel
theorem dX11_tellNumbers_29 : decode cX11_tellNumbers 29 = .ok (.i2l, 1) := by decide +kernel
theorem dX11_tellNumbers_30 : decode cX11_tellNumbers 30 = .ok (.invokevirtual 185, 3) := by decide +kernel
theorem dX11_tellNumbers_33 : decode cX11_tellNumbers 33 = .ok (.iinc 2 1, 3) := by decide +kernel
theorem dX11_tellNumbers_36 : decode cX11_tellNumbers 36 = .ok (.goto (-27), 3) := by decide +kernel
theorem dX11_tellNumbers_39 : decode cX11_tellNumbers 39 = .ok (.aload_n 0, 1) := by decide +kernel
theorem dX11_tellNumbers_40 : decode cX11_tellNumbers 40 = .ok (.getfield 19, 3) := by decide +kernel
theorem dX11_tellNumbers_43 : decode cX11_tellNumbers 43 = .ok (.invokevirtual 332, 3) := by decide +kernel
theorem dX11_tellNumbers_46 : decode cX11_tellNumbers 46 = .ok (.ireturn, 1) := by decide +kernel
