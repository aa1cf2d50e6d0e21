theorem dX4_add_47 : decode cX4_add 47 = .ok (.putfield 22, 3) := by decide +kernel
theorem dX4_add_50 : decode cX4_add 50 = .ok (.return_, 1) := by decide +kernel
theorem dX4_valueOf_0 : decode cX4_valueOf 0 = .ok (.iconst 0, 1) := by decide +kernel
theorem dX4_valueOf_1 : decode cX4_valueOf 1 = .ok (.istore_n 3, 1) := by decide +kernel
theorem dX4_valueOf_2 : decode cX4_valueOf 2 = .ok (.iload_n 3, 1) := by decide +kernel
theorem dX4_valueOf_3 : decode cX4_valueOf 3 = .ok (.aload_n 0, 1) := by decide +kernel
theorem dX4_valueOf_4 : decode cX4_valueOf 4 = .ok (.getfield 22, 3) := by decide +kernel
theorem dX4_valueOf_7 : decode cX4_valueOf 7 = .ok (.if_icmp .ge 33, 3) := by decide +kernel
theorem dX4_valueOf_10 : decode cX4_valueOf 10 = .ok (.iload_n 3, 1) := by decide +kernel
theorem dX4_valueOf_11 : decode cX4_valueOf 11 = .ok (.bipush 60, 2) := by decide +kernel
theorem dX4_valueOf_13 : decode cX4_valueOf 13 = .ok (.if_icmp .ge 27, 3) := by decide +kernel
theorem dX4_valueOf_16 : decode cX4_valueOf 16 = .ok (.aload_n 0, 1) := by decide +kernel
theorem dX4_valueOf_17 : decode cX4_valueOf 17 = .ok (.getfield 11, 3) := by decide +kernel
theorem dX4_valueOf_20 : decode cX4_valueOf 20 = .ok (.iload_n 3, 1) := by decide +kernel
theorem dX4_valueOf_21 : decode cX4_valueOf 21 = .ok (.laload, 1) := by decide +kernel
theorem dX4_valueOf_22 : decode cX4_valueOf 22 = .ok (.lload_n 1, 1) := by decide +kernel
theorem dX4_valueOf_23 : decode cX4_valueOf 23 = .ok (.lcmp, 1) := by decide +kernel
theorem dX4_valueOf_24 : decode cX4_valueOf 24 = .ok (.ifCond .ne 10, 3) := by decide +kernel
theorem dX4_valueOf_27 : decode cX4_valueOf 27 = .ok (.aload_n 0, 1) := by decide +kernel
theorem dX4_valueOf_28 : decode cX4_valueOf 28 = .ok (.getfield 15, 3) := by decide +kernel
theorem dX4_valueOf_31 : decode cX4_valueOf 31 = .ok (.iload_n 3, 1) := by decide +kernel
theorem dX4_valueOf_32 : decode cX4_valueOf 32 = .ok (.iaload, 1) := by decide +kernel
theorem dX4_valueOf_33 : decode cX4_valueOf 33 = .ok (.ireturn, 1) := by decide +kernel
theorem dX4_valueOf_34 : decode cX4_valueOf 34 = .ok (.iinc 3 1, 3) := by decide +kernel
theorem dX4_valueOf_37 : decode cX4_valueOf 37 = .ok (.goto (-35), 3) := by decide +kernel
theorem dX4_valueOf_40 : decode cX4_valueOf 40 = .ok (.iconst (-1), 1) := by decide +kernel
theorem dX4_valueOf_41 : decode cX4_valueOf 41 = .ok (.ireturn, 1) := by decide +kernel
theorem dX4_valueOfLine_0 : decode cX4_valueOfLine 0 = .ok (.iconst 0, 1) := by decide +kernel
theorem dX4_valueOfLine_1 : decode cX4_valueOfLine 1 = .ok (.istore_n 2, 1) := by decide +kernel
theorem dX4_valueOfLine_2 : decode cX4_valueOfLine 2 = .ok (.iload_n 2, 1) := by decide +kernel
theorem dX4_valueOfLine_3 : decode cX4_valueOfLine 3 = .ok (.aload_n 0, 1) := by decide +kernel
theorem dX4_valueOfLine_4 : decode cX4_valueOfLine 4 = .ok (.getfield 22, 3) := by decide +kernel
theorem dX4_valueOfLine_7 : decode cX4_valueOfLine 7 = .ok (.if_icmp .ge 32, 3) := by decide +kernel
theorem dX4_valueOfLine_10 : decode cX4_valueOfLine 10 = .ok (.iload_n 2, 1) := by decide +kernel
theorem dX4_valueOfLine_11 : decode cX4_valueOfLine 11 = .ok (.bipush 60, 2) := by decide +kernel
theorem dX4_valueOfLine_13 : decode cX4_valueOfLine 13 = .ok (.if_icmp .ge 26, 3) := by decide +kernel
theorem dX4_valueOfLine_16 : decode cX4_valueOfLine 16 = .ok (.aload_n 0, 1) := by decide +kernel
theorem dX4_valueOfLine_17 : decode cX4_valueOfLine 17 = .ok (.getfield 19, 3) := by decide +kernel
theorem dX4_valueOfLine_20 : decode cX4_valueOfLine 20 = .ok (.iload_n 2, 1) := by decide +kernel
theorem dX4_valueOfLine_21 : decode cX4_valueOfLine 21 = .ok (.iaload, 1) := by decide +kernel
theorem dX4_valueOfLine_22 : decode cX4_valueOfLine 22 = .ok (.iload_n 1, 1) := by decide +kernel
theorem dX4_valueOfLine_23 : decode cX4_valueOfLine 23 = .ok (.if_icmp .ne 10, 3) := by decide +kernel
theorem dX4_valueOfLine_26 : decode cX4_valueOfLine 26 = .ok (.aload_n 0, 1) := by decide +kernel
theorem dX4_valueOfLine_27 : decode cX4_valueOfLine 27 = .ok (.getfield 15, 3) := by decide +kernel
theorem dX4_valueOfLine_30 : decode cX4_valueOfLine 30 = .ok (.iload_n 2, 1) := by decide +kernel
theorem dX4_valueOfLine_31 : decode cX4_valueOfLine 31 = .ok (.iaload, 1) := by decide +kernel
theorem dX4_valueOfLine_32 : decode cX4_valueOfLine 32 = .ok (.ireturn, 1) := by decide +kernel
theorem dX4_valueOfLine_33 : decode cX4_valueOfLine 33 = .ok (.iinc 2 1, 3) := by decide +kernel
theorem dX4_valueOfLine_36 : decode cX4_valueOfLine 36 = .ok (.goto (-34), 3) := by decide +kernel
theorem dX4_valueOfLine_39 : decode cX4_valueOfLine 39 = .ok (.iconst (-1), 1) := by decide +kernel
theorem dX4_valueOfLine_40 : decode cX4_valueOfLine 40 = .ok (.ireturn, 1) := by decide +kernel
theorem dX5_init_0 : decode cX5_init 0 = .ok (.aload_n 0, 1) := by decide +kernel
theorem dX5_init_1 : decode cX5_init 1 = .ok (.invokespecial 1, 3) := by decide +kernel
theorem dX5_init_4 : decode cX5_init 4 = .ok (.aload_n 0, 1) := by decide +kernel
theorem dX5_init_5 : decode cX5_init 5 = .ok (.sipush 304, 3) := by decide +kernel
theorem dX5_init_8 : decode cX5_init 8 = .ok (.putfield 9, 3) := by decide +kernel
theorem dX5_init_11 : decode cX5_init 11 = .ok (.return_, 1) := by decide +kernel
theorem dX5_clear_0 : decode cX5_clear 0 = .ok (.aload_n 0, 1) := by decide +kernel
theorem dX5_clear_1 : decode cX5_clear 1 = .ok (.sipush 304, 3) := by decide +kernel
theorem dX5_clear_4 : decode cX5_clear 4 = .ok (.putfield 9, 3) := by decide +kernel
theorem dX5_clear_7 : decode cX5_clear 7 = .ok (.aload_n 0, 1) := by decide +kernel
theorem dX5_clear_8 : decode cX5_clear 8 = .ok (.iconst 0, 1) := by decide +kernel
theorem dX5_clear_9 : decode cX5_clear 9 = .ok (.putfield 13, 3) := by decide +kernel
theorem dX5_clear_12 : decode cX5_clear 12 = .ok (.aload_n 0, 1) := by decide +kernel
theorem dX5_clear_13 : decode cX5_clear 13 = .ok (.iconst 0, 1) := by decide +kernel
theorem dX5_clear_14 : decode cX5_clear 14 = .ok (.putfield 16, 3) := by decide +kernel
theorem dX5_clear_17 : decode cX5_clear 17 = .ok (.aload_n 0, 1) := by decide +kernel
theorem dX5_clear_18 : decode cX5_clear 18 = .ok (.iconst 0, 1) := by decide +kernel
theorem dX5_clear_19 : decode cX5_clear 19 = .ok (.putfield 19, 3) := by decide +kernel
theorem dX5_clear_22 : decode cX5_clear 22 = .ok (.aload_n 0, 1) := by decide +kernel
theorem dX5_clear_23 : decode cX5_clear 23 = .ok (.iconst 0, 1) := by decide +kernel
theorem dX5_clear_24 : decode cX5_clear 24 = .ok (.putfield 22, 3) := by decide +kernel
theorem dX5_clear_27 : decode cX5_clear 27 = .ok (.aload_n 0, 1) := by decide +kernel
theorem dX5_clear_28 : decode cX5_clear 28 = .ok (.iconst 0, 1) := by decide +kernel
theorem dX5_clear_29 : decode cX5_clear 29 = .ok (.putfield 25, 3) := by decide +kernel
theorem dX5_clear_32 : decode cX5_clear 32 = .ok (.return_, 1) := by decide +kernel
theorem dX5_word_0 : decode cX5_word 0 = .ok (.iload_n 1, 1) := by decide +kernel
theorem dX5_word_1 : decode cX5_word 1 = .ok (.tableswitch 100 304 318 #[75, 100, 75, 100, 75, 100, 100, 100, 80, 100, 85, 100, 90, 100, 95], 75) := by decide +kernel
theorem dX5_word_76 : decode cX5_word 76 = .ok (.aload_n 0, 1) := by decide +kernel
theorem dX5_word_77 : decode cX5_word 77 = .ok (.getfield 13, 3) := by decide +kernel
theorem dX5_word_80 : decode cX5_word 80 = .ok (.ireturn, 1) := by decide +kernel
theorem dX5_word_81 : decode cX5_word 81 = .ok (.aload_n 0, 1) := by decide +kernel
theorem dX5_word_82 : decode cX5_word 82 = .ok (.getfield 16, 3) := by decide +kernel
theorem dX5_word_85 : decode cX5_word 85 = .ok (.ireturn, 1) := by decide +kernel
theorem dX5_word_86 : decode cX5_word 86 = .ok (.aload_n 0, 1) := by decide +kernel
theorem dX5_word_87 : decode cX5_word 87 = .ok (.getfield 19, 3) := by decide +kernel
theorem dX5_word_90 : decode cX5_word 90 = .ok (.ireturn, 1) := by decide +kernel
theorem dX5_word_91 : decode cX5_word 91 = .ok (.aload_n 0, 1) := by decide +kernel
theorem dX5_word_92 : decode cX5_word 92 = .ok (.getfield 22, 3) := by decide +kernel
theorem dX5_word_95 : decode cX5_word 95 = .ok (.ireturn, 1) := by decide +kernel
theorem dX5_word_96 : decode cX5_word 96 = .ok (.aload_n 0, 1) := by decide +kernel
theorem dX5_word_97 : decode cX5_word 97 = .ok (.getfield 25, 3) := by decide +kernel
theorem dX5_word_100 : decode cX5_word 100 = .ok (.ireturn, 1) := by decide +kernel
theorem dX5_word_101 : decode cX5_word 101 = .ok (.iconst 0, 1) := by decide +kernel
theorem dX5_word_102 : decode cX5_word 102 = .ok (.ireturn, 1) := by decide +kernel
theorem dX5_writeWord_0 : decode cX5_writeWord 0 = .ok (.iload_n 1, 1) := by decide +kernel
theorem dX5_writeWord_1 : decode cX5_writeWord 1 = .ok (.tableswitch 108 304 316 #[67, 108, 67, 108, 67, 108, 108, 108, 80, 108, 92, 108, 100], 67) := by decide +kernel
theorem dX5_writeWord_68 : decode cX5_writeWord 68 = .ok (.aload_n 0, 1) := by decide +kernel
theorem dX5_writeWord_69 : decode cX5_writeWord 69 = .ok (.iload_n 1, 1) := by decide +kernel
theorem dX5_writeWord_70 : decode cX5_writeWord 70 = .ok (.putfield 9, 3) := by decide +kernel
theorem dX5_writeWord_73 : decode cX5_writeWord 73 = .ok (.aload_n 0, 1) := by decide +kernel
theorem dX5_writeWord_74 : decode cX5_writeWord 74 = .ok (.iload_n 2, 1) := by decide +kernel
theorem dX5_writeWord_75 : decode cX5_writeWord 75 = .ok (.putfield 13, 3) := by decide +kernel
theorem dX5_writeWord_78 : decode cX5_writeWord 78 = .ok (.goto 31, 3) := by decide +kernel
theorem dX5_writeWord_81 : decode cX5_writeWord 81 = .ok (.aload_n 0, 1) := by decide +kernel
theorem dX5_writeWord_82 : decode cX5_writeWord 82 = .ok (.iload_n 2, 1) := by decide +kernel
theorem dX5_writeWord_83 : decode cX5_writeWord 83 = .ok (.putfield 16, 3) := by decide +kernel
theorem dX5_writeWord_86 : decode cX5_writeWord 86 = .ok (.aload_n 0, 1) := by decide +kernel
theorem dX5_writeWord_87 : decode cX5_writeWord 87 = .ok (.invokevirtual 28, 3) := by decide +kernel
theorem dX5_writeWord_90 : decode cX5_writeWord 90 = .ok (.goto 19, 3) := by decide +kernel
theorem dX5_writeWord_93 : decode cX5_writeWord 93 = .ok (.aload_n 0, 1) := by decide +kernel
theorem dX5_writeWord_94 : decode cX5_writeWord 94 = .ok (.iload_n 2, 1) := by decide +kernel
theorem dX5_writeWord_95 : decode cX5_writeWord 95 = .ok (.putfield 19, 3) := by decide +kernel
theorem dX5_writeWord_98 : decode cX5_writeWord 98 = .ok (.goto 11, 3) := by decide +kernel
theorem dX5_writeWord_101 : decode cX5_writeWord 101 = .ok (.aload_n 0, 1) := by decide +kernel
theorem dX5_writeWord_102 : decode cX5_writeWord 102 = .ok (.iload_n 2, 1) := by decide +kernel
theorem dX5_writeWord_103 : decode cX5_writeWord 103 = .ok (.putfield 22, 3) := by decide +kernel
theorem dX5_writeWord_106 : decode cX5_writeWord 106 = .ok (.goto 3, 3) := by decide +kernel
theorem dX5_writeWord_109 : decode cX5_writeWord 109 = .ok (.return_, 1) := by decide +kernel
theorem dX5_multiply_0 : decode cX5_multiply 0 = .ok (.aload_n 0, 1) := by decide +kernel
theorem dX5_multiply_1 : decode cX5_multiply 1 = .ok (.getfield 9, 3) := by decide +kernel
theorem dX5_multiply_4 : decode cX5_multiply 4 = .ok (.sipush 306, 3) := by decide +kernel
theorem dX5_multiply_7 : decode cX5_multiply 7 = .ok (.if_icmp .ne 36, 3) := by decide +kernel
theorem dX5_multiply_10 : decode cX5_multiply 10 = .ok (.aload_n 0, 1) := by decide +kernel
theorem dX5_multiply_11 : decode cX5_multiply 11 = .ok (.getfield 13, 3) := by decide +kernel
theorem dX5_multiply_14 : decode cX5_multiply 14 = .ok (.i2s, 1) := by decide +kernel
theorem dX5_multiply_15 : decode cX5_multiply 15 = .ok (.i2l, 1) := by decide +kernel
theorem dX5_multiply_16 : decode cX5_multiply 16 = .ok (.aload_n 0, 1) := by decide +kernel
theorem dX5_multiply_17 : decode cX5_multiply 17 = .ok (.getfield 16, 3) := by decide +kernel
theorem dX5_multiply_20 : decode cX5_multiply 20 = .ok (.i2s, 1) := by decide +kernel
theorem dX5_multiply_21 : decode cX5_multiply 21 = .ok (.i2l, 1) := by decide +kernel
theorem dX5_multiply_22 : decode cX5_multiply 22 = .ok (.lmul, 1) := by decide +kernel
theorem dX5_multiply_23 : decode cX5_multiply 23 = .ok (.lstore_n 1, 1) := by decide +kernel
theorem dX5_multiply_24 : decode cX5_multiply 24 = .ok (.aload_n 0, 1) := by decide +kernel
theorem dX5_multiply_25 : decode cX5_multiply 25 = .ok (.lload_n 1, 1) := by decide +kernel
theorem dX5_multiply_26 : decode cX5_multiply 26 = .ok (.lconst 0, 1) := by decide +kernel
theorem dX5_multiply_27 : decode cX5_multiply 27 = .ok (.lcmp, 1) := by decide +kernel
theorem dX5_multiply_28 : decode cX5_multiply 28 = .ok (.ifCond .ge 8, 3) := by decide +kernel
theorem dX5_multiply_31 : decode cX5_multiply 31 = .ok (.ldc 31, 2) := by decide +kernel
theorem dX5_multiply_33 : decode cX5_multiply 33 = .ok (.goto 4, 3) := by decide +kernel
theorem dX5_multiply_36 : decode cX5_multiply 36 = .ok (.iconst 0, 1) := by decide +kernel
theorem dX5_multiply_37 : decode cX5_multiply 37 = .ok (.putfield 25, 3) := by decide +kernel
theorem dX5_multiply_40 : decode cX5_multiply 40 = .ok (.goto 20, 3) := by decide +kernel
theorem dX5_multiply_43 : decode cX5_multiply 43 = .ok (.aload_n 0, 1) := by decide +kernel
theorem dX5_multiply_44 : decode cX5_multiply 44 = .ok (.getfield 13, 3) := by decide +kernel
theorem dX5_multiply_47 : decode cX5_multiply 47 = .ok (.i2l, 1) := by decide +kernel
theorem dX5_multiply_48 : decode cX5_multiply 48 = .ok (.aload_n 0, 1) := by decide +kernel
theorem dX5_multiply_49 : decode cX5_multiply 49 = .ok (.getfield 16, 3) := by decide +kernel
theorem dX5_multiply_52 : decode cX5_multiply 52 = .ok (.i2l, 1) := by decide +kernel
theorem dX5_multiply_53 : decode cX5_multiply 53 = .ok (.lmul, 1) := by decide +kernel
theorem dX5_multiply_54 : decode cX5_multiply 54 = .ok (.lstore_n 1, 1) := by decide +kernel
theorem dX5_multiply_55 : decode cX5_multiply 55 = .ok (.aload_n 0, 1) := by decide +kernel
theorem dX5_multiply_56 : decode cX5_multiply 56 = .ok (.iconst 0, 1) := by decide +kernel
theorem dX5_multiply_57 : decode cX5_multiply 57 = .ok (.putfield 25, 3) := by decide +kernel
theorem dX5_multiply_60 : decode cX5_multiply 60 = .ok (.aload_n 0, 1) := by decide +kernel
theorem dX5_multiply_61 : decode cX5_multiply 61 = .ok (.getfield 9, 3) := by decide +kernel
theorem dX5_multiply_64 : decode cX5_multiply 64 = .ok (.sipush 308, 3) := by decide +kernel
theorem dX5_multiply_67 : decode cX5_multiply 67 = .ok (.if_icmp .ne 31, 3) := by decide +kernel
theorem dX5_multiply_70 : decode cX5_multiply 70 = .ok (.lload_n 1, 1) := by decide +kernel
theorem dX5_multiply_71 : decode cX5_multiply 71 = .ok (.aload_n 0, 1) := by decide +kernel
theorem dX5_multiply_72 : decode cX5_multiply 72 = .ok (.getfield 22, 3) := by decide +kernel
theorem dX5_multiply_75 : decode cX5_multiply 75 = .ok (.i2l, 1) := by decide +kernel
theorem dX5_multiply_76 : decode cX5_multiply 76 = .ok (.bipush 16, 2) := by decide +kernel
theorem dX5_multiply_78 : decode cX5_multiply 78 = .ok (.lshl, 1) := by decide +kernel
theorem dX5_multiply_79 : decode cX5_multiply 79 = .ok (.aload_n 0, 1) := by decide +kernel
theorem dX5_multiply_80 : decode cX5_multiply 80 = .ok (.getfield 19, 3) := by decide +kernel
theorem dX5_multiply_83 : decode cX5_multiply 83 = .ok (.i2l, 1) := by decide +kernel
theorem dX5_multiply_84 : decode cX5_multiply 84 = .ok (.lor, 1) := by decide +kernel
theorem dX5_multiply_85 : decode cX5_multiply 85 = .ok (.ladd, 1) := by decide +kernel
theorem dX5_multiply_86 : decode cX5_multiply 86 = .ok (.lstore_n 1, 1) := by decide +kernel
theorem dX5_multiply_87 : decode cX5_multiply 87 = .ok (.aload_n 0, 1) := by decide +kernel
theorem dX5_multiply_88 : decode cX5_multiply 88 = .ok (.lload_n 1, 1) := by decide +kernel
theorem dX5_multiply_89 : decode cX5_multiply 89 = .ok (.bipush 32, 2) := by decide +kernel
theorem dX5_multiply_91 : decode cX5_multiply 91 = .ok (.lushr, 1) := by decide +kernel
theorem dX5_multiply_92 : decode cX5_multiply 92 = .ok (.l2i, 1) := by decide +kernel
theorem dX5_multiply_93 : decode cX5_multiply 93 = .ok (.iconst 1, 1) := by decide +kernel
theorem dX5_multiply_94 : decode cX5_multiply 94 = .ok (.iand, 1) := by decide +kernel
theorem dX5_multiply_95 : decode cX5_multiply 95 = .ok (.putfield 25, 3) := by decide +kernel
theorem dX5_multiply_98 : decode cX5_multiply 98 = .ok (.aload_n 0, 1) := by decide +kernel
theorem dX5_multiply_99 : decode cX5_multiply 99 = .ok (.lload_n 1, 1) := by decide +kernel
theorem dX5_multiply_100 : decode cX5_multiply 100 = .ok (.l2i, 1) := by decide +kernel
theorem dX5_multiply_101 : decode cX5_multiply 101 = .ok (.ldc 31, 2) := by decide +kernel
theorem dX5_multiply_103 : decode cX5_multiply 103 = .ok (.iand, 1) := by decide +kernel
theorem dX5_multiply_104 : decode cX5_multiply 104 = .ok (.putfield 19, 3) := by decide +kernel
theorem dX5_multiply_107 : decode cX5_multiply 107 = .ok (.aload_n 0, 1) := by decide +kernel
theorem dX5_multiply_108 : decode cX5_multiply 108 = .ok (.lload_n 1, 1) := by decide +kernel
theorem dX5_multiply_109 : decode cX5_multiply 109 = .ok (.bipush 16, 2) := by decide +kernel
theorem dX5_multiply_111 : decode cX5_multiply 111 = .ok (.lushr, 1) := by decide +kernel
theorem dX5_multiply_112 : decode cX5_multiply 112 = .ok (.l2i, 1) := by decide +kernel
theorem dX5_multiply_113 : decode cX5_multiply 113 = .ok (.ldc 31, 2) := by decide +kernel
theorem dX5_multiply_115 : decode cX5_multiply 115 = .ok (.iand, 1) := by decide +kernel
theorem dX5_multiply_116 : decode cX5_multiply 116 = .ok (.putfield 22, 3) := by decide +kernel
theorem dX5_multiply_119 : decode cX5_multiply 119 = .ok (.return_, 1) := by decide +kernel
theorem dX6_init_0 : decode cX6_init 0 = .ok (.aload_n 0, 1) := by decide +kernel
theorem dX6_init_1 : decode cX6_init 1 = .ok (.invokespecial 1, 3) := by decide +kernel
theorem dX6_init_4 : decode cX6_init 4 = .ok (.return_, 1) := by decide +kernel
theorem dX6_mode_0 : decode cX6_mode 0 = .ok (.aload_n 0, 1) := by decide +kernel
theorem dX6_mode_1 : decode cX6_mode 1 = .ok (.getfield 7, 3) := by decide +kernel
theorem dX6_mode_4 : decode cX6_mode 4 = .ok (.ireturn, 1) := by decide +kernel
theorem dX6_base_0 : decode cX6_base 0 = .ok (.aload_n 0, 1) := by decide +kernel
theorem dX6_base_1 : decode cX6_base 1 = .ok (.getfield 13, 3) := by decide +kernel
theorem dX6_base_4 : decode cX6_base 4 = .ok (.ireturn, 1) := by decide +kernel
theorem dX6_hasNext_0 : decode cX6_hasNext 0 = .ok (.aload_n 0, 1) := by decide +kernel
theorem dX6_hasNext_1 : decode cX6_hasNext 1 = .ok (.getfield 16, 3) := by decide +kernel
theorem dX6_hasNext_4 : decode cX6_hasNext 4 = .ok (.ireturn, 1) := by decide +kernel
theorem dX6_next_0 : decode cX6_next 0 = .ok (.aload_n 0, 1) := by decide +kernel
theorem dX6_next_1 : decode cX6_next 1 = .ok (.getfield 20, 3) := by decide +kernel
theorem dX6_next_4 : decode cX6_next 4 = .ok (.ifCond .eq 12, 3) := by decide +kernel
theorem dX6_next_7 : decode cX6_next 7 = .ok (.aload_n 0, 1) := by decide +kernel
theorem dX6_next_8 : decode cX6_next 8 = .ok (.getfield 23, 3) := by decide +kernel
theorem dX6_next_11 : decode cX6_next 11 = .ok (.iload_n 1, 1) := by decide +kernel
theorem dX6_next_12 : decode cX6_next 12 = .ok (.isub, 1) := by decide +kernel
theorem dX6_next_13 : decode cX6_next 13 = .ok (.goto 7, 3) := by decide +kernel
theorem dX6_next_16 : decode cX6_next 16 = .ok (.aload_n 0, 1) := by decide +kernel
theorem dX6_next_17 : decode cX6_next 17 = .ok (.getfield 23, 3) := by decide +kernel
theorem dX6_next_20 : decode cX6_next 20 = .ok (.ireturn, 1) := by decide +kernel
theorem dX6_take_0 : decode cX6_take 0 = .ok (.aload_n 0, 1) := by decide +kernel
theorem dX6_take_1 : decode cX6_take 1 = .ok (.iload_n 1, 1) := by decide +kernel
theorem dX6_take_2 : decode cX6_take 2 = .ok (.putfield 7, 3) := by decide +kernel
theorem dX6_take_5 : decode cX6_take 5 = .ok (.aload_n 0, 1) := by decide +kernel
theorem dX6_take_6 : decode cX6_take 6 = .ok (.iload_n 2, 1) := by decide +kernel
theorem dX6_take_7 : decode cX6_take 7 = .ok (.putfield 13, 3) := by decide +kernel
theorem dX6_take_10 : decode cX6_take 10 = .ok (.aload_n 0, 1) := by decide +kernel
theorem dX6_take_11 : decode cX6_take 11 = .ok (.iconst 0, 1) := by decide +kernel
theorem dX6_take_12 : decode cX6_take 12 = .ok (.putfield 23, 3) := by decide +kernel
theorem dX6_take_15 : decode cX6_take 15 = .ok (.aload_n 0, 1) := by decide +kernel
theorem dX6_take_16 : decode cX6_take 16 = .ok (.iconst 0, 1) := by decide +kernel
theorem dX6_take_17 : decode cX6_take 17 = .ok (.putfield 16, 3) := by decide +kernel
theorem dX6_take_20 : decode cX6_take 20 = .ok (.aload_n 0, 1) := by decide +kernel
theorem dX6_take_21 : decode cX6_take 21 = .ok (.iconst 0, 1) := by decide +kernel
theorem dX6_take_22 : decode cX6_take 22 = .ok (.putfield 20, 3) := by decide +kernel
theorem dX6_take_25 : decode cX6_take 25 = .ok (.return_, 1) := by decide +kernel
theorem dX6_takeWithNext_0 : decode cX6_takeWithNext 0 = .ok (.aload_n 0, 1) := by decide +kernel
theorem dX6_takeWithNext_1 : decode cX6_takeWithNext 1 = .ok (.iload_n 1, 1) := by decide +kernel
theorem dX6_takeWithNext_2 : decode cX6_takeWithNext 2 = .ok (.putfield 7, 3) := by decide +kernel
theorem dX6_takeWithNext_5 : decode cX6_takeWithNext 5 = .ok (.aload_n 0, 1) := by decide +kernel
theorem dX6_takeWithNext_6 : decode cX6_takeWithNext 6 = .ok (.iload_n 2, 1) := by decide +kernel
theorem dX6_takeWithNext_7 : decode cX6_takeWithNext 7 = .ok (.putfield 13, 3) := by decide +kernel
theorem dX6_takeWithNext_10 : decode cX6_takeWithNext 10 = .ok (.aload_n 0, 1) := by decide +kernel
theorem dX6_takeWithNext_11 : decode cX6_takeWithNext 11 = .ok (.iload_n 3, 1) := by decide +kernel
theorem dX6_takeWithNext_12 : decode cX6_takeWithNext 12 = .ok (.putfield 23, 3) := by decide +kernel
theorem dX6_takeWithNext_15 : decode cX6_takeWithNext 15 = .ok (.aload_n 0, 1) := by decide +kernel
theorem dX6_takeWithNext_16 : decode cX6_takeWithNext 16 = .ok (.iconst 1, 1) := by decide +kernel
theorem dX6_takeWithNext_17 : decode cX6_takeWithNext 17 = .ok (.putfield 16, 3) := by decide +kernel
theorem dX6_takeWithNext_20 : decode cX6_takeWithNext 20 = .ok (.aload_n 0, 1) := by decide +kernel
theorem dX6_takeWithNext_21 : decode cX6_takeWithNext 21 = .ok (.iconst 0, 1) := by decide +kernel
theorem dX6_takeWithNext_22 : decode cX6_takeWithNext 22 = .ok (.putfield 20, 3) := by decide +kernel
theorem dX6_takeWithNext_25 : decode cX6_takeWithNext 25 = .ok (.return_, 1) := by decide +kernel
theorem dX6_takeSymbolic_0 : decode cX6_takeSymbolic 0 = .ok (.aload_n 0, 1) := by decide +kernel
theorem dX6_takeSymbolic_1 : decode cX6_takeSymbolic 1 = .ok (.iconst 1, 1) := by decide +kernel
theorem dX6_takeSymbolic_2 : decode cX6_takeSymbolic 2 = .ok (.iconst 0, 1) := by decide +kernel
theorem dX6_takeSymbolic_3 : decode cX6_takeSymbolic 3 = .ok (.iload_n 1, 1) := by decide +kernel
theorem dX6_takeSymbolic_4 : decode cX6_takeSymbolic 4 = .ok (.invokevirtual 28, 3) := by decide +kernel
theorem dX6_takeSymbolic_7 : decode cX6_takeSymbolic 7 = .ok (.aload_n 0, 1) := by decide +kernel
theorem dX6_takeSymbolic_8 : decode cX6_takeSymbolic 8 = .ok (.iconst 1, 1) := by decide +kernel
theorem dX6_takeSymbolic_9 : decode cX6_takeSymbolic 9 = .ok (.putfield 20, 3) := by decide +kernel
theorem dX6_takeSymbolic_12 : decode cX6_takeSymbolic 12 = .ok (.return_, 1) := by decide +kernel
theorem dX6_takeNumber_0 : decode cX6_takeNumber 0 = .ok (.iload_n 1, 1) := by decide +kernel
theorem dX6_takeNumber_1 : decode cX6_takeNumber 1 = .ok (.ldc 32, 2) := by decide +kernel
theorem dX6_takeNumber_3 : decode cX6_takeNumber 3 = .ok (.iand, 1) := by decide +kernel
theorem dX6_takeNumber_4 : decode cX6_takeNumber 4 = .ok (.lookupswitch 98 #[(0, 60), (1, 60), (2, 60), (4, 80), (8, 89), (65535, 71)], 60) := by decide +kernel
theorem dX6_takeNumber_64 : decode cX6_takeNumber 64 = .ok (.aload_n 0, 1) := by decide +kernel
theorem dX6_takeNumber_65 : decode cX6_takeNumber 65 = .ok (.iload_n 1, 1) := by decide +kernel
theorem dX6_takeNumber_66 : decode cX6_takeNumber 66 = .ok (.iconst 3, 1) := by decide +kernel
theorem dX6_takeNumber_67 : decode cX6_takeNumber 67 = .ok (.iand, 1) := by decide +kernel
theorem dX6_takeNumber_68 : decode cX6_takeNumber 68 = .ok (.iconst 3, 1) := by decide +kernel
theorem dX6_takeNumber_69 : decode cX6_takeNumber 69 = .ok (.invokevirtual 33, 3) := by decide +kernel
theorem dX6_takeNumber_72 : decode cX6_takeNumber 72 = .ok (.goto 37, 3) := by decide +kernel
theorem dX6_takeNumber_75 : decode cX6_takeNumber 75 = .ok (.aload_n 0, 1) := by decide +kernel
theorem dX6_takeNumber_76 : decode cX6_takeNumber 76 = .ok (.iconst 3, 1) := by decide +kernel
theorem dX6_takeNumber_77 : decode cX6_takeNumber 77 = .ok (.iconst 3, 1) := by decide +kernel
theorem dX6_takeNumber_78 : decode cX6_takeNumber 78 = .ok (.invokevirtual 33, 3) := by decide +kernel
theorem dX6_takeNumber_81 : decode cX6_takeNumber 81 = .ok (.goto 28, 3) := by decide +kernel
theorem dX6_takeNumber_84 : decode cX6_takeNumber 84 = .ok (.aload_n 0, 1) := by decide +kernel
theorem dX6_takeNumber_85 : decode cX6_takeNumber 85 = .ok (.iconst 2, 1) := by decide +kernel
theorem dX6_takeNumber_86 : decode cX6_takeNumber 86 = .ok (.iconst 2, 1) := by decide +kernel
theorem dX6_takeNumber_87 : decode cX6_takeNumber 87 = .ok (.invokevirtual 33, 3) := by decide +kernel
theorem dX6_takeNumber_90 : decode cX6_takeNumber 90 = .ok (.goto 19, 3) := by decide +kernel
theorem dX6_takeNumber_93 : decode cX6_takeNumber 93 = .ok (.aload_n 0, 1) := by decide +kernel
theorem dX6_takeNumber_94 : decode cX6_takeNumber 94 = .ok (.iconst 3, 1) := by decide +kernel
theorem dX6_takeNumber_95 : decode cX6_takeNumber 95 = .ok (.iconst 2, 1) := by decide +kernel
theorem dX6_takeNumber_96 : decode cX6_takeNumber 96 = .ok (.invokevirtual 33, 3) := by decide +kernel
theorem dX6_takeNumber_99 : decode cX6_takeNumber 99 = .ok (.goto 10, 3) := by decide +kernel
theorem dX6_takeNumber_102 : decode cX6_takeNumber 102 = .ok (.aload_n 0, 1) := by decide +kernel
theorem dX6_takeNumber_103 : decode cX6_takeNumber 103 = .ok (.iconst 3, 1) := by decide +kernel
theorem dX6_takeNumber_104 : decode cX6_takeNumber 104 = .ok (.iconst 0, 1) := by decide +kernel
theorem dX6_takeNumber_105 : decode cX6_takeNumber 105 = .ok (.iload_n 1, 1) := by decide +kernel
theorem dX6_takeNumber_106 : decode cX6_takeNumber 106 = .ok (.invokevirtual 28, 3) := by decide +kernel
theorem dX6_takeNumber_109 : decode cX6_takeNumber 109 = .ok (.return_, 1) := by decide +kernel
theorem dX7_init_0 : decode cX7_init 0 = .ok (.aload_n 0, 1) := by decide +kernel
theorem dX7_init_1 : decode cX7_init 1 = .ok (.invokespecial 1, 3) := by decide +kernel
theorem dX7_init_4 : decode cX7_init 4 = .ok (.return_, 1) := by decide +kernel
theorem dX7_clear_0 : decode cX7_clear 0 = .ok (.aload_n 0, 1) := by decide +kernel
theorem dX7_clear_1 : decode cX7_clear 1 = .ok (.iconst 0, 1) := by decide +kernel
theorem dX7_clear_2 : decode cX7_clear 2 = .ok (.putfield 7, 3) := by decide +kernel
theorem dX7_clear_5 : decode cX7_clear 5 = .ok (.aload_n 0, 1) := by decide +kernel
theorem dX7_clear_6 : decode cX7_clear 6 = .ok (.iconst 0, 1) := by decide +kernel
theorem dX7_clear_7 : decode cX7_clear 7 = .ok (.putfield 13, 3) := by decide +kernel
theorem dX7_clear_10 : decode cX7_clear 10 = .ok (.aload_n 0, 1) := by decide +kernel
theorem dX7_clear_11 : decode cX7_clear 11 = .ok (.iconst 0, 1) := by decide +kernel
theorem dX7_clear_12 : decode cX7_clear 12 = .ok (.putfield 16, 3) := by decide +kernel
theorem dX7_clear_15 : decode cX7_clear 15 = .ok (.aload_n 0, 1) := by decide +kernel
theorem dX7_clear_16 : decode cX7_clear 16 = .ok (.iconst 0, 1) := by decide +kernel
theorem dX7_clear_17 : decode cX7_clear 17 = .ok (.putfield 19, 3) := by decide +kernel
theorem dX7_clear_20 : decode cX7_clear 20 = .ok (.aload_n 0, 1) := by decide +kernel
theorem dX7_clear_21 : decode cX7_clear 21 = .ok (.iconst 0, 1) := by decide +kernel
theorem dX7_clear_22 : decode cX7_clear 22 = .ok (.putfield 22, 3) := by decide +kernel
theorem dX7_clear_25 : decode cX7_clear 25 = .ok (.return_, 1) := by decide +kernel
theorem dX7_value_0 : decode cX7_value 0 = .ok (.iload_n 1, 1) := by decide +kernel
theorem dX7_value_1 : decode cX7_value 1 = .ok (.tableswitch 64 32 37 #[39, 44, 64, 49, 54, 59], 39) := by decide +kernel
theorem dX7_value_40 : decode cX7_value 40 = .ok (.aload_n 0, 1) := by decide +kernel
theorem dX7_value_41 : decode cX7_value 41 = .ok (.getfield 7, 3) := by decide +kernel
theorem dX7_value_44 : decode cX7_value 44 = .ok (.ireturn, 1) := by decide +kernel
theorem dX7_value_45 : decode cX7_value 45 = .ok (.aload_n 0, 1) := by decide +kernel
theorem dX7_value_46 : decode cX7_value 46 = .ok (.getfield 13, 3) := by decide +kernel
theorem dX7_value_49 : decode cX7_value 49 = .ok (.ireturn, 1) := by decide +kernel
theorem dX7_value_50 : decode cX7_value 50 = .ok (.aload_n 0, 1) := by decide +kernel
theorem dX7_value_51 : decode cX7_value 51 = .ok (.getfield 16, 3) := by decide +kernel
theorem dX7_value_54 : decode cX7_value 54 = .ok (.ireturn, 1) := by decide +kernel
theorem dX7_value_55 : decode cX7_value 55 = .ok (.aload_n 0, 1) := by decide +kernel
theorem dX7_value_56 : decode cX7_value 56 = .ok (.getfield 19, 3) := by decide +kernel
theorem dX7_value_59 : decode cX7_value 59 = .ok (.ireturn, 1) := by decide +kernel
theorem dX7_value_60 : decode cX7_value 60 = .ok (.aload_n 0, 1) := by decide +kernel
theorem dX7_value_61 : decode cX7_value 61 = .ok (.getfield 22, 3) := by decide +kernel
theorem dX7_value_64 : decode cX7_value 64 = .ok (.ireturn, 1) := by decide +kernel
theorem dX7_value_65 : decode cX7_value 65 = .ok (.iconst 0, 1) := by decide +kernel
theorem dX7_value_66 : decode cX7_value 66 = .ok (.ireturn, 1) := by decide +kernel
theorem dX7_write_0 : decode cX7_write 0 = .ok (.iload_n 1, 1) := by decide +kernel
theorem dX7_write_1 : decode cX7_write 1 = .ok (.tableswitch 83 33 37 #[35, 83, 47, 59, 71], 35) := by decide +kernel
theorem dX7_write_36 : decode cX7_write 36 = .ok (.aload_n 0, 1) := by decide +kernel
theorem dX7_write_37 : decode cX7_write 37 = .ok (.iload_n 2, 1) := by decide +kernel
theorem dX7_write_38 : decode cX7_write 38 = .ok (.sipush 255, 3) := by decide +kernel
theorem dX7_write_41 : decode cX7_write 41 = .ok (.iand, 1) := by decide +kernel
theorem dX7_write_42 : decode cX7_write 42 = .ok (.putfield 13, 3) := by decide +kernel
theorem dX7_write_45 : decode cX7_write 45 = .ok (.goto 39, 3) := by decide +kernel
theorem dX7_write_48 : decode cX7_write 48 = .ok (.aload_n 0, 1) := by decide +kernel
theorem dX7_write_49 : decode cX7_write 49 = .ok (.iload_n 2, 1) := by decide +kernel
theorem dX7_write_50 : decode cX7_write 50 = .ok (.sipush 255, 3) := by decide +kernel
theorem dX7_write_53 : decode cX7_write 53 = .ok (.iand, 1) := by decide +kernel
theorem dX7_write_54 : decode cX7_write 54 = .ok (.putfield 16, 3) := by decide +kernel
theorem dX7_write_57 : decode cX7_write 57 = .ok (.goto 27, 3) := by decide +kernel
theorem dX7_write_60 : decode cX7_write 60 = .ok (.aload_n 0, 1) := by decide +kernel
theorem dX7_write_61 : decode cX7_write 61 = .ok (.iload_n 2, 1) := by decide +kernel
theorem dX7_write_62 : decode cX7_write 62 = .ok (.sipush 255, 3) := by decide +kernel
theorem dX7_write_65 : decode cX7_write 65 = .ok (.iand, 1) := by decide +kernel
theorem dX7_write_66 : decode cX7_write 66 = .ok (.putfield 19, 3) := by decide +kernel
theorem dX7_write_69 : decode cX7_write 69 = .ok (.goto 15, 3) := by decide +kernel
theorem dX7_write_72 : decode cX7_write 72 = .ok (.aload_n 0, 1) := by decide +kernel
theorem dX7_write_73 : decode cX7_write 73 = .ok (.iload_n 2, 1) := by decide +kernel
theorem dX7_write_74 : decode cX7_write 74 = .ok (.sipush 255, 3) := by decide +kernel
theorem dX7_write_77 : decode cX7_write 77 = .ok (.iand, 1) := by decide +kernel
theorem dX7_write_78 : decode cX7_write 78 = .ok (.putfield 22, 3) := by decide +kernel
theorem dX7_write_81 : decode cX7_write 81 = .ok (.goto 3, 3) := by decide +kernel
theorem dX7_write_84 : decode cX7_write 84 = .ok (.return_, 1) := by decide +kernel
theorem dX7_change_0 : decode cX7_change 0 = .ok (.iload_n 1, 1) := by decide +kernel
theorem dX7_change_1 : decode cX7_change 1 = .ok (.aload_n 0, 1) := by decide +kernel
theorem dX7_change_2 : decode cX7_change 2 = .ok (.getfield 7, 3) := by decide +kernel
theorem dX7_change_5 : decode cX7_change 5 = .ok (.iconst (-1), 1) := by decide +kernel
theorem dX7_change_6 : decode cX7_change 6 = .ok (.ixor, 1) := by decide +kernel
theorem dX7_change_7 : decode cX7_change 7 = .ok (.iand, 1) := by decide +kernel
theorem dX7_change_8 : decode cX7_change 8 = .ok (.istore_n 2, 1) := by decide +kernel
theorem dX7_change_9 : decode cX7_change 9 = .ok (.aload_n 0, 1) := by decide +kernel
theorem dX7_change_10 : decode cX7_change 10 = .ok (.getfield 7, 3) := by decide +kernel
theorem dX7_change_13 : decode cX7_change 13 = .ok (.iload_n 1, 1) := by decide +kernel
theorem dX7_change_14 : decode cX7_change 14 = .ok (.iconst (-1), 1) := by decide +kernel
theorem dX7_change_15 : decode cX7_change 15 = .ok (.ixor, 1) := by decide +kernel
theorem dX7_change_16 : decode cX7_change 16 = .ok (.iand, 1) := by decide +kernel
theorem dX7_change_17 : decode cX7_change 17 = .ok (.istore_n 3, 1) := by decide +kernel
theorem dX7_change_18 : decode cX7_change 18 = .ok (.aload_n 0, 1) := by decide +kernel
theorem dX7_change_19 : decode cX7_change 19 = .ok (.dup, 1) := by decide +kernel
theorem dX7_change_20 : decode cX7_change 20 = .ok (.getfield 16, 3) := by decide +kernel
theorem dX7_change_23 : decode cX7_change 23 = .ok (.iload_n 2, 1) := by decide +kernel
theorem dX7_change_24 : decode cX7_change 24 = .ok (.aload_n 0, 1) := by decide +kernel
theorem dX7_change_25 : decode cX7_change 25 = .ok (.getfield 19, 3) := by decide +kernel
theorem dX7_change_28 : decode cX7_change 28 = .ok (.iconst (-1), 1) := by decide +kernel
theorem dX7_change_29 : decode cX7_change 29 = .ok (.ixor, 1) := by decide +kernel
theorem dX7_change_30 : decode cX7_change 30 = .ok (.iand, 1) := by decide +kernel
theorem dX7_change_31 : decode cX7_change 31 = .ok (.iload_n 3, 1) := by decide +kernel
theorem dX7_change_32 : decode cX7_change 32 = .ok (.aload_n 0, 1) := by decide +kernel
theorem dX7_change_33 : decode cX7_change 33 = .ok (.getfield 19, 3) := by decide +kernel
theorem dX7_change_36 : decode cX7_change 36 = .ok (.iand, 1) := by decide +kernel
theorem dX7_change_37 : decode cX7_change 37 = .ok (.ior, 1) := by decide +kernel
theorem dX7_change_38 : decode cX7_change 38 = .ok (.ior, 1) := by decide +kernel
theorem dX7_change_39 : decode cX7_change 39 = .ok (.putfield 16, 3) := by decide +kernel
theorem dX7_change_42 : decode cX7_change 42 = .ok (.aload_n 0, 1) := by decide +kernel
theorem dX7_change_43 : decode cX7_change 43 = .ok (.iload_n 1, 1) := by decide +kernel
theorem dX7_change_44 : decode cX7_change 44 = .ok (.putfield 7, 3) := by decide +kernel
theorem dX7_change_47 : decode cX7_change 47 = .ok (.return_, 1) := by decide +kernel
theorem dX7_requests_0 : decode cX7_requests 0 = .ok (.aload_n 0, 1) := by decide +kernel
theorem dX7_requests_1 : decode cX7_requests 1 = .ok (.getfield 16, 3) := by decide +kernel
theorem dX7_requests_4 : decode cX7_requests 4 = .ok (.aload_n 0, 1) := by decide +kernel
theorem dX7_requests_5 : decode cX7_requests 5 = .ok (.getfield 22, 3) := by decide +kernel
theorem dX7_requests_8 : decode cX7_requests 8 = .ok (.iand, 1) := by decide +kernel
theorem dX7_requests_9 : decode cX7_requests 9 = .ok (.ifCond .eq 7, 3) := by decide +kernel
theorem dX7_requests_12 : decode cX7_requests 12 = .ok (.iconst 1, 1) := by decide +kernel
theorem dX7_requests_13 : decode cX7_requests 13 = .ok (.goto 4, 3) := by decide +kernel
theorem dX7_requests_16 : decode cX7_requests 16 = .ok (.iconst 0, 1) := by decide +kernel
theorem dX7_requests_17 : decode cX7_requests 17 = .ok (.ireturn, 1) := by decide +kernel
theorem dX8_init_0 : decode cX8_init 0 = .ok (.aload_n 0, 1) := by decide +kernel
theorem dX8_init_1 : decode cX8_init 1 = .ok (.invokespecial 3, 3) := by decide +kernel
theorem dX8_init_4 : decode cX8_init 4 = .ok (.aload_n 0, 1) := by decide +kernel
theorem dX8_init_5 : decode cX8_init 5 = .ok (.bipush 64, 2) := by decide +kernel
theorem dX8_init_7 : decode cX8_init 7 = .ok (.newarray .int, 2) := by decide +kernel
theorem dX8_init_9 : decode cX8_init 9 = .ok (.putfield 11, 3) := by decide +kernel
theorem dX8_init_12 : decode cX8_init 12 = .ok (.aload_n 0, 1) := by decide +kernel
theorem dX8_init_13 : decode cX8_init 13 = .ok (.aload_n 1, 1) := by decide +kernel
theorem dX8_init_14 : decode cX8_init 14 = .ok (.putfield 15, 3) := by decide +kernel
theorem dX8_init_17 : decode cX8_init 17 = .ok (.return_, 1) := by decide +kernel
theorem dX8_length_0 : decode cX8_length 0 = .ok (.aload_n 0, 1) := by decide +kernel
theorem dX8_length_1 : decode cX8_length 1 = .ok (.getfield 19, 3) := by decide +kernel
theorem dX8_length_4 : decode cX8_length 4 = .ok (.ireturn, 1) := by decide +kernel
theorem dX8_behind_0 : decode cX8_behind 0 = .ok (.aload_n 0, 1) := by decide +kernel
theorem dX8_behind_1 : decode cX8_behind 1 = .ok (.getfield 23, 3) := by decide +kernel
theorem dX8_behind_4 : decode cX8_behind 4 = .ok (.ireturn, 1) := by decide +kernel
theorem dX8_sign_0 : decode cX8_sign 0 = .ok (.iload_n 1, 1) := by decide +kernel
theorem dX8_sign_1 : decode cX8_sign 1 = .ok (.ifCond .lt 18, 3) := by decide +kernel
theorem dX8_sign_4 : decode cX8_sign 4 = .ok (.iload_n 1, 1) := by decide +kernel
theorem dX8_sign_5 : decode cX8_sign 5 = .ok (.bipush 64, 2) := by decide +kernel
theorem dX8_sign_7 : decode cX8_sign 7 = .ok (.if_icmp .ge 12, 3) := by decide +kernel
theorem dX8_sign_10 : decode cX8_sign 10 = .ok (.aload_n 0, 1) := by decide +kernel
theorem dX8_sign_11 : decode cX8_sign 11 = .ok (.getfield 11, 3) := by decide +kernel
theorem dX8_sign_14 : decode cX8_sign 14 = .ok (.iload_n 1, 1) := by decide +kernel
theorem dX8_sign_15 : decode cX8_sign 15 = .ok (.iaload, 1) := by decide +kernel
theorem dX8_sign_16 : decode cX8_sign 16 = .ok (.goto 4, 3) := by decide +kernel
theorem dX8_sign_19 : decode cX8_sign 19 = .ok (.iconst 0, 1) := by decide +kernel
theorem dX8_sign_20 : decode cX8_sign 20 = .ok (.ireturn, 1) := by decide +kernel
theorem dX8_tellCode_0 : decode cX8_tellCode 0 = .ok (.aload_n 0, 1) := by decide +kernel
theorem dX8_tellCode_1 : decode cX8_tellCode 1 = .ok (.getfield 15, 3) := by decide +kernel
theorem dX8_tellCode_4 : decode cX8_tellCode 4 = .ok (.iload_n 1, 1) := by decide +kernel
theorem dX8_tellCode_5 : decode cX8_tellCode 5 = .ok (.invokevirtual 26, 3) := by decide +kernel
theorem dX8_tellCode_8 : decode cX8_tellCode 8 = .ok (.istore_n 2, 1) := by decide +kernel
theorem dX8_tellCode_9 : decode cX8_tellCode 9 = .ok (.aload_n 0, 1) := by decide +kernel
theorem dX8_tellCode_10 : decode cX8_tellCode 10 = .ok (.iconst 0, 1) := by decide +kernel
theorem dX8_tellCode_11 : decode cX8_tellCode 11 = .ok (.putfield 19, 3) := by decide +kernel
theorem dX8_tellCode_14 : decode cX8_tellCode 14 = .ok (.aload_n 0, 1) := by decide +kernel
theorem dX8_tellCode_15 : decode cX8_tellCode 15 = .ok (.iload_n 1, 1) := by decide +kernel
theorem dX8_tellCode_16 : decode cX8_tellCode 16 = .ok (.iconst 2, 1) := by decide +kernel
theorem dX8_tellCode_17 : decode cX8_tellCode 17 = .ok (.iadd, 1) := by decide +kernel
theorem dX8_tellCode_18 : decode cX8_tellCode 18 = .ok (.putfield 32, 3) := by decide +kernel
theorem dX8_tellCode_21 : decode cX8_tellCode 21 = .ok (.iload_n 2, 1) := by decide +kernel
theorem dX8_tellCode_22 : decode cX8_tellCode 22 = .ok (.invokestatic 35, 3) := by decide +kernel
theorem dX8_tellCode_25 : decode cX8_tellCode 25 = .ok (.ifCond .ne 8, 3) := by decide +kernel
theorem dX8_tellCode_28 : decode cX8_tellCode 28 = .ok (.iconst 0, 1) := by decide +kernel
theorem dX8_tellCode_29 : decode cX8_tellCode 29 = .ok (.istore_n 3, 1) := by decide +kernel
theorem dX8_tellCode_30 : decode cX8_tellCode 30 = .ok (.goto 95, 3) := by decide +kernel
theorem dX8_tellCode_33 : decode cX8_tellCode 33 = .ok (.iload_n 2, 1) := by decide +kernel
theorem dX8_tellCode_34 : decode cX8_tellCode 34 = .ok (.sipush 16384, 3) := by decide +kernel
theorem dX8_tellCode_37 : decode cX8_tellCode 37 = .ok (.if_icmp .lt 12, 3) := by decide +kernel
theorem dX8_tellCode_40 : decode cX8_tellCode 40 = .ok (.aload_n 0, 1) := by decide +kernel
theorem dX8_tellCode_41 : decode cX8_tellCode 41 = .ok (.iload_n 2, 1) := by decide +kernel
theorem dX8_tellCode_42 : decode cX8_tellCode 42 = .ok (.invokevirtual 41, 3) := by decide +kernel
theorem dX8_tellCode_45 : decode cX8_tellCode 45 = .ok (.istore_n 3, 1) := by decide +kernel
theorem dX8_tellCode_46 : decode cX8_tellCode 46 = .ok (.goto 79, 3) := by decide +kernel
theorem dX8_tellCode_49 : decode cX8_tellCode 49 = .ok (.iload_n 2, 1) := by decide +kernel
theorem dX8_tellCode_50 : decode cX8_tellCode 50 = .ok (.sipush 8192, 3) := by decide +kernel
theorem dX8_tellCode_53 : decode cX8_tellCode 53 = .ok (.if_icmp .ge 12, 3) := by decide +kernel
theorem dX8_tellCode_56 : decode cX8_tellCode 56 = .ok (.aload_n 0, 1) := by decide +kernel
theorem dX8_tellCode_57 : decode cX8_tellCode 57 = .ok (.iload_n 2, 1) := by decide +kernel
theorem dX8_tellCode_58 : decode cX8_tellCode 58 = .ok (.invokevirtual 44, 3) := by decide +kernel
theorem dX8_tellCode_61 : decode cX8_tellCode 61 = .ok (.istore_n 3, 1) := by decide +kernel
theorem dX8_tellCode_62 : decode cX8_tellCode 62 = .ok (.goto 63, 3) := by decide +kernel
theorem dX8_tellCode_65 : decode cX8_tellCode 65 = .ok (.aload_n 0, 1) := by decide +kernel
theorem dX8_tellCode_66 : decode cX8_tellCode 66 = .ok (.bipush 19, 2) := by decide +kernel
theorem dX8_tellCode_68 : decode cX8_tellCode 68 = .ok (.iload_n 2, 1) := by decide +kernel
theorem dX8_tellCode_69 : decode cX8_tellCode 69 = .ok (.bipush 10, 2) := by decide +kernel
theorem dX8_tellCode_71 : decode cX8_tellCode 71 = .ok (.ishr, 1) := by decide +kernel
theorem dX8_tellCode_72 : decode cX8_tellCode 72 = .ok (.bipush 7, 2) := by decide +kernel
theorem dX8_tellCode_74 : decode cX8_tellCode 74 = .ok (.iand, 1) := by decide +kernel
theorem dX8_tellCode_75 : decode cX8_tellCode 75 = .ok (.iadd, 1) := by decide +kernel
theorem dX8_tellCode_76 : decode cX8_tellCode 76 = .ok (.iconst 0, 1) := by decide +kernel
theorem dX8_tellCode_77 : decode cX8_tellCode 77 = .ok (.invokevirtual 47, 3) := by decide +kernel
theorem dX8_tellCode_80 : decode cX8_tellCode 80 = .ok (.iload_n 2, 1) := by decide +kernel
theorem dX8_tellCode_81 : decode cX8_tellCode 81 = .ok (.sipush 512, 3) := by decide +kernel
theorem dX8_tellCode_84 : decode cX8_tellCode 84 = .ok (.iand, 1) := by decide +kernel
theorem dX8_tellCode_85 : decode cX8_tellCode 85 = .ok (.ifCond .eq 15, 3) := by decide +kernel
theorem dX8_tellCode_88 : decode cX8_tellCode 88 = .ok (.iload_n 2, 1) := by decide +kernel
theorem dX8_tellCode_89 : decode cX8_tellCode 89 = .ok (.sipush 1023, 3) := by decide +kernel
theorem dX8_tellCode_92 : decode cX8_tellCode 92 = .ok (.iand, 1) := by decide +kernel
theorem dX8_tellCode_93 : decode cX8_tellCode 93 = .ok (.sipush 1024, 3) := by decide +kernel
theorem dX8_tellCode_96 : decode cX8_tellCode 96 = .ok (.isub, 1) := by decide +kernel
theorem dX8_tellCode_97 : decode cX8_tellCode 97 = .ok (.goto 8, 3) := by decide +kernel
theorem dX8_tellCode_100 : decode cX8_tellCode 100 = .ok (.iload_n 2, 1) := by decide +kernel
theorem dX8_tellCode_101 : decode cX8_tellCode 101 = .ok (.sipush 1023, 3) := by decide +kernel
theorem dX8_tellCode_104 : decode cX8_tellCode 104 = .ok (.iand, 1) := by decide +kernel
theorem dX8_tellCode_105 : decode cX8_tellCode 105 = .ok (.istore 4, 2) := by decide +kernel
theorem dX8_tellCode_107 : decode cX8_tellCode 107 = .ok (.aload_n 0, 1) := by decide +kernel
theorem dX8_tellCode_108 : decode cX8_tellCode 108 = .ok (.aload_n 0, 1) := by decide +kernel
theorem dX8_tellCode_109 : decode cX8_tellCode 109 = .ok (.getfield 32, 3) := by decide +kernel
theorem dX8_tellCode_112 : decode cX8_tellCode 112 = .ok (.iconst 2, 1) := by decide +kernel
theorem dX8_tellCode_113 : decode cX8_tellCode 113 = .ok (.iload 4, 2) := by decide +kernel
theorem dX8_tellCode_115 : decode cX8_tellCode 115 = .ok (.imul, 1) := by decide +kernel
theorem dX8_tellCode_116 : decode cX8_tellCode 116 = .ok (.iadd, 1) := by decide +kernel
theorem dX8_tellCode_117 : decode cX8_tellCode 117 = .ok (.ldc 51, 2) := by decide +kernel
theorem dX8_tellCode_119 : decode cX8_tellCode 119 = .ok (.iand, 1) := by decide +kernel
theorem dX8_tellCode_120 : decode cX8_tellCode 120 = .ok (.invokevirtual 52, 3) := by decide +kernel
theorem dX8_tellCode_123 : decode cX8_tellCode 123 = .ok (.iconst 1, 1) := by decide +kernel
theorem dX8_tellCode_124 : decode cX8_tellCode 124 = .ok (.istore_n 3, 1) := by decide +kernel
theorem dX8_tellCode_125 : decode cX8_tellCode 125 = .ok (.aload_n 0, 1) := by decide +kernel
theorem dX8_tellCode_126 : decode cX8_tellCode 126 = .ok (.aload_n 0, 1) := by decide +kernel
theorem dX8_tellCode_127 : decode cX8_tellCode 127 = .ok (.getfield 32, 3) := by decide +kernel
theorem dX8_tellCode_130 : decode cX8_tellCode 130 = .ok (.ldc 51, 2) := by decide +kernel
theorem dX8_tellCode_132 : decode cX8_tellCode 132 = .ok (.iand, 1) := by decide +kernel
theorem dX8_tellCode_133 : decode cX8_tellCode 133 = .ok (.putfield 23, 3) := by decide +kernel
theorem dX8_tellCode_136 : decode cX8_tellCode 136 = .ok (.iload_n 3, 1) := by decide +kernel
theorem dX8_tellCode_137 : decode cX8_tellCode 137 = .ok (.ireturn, 1) := by decide +kernel
theorem dX8_tellWord_0 : decode cX8_tellWord 0 = .ok (.aload_n 0, 1) := by decide +kernel
theorem dX8_tellWord_1 : decode cX8_tellWord 1 = .ok (.iconst 0, 1) := by decide +kernel
theorem dX8_tellWord_2 : decode cX8_tellWord 2 = .ok (.putfield 19, 3) := by decide +kernel
theorem dX8_tellWord_5 : decode cX8_tellWord 5 = .ok (.aload_n 0, 1) := by decide +kernel
theorem dX8_tellWord_6 : decode cX8_tellWord 6 = .ok (.bipush 28, 2) := by decide +kernel
theorem dX8_tellWord_8 : decode cX8_tellWord 8 = .ok (.iconst 0, 1) := by decide +kernel
theorem dX8_tellWord_9 : decode cX8_tellWord 9 = .ok (.invokevirtual 47, 3) := by decide +kernel
theorem dX8_tellWord_12 : decode cX8_tellWord 12 = .ok (.aload_n 0, 1) := by decide +kernel
theorem dX8_tellWord_13 : decode cX8_tellWord 13 = .ok (.aload_n 0, 1) := by decide +kernel
theorem dX8_tellWord_14 : decode cX8_tellWord 14 = .ok (.getfield 15, 3) := by decide +kernel
theorem dX8_tellWord_17 : decode cX8_tellWord 17 = .ok (.iload_n 1, 1) := by decide +kernel
theorem dX8_tellWord_18 : decode cX8_tellWord 18 = .ok (.invokevirtual 26, 3) := by decide +kernel
theorem dX8_tellWord_21 : decode cX8_tellWord 21 = .ok (.invokevirtual 52, 3) := by decide +kernel
theorem dX8_tellWord_24 : decode cX8_tellWord 24 = .ok (.aload_n 0, 1) := by decide +kernel
theorem dX8_tellWord_25 : decode cX8_tellWord 25 = .ok (.iload_n 1, 1) := by decide +kernel
theorem dX8_tellWord_26 : decode cX8_tellWord 26 = .ok (.iconst 2, 1) := by decide +kernel
theorem dX8_tellWord_27 : decode cX8_tellWord 27 = .ok (.iadd, 1) := by decide +kernel
theorem dX8_tellWord_28 : decode cX8_tellWord 28 = .ok (.ldc 51, 2) := by decide +kernel
theorem dX8_tellWord_30 : decode cX8_tellWord 30 = .ok (.iand, 1) := by decide +kernel
theorem dX8_tellWord_31 : decode cX8_tellWord 31 = .ok (.putfield 23, 3) := by decide +kernel
theorem dX8_tellWord_34 : decode cX8_tellWord 34 = .ok (.return_, 1) := by decide +kernel
theorem dX8_tellTwo_0 : decode cX8_tellTwo 0 = .ok (.aload_n 0, 1) := by decide +kernel
theorem dX8_tellTwo_1 : decode cX8_tellTwo 1 = .ok (.iload_n 1, 1) := by decide +kernel
theorem dX8_tellTwo_2 : decode cX8_tellTwo 2 = .ok (.bipush 12, 2) := by decide +kernel
theorem dX8_tellTwo_4 : decode cX8_tellTwo 4 = .ok (.ishr, 1) := by decide +kernel
theorem dX8_tellTwo_5 : decode cX8_tellTwo 5 = .ok (.iconst 4, 1) := by decide +kernel
theorem dX8_tellTwo_6 : decode cX8_tellTwo 6 = .ok (.isub, 1) := by decide +kernel
theorem dX8_tellTwo_7 : decode cX8_tellTwo 7 = .ok (.iload_n 1, 1) := by decide +kernel
theorem dX8_tellTwo_8 : decode cX8_tellTwo 8 = .ok (.bipush 64, 2) := by decide +kernel
theorem dX8_tellTwo_10 : decode cX8_tellTwo 10 = .ok (.iand, 1) := by decide +kernel
theorem dX8_tellTwo_11 : decode cX8_tellTwo 11 = .ok (.invokevirtual 47, 3) := by decide +kernel
theorem dX8_tellTwo_14 : decode cX8_tellTwo 14 = .ok (.aload_n 0, 1) := by decide +kernel
theorem dX8_tellTwo_15 : decode cX8_tellTwo 15 = .ok (.iload_n 1, 1) := by decide +kernel
theorem dX8_tellTwo_16 : decode cX8_tellTwo 16 = .ok (.iconst 4, 1) := by decide +kernel
theorem dX8_tellTwo_17 : decode cX8_tellTwo 17 = .ok (.ishr, 1) := by decide +kernel
theorem dX8_tellTwo_18 : decode cX8_tellTwo 18 = .ok (.iconst 3, 1) := by decide +kernel
theorem dX8_tellTwo_19 : decode cX8_tellTwo 19 = .ok (.iand, 1) := by decide +kernel
theorem dX8_tellTwo_20 : decode cX8_tellTwo 20 = .ok (.iload_n 1, 1) := by decide +kernel
theorem dX8_tellTwo_21 : decode cX8_tellTwo 21 = .ok (.bipush 8, 2) := by decide +kernel
theorem dX8_tellTwo_23 : decode cX8_tellTwo 23 = .ok (.ishr, 1) := by decide +kernel
theorem dX8_tellTwo_24 : decode cX8_tellTwo 24 = .ok (.bipush 15, 2) := by decide +kernel
theorem dX8_tellTwo_26 : decode cX8_tellTwo 26 = .ok (.iand, 1) := by decide +kernel
theorem dX8_tellTwo_27 : decode cX8_tellTwo 27 = .ok (.iconst 1, 1) := by decide +kernel
theorem dX8_tellTwo_28 : decode cX8_tellTwo 28 = .ok (.invokevirtual 56, 3) := by decide +kernel
theorem dX8_tellTwo_31 : decode cX8_tellTwo 31 = .ok (.ifCond .ne 5, 3) := by decide +kernel
theorem dX8_tellTwo_34 : decode cX8_tellTwo 34 = .ok (.iconst 0, 1) := by decide +kernel
theorem dX8_tellTwo_35 : decode cX8_tellTwo 35 = .ok (.ireturn, 1) := by decide +kernel
theorem dX8_tellTwo_36 : decode cX8_tellTwo 36 = .ok (.aload_n 0, 1) := by decide +kernel
theorem dX8_tellTwo_37 : decode cX8_tellTwo 37 = .ok (.bipush 44, 2) := by decide +kernel
theorem dX8_tellTwo_39 : decode cX8_tellTwo 39 = .ok (.invokevirtual 60, 3) := by decide +kernel
theorem dX8_tellTwo_42 : decode cX8_tellTwo 42 = .ok (.iload_n 1, 1) := by decide +kernel
theorem dX8_tellTwo_43 : decode cX8_tellTwo 43 = .ok (.sipush 128, 3) := by decide +kernel
theorem dX8_tellTwo_46 : decode cX8_tellTwo 46 = .ok (.iand, 1) := by decide +kernel
theorem dX8_tellTwo_47 : decode cX8_tellTwo 47 = .ok (.ifCond .eq 12, 3) := by decide +kernel
theorem dX8_tellTwo_50 : decode cX8_tellTwo 50 = .ok (.aload_n 0, 1) := by decide +kernel
theorem dX8_tellTwo_51 : decode cX8_tellTwo 51 = .ok (.iload_n 1, 1) := by decide +kernel
theorem dX8_tellTwo_52 : decode cX8_tellTwo 52 = .ok (.bipush 15, 2) := by decide +kernel
theorem dX8_tellTwo_54 : decode cX8_tellTwo 54 = .ok (.iand, 1) := by decide +kernel
theorem dX8_tellTwo_55 : decode cX8_tellTwo 55 = .ok (.invokevirtual 63, 3) := by decide +kernel
theorem dX8_tellTwo_58 : decode cX8_tellTwo 58 = .ok (.ireturn, 1) := by decide +kernel
theorem dX8_tellTwo_59 : decode cX8_tellTwo 59 = .ok (.aload_n 0, 1) := by decide +kernel
theorem dX8_tellTwo_60 : decode cX8_tellTwo 60 = .ok (.iload_n 1, 1) := by decide +kernel
theorem dX8_tellTwo_61 : decode cX8_tellTwo 61 = .ok (.bipush 15, 2) := by decide +kernel
theorem dX8_tellTwo_63 : decode cX8_tellTwo 63 = .ok (.iand, 1) := by decide +kernel
theorem dX8_tellTwo_64 : decode cX8_tellTwo 64 = .ok (.invokevirtual 66, 3) := by decide +kernel
theorem dX8_tellTwo_67 : decode cX8_tellTwo 67 = .ok (.iconst 1, 1) := by decide +kernel
theorem dX8_tellTwo_68 : decode cX8_tellTwo 68 = .ok (.ireturn, 1) := by decide +kernel
theorem dX8_tellOne_0 : decode cX8_tellOne 0 = .ok (.iload_n 1, 1) := by decide +kernel
theorem dX8_tellOne_1 : decode cX8_tellOne 1 = .ok (.bipush 7, 2) := by decide +kernel
theorem dX8_tellOne_3 : decode cX8_tellOne 3 = .ok (.ishr, 1) := by decide +kernel
theorem dX8_tellOne_4 : decode cX8_tellOne 4 = .ok (.bipush 7, 2) := by decide +kernel
theorem dX8_tellOne_6 : decode cX8_tellOne 6 = .ok (.iand, 1) := by decide +kernel
theorem dX8_tellOne_7 : decode cX8_tellOne 7 = .ok (.istore_n 2, 1) := by decide +kernel
theorem dX8_tellOne_8 : decode cX8_tellOne 8 = .ok (.iload_n 2, 1) := by decide +kernel
theorem dX8_tellOne_9 : decode cX8_tellOne 9 = .ok (.bipush 6, 2) := by decide +kernel
theorem dX8_tellOne_11 : decode cX8_tellOne 11 = .ok (.if_icmp .ne 12, 3) := by decide +kernel
theorem dX8_tellOne_14 : decode cX8_tellOne 14 = .ok (.iload_n 1, 1) := by decide +kernel
theorem dX8_tellOne_15 : decode cX8_tellOne 15 = .ok (.sipush 4864, 3) := by decide +kernel
theorem dX8_tellOne_18 : decode cX8_tellOne 18 = .ok (.if_icmp .eq 5, 3) := by decide +kernel
theorem dX8_tellOne_21 : decode cX8_tellOne 21 = .ok (.iconst 0, 1) := by decide +kernel
theorem dX8_tellOne_22 : decode cX8_tellOne 22 = .ok (.ireturn, 1) := by decide +kernel
theorem dX8_tellOne_23 : decode cX8_tellOne 23 = .ok (.aload_n 0, 1) := by decide +kernel
theorem dX8_tellOne_24 : decode cX8_tellOne 24 = .ok (.bipush 12, 2) := by decide +kernel
theorem dX8_tellOne_26 : decode cX8_tellOne 26 = .ok (.iload_n 2, 1) := by decide +kernel
theorem dX8_tellOne_27 : decode cX8_tellOne 27 = .ok (.iadd, 1) := by decide +kernel
theorem dX8_tellOne_28 : decode cX8_tellOne 28 = .ok (.iload_n 1, 1) := by decide +kernel
theorem dX8_tellOne_29 : decode cX8_tellOne 29 = .ok (.bipush 64, 2) := by decide +kernel
theorem dX8_tellOne_31 : decode cX8_tellOne 31 = .ok (.iand, 1) := by decide +kernel
theorem dX8_tellOne_32 : decode cX8_tellOne 32 = .ok (.invokevirtual 47, 3) := by decide +kernel
theorem dX8_tellOne_35 : decode cX8_tellOne 35 = .ok (.iload_n 2, 1) := by decide +kernel
theorem dX8_tellOne_36 : decode cX8_tellOne 36 = .ok (.bipush 6, 2) := by decide +kernel
theorem dX8_tellOne_38 : decode cX8_tellOne 38 = .ok (.if_icmp .ne 15, 3) := by decide +kernel
theorem dX8_tellOne_41 : decode cX8_tellOne 41 = .ok (.aload_n 0, 1) := by decide +kernel
theorem dX8_tellOne_42 : decode cX8_tellOne 42 = .ok (.dup, 1) := by decide +kernel
theorem dX8_tellOne_43 : decode cX8_tellOne 43 = .ok (.getfield 19, 3) := by decide +kernel
theorem dX8_tellOne_46 : decode cX8_tellOne 46 = .ok (.iconst 1, 1) := by decide +kernel
theorem dX8_tellOne_47 : decode cX8_tellOne 47 = .ok (.isub, 1) := by decide +kernel
theorem dX8_tellOne_48 : decode cX8_tellOne 48 = .ok (.putfield 19, 3) := by decide +kernel
theorem dX8_tellOne_51 : decode cX8_tellOne 51 = .ok (.iconst 1, 1) := by decide +kernel
theorem dX8_tellOne_52 : decode cX8_tellOne 52 = .ok (.ireturn, 1) := by decide +kernel
theorem dX8_tellOne_53 : decode cX8_tellOne 53 = .ok (.aload_n 0, 1) := by decide +kernel
theorem dX8_tellOne_54 : decode cX8_tellOne 54 = .ok (.iload_n 1, 1) := by decide +kernel
theorem dX8_tellOne_55 : decode cX8_tellOne 55 = .ok (.iconst 4, 1) := by decide +kernel
theorem dX8_tellOne_56 : decode cX8_tellOne 56 = .ok (.ishr, 1) := by decide +kernel
theorem dX8_tellOne_57 : decode cX8_tellOne 57 = .ok (.iconst 3, 1) := by decide +kernel
theorem dX8_tellOne_58 : decode cX8_tellOne 58 = .ok (.iand, 1) := by decide +kernel
theorem dX8_tellOne_59 : decode cX8_tellOne 59 = .ok (.iload_n 1, 1) := by decide +kernel
theorem dX8_tellOne_60 : decode cX8_tellOne 60 = .ok (.bipush 15, 2) := by decide +kernel
theorem dX8_tellOne_62 : decode cX8_tellOne 62 = .ok (.iand, 1) := by decide +kernel
theorem dX8_tellOne_63 : decode cX8_tellOne 63 = .ok (.iload_n 2, 1) := by decide +kernel
theorem dX8_tellOne_64 : decode cX8_tellOne 64 = .ok (.iconst 4, 1) := by decide +kernel
theorem dX8_tellOne_65 : decode cX8_tellOne 65 = .ok (.if_icmp .ge 7, 3) := by decide +kernel
theorem dX8_tellOne_68 : decode cX8_tellOne 68 = .ok (.iconst 1, 1) := by decide +kernel
theorem dX8_tellOne_69 : decode cX8_tellOne 69 = .ok (.goto 4, 3) := by decide +kernel
theorem dX8_tellOne_72 : decode cX8_tellOne 72 = .ok (.iconst 0, 1) := by decide +kernel
theorem dX8_tellOne_73 : decode cX8_tellOne 73 = .ok (.invokevirtual 56, 3) := by decide +kernel
theorem dX8_tellOne_76 : decode cX8_tellOne 76 = .ok (.ireturn, 1) := by decide +kernel
theorem dX8_tellSource_0 : decode cX8_tellSource 0 = .ok (.iload_n 1, 1) := by decide +kernel
theorem dX8_tellSource_1 : decode cX8_tellSource 1 = .ok (.ifCond .ne 27, 3) := by decide +kernel
theorem dX8_tellSource_4 : decode cX8_tellSource 4 = .ok (.iload_n 2, 1) := by decide +kernel
theorem dX8_tellSource_5 : decode cX8_tellSource 5 = .ok (.iconst 3, 1) := by decide +kernel
theorem dX8_tellSource_6 : decode cX8_tellSource 6 = .ok (.if_icmp .ne 15, 3) := by decide +kernel
theorem dX8_tellSource_9 : decode cX8_tellSource 9 = .ok (.iload_n 3, 1) := by decide +kernel
theorem dX8_tellSource_10 : decode cX8_tellSource 10 = .ok (.ifCond .eq 11, 3) := by decide +kernel
theorem dX8_tellSource_13 : decode cX8_tellSource 13 = .ok (.aload_n 0, 1) := by decide +kernel
theorem dX8_tellSource_14 : decode cX8_tellSource 14 = .ok (.iconst 0, 1) := by decide +kernel
theorem dX8_tellSource_15 : decode cX8_tellSource 15 = .ok (.invokevirtual 69, 3) := by decide +kernel
theorem dX8_tellSource_18 : decode cX8_tellSource 18 = .ok (.goto 8, 3) := by decide +kernel
theorem dX8_tellSource_21 : decode cX8_tellSource 21 = .ok (.aload_n 0, 1) := by decide +kernel
theorem dX8_tellSource_22 : decode cX8_tellSource 22 = .ok (.iload_n 2, 1) := by decide +kernel
theorem dX8_tellSource_23 : decode cX8_tellSource 23 = .ok (.invokevirtual 66, 3) := by decide +kernel
theorem dX8_tellSource_26 : decode cX8_tellSource 26 = .ok (.iconst 1, 1) := by decide +kernel
theorem dX8_tellSource_27 : decode cX8_tellSource 27 = .ok (.ireturn, 1) := by decide +kernel
theorem dX8_tellSource_28 : decode cX8_tellSource 28 = .ok (.iload_n 1, 1) := by decide +kernel
theorem dX8_tellSource_29 : decode cX8_tellSource 29 = .ok (.iload_n 2, 1) := by decide +kernel
theorem dX8_tellSource_30 : decode cX8_tellSource 30 = .ok (.invokestatic 72, 3) := by decide +kernel
theorem dX8_tellSource_33 : decode cX8_tellSource 33 = .ok (.ifCond .eq 14, 3) := by decide +kernel
theorem dX8_tellSource_36 : decode cX8_tellSource 36 = .ok (.aload_n 0, 1) := by decide +kernel
theorem dX8_tellSource_37 : decode cX8_tellSource 37 = .ok (.iload_n 1, 1) := by decide +kernel
theorem dX8_tellSource_38 : decode cX8_tellSource 38 = .ok (.iload_n 2, 1) := by decide +kernel
theorem dX8_tellSource_39 : decode cX8_tellSource 39 = .ok (.invokestatic 76, 3) := by decide +kernel
theorem dX8_tellSource_42 : decode cX8_tellSource 42 = .ok (.invokevirtual 69, 3) := by decide +kernel
theorem dX8_tellSource_45 : decode cX8_tellSource 45 = .ok (.iload_n 3, 1) := by decide +kernel
theorem dX8_tellSource_46 : decode cX8_tellSource 46 = .ok (.ireturn, 1) := by decide +kernel
theorem dX8_tellSource_47 : decode cX8_tellSource 47 = .ok (.iload_n 1, 1) := by decide +kernel
theorem dX8_tellSource_48 : decode cX8_tellSource 48 = .ok (.iconst 1, 1) := by decide +kernel
theorem dX8_tellSource_49 : decode cX8_tellSource 49 = .ok (.if_icmp .ne 9, 3) := by decide +kernel
theorem dX8_tellSource_52 : decode cX8_tellSource 52 = .ok (.aload_n 0, 1) := by decide +kernel
theorem dX8_tellSource_53 : decode cX8_tellSource 53 = .ok (.iload_n 2, 1) := by decide +kernel
theorem dX8_tellSource_54 : decode cX8_tellSource 54 = .ok (.invokevirtual 63, 3) := by decide +kernel
theorem dX8_tellSource_57 : decode cX8_tellSource 57 = .ok (.ireturn, 1) := by decide +kernel
theorem dX8_tellSource_58 : decode cX8_tellSource 58 = .ok (.iload_n 2, 1) := by decide +kernel
theorem dX8_tellSource_59 : decode cX8_tellSource 59 = .ok (.ifCond .ne 22, 3) := by decide +kernel
theorem dX8_tellSource_62 : decode cX8_tellSource 62 = .ok (.iload_n 1, 1) := by decide +kernel
theorem dX8_tellSource_63 : decode cX8_tellSource 63 = .ok (.iconst 3, 1) := by decide +kernel
theorem dX8_tellSource_64 : decode cX8_tellSource 64 = .ok (.if_icmp .ne 15, 3) := by decide +kernel
theorem dX8_tellSource_67 : decode cX8_tellSource 67 = .ok (.aload_n 0, 1) := by decide +kernel
theorem dX8_tellSource_68 : decode cX8_tellSource 68 = .ok (.iload_n 3, 1) := by decide +kernel
theorem dX8_tellSource_69 : decode cX8_tellSource 69 = .ok (.invokevirtual 80, 3) := by decide +kernel
theorem dX8_tellSource_72 : decode cX8_tellSource 72 = .ok (.ifCond .eq 7, 3) := by decide +kernel
theorem dX8_tellSource_75 : decode cX8_tellSource 75 = .ok (.iconst 1, 1) := by decide +kernel
theorem dX8_tellSource_76 : decode cX8_tellSource 76 = .ok (.goto 4, 3) := by decide +kernel
theorem dX8_tellSource_79 : decode cX8_tellSource 79 = .ok (.iconst 0, 1) := by decide +kernel
theorem dX8_tellSource_80 : decode cX8_tellSource 80 = .ok (.ireturn, 1) := by decide +kernel
theorem dX8_tellSource_81 : decode cX8_tellSource 81 = .ok (.aload_n 0, 1) := by decide +kernel
theorem dX8_tellSource_82 : decode cX8_tellSource 82 = .ok (.bipush 64, 2) := by decide +kernel
theorem dX8_tellSource_84 : decode cX8_tellSource 84 = .ok (.invokevirtual 60, 3) := by decide +kernel
theorem dX8_tellSource_87 : decode cX8_tellSource 87 = .ok (.aload_n 0, 1) := by decide +kernel
theorem dX8_tellSource_88 : decode cX8_tellSource 88 = .ok (.iload_n 2, 1) := by decide +kernel
theorem dX8_tellSource_89 : decode cX8_tellSource 89 = .ok (.invokevirtual 66, 3) := by decide +kernel
theorem dX8_tellSource_92 : decode cX8_tellSource 92 = .ok (.iload_n 1, 1) := by decide +kernel
theorem dX8_tellSource_93 : decode cX8_tellSource 93 = .ok (.iconst 3, 1) := by decide +kernel
theorem dX8_tellSource_94 : decode cX8_tellSource 94 = .ok (.if_icmp .ne 9, 3) := by decide +kernel
theorem dX8_tellSource_97 : decode cX8_tellSource 97 = .ok (.aload_n 0, 1) := by decide +kernel
theorem dX8_tellSource_98 : decode cX8_tellSource 98 = .ok (.bipush 43, 2) := by decide +kernel
theorem dX8_tellSource_100 : decode cX8_tellSource 100 = .ok (.invokevirtual 60, 3) := by decide +kernel
theorem dX8_tellSource_103 : decode cX8_tellSource 103 = .ok (.iconst 1, 1) := by decide +kernel
theorem dX8_tellSource_104 : decode cX8_tellSource 104 = .ok (.ireturn, 1) := by decide +kernel
theorem dX8_tellNextNumber_0 : decode cX8_tellNextNumber 0 = .ok (.aload_n 0, 1) := by decide +kernel
theorem dX8_tellNextNumber_1 : decode cX8_tellNextNumber 1 = .ok (.getfield 32, 3) := by decide +kernel
theorem dX8_tellNextNumber_4 : decode cX8_tellNextNumber 4 = .ok (.ldc 84, 2) := by decide +kernel
theorem dX8_tellNextNumber_6 : decode cX8_tellNextNumber 6 = .ok (.if_icmp .lt 5, 3) := by decide +kernel
theorem dX8_tellNextNumber_9 : decode cX8_tellNextNumber 9 = .ok (.iconst 0, 1) := by decide +kernel
theorem dX8_tellNextNumber_10 : decode cX8_tellNextNumber 10 = .ok (.ireturn, 1) := by decide +kernel
theorem dX8_tellNextNumber_11 : decode cX8_tellNextNumber 11 = .ok (.aload_n 0, 1) := by decide +kernel
theorem dX8_tellNextNumber_12 : decode cX8_tellNextNumber 12 = .ok (.getfield 15, 3) := by decide +kernel
theorem dX8_tellNextNumber_15 : decode cX8_tellNextNumber 15 = .ok (.aload_n 0, 1) := by decide +kernel
theorem dX8_tellNextNumber_16 : decode cX8_tellNextNumber 16 = .ok (.getfield 32, 3) := by decide +kernel
theorem dX8_tellNextNumber_19 : decode cX8_tellNextNumber 19 = .ok (.invokevirtual 26, 3) := by decide +kernel
theorem dX8_tellNextNumber_22 : decode cX8_tellNextNumber 22 = .ok (.istore_n 2, 1) := by decide +kernel
theorem dX8_tellNextNumber_23 : decode cX8_tellNextNumber 23 = .ok (.aload_n 0, 1) := by decide +kernel
theorem dX8_tellNextNumber_24 : decode cX8_tellNextNumber 24 = .ok (.dup, 1) := by decide +kernel
theorem dX8_tellNextNumber_25 : decode cX8_tellNextNumber 25 = .ok (.getfield 32, 3) := by decide +kernel
theorem dX8_tellNextNumber_28 : decode cX8_tellNextNumber 28 = .ok (.iconst 2, 1) := by decide +kernel
theorem dX8_tellNextNumber_29 : decode cX8_tellNextNumber 29 = .ok (.iadd, 1) := by decide +kernel
theorem dX8_tellNextNumber_30 : decode cX8_tellNextNumber 30 = .ok (.putfield 32, 3) := by decide +kernel
theorem dX8_tellNextNumber_33 : decode cX8_tellNextNumber 33 = .ok (.iload_n 1, 1) := by decide +kernel
theorem dX8_tellNextNumber_34 : decode cX8_tellNextNumber 34 = .ok (.ifCond .eq 12, 3) := by decide +kernel
theorem dX8_tellNextNumber_37 : decode cX8_tellNextNumber 37 = .ok (.iload_n 2, 1) := by decide +kernel
theorem dX8_tellNextNumber_38 : decode cX8_tellNextNumber 38 = .ok (.invokestatic 85, 3) := by decide +kernel
theorem dX8_tellNextNumber_41 : decode cX8_tellNextNumber 41 = .ok (.ifCond .eq 5, 3) := by decide +kernel
theorem dX8_tellNextNumber_44 : decode cX8_tellNextNumber 44 = .ok (.iconst 0, 1) := by decide +kernel
theorem dX8_tellNextNumber_45 : decode cX8_tellNextNumber 45 = .ok (.ireturn, 1) := by decide +kernel
theorem dX8_tellNextNumber_46 : decode cX8_tellNextNumber 46 = .ok (.aload_n 0, 1) := by decide +kernel
theorem dX8_tellNextNumber_47 : decode cX8_tellNextNumber 47 = .ok (.iload_n 2, 1) := by decide +kernel
theorem dX8_tellNextNumber_48 : decode cX8_tellNextNumber 48 = .ok (.invokevirtual 69, 3) := by decide +kernel
theorem dX8_tellNextNumber_51 : decode cX8_tellNextNumber 51 = .ok (.iconst 1, 1) := by decide +kernel
theorem dX8_tellNextNumber_52 : decode cX8_tellNextNumber 52 = .ok (.ireturn, 1) := by decide +kernel
theorem dX8_isMadeShort_0 : decode cX8_isMadeShort 0 = .ok (.iload_n 0, 1) := by decide +kernel
theorem dX8_isMadeShort_1 : decode cX8_isMadeShort 1 = .ok (.iconst 2, 1) := by decide +kernel
theorem dX8_isMadeShort_2 : decode cX8_isMadeShort 2 = .ok (.if_icmp .le 20, 3) := by decide +kernel
theorem dX8_isMadeShort_5 : decode cX8_isMadeShort 5 = .ok (.iload_n 0, 1) := by decide +kernel
theorem dX8_isMadeShort_6 : decode cX8_isMadeShort 6 = .ok (.iconst 4, 1) := by decide +kernel
theorem dX8_isMadeShort_7 : decode cX8_isMadeShort 7 = .ok (.if_icmp .eq 15, 3) := by decide +kernel
theorem dX8_isMadeShort_10 : decode cX8_isMadeShort 10 = .ok (.iload_n 0, 1) := by decide +kernel
theorem dX8_isMadeShort_11 : decode cX8_isMadeShort 11 = .ok (.bipush 8, 2) := by decide +kernel
theorem dX8_isMadeShort_13 : decode cX8_isMadeShort 13 = .ok (.if_icmp .eq 9, 3) := by decide +kernel
theorem dX8_isMadeShort_16 : decode cX8_isMadeShort 16 = .ok (.iload_n 0, 1) := by decide +kernel
theorem dX8_isMadeShort_17 : decode cX8_isMadeShort 17 = .ok (.ldc 51, 2) := by decide +kernel
theorem dX8_isMadeShort_19 : decode cX8_isMadeShort 19 = .ok (.if_icmp .ne 7, 3) := by decide +kernel
theorem dX8_isMadeShort_22 : decode cX8_isMadeShort 22 = .ok (.iconst 1, 1) := by decide +kernel
theorem dX8_isMadeShort_23 : decode cX8_isMadeShort 23 = .ok (.goto 4, 3) := by decide +kernel
theorem dX8_isMadeShort_26 : decode cX8_isMadeShort 26 = .ok (.iconst 0, 1) := by decide +kernel
theorem dX8_isMadeShort_27 : decode cX8_isMadeShort 27 = .ok (.ireturn, 1) := by decide +kernel
theorem dX8_tellIndexed_0 : decode cX8_tellIndexed 0 = .ok (.aload_n 0, 1) := by decide +kernel
theorem dX8_tellIndexed_1 : decode cX8_tellIndexed 1 = .ok (.getfield 32, 3) := by decide +kernel
theorem dX8_tellIndexed_4 : decode cX8_tellIndexed 4 = .ok (.ldc 84, 2) := by decide +kernel
theorem dX8_tellIndexed_6 : decode cX8_tellIndexed 6 = .ok (.if_icmp .ge 8, 3) := by decide +kernel
theorem dX8_tellIndexed_9 : decode cX8_tellIndexed 9 = .ok (.iload_n 1, 1) := by decide +kernel
theorem dX8_tellIndexed_10 : decode cX8_tellIndexed 10 = .ok (.iconst 3, 1) := by decide +kernel
theorem dX8_tellIndexed_11 : decode cX8_tellIndexed 11 = .ok (.if_icmp .ne 5, 3) := by decide +kernel
theorem dX8_tellIndexed_14 : decode cX8_tellIndexed 14 = .ok (.iconst 0, 1) := by decide +kernel
theorem dX8_tellIndexed_15 : decode cX8_tellIndexed 15 = .ok (.ireturn, 1) := by decide +kernel
theorem dX8_tellIndexed_16 : decode cX8_tellIndexed 16 = .ok (.aload_n 0, 1) := by decide +kernel
theorem dX8_tellIndexed_17 : decode cX8_tellIndexed 17 = .ok (.getfield 15, 3) := by decide +kernel
theorem dX8_tellIndexed_20 : decode cX8_tellIndexed 20 = .ok (.aload_n 0, 1) := by decide +kernel
theorem dX8_tellIndexed_21 : decode cX8_tellIndexed 21 = .ok (.getfield 32, 3) := by decide +kernel
theorem dX8_tellIndexed_24 : decode cX8_tellIndexed 24 = .ok (.invokevirtual 26, 3) := by decide +kernel
theorem dX8_tellIndexed_27 : decode cX8_tellIndexed 27 = .ok (.istore_n 2, 1) := by decide +kernel
theorem dX8_tellIndexed_28 : decode cX8_tellIndexed 28 = .ok (.iload_n 1, 1) := by decide +kernel
theorem dX8_tellIndexed_29 : decode cX8_tellIndexed 29 = .ok (.ifCond .ne 19, 3) := by decide +kernel
theorem dX8_tellIndexed_32 : decode cX8_tellIndexed 32 = .ok (.aload_n 0, 1) := by decide +kernel
theorem dX8_tellIndexed_33 : decode cX8_tellIndexed 33 = .ok (.aload_n 0, 1) := by decide +kernel
theorem dX8_tellIndexed_34 : decode cX8_tellIndexed 34 = .ok (.getfield 32, 3) := by decide +kernel
theorem dX8_tellIndexed_37 : decode cX8_tellIndexed 37 = .ok (.iload_n 2, 1) := by decide +kernel
theorem dX8_tellIndexed_38 : decode cX8_tellIndexed 38 = .ok (.iadd, 1) := by decide +kernel
theorem dX8_tellIndexed_39 : decode cX8_tellIndexed 39 = .ok (.ldc 51, 2) := by decide +kernel
theorem dX8_tellIndexed_41 : decode cX8_tellIndexed 41 = .ok (.iand, 1) := by decide +kernel
theorem dX8_tellIndexed_42 : decode cX8_tellIndexed 42 = .ok (.invokevirtual 52, 3) := by decide +kernel
theorem dX8_tellIndexed_45 : decode cX8_tellIndexed 45 = .ok (.goto 44, 3) := by decide +kernel
theorem dX8_tellIndexed_48 : decode cX8_tellIndexed 48 = .ok (.iload_n 1, 1) := by decide +kernel
theorem dX8_tellIndexed_49 : decode cX8_tellIndexed 49 = .ok (.iconst 2, 1) := by decide +kernel
theorem dX8_tellIndexed_50 : decode cX8_tellIndexed 50 = .ok (.if_icmp .ne 17, 3) := by decide +kernel
theorem dX8_tellIndexed_53 : decode cX8_tellIndexed 53 = .ok (.aload_n 0, 1) := by decide +kernel
theorem dX8_tellIndexed_54 : decode cX8_tellIndexed 54 = .ok (.bipush 38, 2) := by decide +kernel
theorem dX8_tellIndexed_56 : decode cX8_tellIndexed 56 = .ok (.invokevirtual 60, 3) := by decide +kernel
theorem dX8_tellIndexed_59 : decode cX8_tellIndexed 59 = .ok (.aload_n 0, 1) := by decide +kernel
theorem dX8_tellIndexed_60 : decode cX8_tellIndexed 60 = .ok (.iload_n 2, 1) := by decide +kernel
theorem dX8_tellIndexed_61 : decode cX8_tellIndexed 61 = .ok (.invokevirtual 52, 3) := by decide +kernel
theorem dX8_tellIndexed_64 : decode cX8_tellIndexed 64 = .ok (.goto 25, 3) := by decide +kernel
theorem dX8_tellIndexed_67 : decode cX8_tellIndexed 67 = .ok (.aload_n 0, 1) := by decide +kernel
theorem dX8_tellIndexed_68 : decode cX8_tellIndexed 68 = .ok (.iload_n 2, 1) := by decide +kernel
theorem dX8_tellIndexed_69 : decode cX8_tellIndexed 69 = .ok (.invokevirtual 52, 3) := by decide +kernel
theorem dX8_tellIndexed_72 : decode cX8_tellIndexed 72 = .ok (.aload_n 0, 1) := by decide +kernel
theorem dX8_tellIndexed_73 : decode cX8_tellIndexed 73 = .ok (.bipush 40, 2) := by decide +kernel
theorem dX8_tellIndexed_75 : decode cX8_tellIndexed 75 = .ok (.invokevirtual 60, 3) := by decide +kernel
theorem dX8_tellIndexed_78 : decode cX8_tellIndexed 78 = .ok (.aload_n 0, 1) := by decide +kernel
theorem dX8_tellIndexed_79 : decode cX8_tellIndexed 79 = .ok (.iload_n 1, 1) := by decide +kernel
theorem dX8_tellIndexed_80 : decode cX8_tellIndexed 80 = .ok (.invokevirtual 66, 3) := by decide +kernel
theorem dX8_tellIndexed_83 : decode cX8_tellIndexed 83 = .ok (.aload_n 0, 1) := by decide +kernel
theorem dX8_tellIndexed_84 : decode cX8_tellIndexed 84 = .ok (.bipush 41, 2) := by decide +kernel
theorem dX8_tellIndexed_86 : decode cX8_tellIndexed 86 = .ok (.invokevirtual 60, 3) := by decide +kernel
theorem dX8_tellIndexed_89 : decode cX8_tellIndexed 89 = .ok (.aload_n 0, 1) := by decide +kernel
theorem dX8_tellIndexed_90 : decode cX8_tellIndexed 90 = .ok (.dup, 1) := by decide +kernel
theorem dX8_tellIndexed_91 : decode cX8_tellIndexed 91 = .ok (.getfield 32, 3) := by decide +kernel
theorem dX8_tellIndexed_94 : decode cX8_tellIndexed 94 = .ok (.iconst 2, 1) := by decide +kernel
theorem dX8_tellIndexed_95 : decode cX8_tellIndexed 95 = .ok (.iadd, 1) := by decide +kernel
theorem dX8_tellIndexed_96 : decode cX8_tellIndexed 96 = .ok (.putfield 32, 3) := by decide +kernel
theorem dX8_tellIndexed_99 : decode cX8_tellIndexed 99 = .ok (.iconst 1, 1) := by decide +kernel
theorem dX8_tellIndexed_100 : decode cX8_tellIndexed 100 = .ok (.ireturn, 1) := by decide +kernel
theorem dX8_put_0 : decode cX8_put 0 = .ok (.aload_n 0, 1) := by decide +kernel
theorem dX8_put_1 : decode cX8_put 1 = .ok (.getfield 19, 3) := by decide +kernel
theorem dX8_put_4 : decode cX8_put 4 = .ok (.bipush 64, 2) := by decide +kernel
theorem dX8_put_6 : decode cX8_put 6 = .ok (.if_icmp .ge 23, 3) := by decide +kernel
theorem dX8_put_9 : decode cX8_put 9 = .ok (.aload_n 0, 1) := by decide +kernel
theorem dX8_put_10 : decode cX8_put 10 = .ok (.getfield 11, 3) := by decide +kernel
theorem dX8_put_13 : decode cX8_put 13 = .ok (.aload_n 0, 1) := by decide +kernel
theorem dX8_put_14 : decode cX8_put 14 = .ok (.getfield 19, 3) := by decide +kernel
theorem dX8_put_17 : decode cX8_put 17 = .ok (.iload_n 1, 1) := by decide +kernel
theorem dX8_put_18 : decode cX8_put 18 = .ok (.iastore, 1) := by decide +kernel
theorem dX8_put_19 : decode cX8_put 19 = .ok (.aload_n 0, 1) := by decide +kernel
theorem dX8_put_20 : decode cX8_put 20 = .ok (.dup, 1) := by decide +kernel
theorem dX8_put_21 : decode cX8_put 21 = .ok (.getfield 19, 3) := by decide +kernel
theorem dX8_put_24 : decode cX8_put 24 = .ok (.iconst 1, 1) := by decide +kernel
theorem dX8_put_25 : decode cX8_put 25 = .ok (.iadd, 1) := by decide +kernel
theorem dX8_put_26 : decode cX8_put 26 = .ok (.putfield 19, 3) := by decide +kernel
theorem dX8_put_29 : decode cX8_put 29 = .ok (.return_, 1) := by decide +kernel
theorem dX8_putName_0 : decode cX8_putName 0 = .ok (.iconst 0, 1) := by decide +kernel
theorem dX8_putName_1 : decode cX8_putName 1 = .ok (.istore_n 3, 1) := by decide +kernel
theorem dX8_putName_2 : decode cX8_putName 2 = .ok (.iload_n 3, 1) := by decide +kernel
theorem dX8_putName_3 : decode cX8_putName 3 = .ok (.iconst 4, 1) := by decide +kernel
theorem dX8_putName_4 : decode cX8_putName 4 = .ok (.if_icmp .ge 28, 3) := by decide +kernel
theorem dX8_putName_7 : decode cX8_putName 7 = .ok (.iload_n 1, 1) := by decide +kernel
theorem dX8_putName_8 : decode cX8_putName 8 = .ok (.iload_n 3, 1) := by decide +kernel
theorem dX8_putName_9 : decode cX8_putName 9 = .ok (.invokestatic 90, 3) := by decide +kernel
theorem dX8_putName_12 : decode cX8_putName 12 = .ok (.bipush 32, 2) := by decide +kernel
theorem dX8_putName_14 : decode cX8_putName 14 = .ok (.if_icmp .eq 18, 3) := by decide +kernel
theorem dX8_putName_17 : decode cX8_putName 17 = .ok (.aload_n 0, 1) := by decide +kernel
theorem dX8_putName_18 : decode cX8_putName 18 = .ok (.iload_n 1, 1) := by decide +kernel
theorem dX8_putName_19 : decode cX8_putName 19 = .ok (.iload_n 3, 1) := by decide +kernel
theorem dX8_putName_20 : decode cX8_putName 20 = .ok (.invokestatic 90, 3) := by decide +kernel
theorem dX8_putName_23 : decode cX8_putName 23 = .ok (.invokevirtual 60, 3) := by decide +kernel
theorem dX8_putName_26 : decode cX8_putName 26 = .ok (.iinc 3 1, 3) := by decide +kernel
theorem dX8_putName_29 : decode cX8_putName 29 = .ok (.goto (-27), 3) := by decide +kernel
theorem dX8_putName_32 : decode cX8_putName 32 = .ok (.iload_n 2, 1) := by decide +kernel
theorem dX8_putName_33 : decode cX8_putName 33 = .ok (.ifCond .eq 15, 3) := by decide +kernel
theorem dX8_putName_36 : decode cX8_putName 36 = .ok (.aload_n 0, 1) := by decide +kernel
theorem dX8_putName_37 : decode cX8_putName 37 = .ok (.bipush 46, 2) := by decide +kernel
theorem dX8_putName_39 : decode cX8_putName 39 = .ok (.invokevirtual 60, 3) := by decide +kernel
theorem dX8_putName_42 : decode cX8_putName 42 = .ok (.aload_n 0, 1) := by decide +kernel
theorem dX8_putName_43 : decode cX8_putName 43 = .ok (.bipush 98, 2) := by decide +kernel
theorem dX8_putName_45 : decode cX8_putName 45 = .ok (.invokevirtual 60, 3) := by decide +kernel
theorem dX8_putName_48 : decode cX8_putName 48 = .ok (.aload_n 0, 1) := by decide +kernel
theorem dX8_putName_49 : decode cX8_putName 49 = .ok (.bipush 32, 2) := by decide +kernel
theorem dX8_putName_51 : decode cX8_putName 51 = .ok (.invokevirtual 60, 3) := by decide +kernel
theorem dX8_putName_54 : decode cX8_putName 54 = .ok (.return_, 1) := by decide +kernel
theorem dX8_putRegister_0 : decode cX8_putRegister 0 = .ok (.aload_n 0, 1) := by decide +kernel
theorem dX8_putRegister_1 : decode cX8_putRegister 1 = .ok (.bipush 114, 2) := by decide +kernel
theorem dX8_putRegister_3 : decode cX8_putRegister 3 = .ok (.invokevirtual 60, 3) := by decide +kernel
theorem dX8_putRegister_6 : decode cX8_putRegister 6 = .ok (.aload_n 0, 1) := by decide +kernel
theorem dX8_putRegister_7 : decode cX8_putRegister 7 = .ok (.iload_n 1, 1) := by decide +kernel
theorem dX8_putRegister_8 : decode cX8_putRegister 8 = .ok (.invokevirtual 52, 3) := by decide +kernel
theorem dX8_putRegister_11 : decode cX8_putRegister 11 = .ok (.return_, 1) := by decide +kernel
theorem dX8_putBehindHash_0 : decode cX8_putBehindHash 0 = .ok (.aload_n 0, 1) := by decide +kernel
theorem dX8_putBehindHash_1 : decode cX8_putBehindHash 1 = .ok (.bipush 35, 2) := by decide +kernel
theorem dX8_putBehindHash_3 : decode cX8_putBehindHash 3 = .ok (.invokevirtual 60, 3) := by decide +kernel
theorem dX8_putBehindHash_6 : decode cX8_putBehindHash 6 = .ok (.iload_n 1, 1) := by decide +kernel
theorem dX8_putBehindHash_7 : decode cX8_putBehindHash 7 = .ok (.ldc 51, 2) := by decide +kernel
theorem dX8_putBehindHash_9 : decode cX8_putBehindHash 9 = .ok (.if_icmp .ne 18, 3) := by decide +kernel
theorem dX8_putBehindHash_12 : decode cX8_putBehindHash 12 = .ok (.aload_n 0, 1) := by decide +kernel
theorem dX8_putBehindHash_13 : decode cX8_putBehindHash 13 = .ok (.bipush 45, 2) := by decide +kernel
theorem dX8_putBehindHash_15 : decode cX8_putBehindHash 15 = .ok (.invokevirtual 60, 3) := by decide +kernel
theorem dX8_putBehindHash_18 : decode cX8_putBehindHash 18 = .ok (.aload_n 0, 1) := by decide +kernel
theorem dX8_putBehindHash_19 : decode cX8_putBehindHash 19 = .ok (.bipush 49, 2) := by decide +kernel
theorem dX8_putBehindHash_21 : decode cX8_putBehindHash 21 = .ok (.invokevirtual 60, 3) := by decide +kernel
theorem dX8_putBehindHash_24 : decode cX8_putBehindHash 24 = .ok (.goto 8, 3) := by decide +kernel
theorem dX8_putBehindHash_27 : decode cX8_putBehindHash 27 = .ok (.aload_n 0, 1) := by decide +kernel
theorem dX8_putBehindHash_28 : decode cX8_putBehindHash 28 = .ok (.iload_n 1, 1) := by decide +kernel
theorem dX8_putBehindHash_29 : decode cX8_putBehindHash 29 = .ok (.invokevirtual 52, 3) := by decide +kernel
theorem dX8_putBehindHash_32 : decode cX8_putBehindHash 32 = .ok (.return_, 1) := by decide +kernel
theorem dX8_putNumber_0 : decode cX8_putNumber 0 = .ok (.iconst 1, 1) := by decide +kernel
theorem dX8_putNumber_1 : decode cX8_putNumber 1 = .ok (.istore_n 2, 1) := by decide +kernel
theorem dX8_putNumber_2 : decode cX8_putNumber 2 = .ok (.iconst 0, 1) := by decide +kernel
theorem dX8_putNumber_3 : decode cX8_putNumber 3 = .ok (.istore_n 3, 1) := by decide +kernel
theorem dX8_putNumber_4 : decode cX8_putNumber 4 = .ok (.iload_n 3, 1) := by decide +kernel
theorem dX8_putNumber_5 : decode cX8_putNumber 5 = .ok (.iconst 4, 1) := by decide +kernel
theorem dX8_putNumber_6 : decode cX8_putNumber 6 = .ok (.if_icmp .ge 22, 3) := by decide +kernel
theorem dX8_putNumber_9 : decode cX8_putNumber 9 = .ok (.iload_n 1, 1) := by decide +kernel
theorem dX8_putNumber_10 : decode cX8_putNumber 10 = .ok (.iload_n 2, 1) := by decide +kernel
theorem dX8_putNumber_11 : decode cX8_putNumber 11 = .ok (.bipush 10, 2) := by decide +kernel
theorem dX8_putNumber_13 : decode cX8_putNumber 13 = .ok (.imul, 1) := by decide +kernel
theorem dX8_putNumber_14 : decode cX8_putNumber 14 = .ok (.if_icmp .lt 14, 3) := by decide +kernel
theorem dX8_putNumber_17 : decode cX8_putNumber 17 = .ok (.iload_n 2, 1) := by decide +kernel
theorem dX8_putNumber_18 : decode cX8_putNumber 18 = .ok (.bipush 10, 2) := by decide +kernel
theorem dX8_putNumber_20 : decode cX8_putNumber 20 = .ok (.imul, 1) := by decide +kernel
theorem dX8_putNumber_21 : decode cX8_putNumber 21 = .ok (.istore_n 2, 1) := by decide +kernel
theorem dX8_putNumber_22 : decode cX8_putNumber 22 = .ok (.iinc 3 1, 3) := by decide +kernel
theorem dX8_putNumber_25 : decode cX8_putNumber 25 = .ok (.goto (-21), 3) := by decide +kernel
theorem dX8_putNumber_28 : decode cX8_putNumber 28 = .ok (.iload_n 2, 1) := by decide +kernel
theorem dX8_putNumber_29 : decode cX8_putNumber 29 = .ok (.ifCond .le 24, 3) := by decide +kernel
theorem dX8_putNumber_32 : decode cX8_putNumber 32 = .ok (.aload_n 0, 1) := by decide +kernel
theorem dX8_putNumber_33 : decode cX8_putNumber 33 = .ok (.bipush 48, 2) := by decide +kernel
theorem dX8_putNumber_35 : decode cX8_putNumber 35 = .ok (.iload_n 1, 1) := by decide +kernel
theorem dX8_putNumber_36 : decode cX8_putNumber 36 = .ok (.iload_n 2, 1) := by decide +kernel
theorem dX8_putNumber_37 : decode cX8_putNumber 37 = .ok (.idiv, 1) := by decide +kernel
theorem dX8_putNumber_38 : decode cX8_putNumber 38 = .ok (.bipush 10, 2) := by decide +kernel
theorem dX8_putNumber_40 : decode cX8_putNumber 40 = .ok (.irem, 1) := by decide +kernel
theorem dX8_putNumber_41 : decode cX8_putNumber 41 = .ok (.iadd, 1) := by decide +kernel
theorem dX8_putNumber_42 : decode cX8_putNumber 42 = .ok (.invokevirtual 60, 3) := by decide +kernel
theorem dX8_putNumber_45 : decode cX8_putNumber 45 = .ok (.iload_n 2, 1) := by decide +kernel
theorem dX8_putNumber_46 : decode cX8_putNumber 46 = .ok (.bipush 10, 2) := by decide +kernel
theorem dX8_putNumber_48 : decode cX8_putNumber 48 = .ok (.idiv, 1) := by decide +kernel
theorem dX8_putNumber_49 : decode cX8_putNumber 49 = .ok (.istore_n 2, 1) := by decide +kernel
theorem dX8_putNumber_50 : decode cX8_putNumber 50 = .ok (.goto (-22), 3) := by decide +kernel
theorem dX8_putNumber_53 : decode cX8_putNumber 53 = .ok (.return_, 1) := by decide +kernel
theorem dX9_init_0 : decode cX9_init 0 = .ok (.aload_n 0, 1) := by decide +kernel
theorem dX9_init_1 : decode cX9_init 1 = .ok (.invokespecial 1, 3) := by decide +kernel
theorem dX9_init_4 : decode cX9_init 4 = .ok (.aload_n 0, 1) := by decide +kernel
theorem dX9_init_5 : decode cX9_init 5 = .ok (.iconst 3, 1) := by decide +kernel
theorem dX9_init_6 : decode cX9_init 6 = .ok (.newarray .int, 2) := by decide +kernel
theorem dX9_init_8 : decode cX9_init 8 = .ok (.putfield 7, 3) := by decide +kernel
theorem dX9_init_11 : decode cX9_init 11 = .ok (.aload_n 0, 1) := by decide +kernel
theorem dX9_init_12 : decode cX9_init 12 = .ok (.iconst 3, 1) := by decide +kernel
theorem dX9_init_13 : decode cX9_init 13 = .ok (.newarray .int, 2) := by decide +kernel
theorem dX9_init_15 : decode cX9_init 15 = .ok (.putfield 13, 3) := by decide +kernel
theorem dX9_init_18 : decode cX9_init 18 = .ok (.return_, 1) := by decide +kernel
theorem dX9_clear_0 : decode cX9_clear 0 = .ok (.iconst 0, 1) := by decide +kernel
theorem dX9_clear_1 : decode cX9_clear 1 = .ok (.istore_n 1, 1) := by decide +kernel
theorem dX9_clear_2 : decode cX9_clear 2 = .ok (.iload_n 1, 1) := by decide +kernel
theorem dX9_clear_3 : decode cX9_clear 3 = .ok (.iconst 3, 1) := by decide +kernel
theorem dX9_clear_4 : decode cX9_clear 4 = .ok (.if_icmp .ge 23, 3) := by decide +kernel
theorem dX9_clear_7 : decode cX9_clear 7 = .ok (.aload_n 0, 1) := by decide +kernel
theorem dX9_clear_8 : decode cX9_clear 8 = .ok (.getfield 7, 3) := by decide +kernel
theorem dX9_clear_11 : decode cX9_clear 11 = .ok (.iload_n 1, 1) := by decide +kernel
theorem dX9_clear_12 : decode cX9_clear 12 = .ok (.iconst 0, 1) := by decide +kernel
theorem dX9_clear_13 : decode cX9_clear 13 = .ok (.iastore, 1) := by decide +kernel
theorem dX9_clear_14 : decode cX9_clear 14 = .ok (.aload_n 0, 1) := by decide +kernel
theorem dX9_clear_15 : decode cX9_clear 15 = .ok (.getfield 13, 3) := by decide +kernel
theorem dX9_clear_18 : decode cX9_clear 18 = .ok (.iload_n 1, 1) := by decide +kernel
theorem dX9_clear_19 : decode cX9_clear 19 = .ok (.iconst 0, 1) := by decide +kernel
theorem dX9_clear_20 : decode cX9_clear 20 = .ok (.iastore, 1) := by decide +kernel
theorem dX9_clear_21 : decode cX9_clear 21 = .ok (.iinc 1 1, 3) := by decide +kernel
theorem dX9_clear_24 : decode cX9_clear 24 = .ok (.goto (-22), 3) := by decide +kernel
theorem dX9_clear_27 : decode cX9_clear 27 = .ok (.aload_n 0, 1) := by decide +kernel
theorem dX9_clear_28 : decode cX9_clear 28 = .ok (.iconst 0, 1) := by decide +kernel
theorem dX9_clear_29 : decode cX9_clear 29 = .ok (.putfield 16, 3) := by decide +kernel
theorem dX9_clear_32 : decode cX9_clear 32 = .ok (.aload_n 0, 1) := by decide +kernel
theorem dX9_clear_33 : decode cX9_clear 33 = .ok (.invokevirtual 20, 3) := by decide +kernel
theorem dX9_clear_36 : decode cX9_clear 36 = .ok (.return_, 1) := by decide +kernel
theorem dX9_startAnew_0 : decode cX9_startAnew 0 = .ok (.aload_n 0, 1) := by decide +kernel
theorem dX9_startAnew_1 : decode cX9_startAnew 1 = .ok (.iconst 0, 1) := by decide +kernel
theorem dX9_startAnew_2 : decode cX9_startAnew 2 = .ok (.putfield 23, 3) := by decide +kernel
theorem dX9_startAnew_5 : decode cX9_startAnew 5 = .ok (.aload_n 0, 1) := by decide +kernel
theorem dX9_startAnew_6 : decode cX9_startAnew 6 = .ok (.iconst 0, 1) := by decide +kernel
theorem dX9_startAnew_7 : decode cX9_startAnew 7 = .ok (.putfield 26, 3) := by decide +kernel
theorem dX9_startAnew_10 : decode cX9_startAnew 10 = .ok (.aload_n 0, 1) := by decide +kernel
theorem dX9_startAnew_11 : decode cX9_startAnew 11 = .ok (.iconst 0, 1) := by decide +kernel
theorem dX9_startAnew_12 : decode cX9_startAnew 12 = .ok (.putfield 29, 3) := by decide +kernel
theorem dX9_startAnew_15 : decode cX9_startAnew 15 = .ok (.return_, 1) := by decide +kernel
theorem dX9_word_0 : decode cX9_word 0 = .ok (.iload_n 1, 1) := by decide +kernel
theorem dX9_word_1 : decode cX9_word 1 = .ok (.sipush 352, 3) := by decide +kernel
theorem dX9_word_4 : decode cX9_word 4 = .ok (.if_icmp .ne 8, 3) := by decide +kernel
theorem dX9_word_7 : decode cX9_word 7 = .ok (.aload_n 0, 1) := by decide +kernel
theorem dX9_word_8 : decode cX9_word 8 = .ok (.getfield 16, 3) := by decide +kernel
theorem dX9_word_11 : decode cX9_word 11 = .ok (.ireturn, 1) := by decide +kernel
theorem dX9_word_12 : decode cX9_word 12 = .ok (.iload_n 1, 1) := by decide +kernel
theorem dX9_word_13 : decode cX9_word 13 = .ok (.sipush 354, 3) := by decide +kernel
theorem dX9_word_16 : decode cX9_word 16 = .ok (.if_icmp .lt 23, 3) := by decide +kernel
theorem dX9_word_19 : decode cX9_word 19 = .ok (.iload_n 1, 1) := by decide +kernel
theorem dX9_word_20 : decode cX9_word 20 = .ok (.sipush 358, 3) := by decide +kernel
theorem dX9_word_23 : decode cX9_word 23 = .ok (.if_icmp .gt 16, 3) := by decide +kernel
theorem dX9_word_26 : decode cX9_word 26 = .ok (.aload_n 0, 1) := by decide +kernel
theorem dX9_word_27 : decode cX9_word 27 = .ok (.getfield 7, 3) := by decide +kernel
theorem dX9_word_30 : decode cX9_word 30 = .ok (.iload_n 1, 1) := by decide +kernel
theorem dX9_word_31 : decode cX9_word 31 = .ok (.sipush 354, 3) := by decide +kernel
theorem dX9_word_34 : decode cX9_word 34 = .ok (.isub, 1) := by decide +kernel
theorem dX9_word_35 : decode cX9_word 35 = .ok (.iconst 1, 1) := by decide +kernel
theorem dX9_word_36 : decode cX9_word 36 = .ok (.ishr, 1) := by decide +kernel
theorem dX9_word_37 : decode cX9_word 37 = .ok (.iaload, 1) := by decide +kernel
theorem dX9_word_38 : decode cX9_word 38 = .ok (.ireturn, 1) := by decide +kernel
theorem dX9_word_39 : decode cX9_word 39 = .ok (.iload_n 1, 1) := by decide +kernel
theorem dX9_word_40 : decode cX9_word 40 = .ok (.sipush 368, 3) := by decide +kernel
theorem dX9_word_43 : decode cX9_word 43 = .ok (.if_icmp .ne 8, 3) := by decide +kernel
theorem dX9_word_46 : decode cX9_word 46 = .ok (.aload_n 0, 1) := by decide +kernel
theorem dX9_word_47 : decode cX9_word 47 = .ok (.getfield 23, 3) := by decide +kernel
theorem dX9_word_50 : decode cX9_word 50 = .ok (.ireturn, 1) := by decide +kernel
theorem dX9_word_51 : decode cX9_word 51 = .ok (.iload_n 1, 1) := by decide +kernel
theorem dX9_word_52 : decode cX9_word 52 = .ok (.sipush 370, 3) := by decide +kernel
theorem dX9_word_55 : decode cX9_word 55 = .ok (.if_icmp .lt 23, 3) := by decide +kernel
theorem dX9_word_58 : decode cX9_word 58 = .ok (.iload_n 1, 1) := by decide +kernel
theorem dX9_word_59 : decode cX9_word 59 = .ok (.sipush 374, 3) := by decide +kernel
theorem dX9_word_62 : decode cX9_word 62 = .ok (.if_icmp .gt 16, 3) := by decide +kernel
theorem dX9_word_65 : decode cX9_word 65 = .ok (.aload_n 0, 1) := by decide +kernel
theorem dX9_word_66 : decode cX9_word 66 = .ok (.getfield 13, 3) := by decide +kernel
theorem dX9_word_69 : decode cX9_word 69 = .ok (.iload_n 1, 1) := by decide +kernel
theorem dX9_word_70 : decode cX9_word 70 = .ok (.sipush 370, 3) := by decide +kernel
theorem dX9_word_73 : decode cX9_word 73 = .ok (.isub, 1) := by decide +kernel
theorem dX9_word_74 : decode cX9_word 74 = .ok (.iconst 1, 1) := by decide +kernel
theorem dX9_word_75 : decode cX9_word 75 = .ok (.ishr, 1) := by decide +kernel
theorem dX9_word_76 : decode cX9_word 76 = .ok (.iaload, 1) := by decide +kernel
theorem dX9_word_77 : decode cX9_word 77 = .ok (.ireturn, 1) := by decide +kernel
theorem dX9_word_78 : decode cX9_word 78 = .ok (.iconst 0, 1) := by decide +kernel
theorem dX9_word_79 : decode cX9_word 79 = .ok (.ireturn, 1) := by decide +kernel
theorem dX9_writeWord_0 : decode cX9_writeWord 0 = .ok (.iload_n 1, 1) := by decide +kernel
theorem dX9_writeWord_1 : decode cX9_writeWord 1 = .ok (.sipush 352, 3) := by decide +kernel
theorem dX9_writeWord_4 : decode cX9_writeWord 4 = .ok (.if_icmp .ne 24, 3) := by decide +kernel
theorem dX9_writeWord_7 : decode cX9_writeWord 7 = .ok (.aload_n 0, 1) := by decide +kernel
theorem dX9_writeWord_8 : decode cX9_writeWord 8 = .ok (.iload_n 2, 1) := by decide +kernel
theorem dX9_writeWord_9 : decode cX9_writeWord 9 = .ok (.ldc 33, 2) := by decide +kernel
theorem dX9_writeWord_11 : decode cX9_writeWord 11 = .ok (.iand, 1) := by decide +kernel
theorem dX9_writeWord_12 : decode cX9_writeWord 12 = .ok (.putfield 16, 3) := by decide +kernel
theorem dX9_writeWord_15 : decode cX9_writeWord 15 = .ok (.iload_n 2, 1) := by decide +kernel
theorem dX9_writeWord_16 : decode cX9_writeWord 16 = .ok (.iconst 4, 1) := by decide +kernel
theorem dX9_writeWord_17 : decode cX9_writeWord 17 = .ok (.iand, 1) := by decide +kernel
theorem dX9_writeWord_18 : decode cX9_writeWord 18 = .ok (.ifCond .eq 85, 3) := by decide +kernel
theorem dX9_writeWord_21 : decode cX9_writeWord 21 = .ok (.aload_n 0, 1) := by decide +kernel
theorem dX9_writeWord_22 : decode cX9_writeWord 22 = .ok (.invokevirtual 20, 3) := by decide +kernel
theorem dX9_writeWord_25 : decode cX9_writeWord 25 = .ok (.goto 78, 3) := by decide +kernel
theorem dX9_writeWord_28 : decode cX9_writeWord 28 = .ok (.iload_n 1, 1) := by decide +kernel
theorem dX9_writeWord_29 : decode cX9_writeWord 29 = .ok (.sipush 354, 3) := by decide +kernel
theorem dX9_writeWord_32 : decode cX9_writeWord 32 = .ok (.if_icmp .lt 29, 3) := by decide +kernel
theorem dX9_writeWord_35 : decode cX9_writeWord 35 = .ok (.iload_n 1, 1) := by decide +kernel
theorem dX9_writeWord_36 : decode cX9_writeWord 36 = .ok (.sipush 358, 3) := by decide +kernel
theorem dX9_writeWord_39 : decode cX9_writeWord 39 = .ok (.if_icmp .gt 22, 3) := by decide +kernel
theorem dX9_writeWord_42 : decode cX9_writeWord 42 = .ok (.aload_n 0, 1) := by decide +kernel
theorem dX9_writeWord_43 : decode cX9_writeWord 43 = .ok (.getfield 7, 3) := by decide +kernel
theorem dX9_writeWord_46 : decode cX9_writeWord 46 = .ok (.iload_n 1, 1) := by decide +kernel
theorem dX9_writeWord_47 : decode cX9_writeWord 47 = .ok (.sipush 354, 3) := by decide +kernel
theorem dX9_writeWord_50 : decode cX9_writeWord 50 = .ok (.isub, 1) := by decide +kernel
theorem dX9_writeWord_51 : decode cX9_writeWord 51 = .ok (.iconst 1, 1) := by decide +kernel
theorem dX9_writeWord_52 : decode cX9_writeWord 52 = .ok (.ishr, 1) := by decide +kernel
theorem dX9_writeWord_53 : decode cX9_writeWord 53 = .ok (.iload_n 2, 1) := by decide +kernel
theorem dX9_writeWord_54 : decode cX9_writeWord 54 = .ok (.bipush 17, 2) := by decide +kernel
theorem dX9_writeWord_56 : decode cX9_writeWord 56 = .ok (.iand, 1) := by decide +kernel
theorem dX9_writeWord_57 : decode cX9_writeWord 57 = .ok (.iastore, 1) := by decide +kernel
theorem dX9_writeWord_58 : decode cX9_writeWord 58 = .ok (.goto 45, 3) := by decide +kernel
theorem dX9_writeWord_61 : decode cX9_writeWord 61 = .ok (.iload_n 1, 1) := by decide +kernel
theorem dX9_writeWord_62 : decode cX9_writeWord 62 = .ok (.sipush 368, 3) := by decide +kernel
theorem dX9_writeWord_65 : decode cX9_writeWord 65 = .ok (.if_icmp .ne 11, 3) := by decide +kernel
theorem dX9_writeWord_68 : decode cX9_writeWord 68 = .ok (.aload_n 0, 1) := by decide +kernel
theorem dX9_writeWord_69 : decode cX9_writeWord 69 = .ok (.iload_n 2, 1) := by decide +kernel
theorem dX9_writeWord_70 : decode cX9_writeWord 70 = .ok (.putfield 23, 3) := by decide +kernel
theorem dX9_writeWord_73 : decode cX9_writeWord 73 = .ok (.goto 30, 3) := by decide +kernel
theorem dX9_writeWord_76 : decode cX9_writeWord 76 = .ok (.iload_n 1, 1) := by decide +kernel
theorem dX9_writeWord_77 : decode cX9_writeWord 77 = .ok (.sipush 370, 3) := by decide +kernel
theorem dX9_writeWord_80 : decode cX9_writeWord 80 = .ok (.if_icmp .lt 23, 3) := by decide +kernel
theorem dX9_writeWord_83 : decode cX9_writeWord 83 = .ok (.iload_n 1, 1) := by decide +kernel
theorem dX9_writeWord_84 : decode cX9_writeWord 84 = .ok (.sipush 374, 3) := by decide +kernel
theorem dX9_writeWord_87 : decode cX9_writeWord 87 = .ok (.if_icmp .gt 16, 3) := by decide +kernel
theorem dX9_writeWord_90 : decode cX9_writeWord 90 = .ok (.aload_n 0, 1) := by decide +kernel
theorem dX9_writeWord_91 : decode cX9_writeWord 91 = .ok (.getfield 13, 3) := by decide +kernel
theorem dX9_writeWord_94 : decode cX9_writeWord 94 = .ok (.iload_n 1, 1) := by decide +kernel
theorem dX9_writeWord_95 : decode cX9_writeWord 95 = .ok (.sipush 370, 3) := by decide +kernel
theorem dX9_writeWord_98 : decode cX9_writeWord 98 = .ok (.isub, 1) := by decide +kernel
theorem dX9_writeWord_99 : decode cX9_writeWord 99 = .ok (.iconst 1, 1) := by decide +kernel
theorem dX9_writeWord_100 : decode cX9_writeWord 100 = .ok (.ishr, 1) := by decide +kernel
theorem dX9_writeWord_101 : decode cX9_writeWord 101 = .ok (.iload_n 2, 1) := by decide +kernel
theorem dX9_writeWord_102 : decode cX9_writeWord 102 = .ok (.iastore, 1) := by decide +kernel
theorem dX9_writeWord_103 : decode cX9_writeWord 103 = .ok (.return_, 1) := by decide +kernel
theorem dX9_vector_0 : decode cX9_vector 0 = .ok (.aload_n 0, 1) := by decide +kernel
theorem dX9_vector_1 : decode cX9_vector 1 = .ok (.getfield 7, 3) := by decide +kernel
theorem dX9_vector_4 : decode cX9_vector 4 = .ok (.iconst 1, 1) := by decide +kernel
theorem dX9_vector_5 : decode cX9_vector 5 = .ok (.iaload, 1) := by decide +kernel
theorem dX9_vector_6 : decode cX9_vector 6 = .ok (.bipush 17, 2) := by decide +kernel
theorem dX9_vector_8 : decode cX9_vector 8 = .ok (.if_icmp .ne 5, 3) := by decide +kernel
theorem dX9_vector_11 : decode cX9_vector 11 = .ok (.iconst 2, 1) := by decide +kernel
theorem dX9_vector_12 : decode cX9_vector 12 = .ok (.ireturn, 1) := by decide +kernel
theorem dX9_vector_13 : decode cX9_vector 13 = .ok (.aload_n 0, 1) := by decide +kernel
theorem dX9_vector_14 : decode cX9_vector 14 = .ok (.getfield 7, 3) := by decide +kernel
theorem dX9_vector_17 : decode cX9_vector 17 = .ok (.iconst 2, 1) := by decide +kernel
theorem dX9_vector_18 : decode cX9_vector 18 = .ok (.iaload, 1) := by decide +kernel
theorem dX9_vector_19 : decode cX9_vector 19 = .ok (.bipush 17, 2) := by decide +kernel
theorem dX9_vector_21 : decode cX9_vector 21 = .ok (.if_icmp .ne 5, 3) := by decide +kernel
theorem dX9_vector_24 : decode cX9_vector 24 = .ok (.iconst 4, 1) := by decide +kernel
theorem dX9_vector_25 : decode cX9_vector 25 = .ok (.ireturn, 1) := by decide +kernel
theorem dX9_vector_26 : decode cX9_vector 26 = .ok (.aload_n 0, 1) := by decide +kernel
theorem dX9_vector_27 : decode cX9_vector 27 = .ok (.getfield 16, 3) := by decide +kernel
theorem dX9_vector_30 : decode cX9_vector 30 = .ok (.iconst 3, 1) := by decide +kernel
theorem dX9_vector_31 : decode cX9_vector 31 = .ok (.iand, 1) := by decide +kernel
theorem dX9_vector_32 : decode cX9_vector 32 = .ok (.iconst 3, 1) := by decide +kernel
theorem dX9_vector_33 : decode cX9_vector 33 = .ok (.if_icmp .ne 8, 3) := by decide +kernel
theorem dX9_vector_36 : decode cX9_vector 36 = .ok (.bipush 10, 2) := by decide +kernel
theorem dX9_vector_38 : decode cX9_vector 38 = .ok (.goto 4, 3) := by decide +kernel
theorem dX9_vector_41 : decode cX9_vector 41 = .ok (.iconst 0, 1) := by decide +kernel
theorem dX9_vector_42 : decode cX9_vector 42 = .ok (.ireturn, 1) := by decide +kernel
theorem dX9_takeVector_0 : decode cX9_takeVector 0 = .ok (.aload_n 0, 1) := by decide +kernel
theorem dX9_takeVector_1 : decode cX9_takeVector 1 = .ok (.invokevirtual 34, 3) := by decide +kernel
theorem dX9_takeVector_4 : decode cX9_takeVector 4 = .ok (.istore_n 1, 1) := by decide +kernel
theorem dX9_takeVector_5 : decode cX9_takeVector 5 = .ok (.iload_n 1, 1) := by decide +kernel
theorem dX9_takeVector_6 : decode cX9_takeVector 6 = .ok (.iconst 2, 1) := by decide +kernel
theorem dX9_takeVector_7 : decode cX9_takeVector 7 = .ok (.if_icmp .ne 17, 3) := by decide +kernel
theorem dX9_takeVector_10 : decode cX9_takeVector 10 = .ok (.aload_n 0, 1) := by decide +kernel
theorem dX9_takeVector_11 : decode cX9_takeVector 11 = .ok (.getfield 7, 3) := by decide +kernel
theorem dX9_takeVector_14 : decode cX9_takeVector 14 = .ok (.iconst 1, 1) := by decide +kernel
theorem dX9_takeVector_15 : decode cX9_takeVector 15 = .ok (.dup2, 1) := by decide +kernel
theorem dX9_takeVector_16 : decode cX9_takeVector 16 = .ok (.iaload, 1) := by decide +kernel
theorem dX9_takeVector_17 : decode cX9_takeVector 17 = .ok (.bipush (-2), 2) := by decide +kernel
theorem dX9_takeVector_19 : decode cX9_takeVector 19 = .ok (.iand, 1) := by decide +kernel
theorem dX9_takeVector_20 : decode cX9_takeVector 20 = .ok (.iastore, 1) := by decide +kernel
theorem dX9_takeVector_21 : decode cX9_takeVector 21 = .ok (.goto 39, 3) := by decide +kernel
theorem dX9_takeVector_24 : decode cX9_takeVector 24 = .ok (.iload_n 1, 1) := by decide +kernel
theorem dX9_takeVector_25 : decode cX9_takeVector 25 = .ok (.iconst 4, 1) := by decide +kernel
theorem dX9_takeVector_26 : decode cX9_takeVector 26 = .ok (.if_icmp .ne 17, 3) := by decide +kernel
theorem dX9_takeVector_29 : decode cX9_takeVector 29 = .ok (.aload_n 0, 1) := by decide +kernel
theorem dX9_takeVector_30 : decode cX9_takeVector 30 = .ok (.getfield 7, 3) := by decide +kernel
theorem dX9_takeVector_33 : decode cX9_takeVector 33 = .ok (.iconst 2, 1) := by decide +kernel
theorem dX9_takeVector_34 : decode cX9_takeVector 34 = .ok (.dup2, 1) := by decide +kernel
theorem dX9_takeVector_35 : decode cX9_takeVector 35 = .ok (.iaload, 1) := by decide +kernel
theorem dX9_takeVector_36 : decode cX9_takeVector 36 = .ok (.bipush (-2), 2) := by decide +kernel
theorem dX9_takeVector_38 : decode cX9_takeVector 38 = .ok (.iand, 1) := by decide +kernel
theorem dX9_takeVector_39 : decode cX9_takeVector 39 = .ok (.iastore, 1) := by decide +kernel
theorem dX9_takeVector_40 : decode cX9_takeVector 40 = .ok (.goto 20, 3) := by decide +kernel
theorem dX9_takeVector_43 : decode cX9_takeVector 43 = .ok (.iload_n 1, 1) := by decide +kernel
theorem dX9_takeVector_44 : decode cX9_takeVector 44 = .ok (.bipush 10, 2) := by decide +kernel
theorem dX9_takeVector_46 : decode cX9_takeVector 46 = .ok (.if_icmp .ne 14, 3) := by decide +kernel
theorem dX9_takeVector_49 : decode cX9_takeVector 49 = .ok (.aload_n 0, 1) := by decide +kernel
theorem dX9_takeVector_50 : decode cX9_takeVector 50 = .ok (.dup, 1) := by decide +kernel
theorem dX9_takeVector_51 : decode cX9_takeVector 51 = .ok (.getfield 16, 3) := by decide +kernel
theorem dX9_takeVector_54 : decode cX9_takeVector 54 = .ok (.bipush (-2), 2) := by decide +kernel
theorem dX9_takeVector_56 : decode cX9_takeVector 56 = .ok (.iand, 1) := by decide +kernel
theorem dX9_takeVector_57 : decode cX9_takeVector 57 = .ok (.putfield 16, 3) := by decide +kernel
theorem dX9_takeVector_60 : decode cX9_takeVector 60 = .ok (.iload_n 1, 1) := by decide +kernel
theorem dX9_takeVector_61 : decode cX9_takeVector 61 = .ok (.ireturn, 1) := by decide +kernel
theorem dX9_firstRequests_0 : decode cX9_firstRequests 0 = .ok (.aload_n 0, 1) := by decide +kernel
theorem dX9_firstRequests_1 : decode cX9_firstRequests 1 = .ok (.getfield 7, 3) := by decide +kernel
theorem dX9_firstRequests_4 : decode cX9_firstRequests 4 = .ok (.iconst 0, 1) := by decide +kernel
theorem dX9_firstRequests_5 : decode cX9_firstRequests 5 = .ok (.iaload, 1) := by decide +kernel
theorem dX9_firstRequests_6 : decode cX9_firstRequests 6 = .ok (.bipush 17, 2) := by decide +kernel
theorem dX9_firstRequests_8 : decode cX9_firstRequests 8 = .ok (.if_icmp .ne 7, 3) := by decide +kernel
theorem dX9_firstRequests_11 : decode cX9_firstRequests 11 = .ok (.iconst 1, 1) := by decide +kernel
theorem dX9_firstRequests_12 : decode cX9_firstRequests 12 = .ok (.goto 4, 3) := by decide +kernel
theorem dX9_firstRequests_15 : decode cX9_firstRequests 15 = .ok (.iconst 0, 1) := by decide +kernel
theorem dX9_firstRequests_16 : decode cX9_firstRequests 16 = .ok (.ireturn, 1) := by decide +kernel
theorem dX9_takeFirst_0 : decode cX9_takeFirst 0 = .ok (.aload_n 0, 1) := by decide +kernel
theorem dX9_takeFirst_1 : decode cX9_takeFirst 1 = .ok (.getfield 7, 3) := by decide +kernel
theorem dX9_takeFirst_4 : decode cX9_takeFirst 4 = .ok (.iconst 0, 1) := by decide +kernel
theorem dX9_takeFirst_5 : decode cX9_takeFirst 5 = .ok (.dup2, 1) := by decide +kernel
theorem dX9_takeFirst_6 : decode cX9_takeFirst 6 = .ok (.iaload, 1) := by decide +kernel
theorem dX9_takeFirst_7 : decode cX9_takeFirst 7 = .ok (.bipush (-2), 2) := by decide +kernel
theorem dX9_takeFirst_9 : decode cX9_takeFirst 9 = .ok (.iand, 1) := by decide +kernel
theorem dX9_takeFirst_10 : decode cX9_takeFirst 10 = .ok (.iastore, 1) := by decide +kernel
theorem dX9_takeFirst_11 : decode cX9_takeFirst 11 = .ok (.return_, 1) := by decide +kernel
theorem dX9_slowBeat_0 : decode cX9_slowBeat 0 = .ok (.aload_n 0, 1) := by decide +kernel
theorem dX9_slowBeat_1 : decode cX9_slowBeat 1 = .ok (.getfield 16, 3) := by decide +kernel
theorem dX9_slowBeat_4 : decode cX9_slowBeat 4 = .ok (.bipush 8, 2) := by decide +kernel
theorem dX9_slowBeat_6 : decode cX9_slowBeat 6 = .ok (.ishr, 1) := by decide +kernel
theorem dX9_slowBeat_7 : decode cX9_slowBeat 7 = .ok (.iconst 3, 1) := by decide +kernel
theorem dX9_slowBeat_8 : decode cX9_slowBeat 8 = .ok (.iand, 1) := by decide +kernel
theorem dX9_slowBeat_9 : decode cX9_slowBeat 9 = .ok (.iconst 1, 1) := by decide +kernel
theorem dX9_slowBeat_10 : decode cX9_slowBeat 10 = .ok (.if_icmp .ne 7, 3) := by decide +kernel
theorem dX9_slowBeat_13 : decode cX9_slowBeat 13 = .ok (.aload_n 0, 1) := by decide +kernel
theorem dX9_slowBeat_14 : decode cX9_slowBeat 14 = .ok (.invokevirtual 38, 3) := by decide +kernel
theorem dX9_slowBeat_17 : decode cX9_slowBeat 17 = .ok (.return_, 1) := by decide +kernel
theorem dX9_fastBeat_0 : decode cX9_fastBeat 0 = .ok (.aload_n 0, 1) := by decide +kernel
theorem dX9_fastBeat_1 : decode cX9_fastBeat 1 = .ok (.getfield 16, 3) := by decide +kernel
theorem dX9_fastBeat_4 : decode cX9_fastBeat 4 = .ok (.bipush 8, 2) := by decide +kernel
theorem dX9_fastBeat_6 : decode cX9_fastBeat 6 = .ok (.ishr, 1) := by decide +kernel
theorem dX9_fastBeat_7 : decode cX9_fastBeat 7 = .ok (.iconst 3, 1) := by decide +kernel
theorem dX9_fastBeat_8 : decode cX9_fastBeat 8 = .ok (.iand, 1) := by decide +kernel
theorem dX9_fastBeat_9 : decode cX9_fastBeat 9 = .ok (.iconst 2, 1) := by decide +kernel
theorem dX9_fastBeat_10 : decode cX9_fastBeat 10 = .ok (.if_icmp .ne 7, 3) := by decide +kernel
theorem dX9_fastBeat_13 : decode cX9_fastBeat 13 = .ok (.aload_n 0, 1) := by decide +kernel
theorem dX9_fastBeat_14 : decode cX9_fastBeat 14 = .ok (.invokevirtual 38, 3) := by decide +kernel
theorem dX9_fastBeat_17 : decode cX9_fastBeat 17 = .ok (.return_, 1) := by decide +kernel
theorem dX9_beat_0 : decode cX9_beat 0 = .ok (.aload_n 0, 1) := by decide +kernel
theorem dX9_beat_1 : decode cX9_beat 1 = .ok (.dup, 1) := by decide +kernel
theorem dX9_beat_2 : decode cX9_beat 2 = .ok (.getfield 26, 3) := by decide +kernel
theorem dX9_beat_5 : decode cX9_beat 5 = .ok (.iconst 1, 1) := by decide +kernel
theorem dX9_beat_6 : decode cX9_beat 6 = .ok (.iadd, 1) := by decide +kernel
theorem dX9_beat_7 : decode cX9_beat 7 = .ok (.putfield 26, 3) := by decide +kernel
theorem dX9_beat_10 : decode cX9_beat 10 = .ok (.aload_n 0, 1) := by decide +kernel
theorem dX9_beat_11 : decode cX9_beat 11 = .ok (.getfield 26, 3) := by decide +kernel
theorem dX9_beat_14 : decode cX9_beat 14 = .ok (.iconst 1, 1) := by decide +kernel
theorem dX9_beat_15 : decode cX9_beat 15 = .ok (.aload_n 0, 1) := by decide +kernel
theorem dX9_beat_16 : decode cX9_beat 16 = .ok (.getfield 16, 3) := by decide +kernel
theorem dX9_beat_19 : decode cX9_beat 19 = .ok (.bipush 6, 2) := by decide +kernel
theorem dX9_beat_21 : decode cX9_beat 21 = .ok (.ishr, 1) := by decide +kernel
theorem dX9_beat_22 : decode cX9_beat 22 = .ok (.iconst 3, 1) := by decide +kernel
theorem dX9_beat_23 : decode cX9_beat 23 = .ok (.iand, 1) := by decide +kernel
theorem dX9_beat_24 : decode cX9_beat 24 = .ok (.ishl, 1) := by decide +kernel
theorem dX9_beat_25 : decode cX9_beat 25 = .ok (.if_icmp .lt 12, 3) := by decide +kernel
theorem dX9_beat_28 : decode cX9_beat 28 = .ok (.aload_n 0, 1) := by decide +kernel
theorem dX9_beat_29 : decode cX9_beat 29 = .ok (.iconst 0, 1) := by decide +kernel
theorem dX9_beat_30 : decode cX9_beat 30 = .ok (.putfield 26, 3) := by decide +kernel
theorem dX9_beat_33 : decode cX9_beat 33 = .ok (.aload_n 0, 1) := by decide +kernel
theorem dX9_beat_34 : decode cX9_beat 34 = .ok (.invokevirtual 41, 3) := by decide +kernel
theorem dX9_beat_37 : decode cX9_beat 37 = .ok (.return_, 1) := by decide +kernel
theorem dX9_advance_0 : decode cX9_advance 0 = .ok (.aload_n 0, 1) := by decide +kernel
theorem dX9_advance_1 : decode cX9_advance 1 = .ok (.getfield 16, 3) := by decide +kernel
theorem dX9_advance_4 : decode cX9_advance 4 = .ok (.iconst 4, 1) := by decide +kernel
theorem dX9_advance_5 : decode cX9_advance 5 = .ok (.ishr, 1) := by decide +kernel
theorem dX9_advance_6 : decode cX9_advance 6 = .ok (.iconst 3, 1) := by decide +kernel
theorem dX9_advance_7 : decode cX9_advance 7 = .ok (.iand, 1) := by decide +kernel
theorem dX9_advance_8 : decode cX9_advance 8 = .ok (.istore_n 1, 1) := by decide +kernel
theorem dX9_advance_9 : decode cX9_advance 9 = .ok (.iload_n 1, 1) := by decide +kernel
theorem dX9_advance_10 : decode cX9_advance 10 = .ok (.ifCond .eq 17, 3) := by decide +kernel
theorem dX9_advance_13 : decode cX9_advance 13 = .ok (.iload_n 1, 1) := by decide +kernel
theorem dX9_advance_14 : decode cX9_advance 14 = .ok (.iconst 2, 1) := by decide +kernel
theorem dX9_advance_15 : decode cX9_advance 15 = .ok (.if_icmp .eq 13, 3) := by decide +kernel
theorem dX9_advance_18 : decode cX9_advance 18 = .ok (.aload_n 0, 1) := by decide +kernel
theorem dX9_advance_19 : decode cX9_advance 19 = .ok (.getfield 13, 3) := by decide +kernel
theorem dX9_advance_22 : decode cX9_advance 22 = .ok (.iconst 0, 1) := by decide +kernel
theorem dX9_advance_23 : decode cX9_advance 23 = .ok (.iaload, 1) := by decide +kernel
theorem dX9_advance_24 : decode cX9_advance 24 = .ok (.ifCond .ne 4, 3) := by decide +kernel
theorem dX9_advance_27 : decode cX9_advance 27 = .ok (.return_, 1) := by decide +kernel
theorem dX9_advance_28 : decode cX9_advance 28 = .ok (.iload_n 1, 1) := by decide +kernel
theorem dX9_advance_29 : decode cX9_advance 29 = .ok (.iconst 1, 1) := by decide +kernel
theorem dX9_advance_30 : decode cX9_advance 30 = .ok (.if_icmp .ne 33, 3) := by decide +kernel
theorem dX9_advance_33 : decode cX9_advance 33 = .ok (.aload_n 0, 1) := by decide +kernel
theorem dX9_advance_34 : decode cX9_advance 34 = .ok (.aload_n 0, 1) := by decide +kernel
theorem dX9_advance_35 : decode cX9_advance 35 = .ok (.getfield 23, 3) := by decide +kernel
theorem dX9_advance_38 : decode cX9_advance 38 = .ok (.aload_n 0, 1) := by decide +kernel
theorem dX9_advance_39 : decode cX9_advance 39 = .ok (.getfield 13, 3) := by decide +kernel
theorem dX9_advance_42 : decode cX9_advance 42 = .ok (.iconst 0, 1) := by decide +kernel
theorem dX9_advance_43 : decode cX9_advance 43 = .ok (.iaload, 1) := by decide +kernel
theorem dX9_advance_44 : decode cX9_advance 44 = .ok (.if_icmp .lt 7, 3) := by decide +kernel
theorem dX9_advance_47 : decode cX9_advance 47 = .ok (.iconst 0, 1) := by decide +kernel
theorem dX9_advance_48 : decode cX9_advance 48 = .ok (.goto 9, 3) := by decide +kernel
theorem dX9_advance_51 : decode cX9_advance 51 = .ok (.aload_n 0, 1) := by decide +kernel
theorem dX9_advance_52 : decode cX9_advance 52 = .ok (.getfield 23, 3) := by decide +kernel
theorem dX9_advance_55 : decode cX9_advance 55 = .ok (.iconst 1, 1) := by decide +kernel
theorem dX9_advance_56 : decode cX9_advance 56 = .ok (.iadd, 1) := by decide +kernel
theorem dX9_advance_57 : decode cX9_advance 57 = .ok (.putfield 23, 3) := by decide +kernel
theorem dX9_advance_60 : decode cX9_advance 60 = .ok (.goto 28, 3) := by decide +kernel
theorem dX9_advance_63 : decode cX9_advance 63 = .ok (.iload_n 1, 1) := by decide +kernel
theorem dX9_advance_64 : decode cX9_advance 64 = .ok (.iconst 2, 1) := by decide +kernel
theorem dX9_advance_65 : decode cX9_advance 65 = .ok (.if_icmp .ne 19, 3) := by decide +kernel
theorem dX9_advance_68 : decode cX9_advance 68 = .ok (.aload_n 0, 1) := by decide +kernel
theorem dX9_advance_69 : decode cX9_advance 69 = .ok (.aload_n 0, 1) := by decide +kernel
theorem dX9_advance_70 : decode cX9_advance 70 = .ok (.getfield 23, 3) := by decide +kernel
theorem dX9_advance_73 : decode cX9_advance 73 = .ok (.iconst 1, 1) := by decide +kernel
theorem dX9_advance_74 : decode cX9_advance 74 = .ok (.iadd, 1) := by decide +kernel
theorem dX9_advance_75 : decode cX9_advance 75 = .ok (.ldc 44, 2) := by decide +kernel
theorem dX9_advance_77 : decode cX9_advance 77 = .ok (.iand, 1) := by decide +kernel
theorem dX9_advance_78 : decode cX9_advance 78 = .ok (.putfield 23, 3) := by decide +kernel
theorem dX9_advance_81 : decode cX9_advance 81 = .ok (.goto 7, 3) := by decide +kernel
theorem dX9_advance_84 : decode cX9_advance 84 = .ok (.aload_n 0, 1) := by decide +kernel
theorem dX9_advance_85 : decode cX9_advance 85 = .ok (.invokevirtual 45, 3) := by decide +kernel
theorem dX9_advance_88 : decode cX9_advance 88 = .ok (.aload_n 0, 1) := by decide +kernel
theorem dX9_advance_89 : decode cX9_advance 89 = .ok (.invokevirtual 48, 3) := by decide +kernel
theorem dX9_advance_92 : decode cX9_advance 92 = .ok (.return_, 1) := by decide +kernel
theorem dX9_swing_0 : decode cX9_swing 0 = .ok (.aload_n 0, 1) := by decide +kernel
theorem dX9_swing_1 : decode cX9_swing 1 = .ok (.getfield 23, 3) := by decide +kernel
theorem dX9_swing_4 : decode cX9_swing 4 = .ok (.aload_n 0, 1) := by decide +kernel
theorem dX9_swing_5 : decode cX9_swing 5 = .ok (.getfield 13, 3) := by decide +kernel
theorem dX9_swing_8 : decode cX9_swing 8 = .ok (.iconst 0, 1) := by decide +kernel
theorem dX9_swing_9 : decode cX9_swing 9 = .ok (.iaload, 1) := by decide +kernel
theorem dX9_swing_10 : decode cX9_swing 10 = .ok (.if_icmp .lt 11, 3) := by decide +kernel
theorem dX9_swing_13 : decode cX9_swing 13 = .ok (.aload_n 0, 1) := by decide +kernel
theorem dX9_swing_14 : decode cX9_swing 14 = .ok (.iconst 1, 1) := by decide +kernel
theorem dX9_swing_15 : decode cX9_swing 15 = .ok (.putfield 29, 3) := by decide +kernel
theorem dX9_swing_18 : decode cX9_swing 18 = .ok (.goto 15, 3) := by decide +kernel
theorem dX9_swing_21 : decode cX9_swing 21 = .ok (.aload_n 0, 1) := by decide +kernel
theorem dX9_swing_22 : decode cX9_swing 22 = .ok (.getfield 23, 3) := by decide +kernel
theorem dX9_swing_25 : decode cX9_swing 25 = .ok (.ifCond .ne 8, 3) := by decide +kernel
theorem dX9_swing_28 : decode cX9_swing 28 = .ok (.aload_n 0, 1) := by decide +kernel
theorem dX9_swing_29 : decode cX9_swing 29 = .ok (.iconst 0, 1) := by decide +kernel
theorem dX9_swing_30 : decode cX9_swing 30 = .ok (.putfield 29, 3) := by decide +kernel
theorem dX9_swing_33 : decode cX9_swing 33 = .ok (.aload_n 0, 1) := by decide +kernel
theorem dX9_swing_34 : decode cX9_swing 34 = .ok (.dup, 1) := by decide +kernel
theorem dX9_swing_35 : decode cX9_swing 35 = .ok (.getfield 23, 3) := by decide +kernel
theorem dX9_swing_38 : decode cX9_swing 38 = .ok (.aload_n 0, 1) := by decide +kernel
theorem dX9_swing_39 : decode cX9_swing 39 = .ok (.getfield 29, 3) := by decide +kernel
theorem dX9_swing_42 : decode cX9_swing 42 = .ok (.ifCond .eq 7, 3) := by decide +kernel
theorem dX9_swing_45 : decode cX9_swing 45 = .ok (.iconst (-1), 1) := by decide +kernel
theorem dX9_swing_46 : decode cX9_swing 46 = .ok (.goto 4, 3) := by decide +kernel
theorem dX9_swing_49 : decode cX9_swing 49 = .ok (.iconst 1, 1) := by decide +kernel
theorem dX9_swing_50 : decode cX9_swing 50 = .ok (.iadd, 1) := by decide +kernel
theorem dX9_swing_51 : decode cX9_swing 51 = .ok (.putfield 23, 3) := by decide +kernel
theorem dX9_swing_54 : decode cX9_swing 54 = .ok (.return_, 1) := by decide +kernel
theorem dX9_raiseFlags_0 : decode cX9_raiseFlags 0 = .ok (.iconst 0, 1) := by decide +kernel
theorem dX9_raiseFlags_1 : decode cX9_raiseFlags 1 = .ok (.istore_n 1, 1) := by decide +kernel
theorem dX9_raiseFlags_2 : decode cX9_raiseFlags 2 = .ok (.iload_n 1, 1) := by decide +kernel
theorem dX9_raiseFlags_3 : decode cX9_raiseFlags 3 = .ok (.iconst 3, 1) := by decide +kernel
theorem dX9_raiseFlags_4 : decode cX9_raiseFlags 4 = .ok (.if_icmp .ge 32, 3) := by decide +kernel
theorem dX9_raiseFlags_7 : decode cX9_raiseFlags 7 = .ok (.aload_n 0, 1) := by decide +kernel
theorem dX9_raiseFlags_8 : decode cX9_raiseFlags 8 = .ok (.getfield 23, 3) := by decide +kernel
theorem dX9_raiseFlags_11 : decode cX9_raiseFlags 11 = .ok (.aload_n 0, 1) := by decide +kernel
theorem dX9_raiseFlags_12 : decode cX9_raiseFlags 12 = .ok (.getfield 13, 3) := by decide +kernel
theorem dX9_raiseFlags_15 : decode cX9_raiseFlags 15 = .ok (.iload_n 1, 1) := by decide +kernel
theorem dX9_raiseFlags_16 : decode cX9_raiseFlags 16 = .ok (.iaload, 1) := by decide +kernel
theorem dX9_raiseFlags_17 : decode cX9_raiseFlags 17 = .ok (.if_icmp .ne 13, 3) := by decide +kernel
theorem dX9_raiseFlags_20 : decode cX9_raiseFlags 20 = .ok (.aload_n 0, 1) := by decide +kernel
theorem dX9_raiseFlags_21 : decode cX9_raiseFlags 21 = .ok (.getfield 7, 3) := by decide +kernel
theorem dX9_raiseFlags_24 : decode cX9_raiseFlags 24 = .ok (.iload_n 1, 1) := by decide +kernel
theorem dX9_raiseFlags_25 : decode cX9_raiseFlags 25 = .ok (.dup2, 1) := by decide +kernel
theorem dX9_raiseFlags_26 : decode cX9_raiseFlags 26 = .ok (.iaload, 1) := by decide +kernel
theorem dX9_raiseFlags_27 : decode cX9_raiseFlags 27 = .ok (.iconst 1, 1) := by decide +kernel
theorem dX9_raiseFlags_28 : decode cX9_raiseFlags 28 = .ok (.ior, 1) := by decide +kernel
theorem dX9_raiseFlags_29 : decode cX9_raiseFlags 29 = .ok (.iastore, 1) := by decide +kernel
theorem dX9_raiseFlags_30 : decode cX9_raiseFlags 30 = .ok (.iinc 1 1, 3) := by decide +kernel
theorem dX9_raiseFlags_33 : decode cX9_raiseFlags 33 = .ok (.goto (-31), 3) := by decide +kernel
theorem dX9_raiseFlags_36 : decode cX9_raiseFlags 36 = .ok (.aload_n 0, 1) := by decide +kernel
theorem dX9_raiseFlags_37 : decode cX9_raiseFlags 37 = .ok (.getfield 23, 3) := by decide +kernel
theorem dX9_raiseFlags_40 : decode cX9_raiseFlags 40 = .ok (.ifCond .ne 13, 3) := by decide +kernel
theorem dX9_raiseFlags_43 : decode cX9_raiseFlags 43 = .ok (.aload_n 0, 1) := by decide +kernel
theorem dX9_raiseFlags_44 : decode cX9_raiseFlags 44 = .ok (.dup, 1) := by decide +kernel
theorem dX9_raiseFlags_45 : decode cX9_raiseFlags 45 = .ok (.getfield 16, 3) := by decide +kernel
theorem dX9_raiseFlags_48 : decode cX9_raiseFlags 48 = .ok (.iconst 1, 1) := by decide +kernel
theorem dX9_raiseFlags_49 : decode cX9_raiseFlags 49 = .ok (.ior, 1) := by decide +kernel
theorem dX9_raiseFlags_50 : decode cX9_raiseFlags 50 = .ok (.putfield 16, 3) := by decide +kernel
theorem dX9_raiseFlags_53 : decode cX9_raiseFlags 53 = .ok (.return_, 1) := by decide +kernel
theorem dX10_init_0 : decode cX10_init 0 = .ok (.aload_n 0, 1) := by decide +kernel
theorem dX10_init_1 : decode cX10_init 1 = .ok (.invokespecial 3, 3) := by decide +kernel
theorem dX10_init_4 : decode cX10_init 4 = .ok (.aload_n 0, 1) := by decide +kernel
theorem dX10_init_5 : decode cX10_init 5 = .ok (.sipush 2501, 3) := by decide +kernel
theorem dX10_init_8 : decode cX10_init 8 = .ok (.newarray .int, 2) := by decide +kernel
theorem dX10_init_10 : decode cX10_init 10 = .ok (.putfield 11, 3) := by decide +kernel
theorem dX10_init_13 : decode cX10_init 13 = .ok (.aload_n 0, 1) := by decide +kernel
theorem dX10_init_14 : decode cX10_init 14 = .ok (.sipush 2501, 3) := by decide +kernel
theorem dX10_init_17 : decode cX10_init 17 = .ok (.newarray .int, 2) := by decide +kernel
theorem dX10_init_19 : decode cX10_init 19 = .ok (.putfield 15, 3) := by decide +kernel
theorem dX10_init_22 : decode cX10_init 22 = .ok (.aload_n 0, 1) := by decide +kernel
theorem dX10_init_23 : decode cX10_init 23 = .ok (.sipush 2501, 3) := by decide +kernel
theorem dX10_init_26 : decode cX10_init 26 = .ok (.newarray .int, 2) := by decide +kernel
theorem dX10_init_28 : decode cX10_init 28 = .ok (.putfield 18, 3) := by decide +kernel
theorem dX10_init_31 : decode cX10_init 31 = .ok (.aload_n 0, 1) := by decide +kernel
theorem dX10_init_32 : decode cX10_init 32 = .ok (.sipush 2501, 3) := by decide +kernel
theorem dX10_init_35 : decode cX10_init 35 = .ok (.newarray .long, 2) := by decide +kernel
theorem dX10_init_37 : decode cX10_init 37 = .ok (.putfield 21, 3) := by decide +kernel
theorem dX10_init_40 : decode cX10_init 40 = .ok (.aload_n 0, 1) := by decide +kernel
theorem dX10_init_41 : decode cX10_init 41 = .ok (.bipush 35, 2) := by decide +kernel
theorem dX10_init_43 : decode cX10_init 43 = .ok (.newarray .long, 2) := by decide +kernel
theorem dX10_init_45 : decode cX10_init 45 = .ok (.putfield 25, 3) := by decide +kernel
theorem dX10_init_48 : decode cX10_init 48 = .ok (.aload_n 0, 1) := by decide +kernel
theorem dX10_init_49 : decode cX10_init 49 = .ok (.aload_n 1, 1) := by decide +kernel
theorem dX10_init_50 : decode cX10_init 50 = .ok (.putfield 28, 3) := by decide +kernel
theorem dX10_init_53 : decode cX10_init 53 = .ok (.iconst 0, 1) := by decide +kernel
theorem dX10_init_54 : decode cX10_init 54 = .ok (.istore_n 2, 1) := by decide +kernel
theorem dX10_init_55 : decode cX10_init 55 = .ok (.iload_n 2, 1) := by decide +kernel
theorem dX10_init_56 : decode cX10_init 56 = .ok (.bipush 35, 2) := by decide +kernel
theorem dX10_init_58 : decode cX10_init 58 = .ok (.if_icmp .ge 19, 3) := by decide +kernel
theorem dX10_init_61 : decode cX10_init 61 = .ok (.aload_n 0, 1) := by decide +kernel
theorem dX10_init_62 : decode cX10_init 62 = .ok (.getfield 25, 3) := by decide +kernel
theorem dX10_init_65 : decode cX10_init 65 = .ok (.iload_n 2, 1) := by decide +kernel
theorem dX10_init_66 : decode cX10_init 66 = .ok (.iload_n 2, 1) := by decide +kernel
theorem dX10_init_67 : decode cX10_init 67 = .ok (.invokestatic 31, 3) := by decide +kernel
theorem dX10_init_70 : decode cX10_init 70 = .ok (.lastore, 1) := by decide +kernel
theorem dX10_init_71 : decode cX10_init 71 = .ok (.iinc 2 1, 3) := by decide +kernel
theorem dX10_init_74 : decode cX10_init 74 = .ok (.goto (-19), 3) := by decide +kernel
theorem dX10_init_77 : decode cX10_init 77 = .ok (.return_, 1) := by decide +kernel
theorem dX10_nameSign_0 : decode cX10_nameSign 0 = .ok (.iload_n 0, 1) := by decide +kernel
theorem dX10_nameSign_1 : decode cX10_nameSign 1 = .ok (.iconst 4, 1) := by decide +kernel
theorem dX10_nameSign_2 : decode cX10_nameSign 2 = .ok (.imul, 1) := by decide +kernel
theorem dX10_nameSign_3 : decode cX10_nameSign 3 = .ok (.iload_n 1, 1) := by decide +kernel
theorem dX10_nameSign_4 : decode cX10_nameSign 4 = .ok (.iadd, 1) := by decide +kernel
theorem dX10_nameSign_5 : decode cX10_nameSign 5 = .ok (.istore_n 2, 1) := by decide +kernel
theorem dX10_nameSign_6 : decode cX10_nameSign 6 = .ok (.iload_n 1, 1) := by decide +kernel
theorem dX10_nameSign_7 : decode cX10_nameSign 7 = .ok (.iconst 4, 1) := by decide +kernel
theorem dX10_nameSign_8 : decode cX10_nameSign 8 = .ok (.if_icmp .ge 25, 3) := by decide +kernel
theorem dX10_nameSign_11 : decode cX10_nameSign 11 = .ok (.iload_n 2, 1) := by decide +kernel
theorem dX10_nameSign_12 : decode cX10_nameSign 12 = .ok (.ifCond .lt 21, 3) := by decide +kernel
theorem dX10_nameSign_15 : decode cX10_nameSign 15 = .ok (.iload_n 2, 1) := by decide +kernel
theorem dX10_nameSign_16 : decode cX10_nameSign 16 = .ok (.ldc 35, 2) := by decide +kernel
theorem dX10_nameSign_18 : decode cX10_nameSign 18 = .ok (.invokevirtual 37, 3) := by decide +kernel
theorem dX10_nameSign_21 : decode cX10_nameSign 21 = .ok (.if_icmp .ge 12, 3) := by decide +kernel
theorem dX10_nameSign_24 : decode cX10_nameSign 24 = .ok (.ldc 35, 2) := by decide +kernel
theorem dX10_nameSign_26 : decode cX10_nameSign 26 = .ok (.iload_n 2, 1) := by decide +kernel
theorem dX10_nameSign_27 : decode cX10_nameSign 27 = .ok (.invokevirtual 43, 3) := by decide +kernel
theorem dX10_nameSign_30 : decode cX10_nameSign 30 = .ok (.goto 5, 3) := by decide +kernel
theorem dX10_nameSign_33 : decode cX10_nameSign 33 = .ok (.bipush 32, 2) := by decide +kernel
theorem dX10_nameSign_35 : decode cX10_nameSign 35 = .ok (.ireturn, 1) := by decide +kernel
theorem dX10_rewind_0 : decode cX10_rewind 0 = .ok (.aload_n 0, 1) := by decide +kernel
theorem dX10_rewind_1 : decode cX10_rewind 1 = .ok (.iconst 0, 1) := by decide +kernel
theorem dX10_rewind_2 : decode cX10_rewind 2 = .ok (.putfield 47, 3) := by decide +kernel
theorem dX10_rewind_5 : decode cX10_rewind 5 = .ok (.return_, 1) := by decide +kernel
theorem dX10_kind_0 : decode cX10_kind 0 = .ok (.aload_n 0, 1) := by decide +kernel
theorem dX10_kind_1 : decode cX10_kind 1 = .ok (.getfield 47, 3) := by decide +kernel
theorem dX10_kind_4 : decode cX10_kind 4 = .ok (.sipush 2501, 3) := by decide +kernel
theorem dX10_kind_7 : decode cX10_kind 7 = .ok (.if_icmp .ge 15, 3) := by decide +kernel
theorem dX10_kind_10 : decode cX10_kind 10 = .ok (.aload_n 0, 1) := by decide +kernel
theorem dX10_kind_11 : decode cX10_kind 11 = .ok (.getfield 11, 3) := by decide +kernel
theorem dX10_kind_14 : decode cX10_kind 14 = .ok (.aload_n 0, 1) := by decide +kernel
theorem dX10_kind_15 : decode cX10_kind 15 = .ok (.getfield 47, 3) := by decide +kernel
theorem dX10_kind_18 : decode cX10_kind 18 = .ok (.iaload, 1) := by decide +kernel
theorem dX10_kind_19 : decode cX10_kind 19 = .ok (.goto 4, 3) := by decide +kernel
theorem dX10_kind_22 : decode cX10_kind 22 = .ok (.iconst 1, 1) := by decide +kernel
theorem dX10_kind_23 : decode cX10_kind 23 = .ok (.ireturn, 1) := by decide +kernel
theorem dX10_value_0 : decode cX10_value 0 = .ok (.aload_n 0, 1) := by decide +kernel
theorem dX10_value_1 : decode cX10_value 1 = .ok (.getfield 47, 3) := by decide +kernel
theorem dX10_value_4 : decode cX10_value 4 = .ok (.sipush 2501, 3) := by decide +kernel
theorem dX10_value_7 : decode cX10_value 7 = .ok (.if_icmp .ge 15, 3) := by decide +kernel
theorem dX10_value_10 : decode cX10_value 10 = .ok (.aload_n 0, 1) := by decide +kernel
theorem dX10_value_11 : decode cX10_value 11 = .ok (.getfield 18, 3) := by decide +kernel
theorem dX10_value_14 : decode cX10_value 14 = .ok (.aload_n 0, 1) := by decide +kernel
theorem dX10_value_15 : decode cX10_value 15 = .ok (.getfield 47, 3) := by decide +kernel
theorem dX10_value_18 : decode cX10_value 18 = .ok (.iaload, 1) := by decide +kernel
theorem dX10_value_19 : decode cX10_value 19 = .ok (.goto 4, 3) := by decide +kernel
theorem dX10_value_22 : decode cX10_value 22 = .ok (.iconst 0, 1) := by decide +kernel
theorem dX10_value_23 : decode cX10_value 23 = .ok (.ireturn, 1) := by decide +kernel
theorem dX10_key_0 : decode cX10_key 0 = .ok (.aload_n 0, 1) := by decide +kernel
theorem dX10_key_1 : decode cX10_key 1 = .ok (.getfield 47, 3) := by decide +kernel
theorem dX10_key_4 : decode cX10_key 4 = .ok (.sipush 2501, 3) := by decide +kernel
theorem dX10_key_7 : decode cX10_key 7 = .ok (.if_icmp .ge 15, 3) := by decide +kernel
theorem dX10_key_10 : decode cX10_key 10 = .ok (.aload_n 0, 1) := by decide +kernel
theorem dX10_key_11 : decode cX10_key 11 = .ok (.getfield 21, 3) := by decide +kernel
theorem dX10_key_14 : decode cX10_key 14 = .ok (.aload_n 0, 1) := by decide +kernel
theorem dX10_key_15 : decode cX10_key 15 = .ok (.getfield 47, 3) := by decide +kernel
theorem dX10_key_18 : decode cX10_key 18 = .ok (.laload, 1) := by decide +kernel
theorem dX10_key_19 : decode cX10_key 19 = .ok (.goto 4, 3) := by decide +kernel
theorem dX10_key_22 : decode cX10_key 22 = .ok (.lconst 0, 1) := by decide +kernel
theorem dX10_key_23 : decode cX10_key 23 = .ok (.lreturn, 1) := by decide +kernel
theorem dX10_place_0 : decode cX10_place 0 = .ok (.aload_n 0, 1) := by decide +kernel
theorem dX10_place_1 : decode cX10_place 1 = .ok (.getfield 47, 3) := by decide +kernel
theorem dX10_place_4 : decode cX10_place 4 = .ok (.sipush 2501, 3) := by decide +kernel
theorem dX10_place_7 : decode cX10_place 7 = .ok (.if_icmp .ge 15, 3) := by decide +kernel
theorem dX10_place_10 : decode cX10_place 10 = .ok (.aload_n 0, 1) := by decide +kernel
theorem dX10_place_11 : decode cX10_place 11 = .ok (.getfield 15, 3) := by decide +kernel
theorem dX10_place_14 : decode cX10_place 14 = .ok (.aload_n 0, 1) := by decide +kernel
theorem dX10_place_15 : decode cX10_place 15 = .ok (.getfield 47, 3) := by decide +kernel
theorem dX10_place_18 : decode cX10_place 18 = .ok (.iaload, 1) := by decide +kernel
theorem dX10_place_19 : decode cX10_place 19 = .ok (.goto 4, 3) := by decide +kernel
theorem dX10_place_22 : decode cX10_place 22 = .ok (.iconst 0, 1) := by decide +kernel
theorem dX10_place_23 : decode cX10_place 23 = .ok (.ireturn, 1) := by decide +kernel
theorem dX10_isBase_0 : decode cX10_isBase 0 = .ok (.aload_n 0, 1) := by decide +kernel
theorem dX10_isBase_1 : decode cX10_isBase 1 = .ok (.getfield 47, 3) := by decide +kernel
theorem dX10_isBase_4 : decode cX10_isBase 4 = .ok (.sipush 2501, 3) := by decide +kernel
theorem dX10_isBase_7 : decode cX10_isBase 7 = .ok (.if_icmp .ge 20, 3) := by decide +kernel
theorem dX10_isBase_10 : decode cX10_isBase 10 = .ok (.aload_n 0, 1) := by decide +kernel
theorem dX10_isBase_11 : decode cX10_isBase 11 = .ok (.getfield 11, 3) := by decide +kernel
theorem dX10_isBase_14 : decode cX10_isBase 14 = .ok (.aload_n 0, 1) := by decide +kernel
theorem dX10_isBase_15 : decode cX10_isBase 15 = .ok (.getfield 47, 3) := by decide +kernel
theorem dX10_isBase_18 : decode cX10_isBase 18 = .ok (.iaload, 1) := by decide +kernel
theorem dX10_isBase_19 : decode cX10_isBase 19 = .ok (.iconst 4, 1) := by decide +kernel
theorem dX10_isBase_20 : decode cX10_isBase 20 = .ok (.if_icmp .ne 7, 3) := by decide +kernel
theorem dX10_isBase_23 : decode cX10_isBase 23 = .ok (.iconst 1, 1) := by decide +kernel
theorem dX10_isBase_24 : decode cX10_isBase 24 = .ok (.goto 4, 3) := by decide +kernel
theorem dX10_isBase_27 : decode cX10_isBase 27 = .ok (.iconst 0, 1) := by decide +kernel
theorem dX10_isBase_28 : decode cX10_isBase 28 = .ok (.istore_n 1, 1) := by decide +kernel
theorem dX10_isBase_29 : decode cX10_isBase 29 = .ok (.iload_n 1, 1) := by decide +kernel
theorem dX10_isBase_30 : decode cX10_isBase 30 = .ok (.ifCond .eq 45, 3) := by decide +kernel
theorem dX10_isBase_33 : decode cX10_isBase 33 = .ok (.aload_n 0, 1) := by decide +kernel
theorem dX10_isBase_34 : decode cX10_isBase 34 = .ok (.getfield 18, 3) := by decide +kernel
theorem dX10_isBase_37 : decode cX10_isBase 37 = .ok (.aload_n 0, 1) := by decide +kernel
theorem dX10_isBase_38 : decode cX10_isBase 38 = .ok (.getfield 47, 3) := by decide +kernel
theorem dX10_isBase_41 : decode cX10_isBase 41 = .ok (.iaload, 1) := by decide +kernel
theorem dX10_isBase_42 : decode cX10_isBase 42 = .ok (.ifCond .eq 33, 3) := by decide +kernel
theorem dX10_isBase_45 : decode cX10_isBase 45 = .ok (.aload_n 0, 1) := by decide +kernel
theorem dX10_isBase_46 : decode cX10_isBase 46 = .ok (.getfield 18, 3) := by decide +kernel
theorem dX10_isBase_49 : decode cX10_isBase 49 = .ok (.aload_n 0, 1) := by decide +kernel
theorem dX10_isBase_50 : decode cX10_isBase 50 = .ok (.getfield 47, 3) := by decide +kernel
theorem dX10_isBase_53 : decode cX10_isBase 53 = .ok (.iaload, 1) := by decide +kernel
theorem dX10_isBase_54 : decode cX10_isBase 54 = .ok (.iconst 2, 1) := by decide +kernel
theorem dX10_isBase_55 : decode cX10_isBase 55 = .ok (.if_icmp .eq 20, 3) := by decide +kernel
theorem dX10_isBase_58 : decode cX10_isBase 58 = .ok (.aload_n 0, 1) := by decide +kernel
theorem dX10_isBase_59 : decode cX10_isBase 59 = .ok (.getfield 18, 3) := by decide +kernel
theorem dX10_isBase_62 : decode cX10_isBase 62 = .ok (.aload_n 0, 1) := by decide +kernel
theorem dX10_isBase_63 : decode cX10_isBase 63 = .ok (.getfield 47, 3) := by decide +kernel
theorem dX10_isBase_66 : decode cX10_isBase 66 = .ok (.iaload, 1) := by decide +kernel
theorem dX10_isBase_67 : decode cX10_isBase 67 = .ok (.iconst 3, 1) := by decide +kernel
theorem dX10_isBase_68 : decode cX10_isBase 68 = .ok (.if_icmp .eq 7, 3) := by decide +kernel
theorem dX10_isBase_71 : decode cX10_isBase 71 = .ok (.iconst 1, 1) := by decide +kernel
theorem dX10_isBase_72 : decode cX10_isBase 72 = .ok (.goto 4, 3) := by decide +kernel
theorem dX10_isBase_75 : decode cX10_isBase 75 = .ok (.iconst 0, 1) := by decide +kernel
theorem dX10_isBase_76 : decode cX10_isBase 76 = .ok (.ireturn, 1) := by decide +kernel
theorem dX10_isLast_0 : decode cX10_isLast 0 = .ok (.aload_n 0, 1) := by decide +kernel
theorem dX10_isLast_1 : decode cX10_isLast 1 = .ok (.getfield 47, 3) := by decide +kernel
theorem dX10_isLast_4 : decode cX10_isLast 4 = .ok (.aload_n 0, 1) := by decide +kernel
theorem dX10_isLast_5 : decode cX10_isLast 5 = .ok (.getfield 53, 3) := by decide +kernel
theorem dX10_isLast_8 : decode cX10_isLast 8 = .ok (.iconst 1, 1) := by decide +kernel
theorem dX10_isLast_9 : decode cX10_isLast 9 = .ok (.isub, 1) := by decide +kernel
theorem dX10_isLast_10 : decode cX10_isLast 10 = .ok (.if_icmp .lt 7, 3) := by decide +kernel
theorem dX10_isLast_13 : decode cX10_isLast 13 = .ok (.iconst 1, 1) := by decide +kernel
theorem dX10_isLast_14 : decode cX10_isLast 14 = .ok (.goto 4, 3) := by decide +kernel
theorem dX10_isLast_17 : decode cX10_isLast 17 = .ok (.iconst 0, 1) := by decide +kernel
theorem dX10_isLast_18 : decode cX10_isLast 18 = .ok (.ireturn, 1) := by decide +kernel
theorem dX10_skip_0 : decode cX10_skip 0 = .ok (.aload_n 0, 1) := by decide +kernel
theorem dX10_skip_1 : decode cX10_skip 1 = .ok (.getfield 47, 3) := by decide +kernel
theorem dX10_skip_4 : decode cX10_skip 4 = .ok (.aload_n 0, 1) := by decide +kernel
theorem dX10_skip_5 : decode cX10_skip 5 = .ok (.getfield 53, 3) := by decide +kernel
theorem dX10_skip_8 : decode cX10_skip 8 = .ok (.iconst 1, 1) := by decide +kernel
theorem dX10_skip_9 : decode cX10_skip 9 = .ok (.isub, 1) := by decide +kernel
theorem dX10_skip_10 : decode cX10_skip 10 = .ok (.if_icmp .ge 13, 3) := by decide +kernel
theorem dX10_skip_13 : decode cX10_skip 13 = .ok (.aload_n 0, 1) := by decide +kernel
theorem dX10_skip_14 : decode cX10_skip 14 = .ok (.dup, 1) := by decide +kernel
theorem dX10_skip_15 : decode cX10_skip 15 = .ok (.getfield 47, 3) := by decide +kernel
theorem dX10_skip_18 : decode cX10_skip 18 = .ok (.iconst 1, 1) := by decide +kernel
theorem dX10_skip_19 : decode cX10_skip 19 = .ok (.iadd, 1) := by decide +kernel
theorem dX10_skip_20 : decode cX10_skip 20 = .ok (.putfield 47, 3) := by decide +kernel
theorem dX10_skip_23 : decode cX10_skip 23 = .ok (.return_, 1) := by decide +kernel
theorem dX10_scan_0 : decode cX10_scan 0 = .ok (.aload_n 0, 1) := by decide +kernel
theorem dX10_scan_1 : decode cX10_scan 1 = .ok (.iload_n 1, 1) := by decide +kernel
theorem dX10_scan_2 : decode cX10_scan 2 = .ok (.aload_n 0, 1) := by decide +kernel
theorem dX10_scan_3 : decode cX10_scan 3 = .ok (.getfield 28, 3) := by decide +kernel
theorem dX10_scan_6 : decode cX10_scan 6 = .ok (.arraylength, 1) := by decide +kernel
theorem dX10_scan_7 : decode cX10_scan 7 = .ok (.if_icmp .gt 7, 3) := by decide +kernel
theorem dX10_scan_10 : decode cX10_scan 10 = .ok (.iload_n 1, 1) := by decide +kernel
theorem dX10_scan_11 : decode cX10_scan 11 = .ok (.goto 8, 3) := by decide +kernel
theorem dX10_scan_14 : decode cX10_scan 14 = .ok (.aload_n 0, 1) := by decide +kernel
theorem dX10_scan_15 : decode cX10_scan 15 = .ok (.getfield 28, 3) := by decide +kernel
theorem dX10_scan_18 : decode cX10_scan 18 = .ok (.arraylength, 1) := by decide +kernel
theorem dX10_scan_19 : decode cX10_scan 19 = .ok (.putfield 56, 3) := by decide +kernel
theorem dX10_scan_22 : decode cX10_scan 22 = .ok (.aload_n 0, 1) := by decide +kernel
theorem dX10_scan_23 : decode cX10_scan 23 = .ok (.iconst 0, 1) := by decide +kernel
theorem dX10_scan_24 : decode cX10_scan 24 = .ok (.putfield 47, 3) := by decide +kernel
theorem dX10_scan_27 : decode cX10_scan 27 = .ok (.iconst 0, 1) := by decide +kernel
theorem dX10_scan_28 : decode cX10_scan 28 = .ok (.istore_n 2, 1) := by decide +kernel
theorem dX10_scan_29 : decode cX10_scan 29 = .ok (.iconst 1, 1) := by decide +kernel
theorem dX10_scan_30 : decode cX10_scan 30 = .ok (.istore_n 3, 1) := by decide +kernel
theorem dX10_scan_31 : decode cX10_scan 31 = .ok (.aload_n 0, 1) := by decide +kernel
theorem dX10_scan_32 : decode cX10_scan 32 = .ok (.iconst 0, 1) := by decide +kernel
theorem dX10_scan_33 : decode cX10_scan 33 = .ok (.putfield 53, 3) := by decide +kernel
theorem dX10_scan_36 : decode cX10_scan 36 = .ok (.iconst 0, 1) := by decide +kernel
theorem dX10_scan_37 : decode cX10_scan 37 = .ok (.istore 4, 2) := by decide +kernel
theorem dX10_scan_39 : decode cX10_scan 39 = .ok (.iload_n 3, 1) := by decide +kernel
theorem dX10_scan_40 : decode cX10_scan 40 = .ok (.ifCond .eq 115, 3) := by decide +kernel
theorem dX10_scan_43 : decode cX10_scan 43 = .ok (.iload 4, 2) := by decide +kernel
theorem dX10_scan_45 : decode cX10_scan 45 = .ok (.sipush 2501, 3) := by decide +kernel
theorem dX10_scan_48 : decode cX10_scan 48 = .ok (.if_icmp .ge 107, 3) := by decide +kernel
theorem dX10_scan_51 : decode cX10_scan 51 = .ok (.aload_n 0, 1) := by decide +kernel
theorem dX10_scan_52 : decode cX10_scan 52 = .ok (.iload_n 2, 1) := by decide +kernel
theorem dX10_scan_53 : decode cX10_scan 53 = .ok (.invokevirtual 58, 3) := by decide +kernel
theorem dX10_scan_56 : decode cX10_scan 56 = .ok (.istore 5, 2) := by decide +kernel
theorem dX10_scan_58 : decode cX10_scan 58 = .ok (.aload_n 0, 1) := by decide +kernel
theorem dX10_scan_59 : decode cX10_scan 59 = .ok (.iload 5, 2) := by decide +kernel
theorem dX10_scan_61 : decode cX10_scan 61 = .ok (.iload 5, 2) := by decide +kernel
theorem dX10_scan_63 : decode cX10_scan 63 = .ok (.iload_n 2, 1) := by decide +kernel
theorem dX10_scan_64 : decode cX10_scan 64 = .ok (.if_icmp .ne 7, 3) := by decide +kernel
theorem dX10_scan_67 : decode cX10_scan 67 = .ok (.iconst 1, 1) := by decide +kernel
theorem dX10_scan_68 : decode cX10_scan 68 = .ok (.goto 4, 3) := by decide +kernel
theorem dX10_scan_71 : decode cX10_scan 71 = .ok (.iconst 0, 1) := by decide +kernel
theorem dX10_scan_72 : decode cX10_scan 72 = .ok (.invokevirtual 62, 3) := by decide +kernel
theorem dX10_scan_75 : decode cX10_scan 75 = .ok (.istore_n 2, 1) := by decide +kernel
theorem dX10_scan_76 : decode cX10_scan 76 = .ok (.aload_n 0, 1) := by decide +kernel
theorem dX10_scan_77 : decode cX10_scan 77 = .ok (.getfield 11, 3) := by decide +kernel
