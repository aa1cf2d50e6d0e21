theorem dX10_scan_80 : decode cX10_scan 80 = .ok (.iload 4, 2) := by decide +kernel
theorem dX10_scan_82 : decode cX10_scan 82 = .ok (.aload_n 0, 1) := by decide +kernel
theorem dX10_scan_83 : decode cX10_scan 83 = .ok (.getfield 66, 3) := by decide +kernel
theorem dX10_scan_86 : decode cX10_scan 86 = .ok (.iastore, 1) := by decide +kernel
theorem dX10_scan_87 : decode cX10_scan 87 = .ok (.aload_n 0, 1) := by decide +kernel
theorem dX10_scan_88 : decode cX10_scan 88 = .ok (.getfield 15, 3) := by decide +kernel
theorem dX10_scan_91 : decode cX10_scan 91 = .ok (.iload 4, 2) := by decide +kernel
theorem dX10_scan_93 : decode cX10_scan 93 = .ok (.iload 5, 2) := by decide +kernel
theorem dX10_scan_95 : decode cX10_scan 95 = .ok (.iastore, 1) := by decide +kernel
theorem dX10_scan_96 : decode cX10_scan 96 = .ok (.aload_n 0, 1) := by decide +kernel
theorem dX10_scan_97 : decode cX10_scan 97 = .ok (.getfield 18, 3) := by decide +kernel
theorem dX10_scan_100 : decode cX10_scan 100 = .ok (.iload 4, 2) := by decide +kernel
theorem dX10_scan_102 : decode cX10_scan 102 = .ok (.aload_n 0, 1) := by decide +kernel
theorem dX10_scan_103 : decode cX10_scan 103 = .ok (.getfield 69, 3) := by decide +kernel
theorem dX10_scan_106 : decode cX10_scan 106 = .ok (.iastore, 1) := by decide +kernel
theorem dX10_scan_107 : decode cX10_scan 107 = .ok (.aload_n 0, 1) := by decide +kernel
theorem dX10_scan_108 : decode cX10_scan 108 = .ok (.getfield 21, 3) := by decide +kernel
theorem dX10_scan_111 : decode cX10_scan 111 = .ok (.iload 4, 2) := by decide +kernel
theorem dX10_scan_113 : decode cX10_scan 113 = .ok (.aload_n 0, 1) := by decide +kernel
theorem dX10_scan_114 : decode cX10_scan 114 = .ok (.getfield 72, 3) := by decide +kernel
theorem dX10_scan_117 : decode cX10_scan 117 = .ok (.lastore, 1) := by decide +kernel
theorem dX10_scan_118 : decode cX10_scan 118 = .ok (.aload_n 0, 1) := by decide +kernel
theorem dX10_scan_119 : decode cX10_scan 119 = .ok (.getfield 66, 3) := by decide +kernel
theorem dX10_scan_122 : decode cX10_scan 122 = .ok (.iconst 1, 1) := by decide +kernel
theorem dX10_scan_123 : decode cX10_scan 123 = .ok (.if_icmp .eq 16, 3) := by decide +kernel
theorem dX10_scan_126 : decode cX10_scan 126 = .ok (.iload 5, 2) := by decide +kernel
theorem dX10_scan_128 : decode cX10_scan 128 = .ok (.aload_n 0, 1) := by decide +kernel
theorem dX10_scan_129 : decode cX10_scan 129 = .ok (.getfield 56, 3) := by decide +kernel
theorem dX10_scan_132 : decode cX10_scan 132 = .ok (.if_icmp .ge 7, 3) := by decide +kernel
theorem dX10_scan_135 : decode cX10_scan 135 = .ok (.iconst 1, 1) := by decide +kernel
theorem dX10_scan_136 : decode cX10_scan 136 = .ok (.goto 4, 3) := by decide +kernel
theorem dX10_scan_139 : decode cX10_scan 139 = .ok (.iconst 0, 1) := by decide +kernel
theorem dX10_scan_140 : decode cX10_scan 140 = .ok (.istore_n 3, 1) := by decide +kernel
theorem dX10_scan_141 : decode cX10_scan 141 = .ok (.aload_n 0, 1) := by decide +kernel
theorem dX10_scan_142 : decode cX10_scan 142 = .ok (.iload 4, 2) := by decide +kernel
theorem dX10_scan_144 : decode cX10_scan 144 = .ok (.iconst 1, 1) := by decide +kernel
theorem dX10_scan_145 : decode cX10_scan 145 = .ok (.iadd, 1) := by decide +kernel
theorem dX10_scan_146 : decode cX10_scan 146 = .ok (.putfield 53, 3) := by decide +kernel
theorem dX10_scan_149 : decode cX10_scan 149 = .ok (.iinc 4 1, 3) := by decide +kernel
theorem dX10_scan_152 : decode cX10_scan 152 = .ok (.goto (-113), 3) := by decide +kernel
theorem dX10_scan_155 : decode cX10_scan 155 = .ok (.return_, 1) := by decide +kernel
theorem dX10_sign_0 : decode cX10_sign 0 = .ok (.iload_n 1, 1) := by decide +kernel
theorem dX10_sign_1 : decode cX10_sign 1 = .ok (.ifCond .lt 20, 3) := by decide +kernel
theorem dX10_sign_4 : decode cX10_sign 4 = .ok (.iload_n 1, 1) := by decide +kernel
theorem dX10_sign_5 : decode cX10_sign 5 = .ok (.aload_n 0, 1) := by decide +kernel
theorem dX10_sign_6 : decode cX10_sign 6 = .ok (.getfield 56, 3) := by decide +kernel
theorem dX10_sign_9 : decode cX10_sign 9 = .ok (.if_icmp .ge 12, 3) := by decide +kernel
theorem dX10_sign_12 : decode cX10_sign 12 = .ok (.aload_n 0, 1) := by decide +kernel
theorem dX10_sign_13 : decode cX10_sign 13 = .ok (.getfield 28, 3) := by decide +kernel
theorem dX10_sign_16 : decode cX10_sign 16 = .ok (.iload_n 1, 1) := by decide +kernel
theorem dX10_sign_17 : decode cX10_sign 17 = .ok (.iaload, 1) := by decide +kernel
theorem dX10_sign_18 : decode cX10_sign 18 = .ok (.goto 4, 3) := by decide +kernel
theorem dX10_sign_21 : decode cX10_sign 21 = .ok (.iconst (-1), 1) := by decide +kernel
theorem dX10_sign_22 : decode cX10_sign 22 = .ok (.ireturn, 1) := by decide +kernel
theorem dX10_passBlanks_0 : decode cX10_passBlanks 0 = .ok (.iload_n 1, 1) := by decide +kernel
theorem dX10_passBlanks_1 : decode cX10_passBlanks 1 = .ok (.istore_n 2, 1) := by decide +kernel
theorem dX10_passBlanks_2 : decode cX10_passBlanks 2 = .ok (.iload_n 2, 1) := by decide +kernel
theorem dX10_passBlanks_3 : decode cX10_passBlanks 3 = .ok (.aload_n 0, 1) := by decide +kernel
theorem dX10_passBlanks_4 : decode cX10_passBlanks 4 = .ok (.getfield 56, 3) := by decide +kernel
theorem dX10_passBlanks_7 : decode cX10_passBlanks 7 = .ok (.if_icmp .ge 19, 3) := by decide +kernel
theorem dX10_passBlanks_10 : decode cX10_passBlanks 10 = .ok (.aload_n 0, 1) := by decide +kernel
theorem dX10_passBlanks_11 : decode cX10_passBlanks 11 = .ok (.iload_n 2, 1) := by decide +kernel
theorem dX10_passBlanks_12 : decode cX10_passBlanks 12 = .ok (.invokevirtual 76, 3) := by decide +kernel
theorem dX10_passBlanks_15 : decode cX10_passBlanks 15 = .ok (.bipush 32, 2) := by decide +kernel
theorem dX10_passBlanks_17 : decode cX10_passBlanks 17 = .ok (.if_icmp .ne 9, 3) := by decide +kernel
theorem dX10_passBlanks_20 : decode cX10_passBlanks 20 = .ok (.iinc 2 1, 3) := by decide +kernel
theorem dX10_passBlanks_23 : decode cX10_passBlanks 23 = .ok (.goto (-21), 3) := by decide +kernel
theorem dX10_passBlanks_26 : decode cX10_passBlanks 26 = .ok (.aload_n 0, 1) := by decide +kernel
theorem dX10_passBlanks_27 : decode cX10_passBlanks 27 = .ok (.iload_n 2, 1) := by decide +kernel
theorem dX10_passBlanks_28 : decode cX10_passBlanks 28 = .ok (.invokevirtual 76, 3) := by decide +kernel
theorem dX10_passBlanks_31 : decode cX10_passBlanks 31 = .ok (.bipush 59, 2) := by decide +kernel
theorem dX10_passBlanks_33 : decode cX10_passBlanks 33 = .ok (.if_icmp .ne 27, 3) := by decide +kernel
theorem dX10_passBlanks_36 : decode cX10_passBlanks 36 = .ok (.iload_n 2, 1) := by decide +kernel
theorem dX10_passBlanks_37 : decode cX10_passBlanks 37 = .ok (.aload_n 0, 1) := by decide +kernel
theorem dX10_passBlanks_38 : decode cX10_passBlanks 38 = .ok (.getfield 56, 3) := by decide +kernel
theorem dX10_passBlanks_41 : decode cX10_passBlanks 41 = .ok (.if_icmp .ge 19, 3) := by decide +kernel
theorem dX10_passBlanks_44 : decode cX10_passBlanks 44 = .ok (.aload_n 0, 1) := by decide +kernel
theorem dX10_passBlanks_45 : decode cX10_passBlanks 45 = .ok (.iload_n 2, 1) := by decide +kernel
theorem dX10_passBlanks_46 : decode cX10_passBlanks 46 = .ok (.invokevirtual 76, 3) := by decide +kernel
theorem dX10_passBlanks_49 : decode cX10_passBlanks 49 = .ok (.bipush 10, 2) := by decide +kernel
theorem dX10_passBlanks_51 : decode cX10_passBlanks 51 = .ok (.if_icmp .eq 9, 3) := by decide +kernel
theorem dX10_passBlanks_54 : decode cX10_passBlanks 54 = .ok (.iinc 2 1, 3) := by decide +kernel
theorem dX10_passBlanks_57 : decode cX10_passBlanks 57 = .ok (.goto (-21), 3) := by decide +kernel
theorem dX10_passBlanks_60 : decode cX10_passBlanks 60 = .ok (.iload_n 2, 1) := by decide +kernel
theorem dX10_passBlanks_61 : decode cX10_passBlanks 61 = .ok (.ireturn, 1) := by decide +kernel
theorem dX10_scanOne_0 : decode cX10_scanOne 0 = .ok (.aload_n 0, 1) := by decide +kernel
theorem dX10_scanOne_1 : decode cX10_scanOne 1 = .ok (.iload_n 1, 1) := by decide +kernel
theorem dX10_scanOne_2 : decode cX10_scanOne 2 = .ok (.invokevirtual 76, 3) := by decide +kernel
theorem dX10_scanOne_5 : decode cX10_scanOne 5 = .ok (.istore_n 3, 1) := by decide +kernel
theorem dX10_scanOne_6 : decode cX10_scanOne 6 = .ok (.aload_n 0, 1) := by decide +kernel
theorem dX10_scanOne_7 : decode cX10_scanOne 7 = .ok (.iconst 0, 1) := by decide +kernel
theorem dX10_scanOne_8 : decode cX10_scanOne 8 = .ok (.putfield 69, 3) := by decide +kernel
theorem dX10_scanOne_11 : decode cX10_scanOne 11 = .ok (.aload_n 0, 1) := by decide +kernel
theorem dX10_scanOne_12 : decode cX10_scanOne 12 = .ok (.lconst 0, 1) := by decide +kernel
theorem dX10_scanOne_13 : decode cX10_scanOne 13 = .ok (.putfield 72, 3) := by decide +kernel
theorem dX10_scanOne_16 : decode cX10_scanOne 16 = .ok (.iload_n 3, 1) := by decide +kernel
theorem dX10_scanOne_17 : decode cX10_scanOne 17 = .ok (.iconst (-1), 1) := by decide +kernel
theorem dX10_scanOne_18 : decode cX10_scanOne 18 = .ok (.if_icmp .eq 9, 3) := by decide +kernel
theorem dX10_scanOne_21 : decode cX10_scanOne 21 = .ok (.iload_n 3, 1) := by decide +kernel
theorem dX10_scanOne_22 : decode cX10_scanOne 22 = .ok (.bipush 10, 2) := by decide +kernel
theorem dX10_scanOne_24 : decode cX10_scanOne 24 = .ok (.if_icmp .ne 11, 3) := by decide +kernel
theorem dX10_scanOne_27 : decode cX10_scanOne 27 = .ok (.aload_n 0, 1) := by decide +kernel
theorem dX10_scanOne_28 : decode cX10_scanOne 28 = .ok (.iconst 0, 1) := by decide +kernel
theorem dX10_scanOne_29 : decode cX10_scanOne 29 = .ok (.putfield 66, 3) := by decide +kernel
theorem dX10_scanOne_32 : decode cX10_scanOne 32 = .ok (.goto 90, 3) := by decide +kernel
theorem dX10_scanOne_35 : decode cX10_scanOne 35 = .ok (.iload_n 3, 1) := by decide +kernel
theorem dX10_scanOne_36 : decode cX10_scanOne 36 = .ok (.bipush 97, 2) := by decide +kernel
theorem dX10_scanOne_38 : decode cX10_scanOne 38 = .ok (.if_icmp .lt 15, 3) := by decide +kernel
theorem dX10_scanOne_41 : decode cX10_scanOne 41 = .ok (.iload_n 3, 1) := by decide +kernel
theorem dX10_scanOne_42 : decode cX10_scanOne 42 = .ok (.bipush 122, 2) := by decide +kernel
theorem dX10_scanOne_44 : decode cX10_scanOne 44 = .ok (.if_icmp .gt 9, 3) := by decide +kernel
theorem dX10_scanOne_47 : decode cX10_scanOne 47 = .ok (.aload_n 0, 1) := by decide +kernel
theorem dX10_scanOne_48 : decode cX10_scanOne 48 = .ok (.iload_n 1, 1) := by decide +kernel
theorem dX10_scanOne_49 : decode cX10_scanOne 49 = .ok (.invokevirtual 79, 3) := by decide +kernel
theorem dX10_scanOne_52 : decode cX10_scanOne 52 = .ok (.ireturn, 1) := by decide +kernel
theorem dX10_scanOne_53 : decode cX10_scanOne 53 = .ok (.iload_n 3, 1) := by decide +kernel
theorem dX10_scanOne_54 : decode cX10_scanOne 54 = .ok (.bipush 48, 2) := by decide +kernel
theorem dX10_scanOne_56 : decode cX10_scanOne 56 = .ok (.if_icmp .lt 15, 3) := by decide +kernel
theorem dX10_scanOne_59 : decode cX10_scanOne 59 = .ok (.iload_n 3, 1) := by decide +kernel
theorem dX10_scanOne_60 : decode cX10_scanOne 60 = .ok (.bipush 57, 2) := by decide +kernel
theorem dX10_scanOne_62 : decode cX10_scanOne 62 = .ok (.if_icmp .gt 9, 3) := by decide +kernel
theorem dX10_scanOne_65 : decode cX10_scanOne 65 = .ok (.aload_n 0, 1) := by decide +kernel
theorem dX10_scanOne_66 : decode cX10_scanOne 66 = .ok (.iload_n 1, 1) := by decide +kernel
theorem dX10_scanOne_67 : decode cX10_scanOne 67 = .ok (.invokevirtual 82, 3) := by decide +kernel
theorem dX10_scanOne_70 : decode cX10_scanOne 70 = .ok (.ireturn, 1) := by decide +kernel
theorem dX10_scanOne_71 : decode cX10_scanOne 71 = .ok (.iload_n 3, 1) := by decide +kernel
theorem dX10_scanOne_72 : decode cX10_scanOne 72 = .ok (.bipush 46, 2) := by decide +kernel
theorem dX10_scanOne_74 : decode cX10_scanOne 74 = .ok (.if_icmp .ne 29, 3) := by decide +kernel
theorem dX10_scanOne_77 : decode cX10_scanOne 77 = .ok (.iload_n 2, 1) := by decide +kernel
theorem dX10_scanOne_78 : decode cX10_scanOne 78 = .ok (.ifCond .eq 25, 3) := by decide +kernel
theorem dX10_scanOne_81 : decode cX10_scanOne 81 = .ok (.aload_n 0, 1) := by decide +kernel
theorem dX10_scanOne_82 : decode cX10_scanOne 82 = .ok (.iload_n 1, 1) := by decide +kernel
theorem dX10_scanOne_83 : decode cX10_scanOne 83 = .ok (.iconst 1, 1) := by decide +kernel
theorem dX10_scanOne_84 : decode cX10_scanOne 84 = .ok (.iadd, 1) := by decide +kernel
theorem dX10_scanOne_85 : decode cX10_scanOne 85 = .ok (.invokevirtual 76, 3) := by decide +kernel
theorem dX10_scanOne_88 : decode cX10_scanOne 88 = .ok (.bipush 98, 2) := by decide +kernel
theorem dX10_scanOne_90 : decode cX10_scanOne 90 = .ok (.if_icmp .ne 13, 3) := by decide +kernel
theorem dX10_scanOne_93 : decode cX10_scanOne 93 = .ok (.aload_n 0, 1) := by decide +kernel
theorem dX10_scanOne_94 : decode cX10_scanOne 94 = .ok (.bipush 6, 2) := by decide +kernel
theorem dX10_scanOne_96 : decode cX10_scanOne 96 = .ok (.putfield 66, 3) := by decide +kernel
theorem dX10_scanOne_99 : decode cX10_scanOne 99 = .ok (.iload_n 1, 1) := by decide +kernel
theorem dX10_scanOne_100 : decode cX10_scanOne 100 = .ok (.iconst 2, 1) := by decide +kernel
theorem dX10_scanOne_101 : decode cX10_scanOne 101 = .ok (.iadd, 1) := by decide +kernel
theorem dX10_scanOne_102 : decode cX10_scanOne 102 = .ok (.ireturn, 1) := by decide +kernel
theorem dX10_scanOne_103 : decode cX10_scanOne 103 = .ok (.aload_n 0, 1) := by decide +kernel
theorem dX10_scanOne_104 : decode cX10_scanOne 104 = .ok (.ldc 85, 2) := by decide +kernel
theorem dX10_scanOne_106 : decode cX10_scanOne 106 = .ok (.iload_n 3, 1) := by decide +kernel
theorem dX10_scanOne_107 : decode cX10_scanOne 107 = .ok (.i2c, 1) := by decide +kernel
theorem dX10_scanOne_108 : decode cX10_scanOne 108 = .ok (.invokevirtual 87, 3) := by decide +kernel
theorem dX10_scanOne_111 : decode cX10_scanOne 111 = .ok (.ifCond .lt 7, 3) := by decide +kernel
theorem dX10_scanOne_114 : decode cX10_scanOne 114 = .ok (.iload_n 3, 1) := by decide +kernel
theorem dX10_scanOne_115 : decode cX10_scanOne 115 = .ok (.goto 4, 3) := by decide +kernel
theorem dX10_scanOne_118 : decode cX10_scanOne 118 = .ok (.iconst 1, 1) := by decide +kernel
theorem dX10_scanOne_119 : decode cX10_scanOne 119 = .ok (.putfield 66, 3) := by decide +kernel
theorem dX10_scanOne_122 : decode cX10_scanOne 122 = .ok (.iload_n 1, 1) := by decide +kernel
theorem dX10_scanOne_123 : decode cX10_scanOne 123 = .ok (.iconst 1, 1) := by decide +kernel
theorem dX10_scanOne_124 : decode cX10_scanOne 124 = .ok (.iadd, 1) := by decide +kernel
theorem dX10_scanOne_125 : decode cX10_scanOne 125 = .ok (.ireturn, 1) := by decide +kernel
theorem dX10_scanWord_0 : decode cX10_scanWord 0 = .ok (.iload_n 1, 1) := by decide +kernel
theorem dX10_scanWord_1 : decode cX10_scanWord 1 = .ok (.istore_n 2, 1) := by decide +kernel
theorem dX10_scanWord_2 : decode cX10_scanWord 2 = .ok (.iload_n 2, 1) := by decide +kernel
theorem dX10_scanWord_3 : decode cX10_scanWord 3 = .ok (.aload_n 0, 1) := by decide +kernel
theorem dX10_scanWord_4 : decode cX10_scanWord 4 = .ok (.getfield 56, 3) := by decide +kernel
theorem dX10_scanWord_7 : decode cX10_scanWord 7 = .ok (.if_icmp .ge 38, 3) := by decide +kernel
theorem dX10_scanWord_10 : decode cX10_scanWord 10 = .ok (.aload_n 0, 1) := by decide +kernel
theorem dX10_scanWord_11 : decode cX10_scanWord 11 = .ok (.iload_n 2, 1) := by decide +kernel
theorem dX10_scanWord_12 : decode cX10_scanWord 12 = .ok (.invokevirtual 76, 3) := by decide +kernel
theorem dX10_scanWord_15 : decode cX10_scanWord 15 = .ok (.invokestatic 90, 3) := by decide +kernel
theorem dX10_scanWord_18 : decode cX10_scanWord 18 = .ok (.ifCond .eq 27, 3) := by decide +kernel
theorem dX10_scanWord_21 : decode cX10_scanWord 21 = .ok (.aload_n 0, 1) := by decide +kernel
theorem dX10_scanWord_22 : decode cX10_scanWord 22 = .ok (.aload_n 0, 1) := by decide +kernel
theorem dX10_scanWord_23 : decode cX10_scanWord 23 = .ok (.getfield 72, 3) := by decide +kernel
theorem dX10_scanWord_26 : decode cX10_scanWord 26 = .ok (.bipush 8, 2) := by decide +kernel
theorem dX10_scanWord_28 : decode cX10_scanWord 28 = .ok (.lshl, 1) := by decide +kernel
theorem dX10_scanWord_29 : decode cX10_scanWord 29 = .ok (.aload_n 0, 1) := by decide +kernel
theorem dX10_scanWord_30 : decode cX10_scanWord 30 = .ok (.iload_n 2, 1) := by decide +kernel
theorem dX10_scanWord_31 : decode cX10_scanWord 31 = .ok (.invokevirtual 76, 3) := by decide +kernel
theorem dX10_scanWord_34 : decode cX10_scanWord 34 = .ok (.i2l, 1) := by decide +kernel
theorem dX10_scanWord_35 : decode cX10_scanWord 35 = .ok (.lor, 1) := by decide +kernel
theorem dX10_scanWord_36 : decode cX10_scanWord 36 = .ok (.putfield 72, 3) := by decide +kernel
theorem dX10_scanWord_39 : decode cX10_scanWord 39 = .ok (.iinc 2 1, 3) := by decide +kernel
theorem dX10_scanWord_42 : decode cX10_scanWord 42 = .ok (.goto (-40), 3) := by decide +kernel
theorem dX10_scanWord_45 : decode cX10_scanWord 45 = .ok (.iload_n 2, 1) := by decide +kernel
theorem dX10_scanWord_46 : decode cX10_scanWord 46 = .ok (.iload_n 1, 1) := by decide +kernel
theorem dX10_scanWord_47 : decode cX10_scanWord 47 = .ok (.isub, 1) := by decide +kernel
theorem dX10_scanWord_48 : decode cX10_scanWord 48 = .ok (.bipush 8, 2) := by decide +kernel
theorem dX10_scanWord_50 : decode cX10_scanWord 50 = .ok (.if_icmp .le 10, 3) := by decide +kernel
theorem dX10_scanWord_53 : decode cX10_scanWord 53 = .ok (.aload_n 0, 1) := by decide +kernel
theorem dX10_scanWord_54 : decode cX10_scanWord 54 = .ok (.iconst 1, 1) := by decide +kernel
theorem dX10_scanWord_55 : decode cX10_scanWord 55 = .ok (.putfield 66, 3) := by decide +kernel
theorem dX10_scanWord_58 : decode cX10_scanWord 58 = .ok (.iload_n 2, 1) := by decide +kernel
theorem dX10_scanWord_59 : decode cX10_scanWord 59 = .ok (.ireturn, 1) := by decide +kernel
theorem dX10_scanWord_60 : decode cX10_scanWord 60 = .ok (.aload_n 0, 1) := by decide +kernel
theorem dX10_scanWord_61 : decode cX10_scanWord 61 = .ok (.iload_n 1, 1) := by decide +kernel
theorem dX10_scanWord_62 : decode cX10_scanWord 62 = .ok (.iload_n 2, 1) := by decide +kernel
theorem dX10_scanWord_63 : decode cX10_scanWord 63 = .ok (.iload_n 1, 1) := by decide +kernel
theorem dX10_scanWord_64 : decode cX10_scanWord 64 = .ok (.isub, 1) := by decide +kernel
theorem dX10_scanWord_65 : decode cX10_scanWord 65 = .ok (.invokevirtual 94, 3) := by decide +kernel
theorem dX10_scanWord_68 : decode cX10_scanWord 68 = .ok (.istore_n 3, 1) := by decide +kernel
theorem dX10_scanWord_69 : decode cX10_scanWord 69 = .ok (.aload_n 0, 1) := by decide +kernel
theorem dX10_scanWord_70 : decode cX10_scanWord 70 = .ok (.aload_n 0, 1) := by decide +kernel
theorem dX10_scanWord_71 : decode cX10_scanWord 71 = .ok (.getfield 72, 3) := by decide +kernel
theorem dX10_scanWord_74 : decode cX10_scanWord 74 = .ok (.invokevirtual 98, 3) := by decide +kernel
theorem dX10_scanWord_77 : decode cX10_scanWord 77 = .ok (.istore 4, 2) := by decide +kernel
theorem dX10_scanWord_79 : decode cX10_scanWord 79 = .ok (.iload_n 3, 1) := by decide +kernel
theorem dX10_scanWord_80 : decode cX10_scanWord 80 = .ok (.iconst (-1), 1) := by decide +kernel
theorem dX10_scanWord_81 : decode cX10_scanWord 81 = .ok (.if_icmp .eq 16, 3) := by decide +kernel
theorem dX10_scanWord_84 : decode cX10_scanWord 84 = .ok (.aload_n 0, 1) := by decide +kernel
theorem dX10_scanWord_85 : decode cX10_scanWord 85 = .ok (.iconst 4, 1) := by decide +kernel
theorem dX10_scanWord_86 : decode cX10_scanWord 86 = .ok (.putfield 66, 3) := by decide +kernel
theorem dX10_scanWord_89 : decode cX10_scanWord 89 = .ok (.aload_n 0, 1) := by decide +kernel
theorem dX10_scanWord_90 : decode cX10_scanWord 90 = .ok (.iload_n 3, 1) := by decide +kernel
theorem dX10_scanWord_91 : decode cX10_scanWord 91 = .ok (.putfield 69, 3) := by decide +kernel
theorem dX10_scanWord_94 : decode cX10_scanWord 94 = .ok (.goto 28, 3) := by decide +kernel
theorem dX10_scanWord_97 : decode cX10_scanWord 97 = .ok (.iload 4, 2) := by decide +kernel
theorem dX10_scanWord_99 : decode cX10_scanWord 99 = .ok (.iconst (-1), 1) := by decide +kernel
theorem dX10_scanWord_100 : decode cX10_scanWord 100 = .ok (.if_icmp .eq 17, 3) := by decide +kernel
theorem dX10_scanWord_103 : decode cX10_scanWord 103 = .ok (.aload_n 0, 1) := by decide +kernel
theorem dX10_scanWord_104 : decode cX10_scanWord 104 = .ok (.iconst 3, 1) := by decide +kernel
theorem dX10_scanWord_105 : decode cX10_scanWord 105 = .ok (.putfield 66, 3) := by decide +kernel
theorem dX10_scanWord_108 : decode cX10_scanWord 108 = .ok (.aload_n 0, 1) := by decide +kernel
theorem dX10_scanWord_109 : decode cX10_scanWord 109 = .ok (.iload 4, 2) := by decide +kernel
theorem dX10_scanWord_111 : decode cX10_scanWord 111 = .ok (.putfield 69, 3) := by decide +kernel
theorem dX10_scanWord_114 : decode cX10_scanWord 114 = .ok (.goto 8, 3) := by decide +kernel
theorem dX10_scanWord_117 : decode cX10_scanWord 117 = .ok (.aload_n 0, 1) := by decide +kernel
theorem dX10_scanWord_118 : decode cX10_scanWord 118 = .ok (.iconst 2, 1) := by decide +kernel
theorem dX10_scanWord_119 : decode cX10_scanWord 119 = .ok (.putfield 66, 3) := by decide +kernel
theorem dX10_scanWord_122 : decode cX10_scanWord 122 = .ok (.iload_n 2, 1) := by decide +kernel
theorem dX10_scanWord_123 : decode cX10_scanWord 123 = .ok (.ireturn, 1) := by decide +kernel
theorem dX10_isWordSign_0 : decode cX10_isWordSign 0 = .ok (.iload_n 0, 1) := by decide +kernel
theorem dX10_isWordSign_1 : decode cX10_isWordSign 1 = .ok (.bipush 97, 2) := by decide +kernel
theorem dX10_isWordSign_3 : decode cX10_isWordSign 3 = .ok (.if_icmp .lt 9, 3) := by decide +kernel
theorem dX10_isWordSign_6 : decode cX10_isWordSign 6 = .ok (.iload_n 0, 1) := by decide +kernel
theorem dX10_isWordSign_7 : decode cX10_isWordSign 7 = .ok (.bipush 122, 2) := by decide +kernel
theorem dX10_isWordSign_9 : decode cX10_isWordSign 9 = .ok (.if_icmp .le 27, 3) := by decide +kernel
theorem dX10_isWordSign_12 : decode cX10_isWordSign 12 = .ok (.iload_n 0, 1) := by decide +kernel
theorem dX10_isWordSign_13 : decode cX10_isWordSign 13 = .ok (.bipush 65, 2) := by decide +kernel
theorem dX10_isWordSign_15 : decode cX10_isWordSign 15 = .ok (.if_icmp .lt 9, 3) := by decide +kernel
theorem dX10_isWordSign_18 : decode cX10_isWordSign 18 = .ok (.iload_n 0, 1) := by decide +kernel
theorem dX10_isWordSign_19 : decode cX10_isWordSign 19 = .ok (.bipush 90, 2) := by decide +kernel
theorem dX10_isWordSign_21 : decode cX10_isWordSign 21 = .ok (.if_icmp .le 15, 3) := by decide +kernel
theorem dX10_isWordSign_24 : decode cX10_isWordSign 24 = .ok (.iload_n 0, 1) := by decide +kernel
theorem dX10_isWordSign_25 : decode cX10_isWordSign 25 = .ok (.bipush 48, 2) := by decide +kernel
theorem dX10_isWordSign_27 : decode cX10_isWordSign 27 = .ok (.if_icmp .lt 13, 3) := by decide +kernel
theorem dX10_isWordSign_30 : decode cX10_isWordSign 30 = .ok (.iload_n 0, 1) := by decide +kernel
theorem dX10_isWordSign_31 : decode cX10_isWordSign 31 = .ok (.bipush 57, 2) := by decide +kernel
theorem dX10_isWordSign_33 : decode cX10_isWordSign 33 = .ok (.if_icmp .gt 7, 3) := by decide +kernel
theorem dX10_isWordSign_36 : decode cX10_isWordSign 36 = .ok (.iconst 1, 1) := by decide +kernel
theorem dX10_isWordSign_37 : decode cX10_isWordSign 37 = .ok (.goto 4, 3) := by decide +kernel
theorem dX10_isWordSign_40 : decode cX10_isWordSign 40 = .ok (.iconst 0, 1) := by decide +kernel
theorem dX10_isWordSign_41 : decode cX10_isWordSign 41 = .ok (.ireturn, 1) := by decide +kernel
theorem dX10_registerOf_0 : decode cX10_registerOf 0 = .ok (.aload_n 0, 1) := by decide +kernel
theorem dX10_registerOf_1 : decode cX10_registerOf 1 = .ok (.iload_n 1, 1) := by decide +kernel
theorem dX10_registerOf_2 : decode cX10_registerOf 2 = .ok (.invokevirtual 76, 3) := by decide +kernel
theorem dX10_registerOf_5 : decode cX10_registerOf 5 = .ok (.istore_n 3, 1) := by decide +kernel
theorem dX10_registerOf_6 : decode cX10_registerOf 6 = .ok (.aload_n 0, 1) := by decide +kernel
theorem dX10_registerOf_7 : decode cX10_registerOf 7 = .ok (.iload_n 1, 1) := by decide +kernel
theorem dX10_registerOf_8 : decode cX10_registerOf 8 = .ok (.iconst 1, 1) := by decide +kernel
theorem dX10_registerOf_9 : decode cX10_registerOf 9 = .ok (.iadd, 1) := by decide +kernel
theorem dX10_registerOf_10 : decode cX10_registerOf 10 = .ok (.invokevirtual 76, 3) := by decide +kernel
theorem dX10_registerOf_13 : decode cX10_registerOf 13 = .ok (.istore 4, 2) := by decide +kernel
theorem dX10_registerOf_15 : decode cX10_registerOf 15 = .ok (.iload_n 2, 1) := by decide +kernel
theorem dX10_registerOf_16 : decode cX10_registerOf 16 = .ok (.iconst 2, 1) := by decide +kernel
theorem dX10_registerOf_17 : decode cX10_registerOf 17 = .ok (.if_icmp .ne 78, 3) := by decide +kernel
theorem dX10_registerOf_20 : decode cX10_registerOf 20 = .ok (.iload_n 3, 1) := by decide +kernel
theorem dX10_registerOf_21 : decode cX10_registerOf 21 = .ok (.bipush 114, 2) := by decide +kernel
theorem dX10_registerOf_23 : decode cX10_registerOf 23 = .ok (.if_icmp .ne 23, 3) := by decide +kernel
theorem dX10_registerOf_26 : decode cX10_registerOf 26 = .ok (.iload 4, 2) := by decide +kernel
theorem dX10_registerOf_28 : decode cX10_registerOf 28 = .ok (.bipush 48, 2) := by decide +kernel
theorem dX10_registerOf_30 : decode cX10_registerOf 30 = .ok (.if_icmp .lt 16, 3) := by decide +kernel
theorem dX10_registerOf_33 : decode cX10_registerOf 33 = .ok (.iload 4, 2) := by decide +kernel
theorem dX10_registerOf_35 : decode cX10_registerOf 35 = .ok (.bipush 57, 2) := by decide +kernel
theorem dX10_registerOf_37 : decode cX10_registerOf 37 = .ok (.if_icmp .gt 9, 3) := by decide +kernel
theorem dX10_registerOf_40 : decode cX10_registerOf 40 = .ok (.iload 4, 2) := by decide +kernel
theorem dX10_registerOf_42 : decode cX10_registerOf 42 = .ok (.bipush 48, 2) := by decide +kernel
theorem dX10_registerOf_44 : decode cX10_registerOf 44 = .ok (.isub, 1) := by decide +kernel
theorem dX10_registerOf_45 : decode cX10_registerOf 45 = .ok (.ireturn, 1) := by decide +kernel
theorem dX10_registerOf_46 : decode cX10_registerOf 46 = .ok (.iload_n 3, 1) := by decide +kernel
theorem dX10_registerOf_47 : decode cX10_registerOf 47 = .ok (.bipush 112, 2) := by decide +kernel
theorem dX10_registerOf_49 : decode cX10_registerOf 49 = .ok (.if_icmp .ne 12, 3) := by decide +kernel
theorem dX10_registerOf_52 : decode cX10_registerOf 52 = .ok (.iload 4, 2) := by decide +kernel
theorem dX10_registerOf_54 : decode cX10_registerOf 54 = .ok (.bipush 99, 2) := by decide +kernel
theorem dX10_registerOf_56 : decode cX10_registerOf 56 = .ok (.if_icmp .ne 5, 3) := by decide +kernel
theorem dX10_registerOf_59 : decode cX10_registerOf 59 = .ok (.iconst 0, 1) := by decide +kernel
theorem dX10_registerOf_60 : decode cX10_registerOf 60 = .ok (.ireturn, 1) := by decide +kernel
theorem dX10_registerOf_61 : decode cX10_registerOf 61 = .ok (.iload_n 3, 1) := by decide +kernel
theorem dX10_registerOf_62 : decode cX10_registerOf 62 = .ok (.bipush 115, 2) := by decide +kernel
theorem dX10_registerOf_64 : decode cX10_registerOf 64 = .ok (.if_icmp .ne 12, 3) := by decide +kernel
theorem dX10_registerOf_67 : decode cX10_registerOf 67 = .ok (.iload 4, 2) := by decide +kernel
theorem dX10_registerOf_69 : decode cX10_registerOf 69 = .ok (.bipush 112, 2) := by decide +kernel
theorem dX10_registerOf_71 : decode cX10_registerOf 71 = .ok (.if_icmp .ne 5, 3) := by decide +kernel
theorem dX10_registerOf_74 : decode cX10_registerOf 74 = .ok (.iconst 1, 1) := by decide +kernel
theorem dX10_registerOf_75 : decode cX10_registerOf 75 = .ok (.ireturn, 1) := by decide +kernel
theorem dX10_registerOf_76 : decode cX10_registerOf 76 = .ok (.iload_n 3, 1) := by decide +kernel
theorem dX10_registerOf_77 : decode cX10_registerOf 77 = .ok (.bipush 115, 2) := by decide +kernel
theorem dX10_registerOf_79 : decode cX10_registerOf 79 = .ok (.if_icmp .ne 14, 3) := by decide +kernel
theorem dX10_registerOf_82 : decode cX10_registerOf 82 = .ok (.iload 4, 2) := by decide +kernel
theorem dX10_registerOf_84 : decode cX10_registerOf 84 = .ok (.bipush 114, 2) := by decide +kernel
theorem dX10_registerOf_86 : decode cX10_registerOf 86 = .ok (.if_icmp .ne 7, 3) := by decide +kernel
theorem dX10_registerOf_89 : decode cX10_registerOf 89 = .ok (.iconst 2, 1) := by decide +kernel
theorem dX10_registerOf_90 : decode cX10_registerOf 90 = .ok (.goto 4, 3) := by decide +kernel
theorem dX10_registerOf_93 : decode cX10_registerOf 93 = .ok (.iconst (-1), 1) := by decide +kernel
theorem dX10_registerOf_94 : decode cX10_registerOf 94 = .ok (.ireturn, 1) := by decide +kernel
theorem dX10_registerOf_95 : decode cX10_registerOf 95 = .ok (.aload_n 0, 1) := by decide +kernel
theorem dX10_registerOf_96 : decode cX10_registerOf 96 = .ok (.iload_n 1, 1) := by decide +kernel
theorem dX10_registerOf_97 : decode cX10_registerOf 97 = .ok (.iconst 2, 1) := by decide +kernel
theorem dX10_registerOf_98 : decode cX10_registerOf 98 = .ok (.iadd, 1) := by decide +kernel
theorem dX10_registerOf_99 : decode cX10_registerOf 99 = .ok (.invokevirtual 76, 3) := by decide +kernel
theorem dX10_registerOf_102 : decode cX10_registerOf 102 = .ok (.istore 5, 2) := by decide +kernel
theorem dX10_registerOf_104 : decode cX10_registerOf 104 = .ok (.iload_n 2, 1) := by decide +kernel
theorem dX10_registerOf_105 : decode cX10_registerOf 105 = .ok (.iconst 3, 1) := by decide +kernel
theorem dX10_registerOf_106 : decode cX10_registerOf 106 = .ok (.if_icmp .ne 34, 3) := by decide +kernel
theorem dX10_registerOf_109 : decode cX10_registerOf 109 = .ok (.iload_n 3, 1) := by decide +kernel
theorem dX10_registerOf_110 : decode cX10_registerOf 110 = .ok (.bipush 114, 2) := by decide +kernel
theorem dX10_registerOf_112 : decode cX10_registerOf 112 = .ok (.if_icmp .ne 28, 3) := by decide +kernel
theorem dX10_registerOf_115 : decode cX10_registerOf 115 = .ok (.iload 4, 2) := by decide +kernel
theorem dX10_registerOf_117 : decode cX10_registerOf 117 = .ok (.bipush 49, 2) := by decide +kernel
theorem dX10_registerOf_119 : decode cX10_registerOf 119 = .ok (.if_icmp .ne 21, 3) := by decide +kernel
theorem dX10_registerOf_122 : decode cX10_registerOf 122 = .ok (.iload 5, 2) := by decide +kernel
theorem dX10_registerOf_124 : decode cX10_registerOf 124 = .ok (.bipush 48, 2) := by decide +kernel
theorem dX10_registerOf_126 : decode cX10_registerOf 126 = .ok (.if_icmp .lt 14, 3) := by decide +kernel
theorem dX10_registerOf_129 : decode cX10_registerOf 129 = .ok (.iload 5, 2) := by decide +kernel
theorem dX10_registerOf_131 : decode cX10_registerOf 131 = .ok (.bipush 53, 2) := by decide +kernel
theorem dX10_registerOf_133 : decode cX10_registerOf 133 = .ok (.if_icmp .gt 7, 3) := by decide +kernel
theorem dX10_registerOf_136 : decode cX10_registerOf 136 = .ok (.iconst 1, 1) := by decide +kernel
theorem dX10_registerOf_137 : decode cX10_registerOf 137 = .ok (.goto 4, 3) := by decide +kernel
theorem dX10_registerOf_140 : decode cX10_registerOf 140 = .ok (.iconst 0, 1) := by decide +kernel
theorem dX10_registerOf_141 : decode cX10_registerOf 141 = .ok (.istore 6, 2) := by decide +kernel
theorem dX10_registerOf_143 : decode cX10_registerOf 143 = .ok (.iload 6, 2) := by decide +kernel
theorem dX10_registerOf_145 : decode cX10_registerOf 145 = .ok (.ifCond .eq 14, 3) := by decide +kernel
theorem dX10_registerOf_148 : decode cX10_registerOf 148 = .ok (.bipush 10, 2) := by decide +kernel
theorem dX10_registerOf_150 : decode cX10_registerOf 150 = .ok (.iload 5, 2) := by decide +kernel
theorem dX10_registerOf_152 : decode cX10_registerOf 152 = .ok (.iadd, 1) := by decide +kernel
theorem dX10_registerOf_153 : decode cX10_registerOf 153 = .ok (.bipush 48, 2) := by decide +kernel
theorem dX10_registerOf_155 : decode cX10_registerOf 155 = .ok (.isub, 1) := by decide +kernel
theorem dX10_registerOf_156 : decode cX10_registerOf 156 = .ok (.goto 4, 3) := by decide +kernel
theorem dX10_registerOf_159 : decode cX10_registerOf 159 = .ok (.iconst (-1), 1) := by decide +kernel
theorem dX10_registerOf_160 : decode cX10_registerOf 160 = .ok (.ireturn, 1) := by decide +kernel
theorem dX10_nameKey_0 : decode cX10_nameKey 0 = .ok (.lconst 0, 1) := by decide +kernel
theorem dX10_nameKey_1 : decode cX10_nameKey 1 = .ok (.lstore_n 1, 1) := by decide +kernel
theorem dX10_nameKey_2 : decode cX10_nameKey 2 = .ok (.iconst 0, 1) := by decide +kernel
theorem dX10_nameKey_3 : decode cX10_nameKey 3 = .ok (.istore_n 3, 1) := by decide +kernel
theorem dX10_nameKey_4 : decode cX10_nameKey 4 = .ok (.iload_n 3, 1) := by decide +kernel
theorem dX10_nameKey_5 : decode cX10_nameKey 5 = .ok (.iconst 4, 1) := by decide +kernel
theorem dX10_nameKey_6 : decode cX10_nameKey 6 = .ok (.if_icmp .ge 31, 3) := by decide +kernel
theorem dX10_nameKey_9 : decode cX10_nameKey 9 = .ok (.iload_n 0, 1) := by decide +kernel
theorem dX10_nameKey_10 : decode cX10_nameKey 10 = .ok (.iload_n 3, 1) := by decide +kernel
theorem dX10_nameKey_11 : decode cX10_nameKey 11 = .ok (.invokestatic 102, 3) := by decide +kernel
theorem dX10_nameKey_14 : decode cX10_nameKey 14 = .ok (.bipush 32, 2) := by decide +kernel
theorem dX10_nameKey_16 : decode cX10_nameKey 16 = .ok (.if_icmp .eq 21, 3) := by decide +kernel
theorem dX10_nameKey_19 : decode cX10_nameKey 19 = .ok (.lload_n 1, 1) := by decide +kernel
theorem dX10_nameKey_20 : decode cX10_nameKey 20 = .ok (.bipush 8, 2) := by decide +kernel
theorem dX10_nameKey_22 : decode cX10_nameKey 22 = .ok (.lshl, 1) := by decide +kernel
theorem dX10_nameKey_23 : decode cX10_nameKey 23 = .ok (.iload_n 0, 1) := by decide +kernel
theorem dX10_nameKey_24 : decode cX10_nameKey 24 = .ok (.iload_n 3, 1) := by decide +kernel
theorem dX10_nameKey_25 : decode cX10_nameKey 25 = .ok (.invokestatic 102, 3) := by decide +kernel
theorem dX10_nameKey_28 : decode cX10_nameKey 28 = .ok (.i2l, 1) := by decide +kernel
theorem dX10_nameKey_29 : decode cX10_nameKey 29 = .ok (.lor, 1) := by decide +kernel
theorem dX10_nameKey_30 : decode cX10_nameKey 30 = .ok (.lstore_n 1, 1) := by decide +kernel
theorem dX10_nameKey_31 : decode cX10_nameKey 31 = .ok (.iinc 3 1, 3) := by decide +kernel
theorem dX10_nameKey_34 : decode cX10_nameKey 34 = .ok (.goto (-30), 3) := by decide +kernel
theorem dX10_nameKey_37 : decode cX10_nameKey 37 = .ok (.lload_n 1, 1) := by decide +kernel
theorem dX10_nameKey_38 : decode cX10_nameKey 38 = .ok (.lreturn, 1) := by decide +kernel
theorem dX10_nameOf_0 : decode cX10_nameOf 0 = .ok (.iconst 0, 1) := by decide +kernel
theorem dX10_nameOf_1 : decode cX10_nameOf 1 = .ok (.istore_n 3, 1) := by decide +kernel
theorem dX10_nameOf_2 : decode cX10_nameOf 2 = .ok (.iload_n 3, 1) := by decide +kernel
theorem dX10_nameOf_3 : decode cX10_nameOf 3 = .ok (.bipush 35, 2) := by decide +kernel
theorem dX10_nameOf_5 : decode cX10_nameOf 5 = .ok (.if_icmp .ge 22, 3) := by decide +kernel
theorem dX10_nameOf_8 : decode cX10_nameOf 8 = .ok (.aload_n 0, 1) := by decide +kernel
theorem dX10_nameOf_9 : decode cX10_nameOf 9 = .ok (.getfield 25, 3) := by decide +kernel
theorem dX10_nameOf_12 : decode cX10_nameOf 12 = .ok (.iload_n 3, 1) := by decide +kernel
theorem dX10_nameOf_13 : decode cX10_nameOf 13 = .ok (.laload, 1) := by decide +kernel
theorem dX10_nameOf_14 : decode cX10_nameOf 14 = .ok (.lload_n 1, 1) := by decide +kernel
theorem dX10_nameOf_15 : decode cX10_nameOf 15 = .ok (.lcmp, 1) := by decide +kernel
theorem dX10_nameOf_16 : decode cX10_nameOf 16 = .ok (.ifCond .ne 5, 3) := by decide +kernel
theorem dX10_nameOf_19 : decode cX10_nameOf 19 = .ok (.iload_n 3, 1) := by decide +kernel
theorem dX10_nameOf_20 : decode cX10_nameOf 20 = .ok (.ireturn, 1) := by decide +kernel
theorem dX10_nameOf_21 : decode cX10_nameOf 21 = .ok (.iinc 3 1, 3) := by decide +kernel
theorem dX10_nameOf_24 : decode cX10_nameOf 24 = .ok (.goto (-22), 3) := by decide +kernel
theorem dX10_nameOf_27 : decode cX10_nameOf 27 = .ok (.iconst (-1), 1) := by decide +kernel
theorem dX10_nameOf_28 : decode cX10_nameOf 28 = .ok (.ireturn, 1) := by decide +kernel
theorem dX10_scanNumber_0 : decode cX10_scanNumber 0 = .ok (.aload_n 0, 1) := by decide +kernel
theorem dX10_scanNumber_1 : decode cX10_scanNumber 1 = .ok (.iload_n 1, 1) := by decide +kernel
theorem dX10_scanNumber_2 : decode cX10_scanNumber 2 = .ok (.invokevirtual 76, 3) := by decide +kernel
theorem dX10_scanNumber_5 : decode cX10_scanNumber 5 = .ok (.bipush 48, 2) := by decide +kernel
theorem dX10_scanNumber_7 : decode cX10_scanNumber 7 = .ok (.if_icmp .ne 19, 3) := by decide +kernel
theorem dX10_scanNumber_10 : decode cX10_scanNumber 10 = .ok (.aload_n 0, 1) := by decide +kernel
theorem dX10_scanNumber_11 : decode cX10_scanNumber 11 = .ok (.iload_n 1, 1) := by decide +kernel
theorem dX10_scanNumber_12 : decode cX10_scanNumber 12 = .ok (.iconst 1, 1) := by decide +kernel
theorem dX10_scanNumber_13 : decode cX10_scanNumber 13 = .ok (.iadd, 1) := by decide +kernel
theorem dX10_scanNumber_14 : decode cX10_scanNumber 14 = .ok (.invokevirtual 76, 3) := by decide +kernel
theorem dX10_scanNumber_17 : decode cX10_scanNumber 17 = .ok (.bipush 120, 2) := by decide +kernel
theorem dX10_scanNumber_19 : decode cX10_scanNumber 19 = .ok (.if_icmp .ne 7, 3) := by decide +kernel
theorem dX10_scanNumber_22 : decode cX10_scanNumber 22 = .ok (.iconst 1, 1) := by decide +kernel
theorem dX10_scanNumber_23 : decode cX10_scanNumber 23 = .ok (.goto 4, 3) := by decide +kernel
theorem dX10_scanNumber_26 : decode cX10_scanNumber 26 = .ok (.iconst 0, 1) := by decide +kernel
theorem dX10_scanNumber_27 : decode cX10_scanNumber 27 = .ok (.istore_n 2, 1) := by decide +kernel
theorem dX10_scanNumber_28 : decode cX10_scanNumber 28 = .ok (.iload_n 2, 1) := by decide +kernel
theorem dX10_scanNumber_29 : decode cX10_scanNumber 29 = .ok (.ifCond .eq 8, 3) := by decide +kernel
theorem dX10_scanNumber_32 : decode cX10_scanNumber 32 = .ok (.bipush 16, 2) := by decide +kernel
theorem dX10_scanNumber_34 : decode cX10_scanNumber 34 = .ok (.goto 5, 3) := by decide +kernel
theorem dX10_scanNumber_37 : decode cX10_scanNumber 37 = .ok (.bipush 10, 2) := by decide +kernel
theorem dX10_scanNumber_39 : decode cX10_scanNumber 39 = .ok (.istore_n 3, 1) := by decide +kernel
theorem dX10_scanNumber_40 : decode cX10_scanNumber 40 = .ok (.iload_n 2, 1) := by decide +kernel
theorem dX10_scanNumber_41 : decode cX10_scanNumber 41 = .ok (.ifCond .eq 7, 3) := by decide +kernel
theorem dX10_scanNumber_44 : decode cX10_scanNumber 44 = .ok (.iconst 4, 1) := by decide +kernel
theorem dX10_scanNumber_45 : decode cX10_scanNumber 45 = .ok (.goto 4, 3) := by decide +kernel
theorem dX10_scanNumber_48 : decode cX10_scanNumber 48 = .ok (.iconst 5, 1) := by decide +kernel
theorem dX10_scanNumber_49 : decode cX10_scanNumber 49 = .ok (.istore 4, 2) := by decide +kernel
theorem dX10_scanNumber_51 : decode cX10_scanNumber 51 = .ok (.iload_n 2, 1) := by decide +kernel
theorem dX10_scanNumber_52 : decode cX10_scanNumber 52 = .ok (.ifCond .eq 9, 3) := by decide +kernel
theorem dX10_scanNumber_55 : decode cX10_scanNumber 55 = .ok (.iload_n 1, 1) := by decide +kernel
theorem dX10_scanNumber_56 : decode cX10_scanNumber 56 = .ok (.iconst 2, 1) := by decide +kernel
theorem dX10_scanNumber_57 : decode cX10_scanNumber 57 = .ok (.iadd, 1) := by decide +kernel
theorem dX10_scanNumber_58 : decode cX10_scanNumber 58 = .ok (.goto 4, 3) := by decide +kernel
theorem dX10_scanNumber_61 : decode cX10_scanNumber 61 = .ok (.iload_n 1, 1) := by decide +kernel
theorem dX10_scanNumber_62 : decode cX10_scanNumber 62 = .ok (.istore 5, 2) := by decide +kernel
theorem dX10_scanNumber_64 : decode cX10_scanNumber 64 = .ok (.iload 5, 2) := by decide +kernel
theorem dX10_scanNumber_66 : decode cX10_scanNumber 66 = .ok (.istore 6, 2) := by decide +kernel
theorem dX10_scanNumber_68 : decode cX10_scanNumber 68 = .ok (.iload 6, 2) := by decide +kernel
theorem dX10_scanNumber_70 : decode cX10_scanNumber 70 = .ok (.aload_n 0, 1) := by decide +kernel
theorem dX10_scanNumber_71 : decode cX10_scanNumber 71 = .ok (.getfield 56, 3) := by decide +kernel
theorem dX10_scanNumber_74 : decode cX10_scanNumber 74 = .ok (.if_icmp .ge 54, 3) := by decide +kernel
theorem dX10_scanNumber_77 : decode cX10_scanNumber 77 = .ok (.aload_n 0, 1) := by decide +kernel
theorem dX10_scanNumber_78 : decode cX10_scanNumber 78 = .ok (.iload 6, 2) := by decide +kernel
theorem dX10_scanNumber_80 : decode cX10_scanNumber 80 = .ok (.invokevirtual 76, 3) := by decide +kernel
theorem dX10_scanNumber_83 : decode cX10_scanNumber 83 = .ok (.iload_n 3, 1) := by decide +kernel
theorem dX10_scanNumber_84 : decode cX10_scanNumber 84 = .ok (.invokestatic 105, 3) := by decide +kernel
theorem dX10_scanNumber_87 : decode cX10_scanNumber 87 = .ok (.iconst (-1), 1) := by decide +kernel
theorem dX10_scanNumber_88 : decode cX10_scanNumber 88 = .ok (.if_icmp .eq 40, 3) := by decide +kernel
theorem dX10_scanNumber_91 : decode cX10_scanNumber 91 = .ok (.iload 6, 2) := by decide +kernel
theorem dX10_scanNumber_93 : decode cX10_scanNumber 93 = .ok (.iload 5, 2) := by decide +kernel
theorem dX10_scanNumber_95 : decode cX10_scanNumber 95 = .ok (.isub, 1) := by decide +kernel
theorem dX10_scanNumber_96 : decode cX10_scanNumber 96 = .ok (.iload 4, 2) := by decide +kernel
theorem dX10_scanNumber_98 : decode cX10_scanNumber 98 = .ok (.if_icmp .ge 24, 3) := by decide +kernel
theorem dX10_scanNumber_101 : decode cX10_scanNumber 101 = .ok (.aload_n 0, 1) := by decide +kernel
theorem dX10_scanNumber_102 : decode cX10_scanNumber 102 = .ok (.aload_n 0, 1) := by decide +kernel
theorem dX10_scanNumber_103 : decode cX10_scanNumber 103 = .ok (.getfield 69, 3) := by decide +kernel
theorem dX10_scanNumber_106 : decode cX10_scanNumber 106 = .ok (.iload_n 3, 1) := by decide +kernel
theorem dX10_scanNumber_107 : decode cX10_scanNumber 107 = .ok (.imul, 1) := by decide +kernel
theorem dX10_scanNumber_108 : decode cX10_scanNumber 108 = .ok (.aload_n 0, 1) := by decide +kernel
theorem dX10_scanNumber_109 : decode cX10_scanNumber 109 = .ok (.iload 6, 2) := by decide +kernel
theorem dX10_scanNumber_111 : decode cX10_scanNumber 111 = .ok (.invokevirtual 76, 3) := by decide +kernel
theorem dX10_scanNumber_114 : decode cX10_scanNumber 114 = .ok (.iload_n 3, 1) := by decide +kernel
theorem dX10_scanNumber_115 : decode cX10_scanNumber 115 = .ok (.invokestatic 105, 3) := by decide +kernel
theorem dX10_scanNumber_118 : decode cX10_scanNumber 118 = .ok (.iadd, 1) := by decide +kernel
theorem dX10_scanNumber_119 : decode cX10_scanNumber 119 = .ok (.putfield 69, 3) := by decide +kernel
theorem dX10_scanNumber_122 : decode cX10_scanNumber 122 = .ok (.iinc 6 1, 3) := by decide +kernel
theorem dX10_scanNumber_125 : decode cX10_scanNumber 125 = .ok (.goto (-57), 3) := by decide +kernel
theorem dX10_scanNumber_128 : decode cX10_scanNumber 128 = .ok (.aload_n 0, 1) := by decide +kernel
theorem dX10_scanNumber_129 : decode cX10_scanNumber 129 = .ok (.iload 6, 2) := by decide +kernel
theorem dX10_scanNumber_131 : decode cX10_scanNumber 131 = .ok (.iload 5, 2) := by decide +kernel
theorem dX10_scanNumber_133 : decode cX10_scanNumber 133 = .ok (.if_icmp .eq 13, 3) := by decide +kernel
theorem dX10_scanNumber_136 : decode cX10_scanNumber 136 = .ok (.iload 6, 2) := by decide +kernel
theorem dX10_scanNumber_138 : decode cX10_scanNumber 138 = .ok (.iload 5, 2) := by decide +kernel
theorem dX10_scanNumber_140 : decode cX10_scanNumber 140 = .ok (.isub, 1) := by decide +kernel
theorem dX10_scanNumber_141 : decode cX10_scanNumber 141 = .ok (.iload 4, 2) := by decide +kernel
theorem dX10_scanNumber_143 : decode cX10_scanNumber 143 = .ok (.if_icmp .le 7, 3) := by decide +kernel
theorem dX10_scanNumber_146 : decode cX10_scanNumber 146 = .ok (.iconst 1, 1) := by decide +kernel
theorem dX10_scanNumber_147 : decode cX10_scanNumber 147 = .ok (.goto 4, 3) := by decide +kernel
theorem dX10_scanNumber_150 : decode cX10_scanNumber 150 = .ok (.iconst 5, 1) := by decide +kernel
theorem dX10_scanNumber_151 : decode cX10_scanNumber 151 = .ok (.putfield 66, 3) := by decide +kernel
theorem dX10_scanNumber_154 : decode cX10_scanNumber 154 = .ok (.iload 6, 2) := by decide +kernel
theorem dX10_scanNumber_156 : decode cX10_scanNumber 156 = .ok (.ireturn, 1) := by decide +kernel
theorem dX10_digit_0 : decode cX10_digit 0 = .ok (.iload_n 0, 1) := by decide +kernel
theorem dX10_digit_1 : decode cX10_digit 1 = .ok (.bipush 48, 2) := by decide +kernel
theorem dX10_digit_3 : decode cX10_digit 3 = .ok (.if_icmp .lt 14, 3) := by decide +kernel
theorem dX10_digit_6 : decode cX10_digit 6 = .ok (.iload_n 0, 1) := by decide +kernel
theorem dX10_digit_7 : decode cX10_digit 7 = .ok (.bipush 57, 2) := by decide +kernel
theorem dX10_digit_9 : decode cX10_digit 9 = .ok (.if_icmp .gt 8, 3) := by decide +kernel
theorem dX10_digit_12 : decode cX10_digit 12 = .ok (.iload_n 0, 1) := by decide +kernel
theorem dX10_digit_13 : decode cX10_digit 13 = .ok (.bipush 48, 2) := by decide +kernel
theorem dX10_digit_15 : decode cX10_digit 15 = .ok (.isub, 1) := by decide +kernel
theorem dX10_digit_16 : decode cX10_digit 16 = .ok (.ireturn, 1) := by decide +kernel
theorem dX10_digit_17 : decode cX10_digit 17 = .ok (.iload_n 1, 1) := by decide +kernel
theorem dX10_digit_18 : decode cX10_digit 18 = .ok (.bipush 16, 2) := by decide +kernel
theorem dX10_digit_20 : decode cX10_digit 20 = .ok (.if_icmp .ne 25, 3) := by decide +kernel
theorem dX10_digit_23 : decode cX10_digit 23 = .ok (.iload_n 0, 1) := by decide +kernel
theorem dX10_digit_24 : decode cX10_digit 24 = .ok (.bipush 97, 2) := by decide +kernel
theorem dX10_digit_26 : decode cX10_digit 26 = .ok (.if_icmp .lt 19, 3) := by decide +kernel
theorem dX10_digit_29 : decode cX10_digit 29 = .ok (.iload_n 0, 1) := by decide +kernel
theorem dX10_digit_30 : decode cX10_digit 30 = .ok (.bipush 102, 2) := by decide +kernel
theorem dX10_digit_32 : decode cX10_digit 32 = .ok (.if_icmp .gt 13, 3) := by decide +kernel
theorem dX10_digit_35 : decode cX10_digit 35 = .ok (.iload_n 0, 1) := by decide +kernel
theorem dX10_digit_36 : decode cX10_digit 36 = .ok (.bipush 97, 2) := by decide +kernel
theorem dX10_digit_38 : decode cX10_digit 38 = .ok (.isub, 1) := by decide +kernel
theorem dX10_digit_39 : decode cX10_digit 39 = .ok (.bipush 10, 2) := by decide +kernel
theorem dX10_digit_41 : decode cX10_digit 41 = .ok (.iadd, 1) := by decide +kernel
theorem dX10_digit_42 : decode cX10_digit 42 = .ok (.goto 4, 3) := by decide +kernel
theorem dX10_digit_45 : decode cX10_digit 45 = .ok (.iconst (-1), 1) := by decide +kernel
theorem dX10_digit_46 : decode cX10_digit 46 = .ok (.ireturn, 1) := by decide +kernel
theorem dX11_init_0 : decode cX11_init 0 = .ok (.aload_n 0, 1) := by decide +kernel
theorem dX11_init_1 : decode cX11_init 1 = .ok (.invokespecial 1, 3) := by decide +kernel
theorem dX11_init_4 : decode cX11_init 4 = .ok (.aload_n 0, 1) := by decide +kernel
theorem dX11_init_5 : decode cX11_init 5 = .ok (.sipush 2600, 3) := by decide +kernel
theorem dX11_init_8 : decode cX11_init 8 = .ok (.newarray .int, 2) := by decide +kernel
theorem dX11_init_10 : decode cX11_init 10 = .ok (.putfield 9, 3) := by decide +kernel
theorem dX11_init_13 : decode cX11_init 13 = .ok (.aload_n 0, 1) := by decide +kernel
theorem dX11_init_14 : decode cX11_init 14 = .ok (.new 13, 3) := by decide +kernel
theorem dX11_init_17 : decode cX11_init 17 = .ok (.dup, 1) := by decide +kernel
theorem dX11_init_18 : decode cX11_init 18 = .ok (.invokespecial 15, 3) := by decide +kernel
theorem dX11_init_21 : decode cX11_init 21 = .ok (.putfield 16, 3) := by decide +kernel
theorem dX11_init_24 : decode cX11_init 24 = .ok (.aload_n 0, 1) := by decide +kernel
theorem dX11_init_25 : decode cX11_init 25 = .ok (.new 20, 3) := by decide +kernel
theorem dX11_init_28 : decode cX11_init 28 = .ok (.dup, 1) := by decide +kernel
theorem dX11_init_29 : decode cX11_init 29 = .ok (.aload_n 0, 1) := by decide +kernel
theorem dX11_init_30 : decode cX11_init 30 = .ok (.getfield 16, 3) := by decide +kernel
theorem dX11_init_33 : decode cX11_init 33 = .ok (.invokespecial 22, 3) := by decide +kernel
theorem dX11_init_36 : decode cX11_init 36 = .ok (.putfield 25, 3) := by decide +kernel
theorem dX11_init_39 : decode cX11_init 39 = .ok (.aload_n 0, 1) := by decide +kernel
theorem dX11_init_40 : decode cX11_init 40 = .ok (.new 29, 3) := by decide +kernel
theorem dX11_init_43 : decode cX11_init 43 = .ok (.dup, 1) := by decide +kernel
theorem dX11_init_44 : decode cX11_init 44 = .ok (.aload_n 0, 1) := by decide +kernel
theorem dX11_init_45 : decode cX11_init 45 = .ok (.getfield 9, 3) := by decide +kernel
theorem dX11_init_48 : decode cX11_init 48 = .ok (.invokespecial 31, 3) := by decide +kernel
theorem dX11_init_51 : decode cX11_init 51 = .ok (.putfield 34, 3) := by decide +kernel
theorem dX11_init_54 : decode cX11_init 54 = .ok (.aload_n 0, 1) := by decide +kernel
theorem dX11_init_55 : decode cX11_init 55 = .ok (.new 38, 3) := by decide +kernel
theorem dX11_init_58 : decode cX11_init 58 = .ok (.dup, 1) := by decide +kernel
theorem dX11_init_59 : decode cX11_init 59 = .ok (.aload_n 0, 1) := by decide +kernel
theorem dX11_init_60 : decode cX11_init 60 = .ok (.getfield 16, 3) := by decide +kernel
theorem dX11_init_63 : decode cX11_init 63 = .ok (.invokespecial 40, 3) := by decide +kernel
theorem dX11_init_66 : decode cX11_init 66 = .ok (.putfield 41, 3) := by decide +kernel
theorem dX11_init_69 : decode cX11_init 69 = .ok (.return_, 1) := by decide +kernel
theorem dX11_feed_0 : decode cX11_feed 0 = .ok (.aload_n 0, 1) := by decide +kernel
theorem dX11_feed_1 : decode cX11_feed 1 = .ok (.getfield 45, 3) := by decide +kernel
theorem dX11_feed_4 : decode cX11_feed 4 = .ok (.bipush 20, 2) := by decide +kernel
theorem dX11_feed_6 : decode cX11_feed 6 = .ok (.iadd, 1) := by decide +kernel
theorem dX11_feed_7 : decode cX11_feed 7 = .ok (.sipush 2600, 3) := by decide +kernel
theorem dX11_feed_10 : decode cX11_feed 10 = .ok (.if_icmp .le 5, 3) := by decide +kernel
theorem dX11_feed_13 : decode cX11_feed 13 = .ok (.iconst (-1), 1) := by decide +kernel
theorem dX11_feed_14 : decode cX11_feed 14 = .ok (.ireturn, 1) := by decide +kernel
theorem dX11_feed_15 : decode cX11_feed 15 = .ok (.aload_n 0, 1) := by decide +kernel
theorem dX11_feed_16 : decode cX11_feed 16 = .ok (.iload_n 1, 1) := by decide +kernel
theorem dX11_feed_17 : decode cX11_feed 17 = .ok (.invokevirtual 49, 3) := by decide +kernel
theorem dX11_feed_20 : decode cX11_feed 20 = .ok (.aload_n 0, 1) := by decide +kernel
theorem dX11_feed_21 : decode cX11_feed 21 = .ok (.iload_n 2, 1) := by decide +kernel
theorem dX11_feed_22 : decode cX11_feed 22 = .ok (.invokevirtual 49, 3) := by decide +kernel
theorem dX11_feed_25 : decode cX11_feed 25 = .ok (.aload_n 0, 1) := by decide +kernel
theorem dX11_feed_26 : decode cX11_feed 26 = .ok (.iload_n 3, 1) := by decide +kernel
theorem dX11_feed_27 : decode cX11_feed 27 = .ok (.invokevirtual 49, 3) := by decide +kernel
theorem dX11_feed_30 : decode cX11_feed 30 = .ok (.aload_n 0, 1) := by decide +kernel
theorem dX11_feed_31 : decode cX11_feed 31 = .ok (.iload 4, 2) := by decide +kernel
theorem dX11_feed_33 : decode cX11_feed 33 = .ok (.invokevirtual 49, 3) := by decide +kernel
theorem dX11_feed_36 : decode cX11_feed 36 = .ok (.aload_n 0, 1) := by decide +kernel
theorem dX11_feed_37 : decode cX11_feed 37 = .ok (.iload 5, 2) := by decide +kernel
theorem dX11_feed_39 : decode cX11_feed 39 = .ok (.invokevirtual 49, 3) := by decide +kernel
theorem dX11_feed_42 : decode cX11_feed 42 = .ok (.aload_n 0, 1) := by decide +kernel
theorem dX11_feed_43 : decode cX11_feed 43 = .ok (.getfield 45, 3) := by decide +kernel
theorem dX11_feed_46 : decode cX11_feed 46 = .ok (.ireturn, 1) := by decide +kernel
theorem dX11_putNumber_0 : decode cX11_putNumber 0 = .ok (.bipush 24, 2) := by decide +kernel
theorem dX11_putNumber_2 : decode cX11_putNumber 2 = .ok (.istore_n 2, 1) := by decide +kernel
theorem dX11_putNumber_3 : decode cX11_putNumber 3 = .ok (.iload_n 2, 1) := by decide +kernel
theorem dX11_putNumber_4 : decode cX11_putNumber 4 = .ok (.ifCond .lt 45, 3) := by decide +kernel
theorem dX11_putNumber_7 : decode cX11_putNumber 7 = .ok (.aload_n 0, 1) := by decide +kernel
theorem dX11_putNumber_8 : decode cX11_putNumber 8 = .ok (.getfield 45, 3) := by decide +kernel
theorem dX11_putNumber_11 : decode cX11_putNumber 11 = .ok (.sipush 2600, 3) := by decide +kernel
theorem dX11_putNumber_14 : decode cX11_putNumber 14 = .ok (.if_icmp .ge 29, 3) := by decide +kernel
theorem dX11_putNumber_17 : decode cX11_putNumber 17 = .ok (.aload_n 0, 1) := by decide +kernel
theorem dX11_putNumber_18 : decode cX11_putNumber 18 = .ok (.getfield 9, 3) := by decide +kernel
theorem dX11_putNumber_21 : decode cX11_putNumber 21 = .ok (.aload_n 0, 1) := by decide +kernel
theorem dX11_putNumber_22 : decode cX11_putNumber 22 = .ok (.getfield 45, 3) := by decide +kernel
theorem dX11_putNumber_25 : decode cX11_putNumber 25 = .ok (.iload_n 1, 1) := by decide +kernel
theorem dX11_putNumber_26 : decode cX11_putNumber 26 = .ok (.iload_n 2, 1) := by decide +kernel
theorem dX11_putNumber_27 : decode cX11_putNumber 27 = .ok (.iushr, 1) := by decide +kernel
theorem dX11_putNumber_28 : decode cX11_putNumber 28 = .ok (.sipush 255, 3) := by decide +kernel
theorem dX11_putNumber_31 : decode cX11_putNumber 31 = .ok (.iand, 1) := by decide +kernel
theorem dX11_putNumber_32 : decode cX11_putNumber 32 = .ok (.iastore, 1) := by decide +kernel
theorem dX11_putNumber_33 : decode cX11_putNumber 33 = .ok (.aload_n 0, 1) := by decide +kernel
theorem dX11_putNumber_34 : decode cX11_putNumber 34 = .ok (.dup, 1) := by decide +kernel
theorem dX11_putNumber_35 : decode cX11_putNumber 35 = .ok (.getfield 45, 3) := by decide +kernel
theorem dX11_putNumber_38 : decode cX11_putNumber 38 = .ok (.iconst 1, 1) := by decide +kernel
theorem dX11_putNumber_39 : decode cX11_putNumber 39 = .ok (.iadd, 1) := by decide +kernel
theorem dX11_putNumber_40 : decode cX11_putNumber 40 = .ok (.putfield 45, 3) := by decide +kernel
theorem dX11_putNumber_43 : decode cX11_putNumber 43 = .ok (.iinc 2 (-8), 3) := by decide +kernel
theorem dX11_putNumber_46 : decode cX11_putNumber 46 = .ok (.goto (-43), 3) := by decide +kernel
theorem dX11_putNumber_49 : decode cX11_putNumber 49 = .ok (.return_, 1) := by decide +kernel
theorem dX11_end_0 : decode cX11_end 0 = .ok (.iload_n 1, 1) := by decide +kernel
theorem dX11_end_1 : decode cX11_end 1 = .ok (.ifCond .lt 11, 3) := by decide +kernel
theorem dX11_end_4 : decode cX11_end 4 = .ok (.iload_n 1, 1) := by decide +kernel
theorem dX11_end_5 : decode cX11_end 5 = .ok (.aload_n 0, 1) := by decide +kernel
theorem dX11_end_6 : decode cX11_end 6 = .ok (.getfield 45, 3) := by decide +kernel
theorem dX11_end_9 : decode cX11_end 9 = .ok (.if_icmp .le 5, 3) := by decide +kernel
theorem dX11_end_12 : decode cX11_end 12 = .ok (.iconst 0, 1) := by decide +kernel
theorem dX11_end_13 : decode cX11_end 13 = .ok (.ireturn, 1) := by decide +kernel
theorem dX11_end_14 : decode cX11_end 14 = .ok (.aload_n 0, 1) := by decide +kernel
theorem dX11_end_15 : decode cX11_end 15 = .ok (.iload_n 1, 1) := by decide +kernel
theorem dX11_end_16 : decode cX11_end 16 = .ok (.putfield 45, 3) := by decide +kernel
theorem dX11_end_19 : decode cX11_end 19 = .ok (.iconst 1, 1) := by decide +kernel
theorem dX11_end_20 : decode cX11_end 20 = .ok (.ireturn, 1) := by decide +kernel
theorem dX11_assemble_0 : decode cX11_assemble 0 = .ok (.aload_n 0, 1) := by decide +kernel
theorem dX11_assemble_1 : decode cX11_assemble 1 = .ok (.getfield 45, 3) := by decide +kernel
theorem dX11_assemble_4 : decode cX11_assemble 4 = .ok (.istore_n 1, 1) := by decide +kernel
theorem dX11_assemble_5 : decode cX11_assemble 5 = .ok (.aload_n 0, 1) := by decide +kernel
theorem dX11_assemble_6 : decode cX11_assemble 6 = .ok (.iconst 0, 1) := by decide +kernel
theorem dX11_assemble_7 : decode cX11_assemble 7 = .ok (.putfield 45, 3) := by decide +kernel
theorem dX11_assemble_10 : decode cX11_assemble 10 = .ok (.aload_n 0, 1) := by decide +kernel
theorem dX11_assemble_11 : decode cX11_assemble 11 = .ok (.getfield 34, 3) := by decide +kernel
theorem dX11_assemble_14 : decode cX11_assemble 14 = .ok (.iload_n 1, 1) := by decide +kernel
theorem dX11_assemble_15 : decode cX11_assemble 15 = .ok (.invokevirtual 53, 3) := by decide +kernel
theorem dX11_assemble_18 : decode cX11_assemble 18 = .ok (.ifCond .eq 44, 3) := by decide +kernel
theorem dX11_assemble_21 : decode cX11_assemble 21 = .ok (.aload_n 0, 1) := by decide +kernel
theorem dX11_assemble_22 : decode cX11_assemble 22 = .ok (.getfield 34, 3) := by decide +kernel
theorem dX11_assemble_25 : decode cX11_assemble 25 = .ok (.iconst 0, 1) := by decide +kernel
theorem dX11_assemble_26 : decode cX11_assemble 26 = .ok (.invokevirtual 57, 3) := by decide +kernel
theorem dX11_assemble_29 : decode cX11_assemble 29 = .ok (.ifCond .eq 33, 3) := by decide +kernel
theorem dX11_assemble_32 : decode cX11_assemble 32 = .ok (.aload_n 0, 1) := by decide +kernel
theorem dX11_assemble_33 : decode cX11_assemble 33 = .ok (.getfield 34, 3) := by decide +kernel
theorem dX11_assemble_36 : decode cX11_assemble 36 = .ok (.iconst 1, 1) := by decide +kernel
theorem dX11_assemble_37 : decode cX11_assemble 37 = .ok (.invokevirtual 57, 3) := by decide +kernel
theorem dX11_assemble_40 : decode cX11_assemble 40 = .ok (.ifCond .eq 22, 3) := by decide +kernel
theorem dX11_assemble_43 : decode cX11_assemble 43 = .ok (.aload_n 0, 1) := by decide +kernel
theorem dX11_assemble_44 : decode cX11_assemble 44 = .ok (.getfield 34, 3) := by decide +kernel
theorem dX11_assemble_47 : decode cX11_assemble 47 = .ok (.invokevirtual 61, 3) := by decide +kernel
theorem dX11_assemble_50 : decode cX11_assemble 50 = .ok (.aload_n 0, 1) := by decide +kernel
theorem dX11_assemble_51 : decode cX11_assemble 51 = .ok (.getfield 34, 3) := by decide +kernel
theorem dX11_assemble_54 : decode cX11_assemble 54 = .ok (.aload_n 0, 1) := by decide +kernel
theorem dX11_assemble_55 : decode cX11_assemble 55 = .ok (.getfield 16, 3) := by decide +kernel
theorem dX11_assemble_58 : decode cX11_assemble 58 = .ok (.invokevirtual 64, 3) := by decide +kernel
theorem dX11_assemble_61 : decode cX11_assemble 61 = .ok (.ireturn, 1) := by decide +kernel
theorem dX11_assemble_62 : decode cX11_assemble 62 = .ok (.iconst (-1), 1) := by decide +kernel
theorem dX11_assemble_63 : decode cX11_assemble 63 = .ok (.aload_n 0, 1) := by decide +kernel
theorem dX11_assemble_64 : decode cX11_assemble 64 = .ok (.getfield 34, 3) := by decide +kernel
theorem dX11_assemble_67 : decode cX11_assemble 67 = .ok (.invokevirtual 68, 3) := by decide +kernel
theorem dX11_assemble_70 : decode cX11_assemble 70 = .ok (.isub, 1) := by decide +kernel
theorem dX11_assemble_71 : decode cX11_assemble 71 = .ok (.ireturn, 1) := by decide +kernel
theorem dX11_fault_0 : decode cX11_fault 0 = .ok (.aload_n 0, 1) := by decide +kernel
theorem dX11_fault_1 : decode cX11_fault 1 = .ok (.getfield 34, 3) := by decide +kernel
theorem dX11_fault_4 : decode cX11_fault 4 = .ok (.invokevirtual 72, 3) := by decide +kernel
theorem dX11_fault_7 : decode cX11_fault 7 = .ok (.ireturn, 1) := by decide +kernel
theorem dX11_label_0 : decode cX11_label 0 = .ok (.aload_n 0, 1) := by decide +kernel
theorem dX11_label_1 : decode cX11_label 1 = .ok (.getfield 34, 3) := by decide +kernel
theorem dX11_label_4 : decode cX11_label 4 = .ok (.iload_n 1, 1) := by decide +kernel
theorem dX11_label_5 : decode cX11_label 5 = .ok (.invokevirtual 75, 3) := by decide +kernel
theorem dX11_label_8 : decode cX11_label 8 = .ok (.ireturn, 1) := by decide +kernel
theorem dX11_reset_0 : decode cX11_reset 0 = .ok (.aload_n 0, 1) := by decide +kernel
theorem dX11_reset_1 : decode cX11_reset 1 = .ok (.getfield 16, 3) := by decide +kernel
theorem dX11_reset_4 : decode cX11_reset 4 = .ok (.invokevirtual 79, 3) := by decide +kernel
theorem dX11_reset_7 : decode cX11_reset 7 = .ok (.aload_n 0, 1) := by decide +kernel
theorem dX11_reset_8 : decode cX11_reset 8 = .ok (.getfield 25, 3) := by decide +kernel
theorem dX11_reset_11 : decode cX11_reset 11 = .ok (.invokevirtual 82, 3) := by decide +kernel
theorem dX11_reset_14 : decode cX11_reset 14 = .ok (.return_, 1) := by decide +kernel
theorem dX11_event_0 : decode cX11_event 0 = .ok (.aload_n 0, 1) := by decide +kernel
theorem dX11_event_1 : decode cX11_event 1 = .ok (.getfield 25, 3) := by decide +kernel
theorem dX11_event_4 : decode cX11_event 4 = .ok (.iload_n 1, 1) := by decide +kernel
theorem dX11_event_5 : decode cX11_event 5 = .ok (.iload_n 2, 1) := by decide +kernel
theorem dX11_event_6 : decode cX11_event 6 = .ok (.invokevirtual 85, 3) := by decide +kernel
theorem dX11_event_9 : decode cX11_event 9 = .ok (.ireturn, 1) := by decide +kernel
theorem dX11_run_0 : decode cX11_run 0 = .ok (.iload_n 1, 1) := by decide +kernel
theorem dX11_run_1 : decode cX11_run 1 = .ok (.ifCond .lt 10, 3) := by decide +kernel
theorem dX11_run_4 : decode cX11_run 4 = .ok (.iload_n 1, 1) := by decide +kernel
theorem dX11_run_5 : decode cX11_run 5 = .ok (.sipush 5000, 3) := by decide +kernel
theorem dX11_run_8 : decode cX11_run 8 = .ok (.if_icmp .le 13, 3) := by decide +kernel
theorem dX11_run_11 : decode cX11_run 11 = .ok (.new 89, 3) := by decide +kernel
theorem dX11_run_14 : decode cX11_run 14 = .ok (.dup, 1) := by decide +kernel
theorem dX11_run_15 : decode cX11_run 15 = .ok (.ldc 91, 2) := by decide +kernel
theorem dX11_run_17 : decode cX11_run 17 = .ok (.invokespecial 93, 3) := by decide +kernel
theorem dX11_run_20 : decode cX11_run 20 = .ok (.athrow, 1) := by decide +kernel
theorem dX11_run_21 : decode cX11_run 21 = .ok (.aload_n 0, 1) := by decide +kernel
theorem dX11_run_22 : decode cX11_run 22 = .ok (.iconst 0, 1) := by decide +kernel
theorem dX11_run_23 : decode cX11_run 23 = .ok (.putfield 96, 3) := by decide +kernel
theorem dX11_run_26 : decode cX11_run 26 = .ok (.iconst 1, 1) := by decide +kernel
theorem dX11_run_27 : decode cX11_run 27 = .ok (.istore_n 3, 1) := by decide +kernel
theorem dX11_run_28 : decode cX11_run 28 = .ok (.iload_n 3, 1) := by decide +kernel
theorem dX11_run_29 : decode cX11_run 29 = .ok (.iload_n 1, 1) := by decide +kernel
theorem dX11_run_30 : decode cX11_run 30 = .ok (.if_icmp .gt 40, 3) := by decide +kernel
theorem dX11_run_33 : decode cX11_run 33 = .ok (.aload_n 0, 1) := by decide +kernel
theorem dX11_run_34 : decode cX11_run 34 = .ok (.getfield 25, 3) := by decide +kernel
theorem dX11_run_37 : decode cX11_run 37 = .ok (.invokevirtual 99, 3) := by decide +kernel
theorem dX11_run_40 : decode cX11_run 40 = .ok (.ifCond .ne 5, 3) := by decide +kernel
theorem dX11_run_43 : decode cX11_run 43 = .ok (.iconst 2, 1) := by decide +kernel
theorem dX11_run_44 : decode cX11_run 44 = .ok (.ireturn, 1) := by decide +kernel
theorem dX11_run_45 : decode cX11_run 45 = .ok (.aload_n 0, 1) := by decide +kernel
theorem dX11_run_46 : decode cX11_run 46 = .ok (.iload_n 3, 1) := by decide +kernel
theorem dX11_run_47 : decode cX11_run 47 = .ok (.putfield 96, 3) := by decide +kernel
theorem dX11_run_50 : decode cX11_run 50 = .ok (.aload_n 0, 1) := by decide +kernel
theorem dX11_run_51 : decode cX11_run 51 = .ok (.getfield 25, 3) := by decide +kernel
theorem dX11_run_54 : decode cX11_run 54 = .ok (.iconst 0, 1) := by decide +kernel
theorem dX11_run_55 : decode cX11_run 55 = .ok (.invokevirtual 103, 3) := by decide +kernel
theorem dX11_run_58 : decode cX11_run 58 = .ok (.iload_n 2, 1) := by decide +kernel
theorem dX11_run_59 : decode cX11_run 59 = .ok (.if_icmp .ne 5, 3) := by decide +kernel
theorem dX11_run_62 : decode cX11_run 62 = .ok (.iconst 1, 1) := by decide +kernel
theorem dX11_run_63 : decode cX11_run 63 = .ok (.ireturn, 1) := by decide +kernel
theorem dX11_run_64 : decode cX11_run 64 = .ok (.iinc 3 1, 3) := by decide +kernel
theorem dX11_run_67 : decode cX11_run 67 = .ok (.goto (-39), 3) := by decide +kernel
theorem dX11_run_70 : decode cX11_run 70 = .ok (.iconst 0, 1) := by decide +kernel
theorem dX11_run_71 : decode cX11_run 71 = .ok (.ireturn, 1) := by decide +kernel
theorem dX11_register_0 : decode cX11_register 0 = .ok (.iload_n 1, 1) := by decide +kernel
theorem dX11_register_1 : decode cX11_register 1 = .ok (.ifCond .lt 9, 3) := by decide +kernel
theorem dX11_register_4 : decode cX11_register 4 = .ok (.iload_n 1, 1) := by decide +kernel
theorem dX11_register_5 : decode cX11_register 5 = .ok (.bipush 16, 2) := by decide +kernel
theorem dX11_register_7 : decode cX11_register 7 = .ok (.if_icmp .lt 13, 3) := by decide +kernel
theorem dX11_register_10 : decode cX11_register 10 = .ok (.new 106, 3) := by decide +kernel
theorem dX11_register_13 : decode cX11_register 13 = .ok (.dup, 1) := by decide +kernel
theorem dX11_register_14 : decode cX11_register 14 = .ok (.ldc 108, 2) := by decide +kernel
theorem dX11_register_16 : decode cX11_register 16 = .ok (.invokespecial 110, 3) := by decide +kernel
theorem dX11_register_19 : decode cX11_register 19 = .ok (.athrow, 1) := by decide +kernel
theorem dX11_register_20 : decode cX11_register 20 = .ok (.aload_n 0, 1) := by decide +kernel
theorem dX11_register_21 : decode cX11_register 21 = .ok (.getfield 25, 3) := by decide +kernel
theorem dX11_register_24 : decode cX11_register 24 = .ok (.iload_n 1, 1) := by decide +kernel
theorem dX11_register_25 : decode cX11_register 25 = .ok (.invokevirtual 103, 3) := by decide +kernel
theorem dX11_register_28 : decode cX11_register 28 = .ok (.ireturn, 1) := by decide +kernel
theorem dX11_set_0 : decode cX11_set 0 = .ok (.iload_n 1, 1) := by decide +kernel
theorem dX11_set_1 : decode cX11_set 1 = .ok (.ifCond .lt 9, 3) := by decide +kernel
theorem dX11_set_4 : decode cX11_set 4 = .ok (.iload_n 1, 1) := by decide +kernel
theorem dX11_set_5 : decode cX11_set 5 = .ok (.bipush 16, 2) := by decide +kernel
theorem dX11_set_7 : decode cX11_set 7 = .ok (.if_icmp .lt 13, 3) := by decide +kernel
theorem dX11_set_10 : decode cX11_set 10 = .ok (.new 106, 3) := by decide +kernel
theorem dX11_set_13 : decode cX11_set 13 = .ok (.dup, 1) := by decide +kernel
theorem dX11_set_14 : decode cX11_set 14 = .ok (.ldc 108, 2) := by decide +kernel
theorem dX11_set_16 : decode cX11_set 16 = .ok (.invokespecial 110, 3) := by decide +kernel
theorem dX11_set_19 : decode cX11_set 19 = .ok (.athrow, 1) := by decide +kernel
theorem dX11_set_20 : decode cX11_set 20 = .ok (.aload_n 0, 1) := by decide +kernel
theorem dX11_set_21 : decode cX11_set 21 = .ok (.getfield 25, 3) := by decide +kernel
theorem dX11_set_24 : decode cX11_set 24 = .ok (.iload_n 1, 1) := by decide +kernel
theorem dX11_set_25 : decode cX11_set 25 = .ok (.iload_n 2, 1) := by decide +kernel
theorem dX11_set_26 : decode cX11_set 26 = .ok (.invokevirtual 111, 3) := by decide +kernel
theorem dX11_set_29 : decode cX11_set 29 = .ok (.return_, 1) := by decide +kernel
theorem dX11_peek_0 : decode cX11_peek 0 = .ok (.iload_n 1, 1) := by decide +kernel
theorem dX11_peek_1 : decode cX11_peek 1 = .ok (.ifCond .lt 9, 3) := by decide +kernel
theorem dX11_peek_4 : decode cX11_peek 4 = .ok (.iload_n 1, 1) := by decide +kernel
theorem dX11_peek_5 : decode cX11_peek 5 = .ok (.ldc 115, 2) := by decide +kernel
theorem dX11_peek_7 : decode cX11_peek 7 = .ok (.if_icmp .lt 13, 3) := by decide +kernel
theorem dX11_peek_10 : decode cX11_peek 10 = .ok (.new 106, 3) := by decide +kernel
theorem dX11_peek_13 : decode cX11_peek 13 = .ok (.dup, 1) := by decide +kernel
theorem dX11_peek_14 : decode cX11_peek 14 = .ok (.ldc 116, 2) := by decide +kernel
theorem dX11_peek_16 : decode cX11_peek 16 = .ok (.invokespecial 110, 3) := by decide +kernel
theorem dX11_peek_19 : decode cX11_peek 19 = .ok (.athrow, 1) := by decide +kernel
theorem dX11_peek_20 : decode cX11_peek 20 = .ok (.aload_n 0, 1) := by decide +kernel
theorem dX11_peek_21 : decode cX11_peek 21 = .ok (.getfield 16, 3) := by decide +kernel
theorem dX11_peek_24 : decode cX11_peek 24 = .ok (.iload_n 1, 1) := by decide +kernel
theorem dX11_peek_25 : decode cX11_peek 25 = .ok (.invokevirtual 118, 3) := by decide +kernel
theorem dX11_peek_28 : decode cX11_peek 28 = .ok (.ireturn, 1) := by decide +kernel
theorem dX11_poke_0 : decode cX11_poke 0 = .ok (.iload_n 1, 1) := by decide +kernel
theorem dX11_poke_1 : decode cX11_poke 1 = .ok (.ifCond .lt 9, 3) := by decide +kernel
theorem dX11_poke_4 : decode cX11_poke 4 = .ok (.iload_n 1, 1) := by decide +kernel
theorem dX11_poke_5 : decode cX11_poke 5 = .ok (.ldc 115, 2) := by decide +kernel
theorem dX11_poke_7 : decode cX11_poke 7 = .ok (.if_icmp .lt 13, 3) := by decide +kernel
theorem dX11_poke_10 : decode cX11_poke 10 = .ok (.new 106, 3) := by decide +kernel
theorem dX11_poke_13 : decode cX11_poke 13 = .ok (.dup, 1) := by decide +kernel
theorem dX11_poke_14 : decode cX11_poke 14 = .ok (.ldc 116, 2) := by decide +kernel
theorem dX11_poke_16 : decode cX11_poke 16 = .ok (.invokespecial 110, 3) := by decide +kernel
theorem dX11_poke_19 : decode cX11_poke 19 = .ok (.athrow, 1) := by decide +kernel
theorem dX11_poke_20 : decode cX11_poke 20 = .ok (.iload_n 2, 1) := by decide +kernel
theorem dX11_poke_21 : decode cX11_poke 21 = .ok (.ifCond .lt 10, 3) := by decide +kernel
theorem dX11_poke_24 : decode cX11_poke 24 = .ok (.iload_n 2, 1) := by decide +kernel
theorem dX11_poke_25 : decode cX11_poke 25 = .ok (.sipush 255, 3) := by decide +kernel
theorem dX11_poke_28 : decode cX11_poke 28 = .ok (.if_icmp .le 5, 3) := by decide +kernel
theorem dX11_poke_31 : decode cX11_poke 31 = .ok (.iconst 0, 1) := by decide +kernel
theorem dX11_poke_32 : decode cX11_poke 32 = .ok (.ireturn, 1) := by decide +kernel
theorem dX11_poke_33 : decode cX11_poke 33 = .ok (.aload_n 0, 1) := by decide +kernel
theorem dX11_poke_34 : decode cX11_poke 34 = .ok (.getfield 16, 3) := by decide +kernel
theorem dX11_poke_37 : decode cX11_poke 37 = .ok (.iload_n 1, 1) := by decide +kernel
theorem dX11_poke_38 : decode cX11_poke 38 = .ok (.iload_n 2, 1) := by decide +kernel
theorem dX11_poke_39 : decode cX11_poke 39 = .ok (.invokevirtual 121, 3) := by decide +kernel
theorem dX11_poke_42 : decode cX11_poke 42 = .ok (.iconst 1, 1) := by decide +kernel
theorem dX11_poke_43 : decode cX11_poke 43 = .ok (.ireturn, 1) := by decide +kernel
theorem dX11_count_0 : decode cX11_count 0 = .ok (.iload_n 1, 1) := by decide +kernel
theorem dX11_count_1 : decode cX11_count 1 = .ok (.tableswitch 105 0 7 #[47, 55, 60, 68, 76, 84, 89, 97], 47) := by decide +kernel
theorem dX11_count_48 : decode cX11_count 48 = .ok (.aload_n 0, 1) := by decide +kernel
theorem dX11_count_49 : decode cX11_count 49 = .ok (.getfield 25, 3) := by decide +kernel
theorem dX11_count_52 : decode cX11_count 52 = .ok (.invokevirtual 124, 3) := by decide +kernel
theorem dX11_count_55 : decode cX11_count 55 = .ok (.ireturn, 1) := by decide +kernel
theorem dX11_count_56 : decode cX11_count 56 = .ok (.aload_n 0, 1) := by decide +kernel
theorem dX11_count_57 : decode cX11_count 57 = .ok (.getfield 96, 3) := by decide +kernel
theorem dX11_count_60 : decode cX11_count 60 = .ok (.ireturn, 1) := by decide +kernel
theorem dX11_count_61 : decode cX11_count 61 = .ok (.aload_n 0, 1) := by decide +kernel
theorem dX11_count_62 : decode cX11_count 62 = .ok (.getfield 25, 3) := by decide +kernel
theorem dX11_count_65 : decode cX11_count 65 = .ok (.invokevirtual 127, 3) := by decide +kernel
theorem dX11_count_68 : decode cX11_count 68 = .ok (.ireturn, 1) := by decide +kernel
theorem dX11_count_69 : decode cX11_count 69 = .ok (.aload_n 0, 1) := by decide +kernel
theorem dX11_count_70 : decode cX11_count 70 = .ok (.getfield 25, 3) := by decide +kernel
theorem dX11_count_73 : decode cX11_count 73 = .ok (.invokevirtual 130, 3) := by decide +kernel
theorem dX11_count_76 : decode cX11_count 76 = .ok (.ireturn, 1) := by decide +kernel
theorem dX11_count_77 : decode cX11_count 77 = .ok (.aload_n 0, 1) := by decide +kernel
theorem dX11_count_78 : decode cX11_count 78 = .ok (.getfield 25, 3) := by decide +kernel
theorem dX11_count_81 : decode cX11_count 81 = .ok (.invokevirtual 133, 3) := by decide +kernel
theorem dX11_count_84 : decode cX11_count 84 = .ok (.ireturn, 1) := by decide +kernel
theorem dX11_count_85 : decode cX11_count 85 = .ok (.aload_n 0, 1) := by decide +kernel
theorem dX11_count_86 : decode cX11_count 86 = .ok (.getfield 45, 3) := by decide +kernel
theorem dX11_count_89 : decode cX11_count 89 = .ok (.ireturn, 1) := by decide +kernel
theorem dX11_count_90 : decode cX11_count 90 = .ok (.aload_n 0, 1) := by decide +kernel
theorem dX11_count_91 : decode cX11_count 91 = .ok (.getfield 41, 3) := by decide +kernel
theorem dX11_count_94 : decode cX11_count 94 = .ok (.invokevirtual 136, 3) := by decide +kernel
theorem dX11_count_97 : decode cX11_count 97 = .ok (.ireturn, 1) := by decide +kernel
theorem dX11_count_98 : decode cX11_count 98 = .ok (.aload_n 0, 1) := by decide +kernel
theorem dX11_count_99 : decode cX11_count 99 = .ok (.getfield 41, 3) := by decide +kernel
theorem dX11_count_102 : decode cX11_count 102 = .ok (.invokevirtual 139, 3) := by decide +kernel
theorem dX11_count_105 : decode cX11_count 105 = .ok (.ireturn, 1) := by decide +kernel
theorem dX11_count_106 : decode cX11_count 106 = .ok (.iconst (-1), 1) := by decide +kernel
theorem dX11_count_107 : decode cX11_count 107 = .ok (.ireturn, 1) := by decide +kernel
theorem dX11_list_0 : decode cX11_list 0 = .ok (.iload_n 1, 1) := by decide +kernel
theorem dX11_list_1 : decode cX11_list 1 = .ok (.ifCond .lt 9, 3) := by decide +kernel
theorem dX11_list_4 : decode cX11_list 4 = .ok (.iload_n 1, 1) := by decide +kernel
theorem dX11_list_5 : decode cX11_list 5 = .ok (.ldc 115, 2) := by decide +kernel
theorem dX11_list_7 : decode cX11_list 7 = .ok (.if_icmp .lt 13, 3) := by decide +kernel
theorem dX11_list_10 : decode cX11_list 10 = .ok (.new 106, 3) := by decide +kernel
theorem dX11_list_13 : decode cX11_list 13 = .ok (.dup, 1) := by decide +kernel
theorem dX11_list_14 : decode cX11_list 14 = .ok (.ldc 116, 2) := by decide +kernel
theorem dX11_list_16 : decode cX11_list 16 = .ok (.invokespecial 110, 3) := by decide +kernel
theorem dX11_list_19 : decode cX11_list 19 = .ok (.athrow, 1) := by decide +kernel
theorem dX11_list_20 : decode cX11_list 20 = .ok (.iload_n 1, 1) := by decide +kernel
theorem dX11_list_21 : decode cX11_list 21 = .ok (.ldc 142, 2) := by decide +kernel
theorem dX11_list_23 : decode cX11_list 23 = .ok (.iand, 1) := by decide +kernel
theorem dX11_list_24 : decode cX11_list 24 = .ok (.istore_n 2, 1) := by decide +kernel
theorem dX11_list_25 : decode cX11_list 25 = .ok (.aload_n 0, 1) := by decide +kernel
theorem dX11_list_26 : decode cX11_list 26 = .ok (.getfield 41, 3) := by decide +kernel
theorem dX11_list_29 : decode cX11_list 29 = .ok (.iload_n 2, 1) := by decide +kernel
theorem dX11_list_30 : decode cX11_list 30 = .ok (.invokevirtual 143, 3) := by decide +kernel
theorem dX11_list_33 : decode cX11_list 33 = .ok (.ifCond .ne 11, 3) := by decide +kernel
theorem dX11_list_36 : decode cX11_list 36 = .ok (.aload_n 0, 1) := by decide +kernel
theorem dX11_list_37 : decode cX11_list 37 = .ok (.getfield 41, 3) := by decide +kernel
theorem dX11_list_40 : decode cX11_list 40 = .ok (.iload_n 2, 1) := by decide +kernel
theorem dX11_list_41 : decode cX11_list 41 = .ok (.invokevirtual 146, 3) := by decide +kernel
theorem dX11_list_44 : decode cX11_list 44 = .ok (.aload_n 0, 1) := by decide +kernel
theorem dX11_list_45 : decode cX11_list 45 = .ok (.getfield 41, 3) := by decide +kernel
theorem dX11_list_48 : decode cX11_list 48 = .ok (.invokevirtual 136, 3) := by decide +kernel
theorem dX11_list_51 : decode cX11_list 51 = .ok (.ireturn, 1) := by decide +kernel
theorem dX11_octet_0 : decode cX11_octet 0 = .ok (.iload_n 1, 1) := by decide +kernel
theorem dX11_octet_1 : decode cX11_octet 1 = .ok (.ifCond .lt 14, 3) := by decide +kernel
theorem dX11_octet_4 : decode cX11_octet 4 = .ok (.iload_n 1, 1) := by decide +kernel
theorem dX11_octet_5 : decode cX11_octet 5 = .ok (.aload_n 0, 1) := by decide +kernel
theorem dX11_octet_6 : decode cX11_octet 6 = .ok (.getfield 41, 3) := by decide +kernel
theorem dX11_octet_9 : decode cX11_octet 9 = .ok (.invokevirtual 136, 3) := by decide +kernel
theorem dX11_octet_12 : decode cX11_octet 12 = .ok (.if_icmp .lt 13, 3) := by decide +kernel
theorem dX11_octet_15 : decode cX11_octet 15 = .ok (.new 149, 3) := by decide +kernel
theorem dX11_octet_18 : decode cX11_octet 18 = .ok (.dup, 1) := by decide +kernel
theorem dX11_octet_19 : decode cX11_octet 19 = .ok (.ldc 151, 2) := by decide +kernel
theorem dX11_octet_21 : decode cX11_octet 21 = .ok (.invokespecial 153, 3) := by decide +kernel
theorem dX11_octet_24 : decode cX11_octet 24 = .ok (.athrow, 1) := by decide +kernel
theorem dX11_octet_25 : decode cX11_octet 25 = .ok (.aload_n 0, 1) := by decide +kernel
theorem dX11_octet_26 : decode cX11_octet 26 = .ok (.getfield 41, 3) := by decide +kernel
theorem dX11_octet_29 : decode cX11_octet 29 = .ok (.iload_n 1, 1) := by decide +kernel
theorem dX11_octet_30 : decode cX11_octet 30 = .ok (.invokevirtual 154, 3) := by decide +kernel
theorem dX11_octet_33 : decode cX11_octet 33 = .ok (.ireturn, 1) := by decide +kernel
theorem dX12_init_0 : decode cX12_init 0 = .ok (.aload_n 0, 1) := by decide +kernel
theorem dX12_init_1 : decode cX12_init 1 = .ok (.invokespecial 1, 3) := by decide +kernel
theorem dX12_init_4 : decode cX12_init 4 = .ok (.aload_n 0, 1) := by decide +kernel
theorem dX12_init_5 : decode cX12_init 5 = .ok (.ldc 7, 2) := by decide +kernel
theorem dX12_init_7 : decode cX12_init 7 = .ok (.newarray .byte, 2) := by decide +kernel
theorem dX12_init_9 : decode cX12_init 9 = .ok (.putfield 8, 3) := by decide +kernel
theorem dX12_init_12 : decode cX12_init 12 = .ok (.aload_n 0, 1) := by decide +kernel
theorem dX12_init_13 : decode cX12_init 13 = .ok (.bipush 16, 2) := by decide +kernel
theorem dX12_init_15 : decode cX12_init 15 = .ok (.newarray .int, 2) := by decide +kernel
theorem dX12_init_17 : decode cX12_init 17 = .ok (.putfield 14, 3) := by decide +kernel
theorem dX12_init_20 : decode cX12_init 20 = .ok (.aload_n 0, 1) := by decide +kernel
theorem dX12_init_21 : decode cX12_init 21 = .ok (.iconst 3, 1) := by decide +kernel
theorem dX12_init_22 : decode cX12_init 22 = .ok (.newarray .int, 2) := by decide +kernel
theorem dX12_init_24 : decode cX12_init 24 = .ok (.putfield 18, 3) := by decide +kernel
theorem dX12_init_27 : decode cX12_init 27 = .ok (.aload_n 0, 1) := by decide +kernel
theorem dX12_init_28 : decode cX12_init 28 = .ok (.iconst 3, 1) := by decide +kernel
theorem dX12_init_29 : decode cX12_init 29 = .ok (.newarray .int, 2) := by decide +kernel
theorem dX12_init_31 : decode cX12_init 31 = .ok (.putfield 21, 3) := by decide +kernel
theorem dX12_init_34 : decode cX12_init 34 = .ok (.aload_n 0, 1) := by decide +kernel
theorem dX12_init_35 : decode cX12_init 35 = .ok (.bipush 40, 2) := by decide +kernel
theorem dX12_init_37 : decode cX12_init 37 = .ok (.newarray .int, 2) := by decide +kernel
theorem dX12_init_39 : decode cX12_init 39 = .ok (.putfield 24, 3) := by decide +kernel
theorem dX12_init_42 : decode cX12_init 42 = .ok (.aload_n 0, 1) := by decide +kernel
theorem dX12_init_43 : decode cX12_init 43 = .ok (.bipush 40, 2) := by decide +kernel
theorem dX12_init_45 : decode cX12_init 45 = .ok (.newarray .int, 2) := by decide +kernel
theorem dX12_init_47 : decode cX12_init 47 = .ok (.putfield 27, 3) := by decide +kernel
theorem dX12_init_50 : decode cX12_init 50 = .ok (.aload_n 0, 1) := by decide +kernel
theorem dX12_init_51 : decode cX12_init 51 = .ok (.sipush 2600, 3) := by decide +kernel
theorem dX12_init_54 : decode cX12_init 54 = .ok (.newarray .byte, 2) := by decide +kernel
theorem dX12_init_56 : decode cX12_init 56 = .ok (.putfield 30, 3) := by decide +kernel
theorem dX12_init_59 : decode cX12_init 59 = .ok (.aload_n 0, 1) := by decide +kernel
theorem dX12_init_60 : decode cX12_init 60 = .ok (.bipush 35, 2) := by decide +kernel
theorem dX12_init_62 : decode cX12_init 62 = .ok (.newarray .long, 2) := by decide +kernel
theorem dX12_init_64 : decode cX12_init 64 = .ok (.dup, 1) := by decide +kernel
theorem dX12_init_65 : decode cX12_init 65 = .ok (.iconst 0, 1) := by decide +kernel
theorem dX12_init_66 : decode cX12_init 66 = .ok (.ldc2_w 33, 3) := by decide +kernel
theorem dX12_init_69 : decode cX12_init 69 = .ok (.lastore, 1) := by decide +kernel
theorem dX12_init_70 : decode cX12_init 70 = .ok (.dup, 1) := by decide +kernel
theorem dX12_init_71 : decode cX12_init 71 = .ok (.iconst 1, 1) := by decide +kernel
theorem dX12_init_72 : decode cX12_init 72 = .ok (.ldc2_w 35, 3) := by decide +kernel
theorem dX12_init_75 : decode cX12_init 75 = .ok (.lastore, 1) := by decide +kernel
theorem dX12_init_76 : decode cX12_init 76 = .ok (.dup, 1) := by decide +kernel
theorem dX12_init_77 : decode cX12_init 77 = .ok (.iconst 2, 1) := by decide +kernel
theorem dX12_init_78 : decode cX12_init 78 = .ok (.ldc2_w 37, 3) := by decide +kernel
theorem dX12_init_81 : decode cX12_init 81 = .ok (.lastore, 1) := by decide +kernel
theorem dX12_init_82 : decode cX12_init 82 = .ok (.dup, 1) := by decide +kernel
theorem dX12_init_83 : decode cX12_init 83 = .ok (.iconst 3, 1) := by decide +kernel
theorem dX12_init_84 : decode cX12_init 84 = .ok (.ldc2_w 39, 3) := by decide +kernel
theorem dX12_init_87 : decode cX12_init 87 = .ok (.lastore, 1) := by decide +kernel
theorem dX12_init_88 : decode cX12_init 88 = .ok (.dup, 1) := by decide +kernel
theorem dX12_init_89 : decode cX12_init 89 = .ok (.iconst 4, 1) := by decide +kernel
theorem dX12_init_90 : decode cX12_init 90 = .ok (.ldc2_w 41, 3) := by decide +kernel
theorem dX12_init_93 : decode cX12_init 93 = .ok (.lastore, 1) := by decide +kernel
theorem dX12_init_94 : decode cX12_init 94 = .ok (.dup, 1) := by decide +kernel
theorem dX12_init_95 : decode cX12_init 95 = .ok (.iconst 5, 1) := by decide +kernel
theorem dX12_init_96 : decode cX12_init 96 = .ok (.ldc2_w 43, 3) := by decide +kernel
theorem dX12_init_99 : decode cX12_init 99 = .ok (.lastore, 1) := by decide +kernel
theorem dX12_init_100 : decode cX12_init 100 = .ok (.dup, 1) := by decide +kernel
theorem dX12_init_101 : decode cX12_init 101 = .ok (.bipush 6, 2) := by decide +kernel
theorem dX12_init_103 : decode cX12_init 103 = .ok (.ldc2_w 45, 3) := by decide +kernel
theorem dX12_init_106 : decode cX12_init 106 = .ok (.lastore, 1) := by decide +kernel
theorem dX12_init_107 : decode cX12_init 107 = .ok (.dup, 1) := by decide +kernel
theorem dX12_init_108 : decode cX12_init 108 = .ok (.bipush 7, 2) := by decide +kernel
theorem dX12_init_110 : decode cX12_init 110 = .ok (.ldc2_w 47, 3) := by decide +kernel
theorem dX12_init_113 : decode cX12_init 113 = .ok (.lastore, 1) := by decide +kernel
theorem dX12_init_114 : decode cX12_init 114 = .ok (.dup, 1) := by decide +kernel
theorem dX12_init_115 : decode cX12_init 115 = .ok (.bipush 8, 2) := by decide +kernel
theorem dX12_init_117 : decode cX12_init 117 = .ok (.ldc2_w 49, 3) := by decide +kernel
theorem dX12_init_120 : decode cX12_init 120 = .ok (.lastore, 1) := by decide +kernel
theorem dX12_init_121 : decode cX12_init 121 = .ok (.dup, 1) := by decide +kernel
theorem dX12_init_122 : decode cX12_init 122 = .ok (.bipush 9, 2) := by decide +kernel
theorem dX12_init_124 : decode cX12_init 124 = .ok (.ldc2_w 51, 3) := by decide +kernel
theorem dX12_init_127 : decode cX12_init 127 = .ok (.lastore, 1) := by decide +kernel
theorem dX12_init_128 : decode cX12_init 128 = .ok (.dup, 1) := by decide +kernel
theorem dX12_init_129 : decode cX12_init 129 = .ok (.bipush 10, 2) := by decide +kernel
theorem dX12_init_131 : decode cX12_init 131 = .ok (.ldc2_w 53, 3) := by decide +kernel
theorem dX12_init_134 : decode cX12_init 134 = .ok (.lastore, 1) := by decide +kernel
theorem dX12_init_135 : decode cX12_init 135 = .ok (.dup, 1) := by decide +kernel
theorem dX12_init_136 : decode cX12_init 136 = .ok (.bipush 11, 2) := by decide +kernel
theorem dX12_init_138 : decode cX12_init 138 = .ok (.ldc2_w 55, 3) := by decide +kernel
theorem dX12_init_141 : decode cX12_init 141 = .ok (.lastore, 1) := by decide +kernel
theorem dX12_init_142 : decode cX12_init 142 = .ok (.dup, 1) := by decide +kernel
theorem dX12_init_143 : decode cX12_init 143 = .ok (.bipush 12, 2) := by decide +kernel
theorem dX12_init_145 : decode cX12_init 145 = .ok (.ldc2_w 57, 3) := by decide +kernel
theorem dX12_init_148 : decode cX12_init 148 = .ok (.lastore, 1) := by decide +kernel
theorem dX12_init_149 : decode cX12_init 149 = .ok (.dup, 1) := by decide +kernel
theorem dX12_init_150 : decode cX12_init 150 = .ok (.bipush 13, 2) := by decide +kernel
theorem dX12_init_152 : decode cX12_init 152 = .ok (.ldc2_w 59, 3) := by decide +kernel
theorem dX12_init_155 : decode cX12_init 155 = .ok (.lastore, 1) := by decide +kernel
theorem dX12_init_156 : decode cX12_init 156 = .ok (.dup, 1) := by decide +kernel
theorem dX12_init_157 : decode cX12_init 157 = .ok (.bipush 14, 2) := by decide +kernel
theorem dX12_init_159 : decode cX12_init 159 = .ok (.ldc2_w 61, 3) := by decide +kernel
theorem dX12_init_162 : decode cX12_init 162 = .ok (.lastore, 1) := by decide +kernel
theorem dX12_init_163 : decode cX12_init 163 = .ok (.dup, 1) := by decide +kernel
theorem dX12_init_164 : decode cX12_init 164 = .ok (.bipush 15, 2) := by decide +kernel
theorem dX12_init_166 : decode cX12_init 166 = .ok (.ldc2_w 63, 3) := by decide +kernel
theorem dX12_init_169 : decode cX12_init 169 = .ok (.lastore, 1) := by decide +kernel
theorem dX12_init_170 : decode cX12_init 170 = .ok (.dup, 1) := by decide +kernel
theorem dX12_init_171 : decode cX12_init 171 = .ok (.bipush 16, 2) := by decide +kernel
theorem dX12_init_173 : decode cX12_init 173 = .ok (.ldc2_w 65, 3) := by decide +kernel
theorem dX12_init_176 : decode cX12_init 176 = .ok (.lastore, 1) := by decide +kernel
theorem dX12_init_177 : decode cX12_init 177 = .ok (.dup, 1) := by decide +kernel
theorem dX12_init_178 : decode cX12_init 178 = .ok (.bipush 17, 2) := by decide +kernel
theorem dX12_init_180 : decode cX12_init 180 = .ok (.ldc2_w 67, 3) := by decide +kernel
theorem dX12_init_183 : decode cX12_init 183 = .ok (.lastore, 1) := by decide +kernel
theorem dX12_init_184 : decode cX12_init 184 = .ok (.dup, 1) := by decide +kernel
theorem dX12_init_185 : decode cX12_init 185 = .ok (.bipush 18, 2) := by decide +kernel
theorem dX12_init_187 : decode cX12_init 187 = .ok (.ldc2_w 69, 3) := by decide +kernel
theorem dX12_init_190 : decode cX12_init 190 = .ok (.lastore, 1) := by decide +kernel
theorem dX12_init_191 : decode cX12_init 191 = .ok (.dup, 1) := by decide +kernel
theorem dX12_init_192 : decode cX12_init 192 = .ok (.bipush 19, 2) := by decide +kernel
theorem dX12_init_194 : decode cX12_init 194 = .ok (.ldc2_w 71, 3) := by decide +kernel
theorem dX12_init_197 : decode cX12_init 197 = .ok (.lastore, 1) := by decide +kernel
theorem dX12_init_198 : decode cX12_init 198 = .ok (.dup, 1) := by decide +kernel
theorem dX12_init_199 : decode cX12_init 199 = .ok (.bipush 20, 2) := by decide +kernel
theorem dX12_init_201 : decode cX12_init 201 = .ok (.ldc2_w 73, 3) := by decide +kernel
theorem dX12_init_204 : decode cX12_init 204 = .ok (.lastore, 1) := by decide +kernel
theorem dX12_init_205 : decode cX12_init 205 = .ok (.dup, 1) := by decide +kernel
theorem dX12_init_206 : decode cX12_init 206 = .ok (.bipush 21, 2) := by decide +kernel
theorem dX12_init_208 : decode cX12_init 208 = .ok (.ldc2_w 75, 3) := by decide +kernel
theorem dX12_init_211 : decode cX12_init 211 = .ok (.lastore, 1) := by decide +kernel
theorem dX12_init_212 : decode cX12_init 212 = .ok (.dup, 1) := by decide +kernel
theorem dX12_init_213 : decode cX12_init 213 = .ok (.bipush 22, 2) := by decide +kernel
theorem dX12_init_215 : decode cX12_init 215 = .ok (.ldc2_w 77, 3) := by decide +kernel
theorem dX12_init_218 : decode cX12_init 218 = .ok (.lastore, 1) := by decide +kernel
theorem dX12_init_219 : decode cX12_init 219 = .ok (.dup, 1) := by decide +kernel
theorem dX12_init_220 : decode cX12_init 220 = .ok (.bipush 23, 2) := by decide +kernel
theorem dX12_init_222 : decode cX12_init 222 = .ok (.ldc2_w 79, 3) := by decide +kernel
theorem dX12_init_225 : decode cX12_init 225 = .ok (.lastore, 1) := by decide +kernel
theorem dX12_init_226 : decode cX12_init 226 = .ok (.dup, 1) := by decide +kernel
theorem dX12_init_227 : decode cX12_init 227 = .ok (.bipush 24, 2) := by decide +kernel
theorem dX12_init_229 : decode cX12_init 229 = .ok (.ldc2_w 81, 3) := by decide +kernel
theorem dX12_init_232 : decode cX12_init 232 = .ok (.lastore, 1) := by decide +kernel
theorem dX12_init_233 : decode cX12_init 233 = .ok (.dup, 1) := by decide +kernel
theorem dX12_init_234 : decode cX12_init 234 = .ok (.bipush 25, 2) := by decide +kernel
theorem dX12_init_236 : decode cX12_init 236 = .ok (.ldc2_w 83, 3) := by decide +kernel
theorem dX12_init_239 : decode cX12_init 239 = .ok (.lastore, 1) := by decide +kernel
theorem dX12_init_240 : decode cX12_init 240 = .ok (.dup, 1) := by decide +kernel
theorem dX12_init_241 : decode cX12_init 241 = .ok (.bipush 26, 2) := by decide +kernel
theorem dX12_init_243 : decode cX12_init 243 = .ok (.ldc2_w 85, 3) := by decide +kernel
theorem dX12_init_246 : decode cX12_init 246 = .ok (.lastore, 1) := by decide +kernel
theorem dX12_init_247 : decode cX12_init 247 = .ok (.dup, 1) := by decide +kernel
theorem dX12_init_248 : decode cX12_init 248 = .ok (.bipush 27, 2) := by decide +kernel
theorem dX12_init_250 : decode cX12_init 250 = .ok (.ldc2_w 87, 3) := by decide +kernel
theorem dX12_init_253 : decode cX12_init 253 = .ok (.lastore, 1) := by decide +kernel
theorem dX12_init_254 : decode cX12_init 254 = .ok (.dup, 1) := by decide +kernel
theorem dX12_init_255 : decode cX12_init 255 = .ok (.bipush 28, 2) := by decide +kernel
theorem dX12_init_257 : decode cX12_init 257 = .ok (.ldc2_w 89, 3) := by decide +kernel
theorem dX12_init_260 : decode cX12_init 260 = .ok (.lastore, 1) := by decide +kernel
theorem dX12_init_261 : decode cX12_init 261 = .ok (.dup, 1) := by decide +kernel
theorem dX12_init_262 : decode cX12_init 262 = .ok (.bipush 29, 2) := by decide +kernel
theorem dX12_init_264 : decode cX12_init 264 = .ok (.ldc2_w 91, 3) := by decide +kernel
theorem dX12_init_267 : decode cX12_init 267 = .ok (.lastore, 1) := by decide +kernel
theorem dX12_init_268 : decode cX12_init 268 = .ok (.dup, 1) := by decide +kernel
theorem dX12_init_269 : decode cX12_init 269 = .ok (.bipush 30, 2) := by decide +kernel
theorem dX12_init_271 : decode cX12_init 271 = .ok (.ldc2_w 93, 3) := by decide +kernel
theorem dX12_init_274 : decode cX12_init 274 = .ok (.lastore, 1) := by decide +kernel
theorem dX12_init_275 : decode cX12_init 275 = .ok (.dup, 1) := by decide +kernel
theorem dX12_init_276 : decode cX12_init 276 = .ok (.bipush 31, 2) := by decide +kernel
theorem dX12_init_278 : decode cX12_init 278 = .ok (.ldc2_w 95, 3) := by decide +kernel
theorem dX12_init_281 : decode cX12_init 281 = .ok (.lastore, 1) := by decide +kernel
theorem dX12_init_282 : decode cX12_init 282 = .ok (.dup, 1) := by decide +kernel
theorem dX12_init_283 : decode cX12_init 283 = .ok (.bipush 32, 2) := by decide +kernel
theorem dX12_init_285 : decode cX12_init 285 = .ok (.ldc2_w 97, 3) := by decide +kernel
theorem dX12_init_288 : decode cX12_init 288 = .ok (.lastore, 1) := by decide +kernel
theorem dX12_init_289 : decode cX12_init 289 = .ok (.dup, 1) := by decide +kernel
theorem dX12_init_290 : decode cX12_init 290 = .ok (.bipush 33, 2) := by decide +kernel
theorem dX12_init_292 : decode cX12_init 292 = .ok (.ldc2_w 99, 3) := by decide +kernel
theorem dX12_init_295 : decode cX12_init 295 = .ok (.lastore, 1) := by decide +kernel
theorem dX12_init_296 : decode cX12_init 296 = .ok (.dup, 1) := by decide +kernel
theorem dX12_init_297 : decode cX12_init 297 = .ok (.bipush 34, 2) := by decide +kernel
theorem dX12_init_299 : decode cX12_init 299 = .ok (.ldc2_w 101, 3) := by decide +kernel
theorem dX12_init_302 : decode cX12_init 302 = .ok (.lastore, 1) := by decide +kernel
theorem dX12_init_303 : decode cX12_init 303 = .ok (.putfield 103, 3) := by decide +kernel
theorem dX12_init_306 : decode cX12_init 306 = .ok (.aload_n 0, 1) := by decide +kernel
theorem dX12_init_307 : decode cX12_init 307 = .ok (.bipush 35, 2) := by decide +kernel
theorem dX12_init_309 : decode cX12_init 309 = .ok (.newarray .int, 2) := by decide +kernel
theorem dX12_init_311 : decode cX12_init 311 = .ok (.dup, 1) := by decide +kernel
theorem dX12_init_312 : decode cX12_init 312 = .ok (.iconst 0, 1) := by decide +kernel
theorem dX12_init_313 : decode cX12_init 313 = .ok (.iconst 0, 1) := by decide +kernel
theorem dX12_init_314 : decode cX12_init 314 = .ok (.iastore, 1) := by decide +kernel
theorem dX12_init_315 : decode cX12_init 315 = .ok (.dup, 1) := by decide +kernel
theorem dX12_init_316 : decode cX12_init 316 = .ok (.iconst 1, 1) := by decide +kernel
theorem dX12_init_317 : decode cX12_init 317 = .ok (.iconst 1, 1) := by decide +kernel
theorem dX12_init_318 : decode cX12_init 318 = .ok (.iastore, 1) := by decide +kernel
theorem dX12_init_319 : decode cX12_init 319 = .ok (.dup, 1) := by decide +kernel
theorem dX12_init_320 : decode cX12_init 320 = .ok (.iconst 2, 1) := by decide +kernel
theorem dX12_init_321 : decode cX12_init 321 = .ok (.iconst 2, 1) := by decide +kernel
theorem dX12_init_322 : decode cX12_init 322 = .ok (.iastore, 1) := by decide +kernel
theorem dX12_init_323 : decode cX12_init 323 = .ok (.dup, 1) := by decide +kernel
theorem dX12_init_324 : decode cX12_init 324 = .ok (.iconst 3, 1) := by decide +kernel
theorem dX12_init_325 : decode cX12_init 325 = .ok (.iconst 3, 1) := by decide +kernel
theorem dX12_init_326 : decode cX12_init 326 = .ok (.iastore, 1) := by decide +kernel
theorem dX12_init_327 : decode cX12_init 327 = .ok (.dup, 1) := by decide +kernel
theorem dX12_init_328 : decode cX12_init 328 = .ok (.iconst 4, 1) := by decide +kernel
theorem dX12_init_329 : decode cX12_init 329 = .ok (.iconst 4, 1) := by decide +kernel
theorem dX12_init_330 : decode cX12_init 330 = .ok (.iastore, 1) := by decide +kernel
theorem dX12_init_331 : decode cX12_init 331 = .ok (.dup, 1) := by decide +kernel
theorem dX12_init_332 : decode cX12_init 332 = .ok (.iconst 5, 1) := by decide +kernel
theorem dX12_init_333 : decode cX12_init 333 = .ok (.iconst 5, 1) := by decide +kernel
theorem dX12_init_334 : decode cX12_init 334 = .ok (.iastore, 1) := by decide +kernel
theorem dX12_init_335 : decode cX12_init 335 = .ok (.dup, 1) := by decide +kernel
theorem dX12_init_336 : decode cX12_init 336 = .ok (.bipush 6, 2) := by decide +kernel
theorem dX12_init_338 : decode cX12_init 338 = .ok (.bipush 6, 2) := by decide +kernel
theorem dX12_init_340 : decode cX12_init 340 = .ok (.iastore, 1) := by decide +kernel
theorem dX12_init_341 : decode cX12_init 341 = .ok (.dup, 1) := by decide +kernel
theorem dX12_init_342 : decode cX12_init 342 = .ok (.bipush 7, 2) := by decide +kernel
theorem dX12_init_344 : decode cX12_init 344 = .ok (.bipush 7, 2) := by decide +kernel
theorem dX12_init_346 : decode cX12_init 346 = .ok (.iastore, 1) := by decide +kernel
theorem dX12_init_347 : decode cX12_init 347 = .ok (.dup, 1) := by decide +kernel
theorem dX12_init_348 : decode cX12_init 348 = .ok (.bipush 8, 2) := by decide +kernel
theorem dX12_init_350 : decode cX12_init 350 = .ok (.bipush 8, 2) := by decide +kernel
theorem dX12_init_352 : decode cX12_init 352 = .ok (.iastore, 1) := by decide +kernel
theorem dX12_init_353 : decode cX12_init 353 = .ok (.dup, 1) := by decide +kernel
theorem dX12_init_354 : decode cX12_init 354 = .ok (.bipush 9, 2) := by decide +kernel
theorem dX12_init_356 : decode cX12_init 356 = .ok (.bipush 9, 2) := by decide +kernel
theorem dX12_init_358 : decode cX12_init 358 = .ok (.iastore, 1) := by decide +kernel
theorem dX12_init_359 : decode cX12_init 359 = .ok (.dup, 1) := by decide +kernel
theorem dX12_init_360 : decode cX12_init 360 = .ok (.bipush 10, 2) := by decide +kernel
theorem dX12_init_362 : decode cX12_init 362 = .ok (.bipush 10, 2) := by decide +kernel
theorem dX12_init_364 : decode cX12_init 364 = .ok (.iastore, 1) := by decide +kernel
theorem dX12_init_365 : decode cX12_init 365 = .ok (.dup, 1) := by decide +kernel
theorem dX12_init_366 : decode cX12_init 366 = .ok (.bipush 11, 2) := by decide +kernel
theorem dX12_init_368 : decode cX12_init 368 = .ok (.bipush 11, 2) := by decide +kernel
theorem dX12_init_370 : decode cX12_init 370 = .ok (.iastore, 1) := by decide +kernel
theorem dX12_init_371 : decode cX12_init 371 = .ok (.dup, 1) := by decide +kernel
theorem dX12_init_372 : decode cX12_init 372 = .ok (.bipush 12, 2) := by decide +kernel
theorem dX12_init_374 : decode cX12_init 374 = .ok (.bipush 20, 2) := by decide +kernel
theorem dX12_init_376 : decode cX12_init 376 = .ok (.iastore, 1) := by decide +kernel
theorem dX12_init_377 : decode cX12_init 377 = .ok (.dup, 1) := by decide +kernel
theorem dX12_init_378 : decode cX12_init 378 = .ok (.bipush 13, 2) := by decide +kernel
theorem dX12_init_380 : decode cX12_init 380 = .ok (.bipush 21, 2) := by decide +kernel
theorem dX12_init_382 : decode cX12_init 382 = .ok (.iastore, 1) := by decide +kernel
theorem dX12_init_383 : decode cX12_init 383 = .ok (.dup, 1) := by decide +kernel
theorem dX12_init_384 : decode cX12_init 384 = .ok (.bipush 14, 2) := by decide +kernel
theorem dX12_init_386 : decode cX12_init 386 = .ok (.bipush 22, 2) := by decide +kernel
theorem dX12_init_388 : decode cX12_init 388 = .ok (.iastore, 1) := by decide +kernel
theorem dX12_init_389 : decode cX12_init 389 = .ok (.dup, 1) := by decide +kernel
theorem dX12_init_390 : decode cX12_init 390 = .ok (.bipush 15, 2) := by decide +kernel
theorem dX12_init_392 : decode cX12_init 392 = .ok (.bipush 23, 2) := by decide +kernel
theorem dX12_init_394 : decode cX12_init 394 = .ok (.iastore, 1) := by decide +kernel
theorem dX12_init_395 : decode cX12_init 395 = .ok (.dup, 1) := by decide +kernel
theorem dX12_init_396 : decode cX12_init 396 = .ok (.bipush 16, 2) := by decide +kernel
theorem dX12_init_398 : decode cX12_init 398 = .ok (.bipush 24, 2) := by decide +kernel
theorem dX12_init_400 : decode cX12_init 400 = .ok (.iastore, 1) := by decide +kernel
theorem dX12_init_401 : decode cX12_init 401 = .ok (.dup, 1) := by decide +kernel
theorem dX12_init_402 : decode cX12_init 402 = .ok (.bipush 17, 2) := by decide +kernel
theorem dX12_init_404 : decode cX12_init 404 = .ok (.bipush 25, 2) := by decide +kernel
theorem dX12_init_406 : decode cX12_init 406 = .ok (.iastore, 1) := by decide +kernel
theorem dX12_init_407 : decode cX12_init 407 = .ok (.dup, 1) := by decide +kernel
theorem dX12_init_408 : decode cX12_init 408 = .ok (.bipush 18, 2) := by decide +kernel
theorem dX12_init_410 : decode cX12_init 410 = .ok (.bipush 30, 2) := by decide +kernel
theorem dX12_init_412 : decode cX12_init 412 = .ok (.iastore, 1) := by decide +kernel
theorem dX12_init_413 : decode cX12_init 413 = .ok (.dup, 1) := by decide +kernel
theorem dX12_init_414 : decode cX12_init 414 = .ok (.bipush 19, 2) := by decide +kernel
theorem dX12_init_416 : decode cX12_init 416 = .ok (.bipush 31, 2) := by decide +kernel
theorem dX12_init_418 : decode cX12_init 418 = .ok (.iastore, 1) := by decide +kernel
theorem dX12_init_419 : decode cX12_init 419 = .ok (.dup, 1) := by decide +kernel
theorem dX12_init_420 : decode cX12_init 420 = .ok (.bipush 20, 2) := by decide +kernel
theorem dX12_init_422 : decode cX12_init 422 = .ok (.bipush 32, 2) := by decide +kernel
theorem dX12_init_424 : decode cX12_init 424 = .ok (.iastore, 1) := by decide +kernel
theorem dX12_init_425 : decode cX12_init 425 = .ok (.dup, 1) := by decide +kernel
theorem dX12_init_426 : decode cX12_init 426 = .ok (.bipush 21, 2) := by decide +kernel
theorem dX12_init_428 : decode cX12_init 428 = .ok (.bipush 33, 2) := by decide +kernel
theorem dX12_init_430 : decode cX12_init 430 = .ok (.iastore, 1) := by decide +kernel
theorem dX12_init_431 : decode cX12_init 431 = .ok (.dup, 1) := by decide +kernel
theorem dX12_init_432 : decode cX12_init 432 = .ok (.bipush 22, 2) := by decide +kernel
theorem dX12_init_434 : decode cX12_init 434 = .ok (.bipush 34, 2) := by decide +kernel
theorem dX12_init_436 : decode cX12_init 436 = .ok (.iastore, 1) := by decide +kernel
theorem dX12_init_437 : decode cX12_init 437 = .ok (.dup, 1) := by decide +kernel
theorem dX12_init_438 : decode cX12_init 438 = .ok (.bipush 23, 2) := by decide +kernel
theorem dX12_init_440 : decode cX12_init 440 = .ok (.bipush 35, 2) := by decide +kernel
theorem dX12_init_442 : decode cX12_init 442 = .ok (.iastore, 1) := by decide +kernel
theorem dX12_init_443 : decode cX12_init 443 = .ok (.dup, 1) := by decide +kernel
theorem dX12_init_444 : decode cX12_init 444 = .ok (.bipush 24, 2) := by decide +kernel
theorem dX12_init_446 : decode cX12_init 446 = .ok (.bipush 36, 2) := by decide +kernel
theorem dX12_init_448 : decode cX12_init 448 = .ok (.iastore, 1) := by decide +kernel
theorem dX12_init_449 : decode cX12_init 449 = .ok (.dup, 1) := by decide +kernel
theorem dX12_init_450 : decode cX12_init 450 = .ok (.bipush 25, 2) := by decide +kernel
theorem dX12_init_452 : decode cX12_init 452 = .ok (.bipush 37, 2) := by decide +kernel
theorem dX12_init_454 : decode cX12_init 454 = .ok (.iastore, 1) := by decide +kernel
theorem dX12_init_455 : decode cX12_init 455 = .ok (.dup, 1) := by decide +kernel
theorem dX12_init_456 : decode cX12_init 456 = .ok (.bipush 26, 2) := by decide +kernel
theorem dX12_init_458 : decode cX12_init 458 = .ok (.bipush 40, 2) := by decide +kernel
theorem dX12_init_460 : decode cX12_init 460 = .ok (.iastore, 1) := by decide +kernel
theorem dX12_init_461 : decode cX12_init 461 = .ok (.dup, 1) := by decide +kernel
theorem dX12_init_462 : decode cX12_init 462 = .ok (.bipush 27, 2) := by decide +kernel
theorem dX12_init_464 : decode cX12_init 464 = .ok (.bipush 41, 2) := by decide +kernel
theorem dX12_init_466 : decode cX12_init 466 = .ok (.iastore, 1) := by decide +kernel
theorem dX12_init_467 : decode cX12_init 467 = .ok (.dup, 1) := by decide +kernel
theorem dX12_init_468 : decode cX12_init 468 = .ok (.bipush 28, 2) := by decide +kernel
theorem dX12_init_470 : decode cX12_init 470 = .ok (.bipush 42, 2) := by decide +kernel
theorem dX12_init_472 : decode cX12_init 472 = .ok (.iastore, 1) := by decide +kernel
theorem dX12_init_473 : decode cX12_init 473 = .ok (.dup, 1) := by decide +kernel
theorem dX12_init_474 : decode cX12_init 474 = .ok (.bipush 29, 2) := by decide +kernel
theorem dX12_init_476 : decode cX12_init 476 = .ok (.bipush 43, 2) := by decide +kernel
theorem dX12_init_478 : decode cX12_init 478 = .ok (.iastore, 1) := by decide +kernel
theorem dX12_init_479 : decode cX12_init 479 = .ok (.dup, 1) := by decide +kernel
theorem dX12_init_480 : decode cX12_init 480 = .ok (.bipush 30, 2) := by decide +kernel
theorem dX12_init_482 : decode cX12_init 482 = .ok (.bipush 44, 2) := by decide +kernel
theorem dX12_init_484 : decode cX12_init 484 = .ok (.iastore, 1) := by decide +kernel
theorem dX12_init_485 : decode cX12_init 485 = .ok (.dup, 1) := by decide +kernel
theorem dX12_init_486 : decode cX12_init 486 = .ok (.bipush 31, 2) := by decide +kernel
theorem dX12_init_488 : decode cX12_init 488 = .ok (.bipush 45, 2) := by decide +kernel
theorem dX12_init_490 : decode cX12_init 490 = .ok (.iastore, 1) := by decide +kernel
theorem dX12_init_491 : decode cX12_init 491 = .ok (.dup, 1) := by decide +kernel
theorem dX12_init_492 : decode cX12_init 492 = .ok (.bipush 32, 2) := by decide +kernel
theorem dX12_init_494 : decode cX12_init 494 = .ok (.bipush 46, 2) := by decide +kernel
theorem dX12_init_496 : decode cX12_init 496 = .ok (.iastore, 1) := by decide +kernel
theorem dX12_init_497 : decode cX12_init 497 = .ok (.dup, 1) := by decide +kernel
theorem dX12_init_498 : decode cX12_init 498 = .ok (.bipush 33, 2) := by decide +kernel
theorem dX12_init_500 : decode cX12_init 500 = .ok (.bipush 47, 2) := by decide +kernel
theorem dX12_init_502 : decode cX12_init 502 = .ok (.iastore, 1) := by decide +kernel
theorem dX12_init_503 : decode cX12_init 503 = .ok (.dup, 1) := by decide +kernel
theorem dX12_init_504 : decode cX12_init 504 = .ok (.bipush 34, 2) := by decide +kernel
theorem dX12_init_506 : decode cX12_init 506 = .ok (.bipush 48, 2) := by decide +kernel
theorem dX12_init_508 : decode cX12_init 508 = .ok (.iastore, 1) := by decide +kernel
theorem dX12_init_509 : decode cX12_init 509 = .ok (.putfield 107, 3) := by decide +kernel
theorem dX12_init_512 : decode cX12_init 512 = .ok (.aload_n 0, 1) := by decide +kernel
theorem dX12_init_513 : decode cX12_init 513 = .ok (.bipush 60, 2) := by decide +kernel
theorem dX12_init_515 : decode cX12_init 515 = .ok (.newarray .long, 2) := by decide +kernel
theorem dX12_init_517 : decode cX12_init 517 = .ok (.putfield 110, 3) := by decide +kernel
theorem dX12_init_520 : decode cX12_init 520 = .ok (.aload_n 0, 1) := by decide +kernel
theorem dX12_init_521 : decode cX12_init 521 = .ok (.bipush 60, 2) := by decide +kernel
theorem dX12_init_523 : decode cX12_init 523 = .ok (.newarray .int, 2) := by decide +kernel
theorem dX12_init_525 : decode cX12_init 525 = .ok (.putfield 113, 3) := by decide +kernel
theorem dX12_init_528 : decode cX12_init 528 = .ok (.aload_n 0, 1) := by decide +kernel
theorem dX12_init_529 : decode cX12_init 529 = .ok (.bipush 60, 2) := by decide +kernel
theorem dX12_init_531 : decode cX12_init 531 = .ok (.newarray .int, 2) := by decide +kernel
theorem dX12_init_533 : decode cX12_init 533 = .ok (.putfield 116, 3) := by decide +kernel
theorem dX12_init_536 : decode cX12_init 536 = .ok (.aload_n 0, 1) := by decide +kernel
theorem dX12_init_537 : decode cX12_init 537 = .ok (.bipush 60, 2) := by decide +kernel
theorem dX12_init_539 : decode cX12_init 539 = .ok (.newarray .int, 2) := by decide +kernel
theorem dX12_init_541 : decode cX12_init 541 = .ok (.putfield 119, 3) := by decide +kernel
theorem dX12_init_544 : decode cX12_init 544 = .ok (.aload_n 0, 1) := by decide +kernel
theorem dX12_init_545 : decode cX12_init 545 = .ok (.bipush 60, 2) := by decide +kernel
theorem dX12_init_547 : decode cX12_init 547 = .ok (.newarray .int, 2) := by decide +kernel
theorem dX12_init_549 : decode cX12_init 549 = .ok (.putfield 122, 3) := by decide +kernel
theorem dX12_init_552 : decode cX12_init 552 = .ok (.aload_n 0, 1) := by decide +kernel
theorem dX12_init_553 : decode cX12_init 553 = .ok (.sipush 5200, 3) := by decide +kernel
theorem dX12_init_556 : decode cX12_init 556 = .ok (.newarray .int, 2) := by decide +kernel
theorem dX12_init_558 : decode cX12_init 558 = .ok (.putfield 125, 3) := by decide +kernel
theorem dX12_init_561 : decode cX12_init 561 = .ok (.aload_n 0, 1) := by decide +kernel
theorem dX12_init_562 : decode cX12_init 562 = .ok (.sipush 5200, 3) := by decide +kernel
theorem dX12_init_565 : decode cX12_init 565 = .ok (.newarray .byte, 2) := by decide +kernel
theorem dX12_init_567 : decode cX12_init 567 = .ok (.putfield 128, 3) := by decide +kernel
theorem dX12_init_570 : decode cX12_init 570 = .ok (.aload_n 0, 1) := by decide +kernel
theorem dX12_init_571 : decode cX12_init 571 = .ok (.bipush 100, 2) := by decide +kernel
theorem dX12_init_573 : decode cX12_init 573 = .ok (.newarray .byte, 2) := by decide +kernel
theorem dX12_init_575 : decode cX12_init 575 = .ok (.putfield 131, 3) := by decide +kernel
theorem dX12_init_578 : decode cX12_init 578 = .ok (.return_, 1) := by decide +kernel
theorem dX12_throwsIf_0 : decode cX12_throwsIf 0 = .ok (.aload_n 0, 1) := by decide +kernel
theorem dX12_throwsIf_1 : decode cX12_throwsIf 1 = .ok (.iload_n 1, 1) := by decide +kernel
theorem dX12_throwsIf_2 : decode cX12_throwsIf 2 = .ok (.ifCond .eq 7, 3) := by decide +kernel
theorem dX12_throwsIf_5 : decode cX12_throwsIf 5 = .ok (.iconst 1, 1) := by decide +kernel
theorem dX12_throwsIf_6 : decode cX12_throwsIf 6 = .ok (.goto 4, 3) := by decide +kernel
theorem dX12_throwsIf_9 : decode cX12_throwsIf 9 = .ok (.iconst 0, 1) := by decide +kernel
theorem dX12_throwsIf_10 : decode cX12_throwsIf 10 = .ok (.putfield 134, 3) := by decide +kernel
theorem dX12_throwsIf_13 : decode cX12_throwsIf 13 = .ok (.iload_n 1, 1) := by decide +kernel
theorem dX12_throwsIf_14 : decode cX12_throwsIf 14 = .ok (.ireturn, 1) := by decide +kernel
theorem dX12_reset_0 : decode cX12_reset 0 = .ok (.aload_n 0, 1) := by decide +kernel
theorem dX12_reset_1 : decode cX12_reset 1 = .ok (.iconst 0, 1) := by decide +kernel
theorem dX12_reset_2 : decode cX12_reset 2 = .ok (.putfield 134, 3) := by decide +kernel
theorem dX12_reset_5 : decode cX12_reset 5 = .ok (.iconst 0, 1) := by decide +kernel
theorem dX12_reset_6 : decode cX12_reset 6 = .ok (.istore_n 1, 1) := by decide +kernel
theorem dX12_reset_7 : decode cX12_reset 7 = .ok (.iload_n 1, 1) := by decide +kernel
theorem dX12_reset_8 : decode cX12_reset 8 = .ok (.bipush 16, 2) := by decide +kernel
theorem dX12_reset_10 : decode cX12_reset 10 = .ok (.if_icmp .ge 16, 3) := by decide +kernel
theorem dX12_reset_13 : decode cX12_reset 13 = .ok (.aload_n 0, 1) := by decide +kernel
theorem dX12_reset_14 : decode cX12_reset 14 = .ok (.getfield 14, 3) := by decide +kernel
theorem dX12_reset_17 : decode cX12_reset 17 = .ok (.iload_n 1, 1) := by decide +kernel
theorem dX12_reset_18 : decode cX12_reset 18 = .ok (.iconst 0, 1) := by decide +kernel
theorem dX12_reset_19 : decode cX12_reset 19 = .ok (.iastore, 1) := by decide +kernel
theorem dX12_reset_20 : decode cX12_reset 20 = .ok (.iinc 1 1, 3) := by decide +kernel
theorem dX12_reset_23 : decode cX12_reset 23 = .ok (.goto (-16), 3) := by decide +kernel
theorem dX12_reset_26 : decode cX12_reset 26 = .ok (.aload_n 0, 1) := by decide +kernel
theorem dX12_reset_27 : decode cX12_reset 27 = .ok (.iconst 0, 1) := by decide +kernel
theorem dX12_reset_28 : decode cX12_reset 28 = .ok (.putfield 138, 3) := by decide +kernel
theorem dX12_reset_31 : decode cX12_reset 31 = .ok (.aload_n 0, 1) := by decide +kernel
theorem dX12_reset_32 : decode cX12_reset 32 = .ok (.iconst 0, 1) := by decide +kernel
theorem dX12_reset_33 : decode cX12_reset 33 = .ok (.putfield 141, 3) := by decide +kernel
theorem dX12_reset_36 : decode cX12_reset 36 = .ok (.aload_n 0, 1) := by decide +kernel
theorem dX12_reset_37 : decode cX12_reset 37 = .ok (.iconst 0, 1) := by decide +kernel
theorem dX12_reset_38 : decode cX12_reset 38 = .ok (.putfield 144, 3) := by decide +kernel
theorem dX12_reset_41 : decode cX12_reset 41 = .ok (.aload_n 0, 1) := by decide +kernel
theorem dX12_reset_42 : decode cX12_reset 42 = .ok (.iconst 0, 1) := by decide +kernel
theorem dX12_reset_43 : decode cX12_reset 43 = .ok (.putfield 147, 3) := by decide +kernel
theorem dX12_reset_46 : decode cX12_reset 46 = .ok (.aload_n 0, 1) := by decide +kernel
theorem dX12_reset_47 : decode cX12_reset 47 = .ok (.iconst 0, 1) := by decide +kernel
theorem dX12_reset_48 : decode cX12_reset 48 = .ok (.putfield 150, 3) := by decide +kernel
theorem dX12_reset_51 : decode cX12_reset 51 = .ok (.aload_n 0, 1) := by decide +kernel
theorem dX12_reset_52 : decode cX12_reset 52 = .ok (.iconst 0, 1) := by decide +kernel
theorem dX12_reset_53 : decode cX12_reset 53 = .ok (.putfield 153, 3) := by decide +kernel
theorem dX12_reset_56 : decode cX12_reset 56 = .ok (.aload_n 0, 1) := by decide +kernel
theorem dX12_reset_57 : decode cX12_reset 57 = .ok (.iconst 0, 1) := by decide +kernel
theorem dX12_reset_58 : decode cX12_reset 58 = .ok (.putfield 156, 3) := by decide +kernel
theorem dX12_reset_61 : decode cX12_reset 61 = .ok (.aload_n 0, 1) := by decide +kernel
theorem dX12_reset_62 : decode cX12_reset 62 = .ok (.iconst 0, 1) := by decide +kernel
theorem dX12_reset_63 : decode cX12_reset 63 = .ok (.putfield 159, 3) := by decide +kernel
theorem dX12_reset_66 : decode cX12_reset 66 = .ok (.aload_n 0, 1) := by decide +kernel
theorem dX12_reset_67 : decode cX12_reset 67 = .ok (.iconst 0, 1) := by decide +kernel
theorem dX12_reset_68 : decode cX12_reset 68 = .ok (.putfield 162, 3) := by decide +kernel
theorem dX12_reset_71 : decode cX12_reset 71 = .ok (.aload_n 0, 1) := by decide +kernel
theorem dX12_reset_72 : decode cX12_reset 72 = .ok (.iconst 0, 1) := by decide +kernel
theorem dX12_reset_73 : decode cX12_reset 73 = .ok (.putfield 165, 3) := by decide +kernel
theorem dX12_reset_76 : decode cX12_reset 76 = .ok (.aload_n 0, 1) := by decide +kernel
theorem dX12_reset_77 : decode cX12_reset 77 = .ok (.iconst 0, 1) := by decide +kernel
theorem dX12_reset_78 : decode cX12_reset 78 = .ok (.putfield 168, 3) := by decide +kernel
theorem dX12_reset_81 : decode cX12_reset 81 = .ok (.aload_n 0, 1) := by decide +kernel
theorem dX12_reset_82 : decode cX12_reset 82 = .ok (.iconst 0, 1) := by decide +kernel
theorem dX12_reset_83 : decode cX12_reset 83 = .ok (.putfield 171, 3) := by decide +kernel
theorem dX12_reset_86 : decode cX12_reset 86 = .ok (.aload_n 0, 1) := by decide +kernel
theorem dX12_reset_87 : decode cX12_reset 87 = .ok (.iconst 0, 1) := by decide +kernel
theorem dX12_reset_88 : decode cX12_reset 88 = .ok (.putfield 174, 3) := by decide +kernel
theorem dX12_reset_91 : decode cX12_reset 91 = .ok (.aload_n 0, 1) := by decide +kernel
theorem dX12_reset_92 : decode cX12_reset 92 = .ok (.iconst 0, 1) := by decide +kernel
theorem dX12_reset_93 : decode cX12_reset 93 = .ok (.putfield 177, 3) := by decide +kernel
theorem dX12_reset_96 : decode cX12_reset 96 = .ok (.aload_n 0, 1) := by decide +kernel
theorem dX12_reset_97 : decode cX12_reset 97 = .ok (.iconst 0, 1) := by decide +kernel
theorem dX12_reset_98 : decode cX12_reset 98 = .ok (.putfield 180, 3) := by decide +kernel
theorem dX12_reset_101 : decode cX12_reset 101 = .ok (.iconst 0, 1) := by decide +kernel
theorem dX12_reset_102 : decode cX12_reset 102 = .ok (.istore_n 1, 1) := by decide +kernel
theorem dX12_reset_103 : decode cX12_reset 103 = .ok (.iload_n 1, 1) := by decide +kernel
theorem dX12_reset_104 : decode cX12_reset 104 = .ok (.iconst 3, 1) := by decide +kernel
theorem dX12_reset_105 : decode cX12_reset 105 = .ok (.if_icmp .ge 23, 3) := by decide +kernel
theorem dX12_reset_108 : decode cX12_reset 108 = .ok (.aload_n 0, 1) := by decide +kernel
theorem dX12_reset_109 : decode cX12_reset 109 = .ok (.getfield 18, 3) := by decide +kernel
theorem dX12_reset_112 : decode cX12_reset 112 = .ok (.iload_n 1, 1) := by decide +kernel
theorem dX12_reset_113 : decode cX12_reset 113 = .ok (.iconst 0, 1) := by decide +kernel
theorem dX12_reset_114 : decode cX12_reset 114 = .ok (.iastore, 1) := by decide +kernel
theorem dX12_reset_115 : decode cX12_reset 115 = .ok (.aload_n 0, 1) := by decide +kernel
theorem dX12_reset_116 : decode cX12_reset 116 = .ok (.getfield 21, 3) := by decide +kernel
theorem dX12_reset_119 : decode cX12_reset 119 = .ok (.iload_n 1, 1) := by decide +kernel
theorem dX12_reset_120 : decode cX12_reset 120 = .ok (.iconst 0, 1) := by decide +kernel
theorem dX12_reset_121 : decode cX12_reset 121 = .ok (.iastore, 1) := by decide +kernel
theorem dX12_reset_122 : decode cX12_reset 122 = .ok (.iinc 1 1, 3) := by decide +kernel
theorem dX12_reset_125 : decode cX12_reset 125 = .ok (.goto (-22), 3) := by decide +kernel
theorem dX12_reset_128 : decode cX12_reset 128 = .ok (.aload_n 0, 1) := by decide +kernel
theorem dX12_reset_129 : decode cX12_reset 129 = .ok (.iconst 0, 1) := by decide +kernel
theorem dX12_reset_130 : decode cX12_reset 130 = .ok (.putfield 184, 3) := by decide +kernel
theorem dX12_reset_133 : decode cX12_reset 133 = .ok (.aload_n 0, 1) := by decide +kernel
theorem dX12_reset_134 : decode cX12_reset 134 = .ok (.iconst 0, 1) := by decide +kernel
theorem dX12_reset_135 : decode cX12_reset 135 = .ok (.putfield 187, 3) := by decide +kernel
theorem dX12_reset_138 : decode cX12_reset 138 = .ok (.aload_n 0, 1) := by decide +kernel
theorem dX12_reset_139 : decode cX12_reset 139 = .ok (.iconst 0, 1) := by decide +kernel
theorem dX12_reset_140 : decode cX12_reset 140 = .ok (.putfield 190, 3) := by decide +kernel
theorem dX12_reset_143 : decode cX12_reset 143 = .ok (.aload_n 0, 1) := by decide +kernel
theorem dX12_reset_144 : decode cX12_reset 144 = .ok (.iconst 0, 1) := by decide +kernel
theorem dX12_reset_145 : decode cX12_reset 145 = .ok (.putfield 193, 3) := by decide +kernel
theorem dX12_reset_148 : decode cX12_reset 148 = .ok (.aload_n 0, 1) := by decide +kernel
theorem dX12_reset_149 : decode cX12_reset 149 = .ok (.iconst 0, 1) := by decide +kernel
theorem dX12_reset_150 : decode cX12_reset 150 = .ok (.aload_n 0, 1) := by decide +kernel
theorem dX12_reset_151 : decode cX12_reset 151 = .ok (.ldc 196, 2) := by decide +kernel
theorem dX12_reset_153 : decode cX12_reset 153 = .ok (.invokevirtual 197, 3) := by decide +kernel
theorem dX12_reset_156 : decode cX12_reset 156 = .ok (.invokevirtual 201, 3) := by decide +kernel
theorem dX12_reset_159 : decode cX12_reset 159 = .ok (.return_, 1) := by decide +kernel
theorem dX12_write_0 : decode cX12_write 0 = .ok (.iload_n 1, 1) := by decide +kernel
theorem dX12_write_1 : decode cX12_write 1 = .ok (.iconst 3, 1) := by decide +kernel
theorem dX12_write_2 : decode cX12_write 2 = .ok (.if_icmp .ne 4, 3) := by decide +kernel
theorem dX12_write_5 : decode cX12_write 5 = .ok (.return_, 1) := by decide +kernel
theorem dX12_write_6 : decode cX12_write 6 = .ok (.aload_n 0, 1) := by decide +kernel
theorem dX12_write_7 : decode cX12_write 7 = .ok (.getfield 14, 3) := by decide +kernel
theorem dX12_write_10 : decode cX12_write 10 = .ok (.iload_n 1, 1) := by decide +kernel
theorem dX12_write_11 : decode cX12_write 11 = .ok (.iload_n 1, 1) := by decide +kernel
theorem dX12_write_12 : decode cX12_write 12 = .ok (.iconst 2, 1) := by decide +kernel
theorem dX12_write_13 : decode cX12_write 13 = .ok (.if_icmp .ge 10, 3) := by decide +kernel
theorem dX12_write_16 : decode cX12_write 16 = .ok (.iload_n 2, 1) := by decide +kernel
theorem dX12_write_17 : decode cX12_write 17 = .ok (.ldc 196, 2) := by decide +kernel
theorem dX12_write_19 : decode cX12_write 19 = .ok (.iand, 1) := by decide +kernel
theorem dX12_write_20 : decode cX12_write 20 = .ok (.goto 20, 3) := by decide +kernel
theorem dX12_write_23 : decode cX12_write 23 = .ok (.iload_n 1, 1) := by decide +kernel
theorem dX12_write_24 : decode cX12_write 24 = .ok (.iconst 2, 1) := by decide +kernel
theorem dX12_write_25 : decode cX12_write 25 = .ok (.if_icmp .ne 11, 3) := by decide +kernel
theorem dX12_write_28 : decode cX12_write 28 = .ok (.iload_n 2, 1) := by decide +kernel
theorem dX12_write_29 : decode cX12_write 29 = .ok (.sipush 511, 3) := by decide +kernel
theorem dX12_write_32 : decode cX12_write 32 = .ok (.iand, 1) := by decide +kernel
theorem dX12_write_33 : decode cX12_write 33 = .ok (.goto 7, 3) := by decide +kernel
theorem dX12_write_36 : decode cX12_write 36 = .ok (.iload_n 2, 1) := by decide +kernel
theorem dX12_write_37 : decode cX12_write 37 = .ok (.ldc 205, 2) := by decide +kernel
theorem dX12_write_39 : decode cX12_write 39 = .ok (.iand, 1) := by decide +kernel
theorem dX12_write_40 : decode cX12_write 40 = .ok (.iastore, 1) := by decide +kernel
theorem dX12_write_41 : decode cX12_write 41 = .ok (.return_, 1) := by decide +kernel
theorem dX12_vector_0 : decode cX12_vector 0 = .ok (.aload_n 0, 1) := by decide +kernel
theorem dX12_vector_1 : decode cX12_vector 1 = .ok (.getfield 18, 3) := by decide +kernel
theorem dX12_vector_4 : decode cX12_vector 4 = .ok (.iconst 1, 1) := by decide +kernel
theorem dX12_vector_5 : decode cX12_vector 5 = .ok (.iaload, 1) := by decide +kernel
theorem dX12_vector_6 : decode cX12_vector 6 = .ok (.bipush 17, 2) := by decide +kernel
theorem dX12_vector_8 : decode cX12_vector 8 = .ok (.iand, 1) := by decide +kernel
theorem dX12_vector_9 : decode cX12_vector 9 = .ok (.bipush 17, 2) := by decide +kernel
theorem dX12_vector_11 : decode cX12_vector 11 = .ok (.if_icmp .ne 7, 3) := by decide +kernel
theorem dX12_vector_14 : decode cX12_vector 14 = .ok (.iconst 2, 1) := by decide +kernel
theorem dX12_vector_15 : decode cX12_vector 15 = .ok (.goto 37, 3) := by decide +kernel
theorem dX12_vector_18 : decode cX12_vector 18 = .ok (.aload_n 0, 1) := by decide +kernel
theorem dX12_vector_19 : decode cX12_vector 19 = .ok (.getfield 18, 3) := by decide +kernel
theorem dX12_vector_22 : decode cX12_vector 22 = .ok (.iconst 2, 1) := by decide +kernel
theorem dX12_vector_23 : decode cX12_vector 23 = .ok (.iaload, 1) := by decide +kernel
theorem dX12_vector_24 : decode cX12_vector 24 = .ok (.bipush 17, 2) := by decide +kernel
theorem dX12_vector_26 : decode cX12_vector 26 = .ok (.iand, 1) := by decide +kernel
theorem dX12_vector_27 : decode cX12_vector 27 = .ok (.bipush 17, 2) := by decide +kernel
theorem dX12_vector_29 : decode cX12_vector 29 = .ok (.if_icmp .ne 7, 3) := by decide +kernel
theorem dX12_vector_32 : decode cX12_vector 32 = .ok (.iconst 4, 1) := by decide +kernel
theorem dX12_vector_33 : decode cX12_vector 33 = .ok (.goto 19, 3) := by decide +kernel
theorem dX12_vector_36 : decode cX12_vector 36 = .ok (.aload_n 0, 1) := by decide +kernel
theorem dX12_vector_37 : decode cX12_vector 37 = .ok (.getfield 171, 3) := by decide +kernel
theorem dX12_vector_40 : decode cX12_vector 40 = .ok (.iconst 3, 1) := by decide +kernel
theorem dX12_vector_41 : decode cX12_vector 41 = .ok (.iand, 1) := by decide +kernel
theorem dX12_vector_42 : decode cX12_vector 42 = .ok (.iconst 3, 1) := by decide +kernel
theorem dX12_vector_43 : decode cX12_vector 43 = .ok (.if_icmp .ne 8, 3) := by decide +kernel
theorem dX12_vector_46 : decode cX12_vector 46 = .ok (.bipush 10, 2) := by decide +kernel
theorem dX12_vector_48 : decode cX12_vector 48 = .ok (.goto 4, 3) := by decide +kernel
theorem dX12_vector_51 : decode cX12_vector 51 = .ok (.iconst 0, 1) := by decide +kernel
theorem dX12_vector_52 : decode cX12_vector 52 = .ok (.ireturn, 1) := by decide +kernel
theorem dX12_clearVector_0 : decode cX12_clearVector 0 = .ok (.aload_n 0, 1) := by decide +kernel
theorem dX12_clearVector_1 : decode cX12_clearVector 1 = .ok (.invokevirtual 206, 3) := by decide +kernel
theorem dX12_clearVector_4 : decode cX12_clearVector 4 = .ok (.istore_n 1, 1) := by decide +kernel
theorem dX12_clearVector_5 : decode cX12_clearVector 5 = .ok (.iload_n 1, 1) := by decide +kernel
theorem dX12_clearVector_6 : decode cX12_clearVector 6 = .ok (.iconst 2, 1) := by decide +kernel
theorem dX12_clearVector_7 : decode cX12_clearVector 7 = .ok (.if_icmp .ne 14, 3) := by decide +kernel
theorem dX12_clearVector_10 : decode cX12_clearVector 10 = .ok (.aload_n 0, 1) := by decide +kernel
theorem dX12_clearVector_11 : decode cX12_clearVector 11 = .ok (.getfield 18, 3) := by decide +kernel
theorem dX12_clearVector_14 : decode cX12_clearVector 14 = .ok (.iconst 1, 1) := by decide +kernel
theorem dX12_clearVector_15 : decode cX12_clearVector 15 = .ok (.dup2, 1) := by decide +kernel
theorem dX12_clearVector_16 : decode cX12_clearVector 16 = .ok (.iaload, 1) := by decide +kernel
theorem dX12_clearVector_17 : decode cX12_clearVector 17 = .ok (.bipush (-2), 2) := by decide +kernel
theorem dX12_clearVector_19 : decode cX12_clearVector 19 = .ok (.iand, 1) := by decide +kernel
theorem dX12_clearVector_20 : decode cX12_clearVector 20 = .ok (.iastore, 1) := by decide +kernel
theorem dX12_clearVector_21 : decode cX12_clearVector 21 = .ok (.iload_n 1, 1) := by decide +kernel
theorem dX12_clearVector_22 : decode cX12_clearVector 22 = .ok (.iconst 4, 1) := by decide +kernel
theorem dX12_clearVector_23 : decode cX12_clearVector 23 = .ok (.if_icmp .ne 14, 3) := by decide +kernel
theorem dX12_clearVector_26 : decode cX12_clearVector 26 = .ok (.aload_n 0, 1) := by decide +kernel
theorem dX12_clearVector_27 : decode cX12_clearVector 27 = .ok (.getfield 18, 3) := by decide +kernel
theorem dX12_clearVector_30 : decode cX12_clearVector 30 = .ok (.iconst 2, 1) := by decide +kernel
theorem dX12_clearVector_31 : decode cX12_clearVector 31 = .ok (.dup2, 1) := by decide +kernel
theorem dX12_clearVector_32 : decode cX12_clearVector 32 = .ok (.iaload, 1) := by decide +kernel
theorem dX12_clearVector_33 : decode cX12_clearVector 33 = .ok (.bipush (-2), 2) := by decide +kernel
theorem dX12_clearVector_35 : decode cX12_clearVector 35 = .ok (.iand, 1) := by decide +kernel
theorem dX12_clearVector_36 : decode cX12_clearVector 36 = .ok (.iastore, 1) := by decide +kernel
theorem dX12_clearVector_37 : decode cX12_clearVector 37 = .ok (.iload_n 1, 1) := by decide +kernel
theorem dX12_clearVector_38 : decode cX12_clearVector 38 = .ok (.bipush 10, 2) := by decide +kernel
theorem dX12_clearVector_40 : decode cX12_clearVector 40 = .ok (.if_icmp .ne 14, 3) := by decide +kernel
theorem dX12_clearVector_43 : decode cX12_clearVector 43 = .ok (.aload_n 0, 1) := by decide +kernel
theorem dX12_clearVector_44 : decode cX12_clearVector 44 = .ok (.dup, 1) := by decide +kernel
theorem dX12_clearVector_45 : decode cX12_clearVector 45 = .ok (.getfield 171, 3) := by decide +kernel
theorem dX12_clearVector_48 : decode cX12_clearVector 48 = .ok (.bipush (-2), 2) := by decide +kernel
theorem dX12_clearVector_50 : decode cX12_clearVector 50 = .ok (.iand, 1) := by decide +kernel
theorem dX12_clearVector_51 : decode cX12_clearVector 51 = .ok (.putfield 171, 3) := by decide +kernel
theorem dX12_clearVector_54 : decode cX12_clearVector 54 = .ok (.return_, 1) := by decide +kernel
theorem dX12_thing_0 : decode cX12_thing 0 = .ok (.iload_n 1, 1) := by decide +kernel
theorem dX12_thing_1 : decode cX12_thing 1 = .ok (.lookupswitch 205 #[(302, 139), (304, 144), (306, 144), (308, 144), (312, 149), (314, 154), (316, 159), (318, 164), (352, 169), (354, 174), (356, 174), (358, 174), (368, 187), (370, 192), (372, 192), (374, 192)], 139) := by decide +kernel
theorem dX12_thing_140 : decode cX12_thing 140 = .ok (.aload_n 0, 1) := by decide +kernel
theorem dX12_thing_141 : decode cX12_thing 141 = .ok (.invokevirtual 206, 3) := by decide +kernel
theorem dX12_thing_144 : decode cX12_thing 144 = .ok (.ireturn, 1) := by decide +kernel
theorem dX12_thing_145 : decode cX12_thing 145 = .ok (.aload_n 0, 1) := by decide +kernel
theorem dX12_thing_146 : decode cX12_thing 146 = .ok (.getfield 153, 3) := by decide +kernel
theorem dX12_thing_149 : decode cX12_thing 149 = .ok (.ireturn, 1) := by decide +kernel
theorem dX12_thing_150 : decode cX12_thing 150 = .ok (.aload_n 0, 1) := by decide +kernel
theorem dX12_thing_151 : decode cX12_thing 151 = .ok (.getfield 159, 3) := by decide +kernel
theorem dX12_thing_154 : decode cX12_thing 154 = .ok (.ireturn, 1) := by decide +kernel
theorem dX12_thing_155 : decode cX12_thing 155 = .ok (.aload_n 0, 1) := by decide +kernel
theorem dX12_thing_156 : decode cX12_thing 156 = .ok (.getfield 162, 3) := by decide +kernel
theorem dX12_thing_159 : decode cX12_thing 159 = .ok (.ireturn, 1) := by decide +kernel
theorem dX12_thing_160 : decode cX12_thing 160 = .ok (.aload_n 0, 1) := by decide +kernel
theorem dX12_thing_161 : decode cX12_thing 161 = .ok (.getfield 165, 3) := by decide +kernel
theorem dX12_thing_164 : decode cX12_thing 164 = .ok (.ireturn, 1) := by decide +kernel
theorem dX12_thing_165 : decode cX12_thing 165 = .ok (.aload_n 0, 1) := by decide +kernel
theorem dX12_thing_166 : decode cX12_thing 166 = .ok (.getfield 168, 3) := by decide +kernel
theorem dX12_thing_169 : decode cX12_thing 169 = .ok (.ireturn, 1) := by decide +kernel
theorem dX12_thing_170 : decode cX12_thing 170 = .ok (.aload_n 0, 1) := by decide +kernel
theorem dX12_thing_171 : decode cX12_thing 171 = .ok (.getfield 171, 3) := by decide +kernel
theorem dX12_thing_174 : decode cX12_thing 174 = .ok (.ireturn, 1) := by decide +kernel
theorem dX12_thing_175 : decode cX12_thing 175 = .ok (.aload_n 0, 1) := by decide +kernel
theorem dX12_thing_176 : decode cX12_thing 176 = .ok (.getfield 18, 3) := by decide +kernel
theorem dX12_thing_179 : decode cX12_thing 179 = .ok (.iload_n 1, 1) := by decide +kernel
theorem dX12_thing_180 : decode cX12_thing 180 = .ok (.sipush 354, 3) := by decide +kernel
theorem dX12_thing_183 : decode cX12_thing 183 = .ok (.isub, 1) := by decide +kernel
theorem dX12_thing_184 : decode cX12_thing 184 = .ok (.iconst 2, 1) := by decide +kernel
theorem dX12_thing_185 : decode cX12_thing 185 = .ok (.idiv, 1) := by decide +kernel
theorem dX12_thing_186 : decode cX12_thing 186 = .ok (.iaload, 1) := by decide +kernel
theorem dX12_thing_187 : decode cX12_thing 187 = .ok (.ireturn, 1) := by decide +kernel
theorem dX12_thing_188 : decode cX12_thing 188 = .ok (.aload_n 0, 1) := by decide +kernel
theorem dX12_thing_189 : decode cX12_thing 189 = .ok (.getfield 174, 3) := by decide +kernel
theorem dX12_thing_192 : decode cX12_thing 192 = .ok (.ireturn, 1) := by decide +kernel
theorem dX12_thing_193 : decode cX12_thing 193 = .ok (.aload_n 0, 1) := by decide +kernel
theorem dX12_thing_194 : decode cX12_thing 194 = .ok (.getfield 21, 3) := by decide +kernel
theorem dX12_thing_197 : decode cX12_thing 197 = .ok (.iload_n 1, 1) := by decide +kernel
theorem dX12_thing_198 : decode cX12_thing 198 = .ok (.sipush 370, 3) := by decide +kernel
theorem dX12_thing_201 : decode cX12_thing 201 = .ok (.isub, 1) := by decide +kernel
theorem dX12_thing_202 : decode cX12_thing 202 = .ok (.iconst 2, 1) := by decide +kernel
theorem dX12_thing_203 : decode cX12_thing 203 = .ok (.idiv, 1) := by decide +kernel
theorem dX12_thing_204 : decode cX12_thing 204 = .ok (.iaload, 1) := by decide +kernel
theorem dX12_thing_205 : decode cX12_thing 205 = .ok (.ireturn, 1) := by decide +kernel
theorem dX12_thing_206 : decode cX12_thing 206 = .ok (.iconst 0, 1) := by decide +kernel
theorem dX12_thing_207 : decode cX12_thing 207 = .ok (.ireturn, 1) := by decide +kernel
theorem dX12_port_0 : decode cX12_port 0 = .ok (.iload_n 1, 1) := by decide +kernel
theorem dX12_port_1 : decode cX12_port 1 = .ok (.bipush 32, 2) := by decide +kernel
theorem dX12_port_3 : decode cX12_port 3 = .ok (.if_icmp .ne 10, 3) := by decide +kernel
theorem dX12_port_6 : decode cX12_port 6 = .ok (.aload_n 0, 1) := by decide +kernel
theorem dX12_port_7 : decode cX12_port 7 = .ok (.getfield 138, 3) := by decide +kernel
theorem dX12_port_10 : decode cX12_port 10 = .ok (.goto 56, 3) := by decide +kernel
theorem dX12_port_13 : decode cX12_port 13 = .ok (.iload_n 1, 1) := by decide +kernel
theorem dX12_port_14 : decode cX12_port 14 = .ok (.bipush 33, 2) := by decide +kernel
theorem dX12_port_16 : decode cX12_port 16 = .ok (.if_icmp .ne 10, 3) := by decide +kernel
theorem dX12_port_19 : decode cX12_port 19 = .ok (.aload_n 0, 1) := by decide +kernel
theorem dX12_port_20 : decode cX12_port 20 = .ok (.getfield 141, 3) := by decide +kernel
theorem dX12_port_23 : decode cX12_port 23 = .ok (.goto 43, 3) := by decide +kernel
theorem dX12_port_26 : decode cX12_port 26 = .ok (.iload_n 1, 1) := by decide +kernel
theorem dX12_port_27 : decode cX12_port 27 = .ok (.bipush 35, 2) := by decide +kernel
theorem dX12_port_29 : decode cX12_port 29 = .ok (.if_icmp .ne 10, 3) := by decide +kernel
theorem dX12_port_32 : decode cX12_port 32 = .ok (.aload_n 0, 1) := by decide +kernel
theorem dX12_port_33 : decode cX12_port 33 = .ok (.getfield 144, 3) := by decide +kernel
theorem dX12_port_36 : decode cX12_port 36 = .ok (.goto 30, 3) := by decide +kernel
theorem dX12_port_39 : decode cX12_port 39 = .ok (.iload_n 1, 1) := by decide +kernel
theorem dX12_port_40 : decode cX12_port 40 = .ok (.bipush 36, 2) := by decide +kernel
theorem dX12_port_42 : decode cX12_port 42 = .ok (.if_icmp .ne 10, 3) := by decide +kernel
theorem dX12_port_45 : decode cX12_port 45 = .ok (.aload_n 0, 1) := by decide +kernel
theorem dX12_port_46 : decode cX12_port 46 = .ok (.getfield 147, 3) := by decide +kernel
theorem dX12_port_49 : decode cX12_port 49 = .ok (.goto 17, 3) := by decide +kernel
theorem dX12_port_52 : decode cX12_port 52 = .ok (.iload_n 1, 1) := by decide +kernel
theorem dX12_port_53 : decode cX12_port 53 = .ok (.bipush 37, 2) := by decide +kernel
theorem dX12_port_55 : decode cX12_port 55 = .ok (.if_icmp .ne 10, 3) := by decide +kernel
theorem dX12_port_58 : decode cX12_port 58 = .ok (.aload_n 0, 1) := by decide +kernel
theorem dX12_port_59 : decode cX12_port 59 = .ok (.getfield 150, 3) := by decide +kernel
theorem dX12_port_62 : decode cX12_port 62 = .ok (.goto 4, 3) := by decide +kernel
theorem dX12_port_65 : decode cX12_port 65 = .ok (.iconst 0, 1) := by decide +kernel
theorem dX12_port_66 : decode cX12_port 66 = .ok (.ireturn, 1) := by decide +kernel
theorem dX12_peekByte_0 : decode cX12_peekByte 0 = .ok (.iload_n 1, 1) := by decide +kernel
theorem dX12_peekByte_1 : decode cX12_peekByte 1 = .ok (.sipush 512, 3) := by decide +kernel
theorem dX12_peekByte_4 : decode cX12_peekByte 4 = .ok (.if_icmp .lt 14, 3) := by decide +kernel
theorem dX12_peekByte_7 : decode cX12_peekByte 7 = .ok (.aload_n 0, 1) := by decide +kernel
theorem dX12_peekByte_8 : decode cX12_peekByte 8 = .ok (.getfield 8, 3) := by decide +kernel
theorem dX12_peekByte_11 : decode cX12_peekByte 11 = .ok (.iload_n 1, 1) := by decide +kernel
theorem dX12_peekByte_12 : decode cX12_peekByte 12 = .ok (.baload, 1) := by decide +kernel
theorem dX12_peekByte_13 : decode cX12_peekByte 13 = .ok (.sipush 255, 3) := by decide +kernel
theorem dX12_peekByte_16 : decode cX12_peekByte 16 = .ok (.iand, 1) := by decide +kernel
theorem dX12_peekByte_17 : decode cX12_peekByte 17 = .ok (.ireturn, 1) := by decide +kernel
theorem dX12_peekByte_18 : decode cX12_peekByte 18 = .ok (.iload_n 1, 1) := by decide +kernel
theorem dX12_peekByte_19 : decode cX12_peekByte 19 = .ok (.sipush 288, 3) := by decide +kernel
theorem dX12_peekByte_22 : decode cX12_peekByte 22 = .ok (.if_icmp .lt 25, 3) := by decide +kernel
theorem dX12_peekByte_25 : decode cX12_peekByte 25 = .ok (.aload_n 0, 1) := by decide +kernel
theorem dX12_peekByte_26 : decode cX12_peekByte 26 = .ok (.iload_n 1, 1) := by decide +kernel
theorem dX12_peekByte_27 : decode cX12_peekByte 27 = .ok (.bipush (-2), 2) := by decide +kernel
theorem dX12_peekByte_29 : decode cX12_peekByte 29 = .ok (.iand, 1) := by decide +kernel
theorem dX12_peekByte_30 : decode cX12_peekByte 30 = .ok (.invokevirtual 210, 3) := by decide +kernel
theorem dX12_peekByte_33 : decode cX12_peekByte 33 = .ok (.bipush 8, 2) := by decide +kernel
theorem dX12_peekByte_35 : decode cX12_peekByte 35 = .ok (.iload_n 1, 1) := by decide +kernel
theorem dX12_peekByte_36 : decode cX12_peekByte 36 = .ok (.iconst 1, 1) := by decide +kernel
theorem dX12_peekByte_37 : decode cX12_peekByte 37 = .ok (.iand, 1) := by decide +kernel
theorem dX12_peekByte_38 : decode cX12_peekByte 38 = .ok (.imul, 1) := by decide +kernel
theorem dX12_peekByte_39 : decode cX12_peekByte 39 = .ok (.ishr, 1) := by decide +kernel
theorem dX12_peekByte_40 : decode cX12_peekByte 40 = .ok (.sipush 255, 3) := by decide +kernel
theorem dX12_peekByte_43 : decode cX12_peekByte 43 = .ok (.iand, 1) := by decide +kernel
theorem dX12_peekByte_44 : decode cX12_peekByte 44 = .ok (.goto 8, 3) := by decide +kernel
theorem dX12_peekByte_47 : decode cX12_peekByte 47 = .ok (.aload_n 0, 1) := by decide +kernel
theorem dX12_peekByte_48 : decode cX12_peekByte 48 = .ok (.iload_n 1, 1) := by decide +kernel
theorem dX12_peekByte_49 : decode cX12_peekByte 49 = .ok (.invokevirtual 213, 3) := by decide +kernel
theorem dX12_peekByte_52 : decode cX12_peekByte 52 = .ok (.ireturn, 1) := by decide +kernel
theorem dX12_peekWord_0 : decode cX12_peekWord 0 = .ok (.iload_n 1, 1) := by decide +kernel
theorem dX12_peekWord_1 : decode cX12_peekWord 1 = .ok (.ldc 196, 2) := by decide +kernel
theorem dX12_peekWord_3 : decode cX12_peekWord 3 = .ok (.iand, 1) := by decide +kernel
theorem dX12_peekWord_4 : decode cX12_peekWord 4 = .ok (.istore_n 2, 1) := by decide +kernel
theorem dX12_peekWord_5 : decode cX12_peekWord 5 = .ok (.aload_n 0, 1) := by decide +kernel
theorem dX12_peekWord_6 : decode cX12_peekWord 6 = .ok (.iload_n 2, 1) := by decide +kernel
theorem dX12_peekWord_7 : decode cX12_peekWord 7 = .ok (.invokevirtual 216, 3) := by decide +kernel
theorem dX12_peekWord_10 : decode cX12_peekWord 10 = .ok (.aload_n 0, 1) := by decide +kernel
theorem dX12_peekWord_11 : decode cX12_peekWord 11 = .ok (.iload_n 2, 1) := by decide +kernel
