theorem dX12_oneOf_382 : decode cX12_oneOf 382 = .ok (.ifCond .eq 16, 3) := by decide +kernel
theorem dX12_oneOf_385 : decode cX12_oneOf 385 = .ok (.aload_n 0, 1) := by decide +kernel
theorem dX12_oneOf_386 : decode cX12_oneOf 386 = .ok (.aload_n 0, 1) := by decide +kernel
theorem dX12_oneOf_387 : decode cX12_oneOf 387 = .ok (.getfield 251, 3) := by decide +kernel
theorem dX12_oneOf_390 : decode cX12_oneOf 390 = .ok (.iload 9, 2) := by decide +kernel
theorem dX12_oneOf_392 : decode cX12_oneOf 392 = .ok (.invokevirtual 233, 3) := by decide +kernel
theorem dX12_oneOf_395 : decode cX12_oneOf 395 = .ok (.goto 28, 3) := by decide +kernel
theorem dX12_oneOf_398 : decode cX12_oneOf 398 = .ok (.aload_n 0, 1) := by decide +kernel
theorem dX12_oneOf_399 : decode cX12_oneOf 399 = .ok (.aload_n 0, 1) := by decide +kernel
theorem dX12_oneOf_400 : decode cX12_oneOf 400 = .ok (.getfield 251, 3) := by decide +kernel
theorem dX12_oneOf_403 : decode cX12_oneOf 403 = .ok (.iload 9, 2) := by decide +kernel
theorem dX12_oneOf_405 : decode cX12_oneOf 405 = .ok (.invokevirtual 281, 3) := by decide +kernel
theorem dX12_oneOf_408 : decode cX12_oneOf 408 = .ok (.goto 15, 3) := by decide +kernel
theorem dX12_oneOf_411 : decode cX12_oneOf 411 = .ok (.iload 4, 2) := by decide +kernel
theorem dX12_oneOf_413 : decode cX12_oneOf 413 = .ok (.ifCond .ne 10, 3) := by decide +kernel
theorem dX12_oneOf_416 : decode cX12_oneOf 416 = .ok (.aload_n 0, 1) := by decide +kernel
theorem dX12_oneOf_417 : decode cX12_oneOf 417 = .ok (.iload_n 3, 1) := by decide +kernel
theorem dX12_oneOf_418 : decode cX12_oneOf 418 = .ok (.iload 9, 2) := by decide +kernel
theorem dX12_oneOf_420 : decode cX12_oneOf 420 = .ok (.invokevirtual 201, 3) := by decide +kernel
theorem dX12_oneOf_423 : decode cX12_oneOf 423 = .ok (.iload 6, 2) := by decide +kernel
theorem dX12_oneOf_425 : decode cX12_oneOf 425 = .ok (.ireturn, 1) := by decide +kernel
theorem dX12_jumps_0 : decode cX12_jumps 0 = .ok (.iload_n 1, 1) := by decide +kernel
theorem dX12_jumps_1 : decode cX12_jumps 1 = .ok (.tableswitch 131 0 6 #[43, 57, 63, 77, 83, 89, 110], 43) := by decide +kernel
theorem dX12_jumps_44 : decode cX12_jumps 44 = .ok (.aload_n 0, 1) := by decide +kernel
theorem dX12_jumps_45 : decode cX12_jumps 45 = .ok (.iconst 2, 1) := by decide +kernel
theorem dX12_jumps_46 : decode cX12_jumps 46 = .ok (.invokevirtual 277, 3) := by decide +kernel
theorem dX12_jumps_49 : decode cX12_jumps 49 = .ok (.ifCond .ne 7, 3) := by decide +kernel
theorem dX12_jumps_52 : decode cX12_jumps 52 = .ok (.iconst 1, 1) := by decide +kernel
theorem dX12_jumps_53 : decode cX12_jumps 53 = .ok (.goto 4, 3) := by decide +kernel
theorem dX12_jumps_56 : decode cX12_jumps 56 = .ok (.iconst 0, 1) := by decide +kernel
theorem dX12_jumps_57 : decode cX12_jumps 57 = .ok (.ireturn, 1) := by decide +kernel
theorem dX12_jumps_58 : decode cX12_jumps 58 = .ok (.aload_n 0, 1) := by decide +kernel
theorem dX12_jumps_59 : decode cX12_jumps 59 = .ok (.iconst 2, 1) := by decide +kernel
theorem dX12_jumps_60 : decode cX12_jumps 60 = .ok (.invokevirtual 277, 3) := by decide +kernel
theorem dX12_jumps_63 : decode cX12_jumps 63 = .ok (.ireturn, 1) := by decide +kernel
theorem dX12_jumps_64 : decode cX12_jumps 64 = .ok (.aload_n 0, 1) := by decide +kernel
theorem dX12_jumps_65 : decode cX12_jumps 65 = .ok (.iconst 1, 1) := by decide +kernel
theorem dX12_jumps_66 : decode cX12_jumps 66 = .ok (.invokevirtual 277, 3) := by decide +kernel
theorem dX12_jumps_69 : decode cX12_jumps 69 = .ok (.ifCond .ne 7, 3) := by decide +kernel
theorem dX12_jumps_72 : decode cX12_jumps 72 = .ok (.iconst 1, 1) := by decide +kernel
theorem dX12_jumps_73 : decode cX12_jumps 73 = .ok (.goto 4, 3) := by decide +kernel
theorem dX12_jumps_76 : decode cX12_jumps 76 = .ok (.iconst 0, 1) := by decide +kernel
theorem dX12_jumps_77 : decode cX12_jumps 77 = .ok (.ireturn, 1) := by decide +kernel
theorem dX12_jumps_78 : decode cX12_jumps 78 = .ok (.aload_n 0, 1) := by decide +kernel
theorem dX12_jumps_79 : decode cX12_jumps 79 = .ok (.iconst 1, 1) := by decide +kernel
theorem dX12_jumps_80 : decode cX12_jumps 80 = .ok (.invokevirtual 277, 3) := by decide +kernel
theorem dX12_jumps_83 : decode cX12_jumps 83 = .ok (.ireturn, 1) := by decide +kernel
theorem dX12_jumps_84 : decode cX12_jumps 84 = .ok (.aload_n 0, 1) := by decide +kernel
theorem dX12_jumps_85 : decode cX12_jumps 85 = .ok (.iconst 4, 1) := by decide +kernel
theorem dX12_jumps_86 : decode cX12_jumps 86 = .ok (.invokevirtual 277, 3) := by decide +kernel
theorem dX12_jumps_89 : decode cX12_jumps 89 = .ok (.ireturn, 1) := by decide +kernel
theorem dX12_jumps_90 : decode cX12_jumps 90 = .ok (.aload_n 0, 1) := by decide +kernel
theorem dX12_jumps_91 : decode cX12_jumps 91 = .ok (.iconst 4, 1) := by decide +kernel
theorem dX12_jumps_92 : decode cX12_jumps 92 = .ok (.invokevirtual 277, 3) := by decide +kernel
theorem dX12_jumps_95 : decode cX12_jumps 95 = .ok (.aload_n 0, 1) := by decide +kernel
theorem dX12_jumps_96 : decode cX12_jumps 96 = .ok (.sipush 256, 3) := by decide +kernel
theorem dX12_jumps_99 : decode cX12_jumps 99 = .ok (.invokevirtual 277, 3) := by decide +kernel
theorem dX12_jumps_102 : decode cX12_jumps 102 = .ok (.if_icmp .ne 7, 3) := by decide +kernel
theorem dX12_jumps_105 : decode cX12_jumps 105 = .ok (.iconst 1, 1) := by decide +kernel
theorem dX12_jumps_106 : decode cX12_jumps 106 = .ok (.goto 4, 3) := by decide +kernel
theorem dX12_jumps_109 : decode cX12_jumps 109 = .ok (.iconst 0, 1) := by decide +kernel
theorem dX12_jumps_110 : decode cX12_jumps 110 = .ok (.ireturn, 1) := by decide +kernel
theorem dX12_jumps_111 : decode cX12_jumps 111 = .ok (.aload_n 0, 1) := by decide +kernel
theorem dX12_jumps_112 : decode cX12_jumps 112 = .ok (.iconst 4, 1) := by decide +kernel
theorem dX12_jumps_113 : decode cX12_jumps 113 = .ok (.invokevirtual 277, 3) := by decide +kernel
theorem dX12_jumps_116 : decode cX12_jumps 116 = .ok (.aload_n 0, 1) := by decide +kernel
theorem dX12_jumps_117 : decode cX12_jumps 117 = .ok (.sipush 256, 3) := by decide +kernel
theorem dX12_jumps_120 : decode cX12_jumps 120 = .ok (.invokevirtual 277, 3) := by decide +kernel
theorem dX12_jumps_123 : decode cX12_jumps 123 = .ok (.if_icmp .eq 7, 3) := by decide +kernel
theorem dX12_jumps_126 : decode cX12_jumps 126 = .ok (.iconst 1, 1) := by decide +kernel
theorem dX12_jumps_127 : decode cX12_jumps 127 = .ok (.goto 4, 3) := by decide +kernel
theorem dX12_jumps_130 : decode cX12_jumps 130 = .ok (.iconst 0, 1) := by decide +kernel
theorem dX12_jumps_131 : decode cX12_jumps 131 = .ok (.ireturn, 1) := by decide +kernel
theorem dX12_jumps_132 : decode cX12_jumps 132 = .ok (.iconst 1, 1) := by decide +kernel
theorem dX12_jumps_133 : decode cX12_jumps 133 = .ok (.ireturn, 1) := by decide +kernel
theorem dX12_request_0 : decode cX12_request 0 = .ok (.aload_n 0, 1) := by decide +kernel
theorem dX12_request_1 : decode cX12_request 1 = .ok (.getfield 18, 3) := by decide +kernel
theorem dX12_request_4 : decode cX12_request 4 = .ok (.iconst 0, 1) := by decide +kernel
theorem dX12_request_5 : decode cX12_request 5 = .ok (.iaload, 1) := by decide +kernel
theorem dX12_request_6 : decode cX12_request 6 = .ok (.bipush 17, 2) := by decide +kernel
theorem dX12_request_8 : decode cX12_request 8 = .ok (.iand, 1) := by decide +kernel
theorem dX12_request_9 : decode cX12_request 9 = .ok (.bipush 17, 2) := by decide +kernel
theorem dX12_request_11 : decode cX12_request 11 = .ok (.if_icmp .ne 7, 3) := by decide +kernel
theorem dX12_request_14 : decode cX12_request 14 = .ok (.ldc_w 291, 3) := by decide +kernel
theorem dX12_request_17 : decode cX12_request 17 = .ok (.ireturn, 1) := by decide +kernel
theorem dX12_request_18 : decode cX12_request 18 = .ok (.aload_n 0, 1) := by decide +kernel
theorem dX12_request_19 : decode cX12_request 19 = .ok (.invokevirtual 206, 3) := by decide +kernel
theorem dX12_request_22 : decode cX12_request 22 = .ok (.ifCond .le 7, 3) := by decide +kernel
theorem dX12_request_25 : decode cX12_request 25 = .ok (.ldc_w 292, 3) := by decide +kernel
theorem dX12_request_28 : decode cX12_request 28 = .ok (.ireturn, 1) := by decide +kernel
theorem dX12_request_29 : decode cX12_request 29 = .ok (.aload_n 0, 1) := by decide +kernel
theorem dX12_request_30 : decode cX12_request 30 = .ok (.getfield 150, 3) := by decide +kernel
theorem dX12_request_33 : decode cX12_request 33 = .ok (.aload_n 0, 1) := by decide +kernel
theorem dX12_request_34 : decode cX12_request 34 = .ok (.getfield 144, 3) := by decide +kernel
theorem dX12_request_37 : decode cX12_request 37 = .ok (.iand, 1) := by decide +kernel
theorem dX12_request_38 : decode cX12_request 38 = .ok (.ifCond .eq 9, 3) := by decide +kernel
theorem dX12_request_41 : decode cX12_request 41 = .ok (.ldc_w 293, 3) := by decide +kernel
theorem dX12_request_44 : decode cX12_request 44 = .ok (.goto 4, 3) := by decide +kernel
theorem dX12_request_47 : decode cX12_request 47 = .ok (.iconst 0, 1) := by decide +kernel
theorem dX12_request_48 : decode cX12_request 48 = .ok (.ireturn, 1) := by decide +kernel
theorem dX12_step_0 : decode cX12_step 0 = .ok (.aload_n 0, 1) := by decide +kernel
theorem dX12_step_1 : decode cX12_step 1 = .ok (.getfield 184, 3) := by decide +kernel
theorem dX12_step_4 : decode cX12_step 4 = .ok (.ifCond .le 83, 3) := by decide +kernel
theorem dX12_step_7 : decode cX12_step 7 = .ok (.aload_n 0, 1) := by decide +kernel
theorem dX12_step_8 : decode cX12_step 8 = .ok (.getfield 24, 3) := by decide +kernel
theorem dX12_step_11 : decode cX12_step 11 = .ok (.iconst 0, 1) := by decide +kernel
theorem dX12_step_12 : decode cX12_step 12 = .ok (.iaload, 1) := by decide +kernel
theorem dX12_step_13 : decode cX12_step 13 = .ok (.aload_n 0, 1) := by decide +kernel
theorem dX12_step_14 : decode cX12_step 14 = .ok (.getfield 187, 3) := by decide +kernel
theorem dX12_step_17 : decode cX12_step 17 = .ok (.if_icmp .gt 70, 3) := by decide +kernel
theorem dX12_step_20 : decode cX12_step 20 = .ok (.aload_n 0, 1) := by decide +kernel
theorem dX12_step_21 : decode cX12_step 21 = .ok (.aload_n 0, 1) := by decide +kernel
theorem dX12_step_22 : decode cX12_step 22 = .ok (.getfield 27, 3) := by decide +kernel
theorem dX12_step_25 : decode cX12_step 25 = .ok (.iconst 0, 1) := by decide +kernel
theorem dX12_step_26 : decode cX12_step 26 = .ok (.iaload, 1) := by decide +kernel
theorem dX12_step_27 : decode cX12_step 27 = .ok (.invokevirtual 294, 3) := by decide +kernel
theorem dX12_step_30 : decode cX12_step 30 = .ok (.aload_n 0, 1) := by decide +kernel
theorem dX12_step_31 : decode cX12_step 31 = .ok (.dup, 1) := by decide +kernel
theorem dX12_step_32 : decode cX12_step 32 = .ok (.getfield 184, 3) := by decide +kernel
theorem dX12_step_35 : decode cX12_step 35 = .ok (.iconst 1, 1) := by decide +kernel
theorem dX12_step_36 : decode cX12_step 36 = .ok (.isub, 1) := by decide +kernel
theorem dX12_step_37 : decode cX12_step 37 = .ok (.putfield 184, 3) := by decide +kernel
theorem dX12_step_40 : decode cX12_step 40 = .ok (.iconst 0, 1) := by decide +kernel
theorem dX12_step_41 : decode cX12_step 41 = .ok (.istore_n 1, 1) := by decide +kernel
theorem dX12_step_42 : decode cX12_step 42 = .ok (.iload_n 1, 1) := by decide +kernel
theorem dX12_step_43 : decode cX12_step 43 = .ok (.aload_n 0, 1) := by decide +kernel
theorem dX12_step_44 : decode cX12_step 44 = .ok (.getfield 184, 3) := by decide +kernel
theorem dX12_step_47 : decode cX12_step 47 = .ok (.if_icmp .ge 37, 3) := by decide +kernel
theorem dX12_step_50 : decode cX12_step 50 = .ok (.aload_n 0, 1) := by decide +kernel
theorem dX12_step_51 : decode cX12_step 51 = .ok (.getfield 24, 3) := by decide +kernel
theorem dX12_step_54 : decode cX12_step 54 = .ok (.iload_n 1, 1) := by decide +kernel
theorem dX12_step_55 : decode cX12_step 55 = .ok (.aload_n 0, 1) := by decide +kernel
theorem dX12_step_56 : decode cX12_step 56 = .ok (.getfield 24, 3) := by decide +kernel
theorem dX12_step_59 : decode cX12_step 59 = .ok (.iload_n 1, 1) := by decide +kernel
theorem dX12_step_60 : decode cX12_step 60 = .ok (.iconst 1, 1) := by decide +kernel
theorem dX12_step_61 : decode cX12_step 61 = .ok (.iadd, 1) := by decide +kernel
theorem dX12_step_62 : decode cX12_step 62 = .ok (.iaload, 1) := by decide +kernel
theorem dX12_step_63 : decode cX12_step 63 = .ok (.iastore, 1) := by decide +kernel
theorem dX12_step_64 : decode cX12_step 64 = .ok (.aload_n 0, 1) := by decide +kernel
theorem dX12_step_65 : decode cX12_step 65 = .ok (.getfield 27, 3) := by decide +kernel
theorem dX12_step_68 : decode cX12_step 68 = .ok (.iload_n 1, 1) := by decide +kernel
theorem dX12_step_69 : decode cX12_step 69 = .ok (.aload_n 0, 1) := by decide +kernel
theorem dX12_step_70 : decode cX12_step 70 = .ok (.getfield 27, 3) := by decide +kernel
theorem dX12_step_73 : decode cX12_step 73 = .ok (.iload_n 1, 1) := by decide +kernel
theorem dX12_step_74 : decode cX12_step 74 = .ok (.iconst 1, 1) := by decide +kernel
theorem dX12_step_75 : decode cX12_step 75 = .ok (.iadd, 1) := by decide +kernel
theorem dX12_step_76 : decode cX12_step 76 = .ok (.iaload, 1) := by decide +kernel
theorem dX12_step_77 : decode cX12_step 77 = .ok (.iastore, 1) := by decide +kernel
theorem dX12_step_78 : decode cX12_step 78 = .ok (.iinc 1 1, 3) := by decide +kernel
theorem dX12_step_81 : decode cX12_step 81 = .ok (.goto (-39), 3) := by decide +kernel
theorem dX12_step_84 : decode cX12_step 84 = .ok (.goto (-84), 3) := by decide +kernel
theorem dX12_step_87 : decode cX12_step 87 = .ok (.aload_n 0, 1) := by decide +kernel
theorem dX12_step_88 : decode cX12_step 88 = .ok (.bipush 8, 2) := by decide +kernel
theorem dX12_step_90 : decode cX12_step 90 = .ok (.invokevirtual 277, 3) := by decide +kernel
theorem dX12_step_93 : decode cX12_step 93 = .ok (.ifCond .eq 10, 3) := by decide +kernel
theorem dX12_step_96 : decode cX12_step 96 = .ok (.aload_n 0, 1) := by decide +kernel
theorem dX12_step_97 : decode cX12_step 97 = .ok (.invokevirtual 297, 3) := by decide +kernel
theorem dX12_step_100 : decode cX12_step 100 = .ok (.goto 4, 3) := by decide +kernel
theorem dX12_step_103 : decode cX12_step 103 = .ok (.iconst 0, 1) := by decide +kernel
theorem dX12_step_104 : decode cX12_step 104 = .ok (.istore_n 1, 1) := by decide +kernel
theorem dX12_step_105 : decode cX12_step 105 = .ok (.iload_n 1, 1) := by decide +kernel
theorem dX12_step_106 : decode cX12_step 106 = .ok (.ifCond .le 76, 3) := by decide +kernel
theorem dX12_step_109 : decode cX12_step 109 = .ok (.iload_n 1, 1) := by decide +kernel
theorem dX12_step_110 : decode cX12_step 110 = .ok (.ldc_w 291, 3) := by decide +kernel
theorem dX12_step_113 : decode cX12_step 113 = .ok (.if_icmp .ne 14, 3) := by decide +kernel
theorem dX12_step_116 : decode cX12_step 116 = .ok (.aload_n 0, 1) := by decide +kernel
theorem dX12_step_117 : decode cX12_step 117 = .ok (.getfield 18, 3) := by decide +kernel
theorem dX12_step_120 : decode cX12_step 120 = .ok (.iconst 0, 1) := by decide +kernel
theorem dX12_step_121 : decode cX12_step 121 = .ok (.dup2, 1) := by decide +kernel
theorem dX12_step_122 : decode cX12_step 122 = .ok (.iaload, 1) := by decide +kernel
theorem dX12_step_123 : decode cX12_step 123 = .ok (.bipush (-2), 2) := by decide +kernel
theorem dX12_step_125 : decode cX12_step 125 = .ok (.iand, 1) := by decide +kernel
theorem dX12_step_126 : decode cX12_step 126 = .ok (.iastore, 1) := by decide +kernel
theorem dX12_step_127 : decode cX12_step 127 = .ok (.aload_n 0, 1) := by decide +kernel
theorem dX12_step_128 : decode cX12_step 128 = .ok (.aload_n 0, 1) := by decide +kernel
theorem dX12_step_129 : decode cX12_step 129 = .ok (.getfield 14, 3) := by decide +kernel
theorem dX12_step_132 : decode cX12_step 132 = .ok (.iconst 0, 1) := by decide +kernel
theorem dX12_step_133 : decode cX12_step 133 = .ok (.iaload, 1) := by decide +kernel
theorem dX12_step_134 : decode cX12_step 134 = .ok (.invokevirtual 287, 3) := by decide +kernel
theorem dX12_step_137 : decode cX12_step 137 = .ok (.aload_n 0, 1) := by decide +kernel
theorem dX12_step_138 : decode cX12_step 138 = .ok (.aload_n 0, 1) := by decide +kernel
theorem dX12_step_139 : decode cX12_step 139 = .ok (.getfield 14, 3) := by decide +kernel
theorem dX12_step_142 : decode cX12_step 142 = .ok (.iconst 2, 1) := by decide +kernel
theorem dX12_step_143 : decode cX12_step 143 = .ok (.iaload, 1) := by decide +kernel
theorem dX12_step_144 : decode cX12_step 144 = .ok (.invokevirtual 287, 3) := by decide +kernel
theorem dX12_step_147 : decode cX12_step 147 = .ok (.aload_n 0, 1) := by decide +kernel
theorem dX12_step_148 : decode cX12_step 148 = .ok (.getfield 14, 3) := by decide +kernel
theorem dX12_step_151 : decode cX12_step 151 = .ok (.iconst 2, 1) := by decide +kernel
theorem dX12_step_152 : decode cX12_step 152 = .ok (.iconst 0, 1) := by decide +kernel
theorem dX12_step_153 : decode cX12_step 153 = .ok (.iastore, 1) := by decide +kernel
theorem dX12_step_154 : decode cX12_step 154 = .ok (.aload_n 0, 1) := by decide +kernel
theorem dX12_step_155 : decode cX12_step 155 = .ok (.iconst 0, 1) := by decide +kernel
theorem dX12_step_156 : decode cX12_step 156 = .ok (.aload_n 0, 1) := by decide +kernel
theorem dX12_step_157 : decode cX12_step 157 = .ok (.iload_n 1, 1) := by decide +kernel
theorem dX12_step_158 : decode cX12_step 158 = .ok (.invokevirtual 242, 3) := by decide +kernel
theorem dX12_step_161 : decode cX12_step 161 = .ok (.invokevirtual 201, 3) := by decide +kernel
theorem dX12_step_164 : decode cX12_step 164 = .ok (.aload_n 0, 1) := by decide +kernel
theorem dX12_step_165 : decode cX12_step 165 = .ok (.dup, 1) := by decide +kernel
theorem dX12_step_166 : decode cX12_step 166 = .ok (.getfield 190, 3) := by decide +kernel
theorem dX12_step_169 : decode cX12_step 169 = .ok (.iconst 1, 1) := by decide +kernel
theorem dX12_step_170 : decode cX12_step 170 = .ok (.iadd, 1) := by decide +kernel
theorem dX12_step_171 : decode cX12_step 171 = .ok (.putfield 190, 3) := by decide +kernel
theorem dX12_step_174 : decode cX12_step 174 = .ok (.aload_n 0, 1) := by decide +kernel
theorem dX12_step_175 : decode cX12_step 175 = .ok (.bipush 6, 2) := by decide +kernel
theorem dX12_step_177 : decode cX12_step 177 = .ok (.invokevirtual 300, 3) := by decide +kernel
theorem dX12_step_180 : decode cX12_step 180 = .ok (.iconst 1, 1) := by decide +kernel
theorem dX12_step_181 : decode cX12_step 181 = .ok (.ireturn, 1) := by decide +kernel
theorem dX12_step_182 : decode cX12_step 182 = .ok (.aload_n 0, 1) := by decide +kernel
theorem dX12_step_183 : decode cX12_step 183 = .ok (.bipush 16, 2) := by decide +kernel
theorem dX12_step_185 : decode cX12_step 185 = .ok (.invokevirtual 277, 3) := by decide +kernel
theorem dX12_step_188 : decode cX12_step 188 = .ok (.ifCond .eq 20, 3) := by decide +kernel
theorem dX12_step_191 : decode cX12_step 191 = .ok (.aload_n 0, 1) := by decide +kernel
theorem dX12_step_192 : decode cX12_step 192 = .ok (.dup, 1) := by decide +kernel
theorem dX12_step_193 : decode cX12_step 193 = .ok (.getfield 193, 3) := by decide +kernel
theorem dX12_step_196 : decode cX12_step 196 = .ok (.iconst 1, 1) := by decide +kernel
theorem dX12_step_197 : decode cX12_step 197 = .ok (.iadd, 1) := by decide +kernel
theorem dX12_step_198 : decode cX12_step 198 = .ok (.putfield 193, 3) := by decide +kernel
theorem dX12_step_201 : decode cX12_step 201 = .ok (.aload_n 0, 1) := by decide +kernel
theorem dX12_step_202 : decode cX12_step 202 = .ok (.iconst 1, 1) := by decide +kernel
theorem dX12_step_203 : decode cX12_step 203 = .ok (.invokevirtual 300, 3) := by decide +kernel
theorem dX12_step_206 : decode cX12_step 206 = .ok (.iconst 1, 1) := by decide +kernel
theorem dX12_step_207 : decode cX12_step 207 = .ok (.ireturn, 1) := by decide +kernel
theorem dX12_step_208 : decode cX12_step 208 = .ok (.aload_n 0, 1) := by decide +kernel
theorem dX12_step_209 : decode cX12_step 209 = .ok (.aload_n 0, 1) := by decide +kernel
theorem dX12_step_210 : decode cX12_step 210 = .ok (.getfield 14, 3) := by decide +kernel
theorem dX12_step_213 : decode cX12_step 213 = .ok (.iconst 0, 1) := by decide +kernel
theorem dX12_step_214 : decode cX12_step 214 = .ok (.iaload, 1) := by decide +kernel
theorem dX12_step_215 : decode cX12_step 215 = .ok (.invokevirtual 197, 3) := by decide +kernel
theorem dX12_step_218 : decode cX12_step 218 = .ok (.invokestatic 303, 3) := by decide +kernel
theorem dX12_step_221 : decode cX12_step 221 = .ok (.ifCond .ne 5, 3) := by decide +kernel
theorem dX12_step_224 : decode cX12_step 224 = .ok (.iconst 0, 1) := by decide +kernel
theorem dX12_step_225 : decode cX12_step 225 = .ok (.ireturn, 1) := by decide +kernel
theorem dX12_step_226 : decode cX12_step 226 = .ok (.aload_n 0, 1) := by decide +kernel
theorem dX12_step_227 : decode cX12_step 227 = .ok (.invokevirtual 248, 3) := by decide +kernel
theorem dX12_step_230 : decode cX12_step 230 = .ok (.istore_n 2, 1) := by decide +kernel
theorem dX12_step_231 : decode cX12_step 231 = .ok (.iload_n 2, 1) := by decide +kernel
theorem dX12_step_232 : decode cX12_step 232 = .ok (.bipush 12, 2) := by decide +kernel
theorem dX12_step_234 : decode cX12_step 234 = .ok (.ishr, 1) := by decide +kernel
theorem dX12_step_235 : decode cX12_step 235 = .ok (.iconst 3, 1) := by decide +kernel
theorem dX12_step_236 : decode cX12_step 236 = .ok (.if_icmp .le 12, 3) := by decide +kernel
theorem dX12_step_239 : decode cX12_step 239 = .ok (.aload_n 0, 1) := by decide +kernel
theorem dX12_step_240 : decode cX12_step 240 = .ok (.iload_n 2, 1) := by decide +kernel
theorem dX12_step_241 : decode cX12_step 241 = .ok (.invokevirtual 306, 3) := by decide +kernel
theorem dX12_step_244 : decode cX12_step 244 = .ok (.istore_n 3, 1) := by decide +kernel
theorem dX12_step_245 : decode cX12_step 245 = .ok (.goto 65, 3) := by decide +kernel
theorem dX12_step_248 : decode cX12_step 248 = .ok (.iload_n 2, 1) := by decide +kernel
theorem dX12_step_249 : decode cX12_step 249 = .ok (.bipush 12, 2) := by decide +kernel
theorem dX12_step_251 : decode cX12_step 251 = .ok (.ishr, 1) := by decide +kernel
theorem dX12_step_252 : decode cX12_step 252 = .ok (.iconst 1, 1) := by decide +kernel
theorem dX12_step_253 : decode cX12_step 253 = .ok (.if_icmp .le 51, 3) := by decide +kernel
theorem dX12_step_256 : decode cX12_step 256 = .ok (.iconst 2, 1) := by decide +kernel
theorem dX12_step_257 : decode cX12_step 257 = .ok (.istore_n 3, 1) := by decide +kernel
theorem dX12_step_258 : decode cX12_step 258 = .ok (.iload_n 2, 1) := by decide +kernel
theorem dX12_step_259 : decode cX12_step 259 = .ok (.sipush 1023, 3) := by decide +kernel
theorem dX12_step_262 : decode cX12_step 262 = .ok (.iand, 1) := by decide +kernel
theorem dX12_step_263 : decode cX12_step 263 = .ok (.bipush 22, 2) := by decide +kernel
theorem dX12_step_265 : decode cX12_step 265 = .ok (.ishl, 1) := by decide +kernel
theorem dX12_step_266 : decode cX12_step 266 = .ok (.bipush 22, 2) := by decide +kernel
theorem dX12_step_268 : decode cX12_step 268 = .ok (.ishr, 1) := by decide +kernel
theorem dX12_step_269 : decode cX12_step 269 = .ok (.istore 4, 2) := by decide +kernel
theorem dX12_step_271 : decode cX12_step 271 = .ok (.aload_n 0, 1) := by decide +kernel
theorem dX12_step_272 : decode cX12_step 272 = .ok (.iload_n 2, 1) := by decide +kernel
theorem dX12_step_273 : decode cX12_step 273 = .ok (.bipush 10, 2) := by decide +kernel
theorem dX12_step_275 : decode cX12_step 275 = .ok (.ishr, 1) := by decide +kernel
theorem dX12_step_276 : decode cX12_step 276 = .ok (.bipush 7, 2) := by decide +kernel
theorem dX12_step_278 : decode cX12_step 278 = .ok (.iand, 1) := by decide +kernel
theorem dX12_step_279 : decode cX12_step 279 = .ok (.invokevirtual 309, 3) := by decide +kernel
theorem dX12_step_282 : decode cX12_step 282 = .ok (.ifCond .eq 19, 3) := by decide +kernel
theorem dX12_step_285 : decode cX12_step 285 = .ok (.aload_n 0, 1) := by decide +kernel
theorem dX12_step_286 : decode cX12_step 286 = .ok (.iconst 0, 1) := by decide +kernel
theorem dX12_step_287 : decode cX12_step 287 = .ok (.aload_n 0, 1) := by decide +kernel
theorem dX12_step_288 : decode cX12_step 288 = .ok (.getfield 14, 3) := by decide +kernel
theorem dX12_step_291 : decode cX12_step 291 = .ok (.iconst 0, 1) := by decide +kernel
theorem dX12_step_292 : decode cX12_step 292 = .ok (.iaload, 1) := by decide +kernel
theorem dX12_step_293 : decode cX12_step 293 = .ok (.iconst 2, 1) := by decide +kernel
theorem dX12_step_294 : decode cX12_step 294 = .ok (.iload 4, 2) := by decide +kernel
theorem dX12_step_296 : decode cX12_step 296 = .ok (.imul, 1) := by decide +kernel
theorem dX12_step_297 : decode cX12_step 297 = .ok (.iadd, 1) := by decide +kernel
theorem dX12_step_298 : decode cX12_step 298 = .ok (.invokevirtual 201, 3) := by decide +kernel
theorem dX12_step_301 : decode cX12_step 301 = .ok (.goto 9, 3) := by decide +kernel
theorem dX12_step_304 : decode cX12_step 304 = .ok (.aload_n 0, 1) := by decide +kernel
theorem dX12_step_305 : decode cX12_step 305 = .ok (.iload_n 2, 1) := by decide +kernel
theorem dX12_step_306 : decode cX12_step 306 = .ok (.invokevirtual 312, 3) := by decide +kernel
theorem dX12_step_309 : decode cX12_step 309 = .ok (.istore_n 3, 1) := by decide +kernel
theorem dX12_step_310 : decode cX12_step 310 = .ok (.aload_n 0, 1) := by decide +kernel
theorem dX12_step_311 : decode cX12_step 311 = .ok (.iload_n 3, 1) := by decide +kernel
theorem dX12_step_312 : decode cX12_step 312 = .ok (.invokevirtual 300, 3) := by decide +kernel
theorem dX12_step_315 : decode cX12_step 315 = .ok (.iconst 1, 1) := by decide +kernel
theorem dX12_step_316 : decode cX12_step 316 = .ok (.ireturn, 1) := by decide +kernel
theorem dX12_run_0 : decode cX12_run 0 = .ok (.aload_n 0, 1) := by decide +kernel
theorem dX12_run_1 : decode cX12_run 1 = .ok (.iload_n 1, 1) := by decide +kernel
theorem dX12_run_2 : decode cX12_run 2 = .ok (.ifCond .lt 10, 3) := by decide +kernel
theorem dX12_run_5 : decode cX12_run 5 = .ok (.iload_n 1, 1) := by decide +kernel
theorem dX12_run_6 : decode cX12_run 6 = .ok (.sipush 5000, 3) := by decide +kernel
theorem dX12_run_9 : decode cX12_run 9 = .ok (.if_icmp .le 7, 3) := by decide +kernel
theorem dX12_run_12 : decode cX12_run 12 = .ok (.iconst 1, 1) := by decide +kernel
theorem dX12_run_13 : decode cX12_run 13 = .ok (.goto 4, 3) := by decide +kernel
theorem dX12_run_16 : decode cX12_run 16 = .ok (.iconst 0, 1) := by decide +kernel
theorem dX12_run_17 : decode cX12_run 17 = .ok (.invokevirtual 315, 3) := by decide +kernel
theorem dX12_run_20 : decode cX12_run 20 = .ok (.ifCond .eq 5, 3) := by decide +kernel
theorem dX12_run_23 : decode cX12_run 23 = .ok (.iconst 0, 1) := by decide +kernel
theorem dX12_run_24 : decode cX12_run 24 = .ok (.ireturn, 1) := by decide +kernel
theorem dX12_run_25 : decode cX12_run 25 = .ok (.aload_n 0, 1) := by decide +kernel
theorem dX12_run_26 : decode cX12_run 26 = .ok (.iconst 0, 1) := by decide +kernel
theorem dX12_run_27 : decode cX12_run 27 = .ok (.putfield 319, 3) := by decide +kernel
theorem dX12_run_30 : decode cX12_run 30 = .ok (.aload_n 0, 1) := by decide +kernel
theorem dX12_run_31 : decode cX12_run 31 = .ok (.getfield 319, 3) := by decide +kernel
theorem dX12_run_34 : decode cX12_run 34 = .ok (.iload_n 1, 1) := by decide +kernel
theorem dX12_run_35 : decode cX12_run 35 = .ok (.if_icmp .ge 34, 3) := by decide +kernel
theorem dX12_run_38 : decode cX12_run 38 = .ok (.aload_n 0, 1) := by decide +kernel
theorem dX12_run_39 : decode cX12_run 39 = .ok (.invokevirtual 322, 3) := by decide +kernel
theorem dX12_run_42 : decode cX12_run 42 = .ok (.ifCond .ne 5, 3) := by decide +kernel
theorem dX12_run_45 : decode cX12_run 45 = .ok (.iconst 2, 1) := by decide +kernel
theorem dX12_run_46 : decode cX12_run 46 = .ok (.ireturn, 1) := by decide +kernel
theorem dX12_run_47 : decode cX12_run 47 = .ok (.aload_n 0, 1) := by decide +kernel
theorem dX12_run_48 : decode cX12_run 48 = .ok (.dup, 1) := by decide +kernel
theorem dX12_run_49 : decode cX12_run 49 = .ok (.getfield 319, 3) := by decide +kernel
theorem dX12_run_52 : decode cX12_run 52 = .ok (.iconst 1, 1) := by decide +kernel
theorem dX12_run_53 : decode cX12_run 53 = .ok (.iadd, 1) := by decide +kernel
theorem dX12_run_54 : decode cX12_run 54 = .ok (.putfield 319, 3) := by decide +kernel
theorem dX12_run_57 : decode cX12_run 57 = .ok (.aload_n 0, 1) := by decide +kernel
theorem dX12_run_58 : decode cX12_run 58 = .ok (.getfield 14, 3) := by decide +kernel
theorem dX12_run_61 : decode cX12_run 61 = .ok (.iconst 0, 1) := by decide +kernel
theorem dX12_run_62 : decode cX12_run 62 = .ok (.iaload, 1) := by decide +kernel
theorem dX12_run_63 : decode cX12_run 63 = .ok (.iload_n 2, 1) := by decide +kernel
theorem dX12_run_64 : decode cX12_run 64 = .ok (.if_icmp .ne (-34), 3) := by decide +kernel
theorem dX12_run_67 : decode cX12_run 67 = .ok (.iconst 1, 1) := by decide +kernel
theorem dX12_run_68 : decode cX12_run 68 = .ok (.ireturn, 1) := by decide +kernel
theorem dX12_run_69 : decode cX12_run 69 = .ok (.iconst 0, 1) := by decide +kernel
theorem dX12_run_70 : decode cX12_run 70 = .ok (.ireturn, 1) := by decide +kernel
theorem dX12_register_0 : decode cX12_register 0 = .ok (.aload_n 0, 1) := by decide +kernel
theorem dX12_register_1 : decode cX12_register 1 = .ok (.iload_n 1, 1) := by decide +kernel
theorem dX12_register_2 : decode cX12_register 2 = .ok (.ifCond .lt 9, 3) := by decide +kernel
theorem dX12_register_5 : decode cX12_register 5 = .ok (.iload_n 1, 1) := by decide +kernel
theorem dX12_register_6 : decode cX12_register 6 = .ok (.bipush 15, 2) := by decide +kernel
theorem dX12_register_8 : decode cX12_register 8 = .ok (.if_icmp .le 7, 3) := by decide +kernel
theorem dX12_register_11 : decode cX12_register 11 = .ok (.iconst 1, 1) := by decide +kernel
theorem dX12_register_12 : decode cX12_register 12 = .ok (.goto 4, 3) := by decide +kernel
theorem dX12_register_15 : decode cX12_register 15 = .ok (.iconst 0, 1) := by decide +kernel
theorem dX12_register_16 : decode cX12_register 16 = .ok (.invokevirtual 315, 3) := by decide +kernel
theorem dX12_register_19 : decode cX12_register 19 = .ok (.ifCond .eq 7, 3) := by decide +kernel
theorem dX12_register_22 : decode cX12_register 22 = .ok (.iconst 0, 1) := by decide +kernel
theorem dX12_register_23 : decode cX12_register 23 = .ok (.goto 9, 3) := by decide +kernel
theorem dX12_register_26 : decode cX12_register 26 = .ok (.aload_n 0, 1) := by decide +kernel
theorem dX12_register_27 : decode cX12_register 27 = .ok (.getfield 14, 3) := by decide +kernel
theorem dX12_register_30 : decode cX12_register 30 = .ok (.iload_n 1, 1) := by decide +kernel
theorem dX12_register_31 : decode cX12_register 31 = .ok (.iaload, 1) := by decide +kernel
theorem dX12_register_32 : decode cX12_register 32 = .ok (.ireturn, 1) := by decide +kernel
theorem dX12_set_0 : decode cX12_set 0 = .ok (.aload_n 0, 1) := by decide +kernel
theorem dX12_set_1 : decode cX12_set 1 = .ok (.iload_n 1, 1) := by decide +kernel
theorem dX12_set_2 : decode cX12_set 2 = .ok (.ifCond .lt 9, 3) := by decide +kernel
theorem dX12_set_5 : decode cX12_set 5 = .ok (.iload_n 1, 1) := by decide +kernel
theorem dX12_set_6 : decode cX12_set 6 = .ok (.bipush 15, 2) := by decide +kernel
theorem dX12_set_8 : decode cX12_set 8 = .ok (.if_icmp .le 7, 3) := by decide +kernel
theorem dX12_set_11 : decode cX12_set 11 = .ok (.iconst 1, 1) := by decide +kernel
theorem dX12_set_12 : decode cX12_set 12 = .ok (.goto 4, 3) := by decide +kernel
theorem dX12_set_15 : decode cX12_set 15 = .ok (.iconst 0, 1) := by decide +kernel
theorem dX12_set_16 : decode cX12_set 16 = .ok (.invokevirtual 315, 3) := by decide +kernel
theorem dX12_set_19 : decode cX12_set 19 = .ok (.ifCond .eq 4, 3) := by decide +kernel
theorem dX12_set_22 : decode cX12_set 22 = .ok (.return_, 1) := by decide +kernel
theorem dX12_set_23 : decode cX12_set 23 = .ok (.aload_n 0, 1) := by decide +kernel
theorem dX12_set_24 : decode cX12_set 24 = .ok (.iload_n 1, 1) := by decide +kernel
theorem dX12_set_25 : decode cX12_set 25 = .ok (.iload_n 2, 1) := by decide +kernel
theorem dX12_set_26 : decode cX12_set 26 = .ok (.invokevirtual 201, 3) := by decide +kernel
theorem dX12_set_29 : decode cX12_set 29 = .ok (.return_, 1) := by decide +kernel
theorem dX12_peek_0 : decode cX12_peek 0 = .ok (.aload_n 0, 1) := by decide +kernel
theorem dX12_peek_1 : decode cX12_peek 1 = .ok (.iload_n 1, 1) := by decide +kernel
theorem dX12_peek_2 : decode cX12_peek 2 = .ok (.ifCond .lt 9, 3) := by decide +kernel
theorem dX12_peek_5 : decode cX12_peek 5 = .ok (.iload_n 1, 1) := by decide +kernel
theorem dX12_peek_6 : decode cX12_peek 6 = .ok (.ldc 205, 2) := by decide +kernel
theorem dX12_peek_8 : decode cX12_peek 8 = .ok (.if_icmp .le 7, 3) := by decide +kernel
theorem dX12_peek_11 : decode cX12_peek 11 = .ok (.iconst 1, 1) := by decide +kernel
theorem dX12_peek_12 : decode cX12_peek 12 = .ok (.goto 4, 3) := by decide +kernel
theorem dX12_peek_15 : decode cX12_peek 15 = .ok (.iconst 0, 1) := by decide +kernel
theorem dX12_peek_16 : decode cX12_peek 16 = .ok (.invokevirtual 315, 3) := by decide +kernel
theorem dX12_peek_19 : decode cX12_peek 19 = .ok (.ifCond .eq 7, 3) := by decide +kernel
theorem dX12_peek_22 : decode cX12_peek 22 = .ok (.iconst 0, 1) := by decide +kernel
theorem dX12_peek_23 : decode cX12_peek 23 = .ok (.goto 8, 3) := by decide +kernel
theorem dX12_peek_26 : decode cX12_peek 26 = .ok (.aload_n 0, 1) := by decide +kernel
theorem dX12_peek_27 : decode cX12_peek 27 = .ok (.iload_n 1, 1) := by decide +kernel
theorem dX12_peek_28 : decode cX12_peek 28 = .ok (.invokevirtual 216, 3) := by decide +kernel
theorem dX12_peek_31 : decode cX12_peek 31 = .ok (.ireturn, 1) := by decide +kernel
theorem dX12_poke_0 : decode cX12_poke 0 = .ok (.aload_n 0, 1) := by decide +kernel
theorem dX12_poke_1 : decode cX12_poke 1 = .ok (.iload_n 1, 1) := by decide +kernel
theorem dX12_poke_2 : decode cX12_poke 2 = .ok (.ifCond .lt 9, 3) := by decide +kernel
theorem dX12_poke_5 : decode cX12_poke 5 = .ok (.iload_n 1, 1) := by decide +kernel
theorem dX12_poke_6 : decode cX12_poke 6 = .ok (.ldc 205, 2) := by decide +kernel
theorem dX12_poke_8 : decode cX12_poke 8 = .ok (.if_icmp .le 7, 3) := by decide +kernel
theorem dX12_poke_11 : decode cX12_poke 11 = .ok (.iconst 1, 1) := by decide +kernel
theorem dX12_poke_12 : decode cX12_poke 12 = .ok (.goto 4, 3) := by decide +kernel
theorem dX12_poke_15 : decode cX12_poke 15 = .ok (.iconst 0, 1) := by decide +kernel
theorem dX12_poke_16 : decode cX12_poke 16 = .ok (.invokevirtual 315, 3) := by decide +kernel
theorem dX12_poke_19 : decode cX12_poke 19 = .ok (.ifCond .ne 14, 3) := by decide +kernel
theorem dX12_poke_22 : decode cX12_poke 22 = .ok (.iload_n 2, 1) := by decide +kernel
theorem dX12_poke_23 : decode cX12_poke 23 = .ok (.ifCond .lt 10, 3) := by decide +kernel
theorem dX12_poke_26 : decode cX12_poke 26 = .ok (.iload_n 2, 1) := by decide +kernel
theorem dX12_poke_27 : decode cX12_poke 27 = .ok (.sipush 255, 3) := by decide +kernel
theorem dX12_poke_30 : decode cX12_poke 30 = .ok (.if_icmp .le 5, 3) := by decide +kernel
theorem dX12_poke_33 : decode cX12_poke 33 = .ok (.iconst 0, 1) := by decide +kernel
theorem dX12_poke_34 : decode cX12_poke 34 = .ok (.ireturn, 1) := by decide +kernel
theorem dX12_poke_35 : decode cX12_poke 35 = .ok (.aload_n 0, 1) := by decide +kernel
theorem dX12_poke_36 : decode cX12_poke 36 = .ok (.iload_n 1, 1) := by decide +kernel
theorem dX12_poke_37 : decode cX12_poke 37 = .ok (.iload_n 2, 1) := by decide +kernel
theorem dX12_poke_38 : decode cX12_poke 38 = .ok (.invokevirtual 233, 3) := by decide +kernel
theorem dX12_poke_41 : decode cX12_poke 41 = .ok (.iconst 1, 1) := by decide +kernel
theorem dX12_poke_42 : decode cX12_poke 42 = .ok (.ireturn, 1) := by decide +kernel
theorem dX12_feed_0 : decode cX12_feed 0 = .ok (.aload_n 0, 1) := by decide +kernel
theorem dX12_feed_1 : decode cX12_feed 1 = .ok (.iconst 0, 1) := by decide +kernel
theorem dX12_feed_2 : decode cX12_feed 2 = .ok (.putfield 134, 3) := by decide +kernel
theorem dX12_feed_5 : decode cX12_feed 5 = .ok (.aload_n 0, 1) := by decide +kernel
theorem dX12_feed_6 : decode cX12_feed 6 = .ok (.getfield 326, 3) := by decide +kernel
theorem dX12_feed_9 : decode cX12_feed 9 = .ok (.bipush 20, 2) := by decide +kernel
theorem dX12_feed_11 : decode cX12_feed 11 = .ok (.iadd, 1) := by decide +kernel
theorem dX12_feed_12 : decode cX12_feed 12 = .ok (.sipush 2600, 3) := by decide +kernel
theorem dX12_feed_15 : decode cX12_feed 15 = .ok (.if_icmp .le 5, 3) := by decide +kernel
theorem dX12_feed_18 : decode cX12_feed 18 = .ok (.iconst (-1), 1) := by decide +kernel
theorem dX12_feed_19 : decode cX12_feed 19 = .ok (.ireturn, 1) := by decide +kernel
theorem dX12_feed_20 : decode cX12_feed 20 = .ok (.aload_n 0, 1) := by decide +kernel
theorem dX12_feed_21 : decode cX12_feed 21 = .ok (.iload_n 1, 1) := by decide +kernel
theorem dX12_feed_22 : decode cX12_feed 22 = .ok (.invokevirtual 329, 3) := by decide +kernel
theorem dX12_feed_25 : decode cX12_feed 25 = .ok (.aload_n 0, 1) := by decide +kernel
theorem dX12_feed_26 : decode cX12_feed 26 = .ok (.iload_n 2, 1) := by decide +kernel
theorem dX12_feed_27 : decode cX12_feed 27 = .ok (.invokevirtual 329, 3) := by decide +kernel
theorem dX12_feed_30 : decode cX12_feed 30 = .ok (.aload_n 0, 1) := by decide +kernel
theorem dX12_feed_31 : decode cX12_feed 31 = .ok (.iload_n 3, 1) := by decide +kernel
theorem dX12_feed_32 : decode cX12_feed 32 = .ok (.invokevirtual 329, 3) := by decide +kernel
theorem dX12_feed_35 : decode cX12_feed 35 = .ok (.aload_n 0, 1) := by decide +kernel
theorem dX12_feed_36 : decode cX12_feed 36 = .ok (.iload 4, 2) := by decide +kernel
theorem dX12_feed_38 : decode cX12_feed 38 = .ok (.invokevirtual 329, 3) := by decide +kernel
theorem dX12_feed_41 : decode cX12_feed 41 = .ok (.aload_n 0, 1) := by decide +kernel
theorem dX12_feed_42 : decode cX12_feed 42 = .ok (.iload 5, 2) := by decide +kernel
theorem dX12_feed_44 : decode cX12_feed 44 = .ok (.invokevirtual 329, 3) := by decide +kernel
theorem dX12_feed_47 : decode cX12_feed 47 = .ok (.aload_n 0, 1) := by decide +kernel
theorem dX12_feed_48 : decode cX12_feed 48 = .ok (.getfield 326, 3) := by decide +kernel
theorem dX12_feed_51 : decode cX12_feed 51 = .ok (.ireturn, 1) := by decide +kernel
theorem dX12_four_0 : decode cX12_four 0 = .ok (.bipush 24, 2) := by decide +kernel
theorem dX12_four_2 : decode cX12_four 2 = .ok (.istore_n 2, 1) := by decide +kernel
theorem dX12_four_3 : decode cX12_four 3 = .ok (.iload_n 2, 1) := by decide +kernel
theorem dX12_four_4 : decode cX12_four 4 = .ok (.ifCond .lt 32, 3) := by decide +kernel
theorem dX12_four_7 : decode cX12_four 7 = .ok (.aload_n 0, 1) := by decide +kernel
theorem dX12_four_8 : decode cX12_four 8 = .ok (.getfield 30, 3) := by decide +kernel
theorem dX12_four_11 : decode cX12_four 11 = .ok (.aload_n 0, 1) := by decide +kernel
theorem dX12_four_12 : decode cX12_four 12 = .ok (.getfield 326, 3) := by decide +kernel
theorem dX12_four_15 : decode cX12_four 15 = .ok (.iload_n 1, 1) := by decide +kernel
theorem dX12_four_16 : decode cX12_four 16 = .ok (.iload_n 2, 1) := by decide +kernel
theorem dX12_four_17 : decode cX12_four 17 = .ok (.ishr, 1) := by decide +kernel
theorem dX12_four_18 : decode cX12_four 18 = .ok (.i2b, 1) := by decide +kernel
theorem dX12_four_19 : decode cX12_four 19 = .ok (.bastore, 1) := by decide +kernel
theorem dX12_four_20 : decode cX12_four 20 = .ok (.aload_n 0, 1) := by decide +kernel
theorem dX12_four_21 : decode cX12_four 21 = .ok (.dup, 1) := by decide +kernel
theorem dX12_four_22 : decode cX12_four 22 = .ok (.getfield 326, 3) := by decide +kernel
theorem dX12_four_25 : decode cX12_four 25 = .ok (.iconst 1, 1) := by decide +kernel
theorem dX12_four_26 : decode cX12_four 26 = .ok (.iadd, 1) := by decide +kernel
theorem dX12_four_27 : decode cX12_four 27 = .ok (.putfield 326, 3) := by decide +kernel
theorem dX12_four_30 : decode cX12_four 30 = .ok (.iinc 2 (-8), 3) := by decide +kernel
theorem dX12_four_33 : decode cX12_four 33 = .ok (.goto (-30), 3) := by decide +kernel
theorem dX12_four_36 : decode cX12_four 36 = .ok (.return_, 1) := by decide +kernel
theorem dX12_end_0 : decode cX12_end 0 = .ok (.aload_n 0, 1) := by decide +kernel
theorem dX12_end_1 : decode cX12_end 1 = .ok (.iconst 0, 1) := by decide +kernel
theorem dX12_end_2 : decode cX12_end 2 = .ok (.putfield 134, 3) := by decide +kernel
theorem dX12_end_5 : decode cX12_end 5 = .ok (.iload_n 1, 1) := by decide +kernel
theorem dX12_end_6 : decode cX12_end 6 = .ok (.ifCond .lt 11, 3) := by decide +kernel
theorem dX12_end_9 : decode cX12_end 9 = .ok (.iload_n 1, 1) := by decide +kernel
theorem dX12_end_10 : decode cX12_end 10 = .ok (.aload_n 0, 1) := by decide +kernel
theorem dX12_end_11 : decode cX12_end 11 = .ok (.getfield 326, 3) := by decide +kernel
theorem dX12_end_14 : decode cX12_end 14 = .ok (.if_icmp .le 5, 3) := by decide +kernel
theorem dX12_end_17 : decode cX12_end 17 = .ok (.iconst 0, 1) := by decide +kernel
theorem dX12_end_18 : decode cX12_end 18 = .ok (.ireturn, 1) := by decide +kernel
theorem dX12_end_19 : decode cX12_end 19 = .ok (.aload_n 0, 1) := by decide +kernel
theorem dX12_end_20 : decode cX12_end 20 = .ok (.iload_n 1, 1) := by decide +kernel
theorem dX12_end_21 : decode cX12_end 21 = .ok (.putfield 326, 3) := by decide +kernel
theorem dX12_end_24 : decode cX12_end 24 = .ok (.iconst 1, 1) := by decide +kernel
theorem dX12_end_25 : decode cX12_end 25 = .ok (.ireturn, 1) := by decide +kernel
theorem dX12_wrong_0 : decode cX12_wrong 0 = .ok (.aload_n 0, 1) := by decide +kernel
theorem dX12_wrong_1 : decode cX12_wrong 1 = .ok (.iload_n 1, 1) := by decide +kernel
theorem dX12_wrong_2 : decode cX12_wrong 2 = .ok (.putfield 332, 3) := by decide +kernel
theorem dX12_wrong_5 : decode cX12_wrong 5 = .ok (.aload_n 0, 1) := by decide +kernel
theorem dX12_wrong_6 : decode cX12_wrong 6 = .ok (.iload_n 2, 1) := by decide +kernel
theorem dX12_wrong_7 : decode cX12_wrong 7 = .ok (.putfield 335, 3) := by decide +kernel
theorem dX12_wrong_10 : decode cX12_wrong 10 = .ok (.iconst 0, 1) := by decide +kernel
theorem dX12_wrong_11 : decode cX12_wrong 11 = .ok (.ireturn, 1) := by decide +kernel
theorem dX12_peek__0 : decode cX12_peek_ 0 = .ok (.aload_n 0, 1) := by decide +kernel
theorem dX12_peek__1 : decode cX12_peek_ 1 = .ok (.getfield 338, 3) := by decide +kernel
theorem dX12_peek__4 : decode cX12_peek_ 4 = .ok (.aload_n 0, 1) := by decide +kernel
theorem dX12_peek__5 : decode cX12_peek_ 5 = .ok (.getfield 341, 3) := by decide +kernel
theorem dX12_peek__8 : decode cX12_peek_ 8 = .ok (.if_icmp .ge 19, 3) := by decide +kernel
theorem dX12_peek__11 : decode cX12_peek_ 11 = .ok (.aload_n 0, 1) := by decide +kernel
theorem dX12_peek__12 : decode cX12_peek_ 12 = .ok (.getfield 30, 3) := by decide +kernel
theorem dX12_peek__15 : decode cX12_peek_ 15 = .ok (.aload_n 0, 1) := by decide +kernel
theorem dX12_peek__16 : decode cX12_peek_ 16 = .ok (.getfield 338, 3) := by decide +kernel
theorem dX12_peek__19 : decode cX12_peek_ 19 = .ok (.baload, 1) := by decide +kernel
theorem dX12_peek__20 : decode cX12_peek_ 20 = .ok (.sipush 255, 3) := by decide +kernel
theorem dX12_peek__23 : decode cX12_peek_ 23 = .ok (.iand, 1) := by decide +kernel
theorem dX12_peek__24 : decode cX12_peek_ 24 = .ok (.goto 4, 3) := by decide +kernel
theorem dX12_peek__27 : decode cX12_peek_ 27 = .ok (.iconst (-1), 1) := by decide +kernel
theorem dX12_peek__28 : decode cX12_peek_ 28 = .ok (.ireturn, 1) := by decide +kernel
theorem dX12_isSmall_0 : decode cX12_isSmall 0 = .ok (.iload_n 0, 1) := by decide +kernel
theorem dX12_isSmall_1 : decode cX12_isSmall 1 = .ok (.bipush 97, 2) := by decide +kernel
theorem dX12_isSmall_3 : decode cX12_isSmall 3 = .ok (.if_icmp .lt 13, 3) := by decide +kernel
theorem dX12_isSmall_6 : decode cX12_isSmall 6 = .ok (.iload_n 0, 1) := by decide +kernel
theorem dX12_isSmall_7 : decode cX12_isSmall 7 = .ok (.bipush 122, 2) := by decide +kernel
theorem dX12_isSmall_9 : decode cX12_isSmall 9 = .ok (.if_icmp .gt 7, 3) := by decide +kernel
theorem dX12_isSmall_12 : decode cX12_isSmall 12 = .ok (.iconst 1, 1) := by decide +kernel
theorem dX12_isSmall_13 : decode cX12_isSmall 13 = .ok (.goto 4, 3) := by decide +kernel
theorem dX12_isSmall_16 : decode cX12_isSmall 16 = .ok (.iconst 0, 1) := by decide +kernel
theorem dX12_isSmall_17 : decode cX12_isSmall 17 = .ok (.ireturn, 1) := by decide +kernel
theorem dX12_isDigit_0 : decode cX12_isDigit 0 = .ok (.iload_n 0, 1) := by decide +kernel
theorem dX12_isDigit_1 : decode cX12_isDigit 1 = .ok (.bipush 48, 2) := by decide +kernel
theorem dX12_isDigit_3 : decode cX12_isDigit 3 = .ok (.if_icmp .lt 13, 3) := by decide +kernel
theorem dX12_isDigit_6 : decode cX12_isDigit 6 = .ok (.iload_n 0, 1) := by decide +kernel
theorem dX12_isDigit_7 : decode cX12_isDigit 7 = .ok (.bipush 57, 2) := by decide +kernel
theorem dX12_isDigit_9 : decode cX12_isDigit 9 = .ok (.if_icmp .gt 7, 3) := by decide +kernel
theorem dX12_isDigit_12 : decode cX12_isDigit 12 = .ok (.iconst 1, 1) := by decide +kernel
theorem dX12_isDigit_13 : decode cX12_isDigit 13 = .ok (.goto 4, 3) := by decide +kernel
theorem dX12_isDigit_16 : decode cX12_isDigit 16 = .ok (.iconst 0, 1) := by decide +kernel
theorem dX12_isDigit_17 : decode cX12_isDigit 17 = .ok (.ireturn, 1) := by decide +kernel
theorem dX12_blanks_0 : decode cX12_blanks 0 = .ok (.aload_n 0, 1) := by decide +kernel
theorem dX12_blanks_1 : decode cX12_blanks 1 = .ok (.invokevirtual 344, 3) := by decide +kernel
theorem dX12_blanks_4 : decode cX12_blanks 4 = .ok (.bipush 32, 2) := by decide +kernel
theorem dX12_blanks_6 : decode cX12_blanks 6 = .ok (.if_icmp .ne 16, 3) := by decide +kernel
theorem dX12_blanks_9 : decode cX12_blanks 9 = .ok (.aload_n 0, 1) := by decide +kernel
theorem dX12_blanks_10 : decode cX12_blanks 10 = .ok (.dup, 1) := by decide +kernel
theorem dX12_blanks_11 : decode cX12_blanks 11 = .ok (.getfield 338, 3) := by decide +kernel
theorem dX12_blanks_14 : decode cX12_blanks 14 = .ok (.iconst 1, 1) := by decide +kernel
theorem dX12_blanks_15 : decode cX12_blanks 15 = .ok (.iadd, 1) := by decide +kernel
theorem dX12_blanks_16 : decode cX12_blanks 16 = .ok (.putfield 338, 3) := by decide +kernel
theorem dX12_blanks_19 : decode cX12_blanks 19 = .ok (.goto (-19), 3) := by decide +kernel
theorem dX12_blanks_22 : decode cX12_blanks 22 = .ok (.aload_n 0, 1) := by decide +kernel
theorem dX12_blanks_23 : decode cX12_blanks 23 = .ok (.invokevirtual 344, 3) := by decide +kernel
theorem dX12_blanks_26 : decode cX12_blanks 26 = .ok (.bipush 59, 2) := by decide +kernel
theorem dX12_blanks_28 : decode cX12_blanks 28 = .ok (.if_icmp .ne 11, 3) := by decide +kernel
theorem dX12_blanks_31 : decode cX12_blanks 31 = .ok (.aload_n 0, 1) := by decide +kernel
theorem dX12_blanks_32 : decode cX12_blanks 32 = .ok (.aload_n 0, 1) := by decide +kernel
theorem dX12_blanks_33 : decode cX12_blanks 33 = .ok (.getfield 341, 3) := by decide +kernel
theorem dX12_blanks_36 : decode cX12_blanks 36 = .ok (.putfield 338, 3) := by decide +kernel
theorem dX12_blanks_39 : decode cX12_blanks 39 = .ok (.return_, 1) := by decide +kernel
theorem dX12_must_0 : decode cX12_must 0 = .ok (.aload_n 0, 1) := by decide +kernel
theorem dX12_must_1 : decode cX12_must 1 = .ok (.invokevirtual 347, 3) := by decide +kernel
theorem dX12_must_4 : decode cX12_must 4 = .ok (.aload_n 0, 1) := by decide +kernel
theorem dX12_must_5 : decode cX12_must 5 = .ok (.invokevirtual 344, 3) := by decide +kernel
theorem dX12_must_8 : decode cX12_must 8 = .ok (.iload_n 1, 1) := by decide +kernel
theorem dX12_must_9 : decode cX12_must 9 = .ok (.if_icmp .eq 13, 3) := by decide +kernel
theorem dX12_must_12 : decode cX12_must 12 = .ok (.aload_n 0, 1) := by decide +kernel
theorem dX12_must_13 : decode cX12_must 13 = .ok (.iconst 1, 1) := by decide +kernel
theorem dX12_must_14 : decode cX12_must 14 = .ok (.aload_n 0, 1) := by decide +kernel
theorem dX12_must_15 : decode cX12_must 15 = .ok (.getfield 338, 3) := by decide +kernel
theorem dX12_must_18 : decode cX12_must 18 = .ok (.invokevirtual 350, 3) := by decide +kernel
theorem dX12_must_21 : decode cX12_must 21 = .ok (.ireturn, 1) := by decide +kernel
theorem dX12_must_22 : decode cX12_must 22 = .ok (.aload_n 0, 1) := by decide +kernel
theorem dX12_must_23 : decode cX12_must 23 = .ok (.dup, 1) := by decide +kernel
theorem dX12_must_24 : decode cX12_must 24 = .ok (.getfield 338, 3) := by decide +kernel
theorem dX12_must_27 : decode cX12_must 27 = .ok (.iconst 1, 1) := by decide +kernel
theorem dX12_must_28 : decode cX12_must 28 = .ok (.iadd, 1) := by decide +kernel
theorem dX12_must_29 : decode cX12_must 29 = .ok (.putfield 338, 3) := by decide +kernel
theorem dX12_must_32 : decode cX12_must 32 = .ok (.iconst 1, 1) := by decide +kernel
theorem dX12_must_33 : decode cX12_must 33 = .ok (.ireturn, 1) := by decide +kernel
theorem dX12_readName_0 : decode cX12_readName 0 = .ok (.aload_n 0, 1) := by decide +kernel
theorem dX12_readName_1 : decode cX12_readName 1 = .ok (.invokevirtual 347, 3) := by decide +kernel
theorem dX12_readName_4 : decode cX12_readName 4 = .ok (.aload_n 0, 1) := by decide +kernel
theorem dX12_readName_5 : decode cX12_readName 5 = .ok (.aload_n 0, 1) := by decide +kernel
theorem dX12_readName_6 : decode cX12_readName 6 = .ok (.getfield 338, 3) := by decide +kernel
theorem dX12_readName_9 : decode cX12_readName 9 = .ok (.putfield 354, 3) := by decide +kernel
theorem dX12_readName_12 : decode cX12_readName 12 = .ok (.aload_n 0, 1) := by decide +kernel
theorem dX12_readName_13 : decode cX12_readName 13 = .ok (.invokevirtual 344, 3) := by decide +kernel
theorem dX12_readName_16 : decode cX12_readName 16 = .ok (.invokestatic 357, 3) := by decide +kernel
theorem dX12_readName_19 : decode cX12_readName 19 = .ok (.ifCond .ne 13, 3) := by decide +kernel
theorem dX12_readName_22 : decode cX12_readName 22 = .ok (.aload_n 0, 1) := by decide +kernel
theorem dX12_readName_23 : decode cX12_readName 23 = .ok (.iconst 1, 1) := by decide +kernel
theorem dX12_readName_24 : decode cX12_readName 24 = .ok (.aload_n 0, 1) := by decide +kernel
theorem dX12_readName_25 : decode cX12_readName 25 = .ok (.getfield 338, 3) := by decide +kernel
theorem dX12_readName_28 : decode cX12_readName 28 = .ok (.invokevirtual 350, 3) := by decide +kernel
theorem dX12_readName_31 : decode cX12_readName 31 = .ok (.ireturn, 1) := by decide +kernel
theorem dX12_readName_32 : decode cX12_readName 32 = .ok (.iconst 0, 1) := by decide +kernel
theorem dX12_readName_33 : decode cX12_readName 33 = .ok (.istore_n 1, 1) := by decide +kernel
theorem dX12_readName_34 : decode cX12_readName 34 = .ok (.aload_n 0, 1) := by decide +kernel
theorem dX12_readName_35 : decode cX12_readName 35 = .ok (.lconst 0, 1) := by decide +kernel
theorem dX12_readName_36 : decode cX12_readName 36 = .ok (.putfield 360, 3) := by decide +kernel
theorem dX12_readName_39 : decode cX12_readName 39 = .ok (.aload_n 0, 1) := by decide +kernel
theorem dX12_readName_40 : decode cX12_readName 40 = .ok (.invokevirtual 344, 3) := by decide +kernel
theorem dX12_readName_43 : decode cX12_readName 43 = .ok (.invokestatic 357, 3) := by decide +kernel
theorem dX12_readName_46 : decode cX12_readName 46 = .ok (.ifCond .ne 13, 3) := by decide +kernel
theorem dX12_readName_49 : decode cX12_readName 49 = .ok (.aload_n 0, 1) := by decide +kernel
theorem dX12_readName_50 : decode cX12_readName 50 = .ok (.invokevirtual 344, 3) := by decide +kernel
theorem dX12_readName_53 : decode cX12_readName 53 = .ok (.invokestatic 364, 3) := by decide +kernel
theorem dX12_readName_56 : decode cX12_readName 56 = .ok (.ifCond .eq 42, 3) := by decide +kernel
theorem dX12_readName_59 : decode cX12_readName 59 = .ok (.iload_n 1, 1) := by decide +kernel
theorem dX12_readName_60 : decode cX12_readName 60 = .ok (.bipush 8, 2) := by decide +kernel
theorem dX12_readName_62 : decode cX12_readName 62 = .ok (.if_icmp .ge 20, 3) := by decide +kernel
theorem dX12_readName_65 : decode cX12_readName 65 = .ok (.aload_n 0, 1) := by decide +kernel
theorem dX12_readName_66 : decode cX12_readName 66 = .ok (.aload_n 0, 1) := by decide +kernel
theorem dX12_readName_67 : decode cX12_readName 67 = .ok (.getfield 360, 3) := by decide +kernel
theorem dX12_readName_70 : decode cX12_readName 70 = .ok (.bipush 8, 2) := by decide +kernel
theorem dX12_readName_72 : decode cX12_readName 72 = .ok (.lshl, 1) := by decide +kernel
theorem dX12_readName_73 : decode cX12_readName 73 = .ok (.aload_n 0, 1) := by decide +kernel
theorem dX12_readName_74 : decode cX12_readName 74 = .ok (.invokevirtual 344, 3) := by decide +kernel
theorem dX12_readName_77 : decode cX12_readName 77 = .ok (.i2l, 1) := by decide +kernel
theorem dX12_readName_78 : decode cX12_readName 78 = .ok (.lor, 1) := by decide +kernel
theorem dX12_readName_79 : decode cX12_readName 79 = .ok (.putfield 360, 3) := by decide +kernel
theorem dX12_readName_82 : decode cX12_readName 82 = .ok (.iinc 1 1, 3) := by decide +kernel
theorem dX12_readName_85 : decode cX12_readName 85 = .ok (.aload_n 0, 1) := by decide +kernel
theorem dX12_readName_86 : decode cX12_readName 86 = .ok (.dup, 1) := by decide +kernel
theorem dX12_readName_87 : decode cX12_readName 87 = .ok (.getfield 338, 3) := by decide +kernel
theorem dX12_readName_90 : decode cX12_readName 90 = .ok (.iconst 1, 1) := by decide +kernel
theorem dX12_readName_91 : decode cX12_readName 91 = .ok (.iadd, 1) := by decide +kernel
theorem dX12_readName_92 : decode cX12_readName 92 = .ok (.putfield 338, 3) := by decide +kernel
theorem dX12_readName_95 : decode cX12_readName 95 = .ok (.goto (-56), 3) := by decide +kernel
theorem dX12_readName_98 : decode cX12_readName 98 = .ok (.iload_n 1, 1) := by decide +kernel
theorem dX12_readName_99 : decode cX12_readName 99 = .ok (.bipush 8, 2) := by decide +kernel
theorem dX12_readName_101 : decode cX12_readName 101 = .ok (.if_icmp .le 15, 3) := by decide +kernel
theorem dX12_readName_104 : decode cX12_readName 104 = .ok (.aload_n 0, 1) := by decide +kernel
theorem dX12_readName_105 : decode cX12_readName 105 = .ok (.iconst 1, 1) := by decide +kernel
theorem dX12_readName_106 : decode cX12_readName 106 = .ok (.aload_n 0, 1) := by decide +kernel
theorem dX12_readName_107 : decode cX12_readName 107 = .ok (.getfield 354, 3) := by decide +kernel
theorem dX12_readName_110 : decode cX12_readName 110 = .ok (.invokevirtual 350, 3) := by decide +kernel
theorem dX12_readName_113 : decode cX12_readName 113 = .ok (.ifCond .eq 7, 3) := by decide +kernel
theorem dX12_readName_116 : decode cX12_readName 116 = .ok (.iconst 1, 1) := by decide +kernel
theorem dX12_readName_117 : decode cX12_readName 117 = .ok (.goto 4, 3) := by decide +kernel
theorem dX12_readName_120 : decode cX12_readName 120 = .ok (.iconst 0, 1) := by decide +kernel
theorem dX12_readName_121 : decode cX12_readName 121 = .ok (.ireturn, 1) := by decide +kernel
theorem dX12_registerOf_0 : decode cX12_registerOf 0 = .ok (.aload_n 0, 1) := by decide +kernel
theorem dX12_registerOf_1 : decode cX12_registerOf 1 = .ok (.getfield 360, 3) := by decide +kernel
theorem dX12_registerOf_4 : decode cX12_registerOf 4 = .ok (.ldc2_w 367, 3) := by decide +kernel
theorem dX12_registerOf_7 : decode cX12_registerOf 7 = .ok (.lcmp, 1) := by decide +kernel
theorem dX12_registerOf_8 : decode cX12_registerOf 8 = .ok (.ifCond .ne 5, 3) := by decide +kernel
theorem dX12_registerOf_11 : decode cX12_registerOf 11 = .ok (.iconst 0, 1) := by decide +kernel
theorem dX12_registerOf_12 : decode cX12_registerOf 12 = .ok (.ireturn, 1) := by decide +kernel
theorem dX12_registerOf_13 : decode cX12_registerOf 13 = .ok (.aload_n 0, 1) := by decide +kernel
theorem dX12_registerOf_14 : decode cX12_registerOf 14 = .ok (.getfield 360, 3) := by decide +kernel
theorem dX12_registerOf_17 : decode cX12_registerOf 17 = .ok (.ldc2_w 369, 3) := by decide +kernel
theorem dX12_registerOf_20 : decode cX12_registerOf 20 = .ok (.lcmp, 1) := by decide +kernel
theorem dX12_registerOf_21 : decode cX12_registerOf 21 = .ok (.ifCond .ne 5, 3) := by decide +kernel
theorem dX12_registerOf_24 : decode cX12_registerOf 24 = .ok (.iconst 1, 1) := by decide +kernel
theorem dX12_registerOf_25 : decode cX12_registerOf 25 = .ok (.ireturn, 1) := by decide +kernel
theorem dX12_registerOf_26 : decode cX12_registerOf 26 = .ok (.aload_n 0, 1) := by decide +kernel
theorem dX12_registerOf_27 : decode cX12_registerOf 27 = .ok (.getfield 360, 3) := by decide +kernel
theorem dX12_registerOf_30 : decode cX12_registerOf 30 = .ok (.ldc2_w 371, 3) := by decide +kernel
theorem dX12_registerOf_33 : decode cX12_registerOf 33 = .ok (.lcmp, 1) := by decide +kernel
theorem dX12_registerOf_34 : decode cX12_registerOf 34 = .ok (.ifCond .ne 5, 3) := by decide +kernel
theorem dX12_registerOf_37 : decode cX12_registerOf 37 = .ok (.iconst 2, 1) := by decide +kernel
theorem dX12_registerOf_38 : decode cX12_registerOf 38 = .ok (.ireturn, 1) := by decide +kernel
theorem dX12_registerOf_39 : decode cX12_registerOf 39 = .ok (.aload_n 0, 1) := by decide +kernel
theorem dX12_registerOf_40 : decode cX12_registerOf 40 = .ok (.getfield 360, 3) := by decide +kernel
theorem dX12_registerOf_43 : decode cX12_registerOf 43 = .ok (.bipush 8, 2) := by decide +kernel
theorem dX12_registerOf_45 : decode cX12_registerOf 45 = .ok (.lshr, 1) := by decide +kernel
theorem dX12_registerOf_46 : decode cX12_registerOf 46 = .ok (.ldc2_w 373, 3) := by decide +kernel
theorem dX12_registerOf_49 : decode cX12_registerOf 49 = .ok (.lcmp, 1) := by decide +kernel
theorem dX12_registerOf_50 : decode cX12_registerOf 50 = .ok (.ifCond .ne 31, 3) := by decide +kernel
theorem dX12_registerOf_53 : decode cX12_registerOf 53 = .ok (.aload_n 0, 1) := by decide +kernel
theorem dX12_registerOf_54 : decode cX12_registerOf 54 = .ok (.getfield 360, 3) := by decide +kernel
theorem dX12_registerOf_57 : decode cX12_registerOf 57 = .ok (.ldc2_w 375, 3) := by decide +kernel
theorem dX12_registerOf_60 : decode cX12_registerOf 60 = .ok (.land, 1) := by decide +kernel
theorem dX12_registerOf_61 : decode cX12_registerOf 61 = .ok (.l2i, 1) := by decide +kernel
theorem dX12_registerOf_62 : decode cX12_registerOf 62 = .ok (.invokestatic 364, 3) := by decide +kernel
theorem dX12_registerOf_65 : decode cX12_registerOf 65 = .ok (.ifCond .eq 16, 3) := by decide +kernel
theorem dX12_registerOf_68 : decode cX12_registerOf 68 = .ok (.aload_n 0, 1) := by decide +kernel
theorem dX12_registerOf_69 : decode cX12_registerOf 69 = .ok (.getfield 360, 3) := by decide +kernel
theorem dX12_registerOf_72 : decode cX12_registerOf 72 = .ok (.ldc2_w 375, 3) := by decide +kernel
theorem dX12_registerOf_75 : decode cX12_registerOf 75 = .ok (.land, 1) := by decide +kernel
theorem dX12_registerOf_76 : decode cX12_registerOf 76 = .ok (.l2i, 1) := by decide +kernel
theorem dX12_registerOf_77 : decode cX12_registerOf 77 = .ok (.bipush 48, 2) := by decide +kernel
theorem dX12_registerOf_79 : decode cX12_registerOf 79 = .ok (.isub, 1) := by decide +kernel
theorem dX12_registerOf_80 : decode cX12_registerOf 80 = .ok (.ireturn, 1) := by decide +kernel
theorem dX12_registerOf_81 : decode cX12_registerOf 81 = .ok (.aload_n 0, 1) := by decide +kernel
theorem dX12_registerOf_82 : decode cX12_registerOf 82 = .ok (.getfield 360, 3) := by decide +kernel
theorem dX12_registerOf_85 : decode cX12_registerOf 85 = .ok (.bipush 8, 2) := by decide +kernel
theorem dX12_registerOf_87 : decode cX12_registerOf 87 = .ok (.lshr, 1) := by decide +kernel
theorem dX12_registerOf_88 : decode cX12_registerOf 88 = .ok (.ldc2_w 377, 3) := by decide +kernel
theorem dX12_registerOf_91 : decode cX12_registerOf 91 = .ok (.lcmp, 1) := by decide +kernel
theorem dX12_registerOf_92 : decode cX12_registerOf 92 = .ok (.ifCond .ne 40, 3) := by decide +kernel
theorem dX12_registerOf_95 : decode cX12_registerOf 95 = .ok (.aload_n 0, 1) := by decide +kernel
theorem dX12_registerOf_96 : decode cX12_registerOf 96 = .ok (.getfield 360, 3) := by decide +kernel
theorem dX12_registerOf_99 : decode cX12_registerOf 99 = .ok (.ldc2_w 379, 3) := by decide +kernel
theorem dX12_registerOf_102 : decode cX12_registerOf 102 = .ok (.lcmp, 1) := by decide +kernel
theorem dX12_registerOf_103 : decode cX12_registerOf 103 = .ok (.ifCond .lt 29, 3) := by decide +kernel
theorem dX12_registerOf_106 : decode cX12_registerOf 106 = .ok (.aload_n 0, 1) := by decide +kernel
theorem dX12_registerOf_107 : decode cX12_registerOf 107 = .ok (.getfield 360, 3) := by decide +kernel
theorem dX12_registerOf_110 : decode cX12_registerOf 110 = .ok (.ldc2_w 381, 3) := by decide +kernel
theorem dX12_registerOf_113 : decode cX12_registerOf 113 = .ok (.lcmp, 1) := by decide +kernel
theorem dX12_registerOf_114 : decode cX12_registerOf 114 = .ok (.ifCond .gt 18, 3) := by decide +kernel
theorem dX12_registerOf_117 : decode cX12_registerOf 117 = .ok (.aload_n 0, 1) := by decide +kernel
theorem dX12_registerOf_118 : decode cX12_registerOf 118 = .ok (.getfield 360, 3) := by decide +kernel
theorem dX12_registerOf_121 : decode cX12_registerOf 121 = .ok (.ldc2_w 375, 3) := by decide +kernel
theorem dX12_registerOf_124 : decode cX12_registerOf 124 = .ok (.land, 1) := by decide +kernel
theorem dX12_registerOf_125 : decode cX12_registerOf 125 = .ok (.l2i, 1) := by decide +kernel
theorem dX12_registerOf_126 : decode cX12_registerOf 126 = .ok (.bipush 38, 2) := by decide +kernel
theorem dX12_registerOf_128 : decode cX12_registerOf 128 = .ok (.isub, 1) := by decide +kernel
theorem dX12_registerOf_129 : decode cX12_registerOf 129 = .ok (.goto 4, 3) := by decide +kernel
theorem dX12_registerOf_132 : decode cX12_registerOf 132 = .ok (.iconst (-1), 1) := by decide +kernel
theorem dX12_registerOf_133 : decode cX12_registerOf 133 = .ok (.ireturn, 1) := by decide +kernel
theorem dX12_statementOf_0 : decode cX12_statementOf 0 = .ok (.iconst 0, 1) := by decide +kernel
theorem dX12_statementOf_1 : decode cX12_statementOf 1 = .ok (.istore_n 1, 1) := by decide +kernel
theorem dX12_statementOf_2 : decode cX12_statementOf 2 = .ok (.iload_n 1, 1) := by decide +kernel
theorem dX12_statementOf_3 : decode cX12_statementOf 3 = .ok (.bipush 35, 2) := by decide +kernel
theorem dX12_statementOf_5 : decode cX12_statementOf 5 = .ok (.if_icmp .ge 30, 3) := by decide +kernel
theorem dX12_statementOf_8 : decode cX12_statementOf 8 = .ok (.aload_n 0, 1) := by decide +kernel
theorem dX12_statementOf_9 : decode cX12_statementOf 9 = .ok (.getfield 103, 3) := by decide +kernel
theorem dX12_statementOf_12 : decode cX12_statementOf 12 = .ok (.iload_n 1, 1) := by decide +kernel
theorem dX12_statementOf_13 : decode cX12_statementOf 13 = .ok (.laload, 1) := by decide +kernel
theorem dX12_statementOf_14 : decode cX12_statementOf 14 = .ok (.aload_n 0, 1) := by decide +kernel
theorem dX12_statementOf_15 : decode cX12_statementOf 15 = .ok (.getfield 360, 3) := by decide +kernel
theorem dX12_statementOf_18 : decode cX12_statementOf 18 = .ok (.lcmp, 1) := by decide +kernel
theorem dX12_statementOf_19 : decode cX12_statementOf 19 = .ok (.ifCond .ne 10, 3) := by decide +kernel
theorem dX12_statementOf_22 : decode cX12_statementOf 22 = .ok (.aload_n 0, 1) := by decide +kernel
theorem dX12_statementOf_23 : decode cX12_statementOf 23 = .ok (.getfield 107, 3) := by decide +kernel
theorem dX12_statementOf_26 : decode cX12_statementOf 26 = .ok (.iload_n 1, 1) := by decide +kernel
theorem dX12_statementOf_27 : decode cX12_statementOf 27 = .ok (.iaload, 1) := by decide +kernel
theorem dX12_statementOf_28 : decode cX12_statementOf 28 = .ok (.ireturn, 1) := by decide +kernel
theorem dX12_statementOf_29 : decode cX12_statementOf 29 = .ok (.iinc 1 1, 3) := by decide +kernel
theorem dX12_statementOf_32 : decode cX12_statementOf 32 = .ok (.goto (-30), 3) := by decide +kernel
theorem dX12_statementOf_35 : decode cX12_statementOf 35 = .ok (.iconst (-1), 1) := by decide +kernel
theorem dX12_statementOf_36 : decode cX12_statementOf 36 = .ok (.ireturn, 1) := by decide +kernel
theorem dX12_readNumber_0 : decode cX12_readNumber 0 = .ok (.aload_n 0, 1) := by decide +kernel
theorem dX12_readNumber_1 : decode cX12_readNumber 1 = .ok (.invokevirtual 347, 3) := by decide +kernel
theorem dX12_readNumber_4 : decode cX12_readNumber 4 = .ok (.aload_n 0, 1) := by decide +kernel
theorem dX12_readNumber_5 : decode cX12_readNumber 5 = .ok (.getfield 338, 3) := by decide +kernel
theorem dX12_readNumber_8 : decode cX12_readNumber 8 = .ok (.istore_n 1, 1) := by decide +kernel
theorem dX12_readNumber_9 : decode cX12_readNumber 9 = .ok (.aload_n 0, 1) := by decide +kernel
theorem dX12_readNumber_10 : decode cX12_readNumber 10 = .ok (.invokevirtual 344, 3) := by decide +kernel
theorem dX12_readNumber_13 : decode cX12_readNumber 13 = .ok (.invokestatic 364, 3) := by decide +kernel
theorem dX12_readNumber_16 : decode cX12_readNumber 16 = .ok (.ifCond .ne 13, 3) := by decide +kernel
theorem dX12_readNumber_19 : decode cX12_readNumber 19 = .ok (.aload_n 0, 1) := by decide +kernel
theorem dX12_readNumber_20 : decode cX12_readNumber 20 = .ok (.iconst 1, 1) := by decide +kernel
theorem dX12_readNumber_21 : decode cX12_readNumber 21 = .ok (.aload_n 0, 1) := by decide +kernel
theorem dX12_readNumber_22 : decode cX12_readNumber 22 = .ok (.getfield 338, 3) := by decide +kernel
theorem dX12_readNumber_25 : decode cX12_readNumber 25 = .ok (.invokevirtual 350, 3) := by decide +kernel
theorem dX12_readNumber_28 : decode cX12_readNumber 28 = .ok (.ireturn, 1) := by decide +kernel
theorem dX12_readNumber_29 : decode cX12_readNumber 29 = .ok (.aload_n 0, 1) := by decide +kernel
theorem dX12_readNumber_30 : decode cX12_readNumber 30 = .ok (.invokevirtual 344, 3) := by decide +kernel
theorem dX12_readNumber_33 : decode cX12_readNumber 33 = .ok (.bipush 48, 2) := by decide +kernel
theorem dX12_readNumber_35 : decode cX12_readNumber 35 = .ok (.if_icmp .ne 36, 3) := by decide +kernel
theorem dX12_readNumber_38 : decode cX12_readNumber 38 = .ok (.aload_n 0, 1) := by decide +kernel
theorem dX12_readNumber_39 : decode cX12_readNumber 39 = .ok (.getfield 338, 3) := by decide +kernel
theorem dX12_readNumber_42 : decode cX12_readNumber 42 = .ok (.iconst 1, 1) := by decide +kernel
theorem dX12_readNumber_43 : decode cX12_readNumber 43 = .ok (.iadd, 1) := by decide +kernel
theorem dX12_readNumber_44 : decode cX12_readNumber 44 = .ok (.aload_n 0, 1) := by decide +kernel
theorem dX12_readNumber_45 : decode cX12_readNumber 45 = .ok (.getfield 341, 3) := by decide +kernel
theorem dX12_readNumber_48 : decode cX12_readNumber 48 = .ok (.if_icmp .ge 23, 3) := by decide +kernel
theorem dX12_readNumber_51 : decode cX12_readNumber 51 = .ok (.aload_n 0, 1) := by decide +kernel
theorem dX12_readNumber_52 : decode cX12_readNumber 52 = .ok (.getfield 30, 3) := by decide +kernel
theorem dX12_readNumber_55 : decode cX12_readNumber 55 = .ok (.aload_n 0, 1) := by decide +kernel
theorem dX12_readNumber_56 : decode cX12_readNumber 56 = .ok (.getfield 338, 3) := by decide +kernel
theorem dX12_readNumber_59 : decode cX12_readNumber 59 = .ok (.iconst 1, 1) := by decide +kernel
theorem dX12_readNumber_60 : decode cX12_readNumber 60 = .ok (.iadd, 1) := by decide +kernel
theorem dX12_readNumber_61 : decode cX12_readNumber 61 = .ok (.baload, 1) := by decide +kernel
theorem dX12_readNumber_62 : decode cX12_readNumber 62 = .ok (.bipush 120, 2) := by decide +kernel
theorem dX12_readNumber_64 : decode cX12_readNumber 64 = .ok (.if_icmp .ne 7, 3) := by decide +kernel
theorem dX12_readNumber_67 : decode cX12_readNumber 67 = .ok (.iconst 1, 1) := by decide +kernel
theorem dX12_readNumber_68 : decode cX12_readNumber 68 = .ok (.goto 4, 3) := by decide +kernel
theorem dX12_readNumber_71 : decode cX12_readNumber 71 = .ok (.iconst 0, 1) := by decide +kernel
theorem dX12_readNumber_72 : decode cX12_readNumber 72 = .ok (.istore_n 2, 1) := by decide +kernel
theorem dX12_readNumber_73 : decode cX12_readNumber 73 = .ok (.iload_n 2, 1) := by decide +kernel
theorem dX12_readNumber_74 : decode cX12_readNumber 74 = .ok (.ifCond .eq 13, 3) := by decide +kernel
theorem dX12_readNumber_77 : decode cX12_readNumber 77 = .ok (.aload_n 0, 1) := by decide +kernel
theorem dX12_readNumber_78 : decode cX12_readNumber 78 = .ok (.dup, 1) := by decide +kernel
theorem dX12_readNumber_79 : decode cX12_readNumber 79 = .ok (.getfield 338, 3) := by decide +kernel
theorem dX12_readNumber_82 : decode cX12_readNumber 82 = .ok (.iconst 2, 1) := by decide +kernel
theorem dX12_readNumber_83 : decode cX12_readNumber 83 = .ok (.iadd, 1) := by decide +kernel
theorem dX12_readNumber_84 : decode cX12_readNumber 84 = .ok (.putfield 338, 3) := by decide +kernel
theorem dX12_readNumber_87 : decode cX12_readNumber 87 = .ok (.iconst 0, 1) := by decide +kernel
theorem dX12_readNumber_88 : decode cX12_readNumber 88 = .ok (.istore_n 3, 1) := by decide +kernel
theorem dX12_readNumber_89 : decode cX12_readNumber 89 = .ok (.aload_n 0, 1) := by decide +kernel
theorem dX12_readNumber_90 : decode cX12_readNumber 90 = .ok (.iconst 0, 1) := by decide +kernel
theorem dX12_readNumber_91 : decode cX12_readNumber 91 = .ok (.putfield 383, 3) := by decide +kernel
theorem dX12_readNumber_94 : decode cX12_readNumber 94 = .ok (.iconst 1, 1) := by decide +kernel
theorem dX12_readNumber_95 : decode cX12_readNumber 95 = .ok (.istore 4, 2) := by decide +kernel
theorem dX12_readNumber_97 : decode cX12_readNumber 97 = .ok (.aload_n 0, 1) := by decide +kernel
theorem dX12_readNumber_98 : decode cX12_readNumber 98 = .ok (.invokevirtual 344, 3) := by decide +kernel
theorem dX12_readNumber_101 : decode cX12_readNumber 101 = .ok (.invokestatic 357, 3) := by decide +kernel
theorem dX12_readNumber_104 : decode cX12_readNumber 104 = .ok (.ifCond .ne 13, 3) := by decide +kernel
theorem dX12_readNumber_107 : decode cX12_readNumber 107 = .ok (.aload_n 0, 1) := by decide +kernel
theorem dX12_readNumber_108 : decode cX12_readNumber 108 = .ok (.invokevirtual 344, 3) := by decide +kernel
theorem dX12_readNumber_111 : decode cX12_readNumber 111 = .ok (.invokestatic 364, 3) := by decide +kernel
theorem dX12_readNumber_114 : decode cX12_readNumber 114 = .ok (.ifCond .eq 125, 3) := by decide +kernel
theorem dX12_readNumber_117 : decode cX12_readNumber 117 = .ok (.aload_n 0, 1) := by decide +kernel
theorem dX12_readNumber_118 : decode cX12_readNumber 118 = .ok (.invokevirtual 344, 3) := by decide +kernel
theorem dX12_readNumber_121 : decode cX12_readNumber 121 = .ok (.istore 5, 2) := by decide +kernel
theorem dX12_readNumber_123 : decode cX12_readNumber 123 = .ok (.iload 5, 2) := by decide +kernel
theorem dX12_readNumber_125 : decode cX12_readNumber 125 = .ok (.invokestatic 364, 3) := by decide +kernel
theorem dX12_readNumber_128 : decode cX12_readNumber 128 = .ok (.ifCond .eq 11, 3) := by decide +kernel
theorem dX12_readNumber_131 : decode cX12_readNumber 131 = .ok (.iload 5, 2) := by decide +kernel
theorem dX12_readNumber_133 : decode cX12_readNumber 133 = .ok (.bipush 48, 2) := by decide +kernel
theorem dX12_readNumber_135 : decode cX12_readNumber 135 = .ok (.isub, 1) := by decide +kernel
theorem dX12_readNumber_136 : decode cX12_readNumber 136 = .ok (.goto 20, 3) := by decide +kernel
theorem dX12_readNumber_139 : decode cX12_readNumber 139 = .ok (.iload 5, 2) := by decide +kernel
theorem dX12_readNumber_141 : decode cX12_readNumber 141 = .ok (.bipush 103, 2) := by decide +kernel
theorem dX12_readNumber_143 : decode cX12_readNumber 143 = .ok (.if_icmp .ge 11, 3) := by decide +kernel
theorem dX12_readNumber_146 : decode cX12_readNumber 146 = .ok (.iload 5, 2) := by decide +kernel
theorem dX12_readNumber_148 : decode cX12_readNumber 148 = .ok (.bipush 87, 2) := by decide +kernel
theorem dX12_readNumber_150 : decode cX12_readNumber 150 = .ok (.isub, 1) := by decide +kernel
theorem dX12_readNumber_151 : decode cX12_readNumber 151 = .ok (.goto 5, 3) := by decide +kernel
theorem dX12_readNumber_154 : decode cX12_readNumber 154 = .ok (.bipush 99, 2) := by decide +kernel
theorem dX12_readNumber_156 : decode cX12_readNumber 156 = .ok (.istore 6, 2) := by decide +kernel
theorem dX12_readNumber_158 : decode cX12_readNumber 158 = .ok (.iload 4, 2) := by decide +kernel
theorem dX12_readNumber_160 : decode cX12_readNumber 160 = .ok (.ifCond .eq 23, 3) := by decide +kernel
theorem dX12_readNumber_163 : decode cX12_readNumber 163 = .ok (.iload 6, 2) := by decide +kernel
theorem dX12_readNumber_165 : decode cX12_readNumber 165 = .ok (.iload_n 2, 1) := by decide +kernel
theorem dX12_readNumber_166 : decode cX12_readNumber 166 = .ok (.ifCond .eq 8, 3) := by decide +kernel
theorem dX12_readNumber_169 : decode cX12_readNumber 169 = .ok (.bipush 16, 2) := by decide +kernel
theorem dX12_readNumber_171 : decode cX12_readNumber 171 = .ok (.goto 5, 3) := by decide +kernel
theorem dX12_readNumber_174 : decode cX12_readNumber 174 = .ok (.bipush 10, 2) := by decide +kernel
theorem dX12_readNumber_176 : decode cX12_readNumber 176 = .ok (.if_icmp .ge 7, 3) := by decide +kernel
theorem dX12_readNumber_179 : decode cX12_readNumber 179 = .ok (.iconst 1, 1) := by decide +kernel
theorem dX12_readNumber_180 : decode cX12_readNumber 180 = .ok (.goto 4, 3) := by decide +kernel
theorem dX12_readNumber_183 : decode cX12_readNumber 183 = .ok (.iconst 0, 1) := by decide +kernel
theorem dX12_readNumber_184 : decode cX12_readNumber 184 = .ok (.istore 4, 2) := by decide +kernel
theorem dX12_readNumber_186 : decode cX12_readNumber 186 = .ok (.iload_n 3, 1) := by decide +kernel
theorem dX12_readNumber_187 : decode cX12_readNumber 187 = .ok (.iconst 5, 1) := by decide +kernel
theorem dX12_readNumber_188 : decode cX12_readNumber 188 = .ok (.if_icmp .ge 35, 3) := by decide +kernel
theorem dX12_readNumber_191 : decode cX12_readNumber 191 = .ok (.aload_n 0, 1) := by decide +kernel
theorem dX12_readNumber_192 : decode cX12_readNumber 192 = .ok (.aload_n 0, 1) := by decide +kernel
theorem dX12_readNumber_193 : decode cX12_readNumber 193 = .ok (.getfield 383, 3) := by decide +kernel
theorem dX12_readNumber_196 : decode cX12_readNumber 196 = .ok (.iload_n 2, 1) := by decide +kernel
theorem dX12_readNumber_197 : decode cX12_readNumber 197 = .ok (.ifCond .eq 8, 3) := by decide +kernel
theorem dX12_readNumber_200 : decode cX12_readNumber 200 = .ok (.bipush 16, 2) := by decide +kernel
theorem dX12_readNumber_202 : decode cX12_readNumber 202 = .ok (.goto 5, 3) := by decide +kernel
theorem dX12_readNumber_205 : decode cX12_readNumber 205 = .ok (.bipush 10, 2) := by decide +kernel
theorem dX12_readNumber_207 : decode cX12_readNumber 207 = .ok (.imul, 1) := by decide +kernel
theorem dX12_readNumber_208 : decode cX12_readNumber 208 = .ok (.iload 4, 2) := by decide +kernel
theorem dX12_readNumber_210 : decode cX12_readNumber 210 = .ok (.ifCond .eq 8, 3) := by decide +kernel
theorem dX12_readNumber_213 : decode cX12_readNumber 213 = .ok (.iload 6, 2) := by decide +kernel
theorem dX12_readNumber_215 : decode cX12_readNumber 215 = .ok (.goto 4, 3) := by decide +kernel
theorem dX12_readNumber_218 : decode cX12_readNumber 218 = .ok (.iconst 0, 1) := by decide +kernel
theorem dX12_readNumber_219 : decode cX12_readNumber 219 = .ok (.iadd, 1) := by decide +kernel
theorem dX12_readNumber_220 : decode cX12_readNumber 220 = .ok (.putfield 383, 3) := by decide +kernel
theorem dX12_readNumber_223 : decode cX12_readNumber 223 = .ok (.iinc 3 1, 3) := by decide +kernel
theorem dX12_readNumber_226 : decode cX12_readNumber 226 = .ok (.aload_n 0, 1) := by decide +kernel
theorem dX12_readNumber_227 : decode cX12_readNumber 227 = .ok (.dup, 1) := by decide +kernel
theorem dX12_readNumber_228 : decode cX12_readNumber 228 = .ok (.getfield 338, 3) := by decide +kernel
theorem dX12_readNumber_231 : decode cX12_readNumber 231 = .ok (.iconst 1, 1) := by decide +kernel
theorem dX12_readNumber_232 : decode cX12_readNumber 232 = .ok (.iadd, 1) := by decide +kernel
theorem dX12_readNumber_233 : decode cX12_readNumber 233 = .ok (.putfield 338, 3) := by decide +kernel
theorem dX12_readNumber_236 : decode cX12_readNumber 236 = .ok (.goto (-139), 3) := by decide +kernel
theorem dX12_readNumber_239 : decode cX12_readNumber 239 = .ok (.iload 4, 2) := by decide +kernel
theorem dX12_readNumber_241 : decode cX12_readNumber 241 = .ok (.ifCond .eq 20, 3) := by decide +kernel
theorem dX12_readNumber_244 : decode cX12_readNumber 244 = .ok (.iload_n 3, 1) := by decide +kernel
theorem dX12_readNumber_245 : decode cX12_readNumber 245 = .ok (.ifCond .le 16, 3) := by decide +kernel
theorem dX12_readNumber_248 : decode cX12_readNumber 248 = .ok (.iload_n 3, 1) := by decide +kernel
theorem dX12_readNumber_249 : decode cX12_readNumber 249 = .ok (.iload_n 2, 1) := by decide +kernel
theorem dX12_readNumber_250 : decode cX12_readNumber 250 = .ok (.ifCond .eq 7, 3) := by decide +kernel
theorem dX12_readNumber_253 : decode cX12_readNumber 253 = .ok (.iconst 4, 1) := by decide +kernel
theorem dX12_readNumber_254 : decode cX12_readNumber 254 = .ok (.goto 4, 3) := by decide +kernel
theorem dX12_readNumber_257 : decode cX12_readNumber 257 = .ok (.iconst 5, 1) := by decide +kernel
theorem dX12_readNumber_258 : decode cX12_readNumber 258 = .ok (.if_icmp .le 12, 3) := by decide +kernel
theorem dX12_readNumber_261 : decode cX12_readNumber 261 = .ok (.aload_n 0, 1) := by decide +kernel
theorem dX12_readNumber_262 : decode cX12_readNumber 262 = .ok (.iconst 1, 1) := by decide +kernel
theorem dX12_readNumber_263 : decode cX12_readNumber 263 = .ok (.iload_n 1, 1) := by decide +kernel
theorem dX12_readNumber_264 : decode cX12_readNumber 264 = .ok (.invokevirtual 350, 3) := by decide +kernel
theorem dX12_readNumber_267 : decode cX12_readNumber 267 = .ok (.ifCond .eq 7, 3) := by decide +kernel
theorem dX12_readNumber_270 : decode cX12_readNumber 270 = .ok (.iconst 1, 1) := by decide +kernel
theorem dX12_readNumber_271 : decode cX12_readNumber 271 = .ok (.goto 4, 3) := by decide +kernel
theorem dX12_readNumber_274 : decode cX12_readNumber 274 = .ok (.iconst 0, 1) := by decide +kernel
theorem dX12_readNumber_275 : decode cX12_readNumber 275 = .ok (.ireturn, 1) := by decide +kernel
theorem dX12_find_0 : decode cX12_find 0 = .ok (.iconst 0, 1) := by decide +kernel
theorem dX12_find_1 : decode cX12_find 1 = .ok (.istore_n 3, 1) := by decide +kernel
theorem dX12_find_2 : decode cX12_find 2 = .ok (.iload_n 3, 1) := by decide +kernel
theorem dX12_find_3 : decode cX12_find 3 = .ok (.aload_n 0, 1) := by decide +kernel
theorem dX12_find_4 : decode cX12_find 4 = .ok (.getfield 386, 3) := by decide +kernel
theorem dX12_find_7 : decode cX12_find 7 = .ok (.if_icmp .ge 22, 3) := by decide +kernel
theorem dX12_find_10 : decode cX12_find 10 = .ok (.aload_n 0, 1) := by decide +kernel
theorem dX12_find_11 : decode cX12_find 11 = .ok (.getfield 110, 3) := by decide +kernel
theorem dX12_find_14 : decode cX12_find 14 = .ok (.iload_n 3, 1) := by decide +kernel
theorem dX12_find_15 : decode cX12_find 15 = .ok (.laload, 1) := by decide +kernel
theorem dX12_find_16 : decode cX12_find 16 = .ok (.lload_n 1, 1) := by decide +kernel
theorem dX12_find_17 : decode cX12_find 17 = .ok (.lcmp, 1) := by decide +kernel
theorem dX12_find_18 : decode cX12_find 18 = .ok (.ifCond .ne 5, 3) := by decide +kernel
theorem dX12_find_21 : decode cX12_find 21 = .ok (.iload_n 3, 1) := by decide +kernel
theorem dX12_find_22 : decode cX12_find 22 = .ok (.ireturn, 1) := by decide +kernel
theorem dX12_find_23 : decode cX12_find 23 = .ok (.iinc 3 1, 3) := by decide +kernel
theorem dX12_find_26 : decode cX12_find 26 = .ok (.goto (-24), 3) := by decide +kernel
theorem dX12_find_29 : decode cX12_find 29 = .ok (.iconst (-1), 1) := by decide +kernel
theorem dX12_find_30 : decode cX12_find 30 = .ok (.ireturn, 1) := by decide +kernel
theorem dX12_label_0 : decode cX12_label 0 = .ok (.aload_n 0, 1) := by decide +kernel
theorem dX12_label_1 : decode cX12_label 1 = .ok (.iconst 0, 1) := by decide +kernel
theorem dX12_label_2 : decode cX12_label 2 = .ok (.putfield 134, 3) := by decide +kernel
theorem dX12_label_5 : decode cX12_label 5 = .ok (.iconst 0, 1) := by decide +kernel
theorem dX12_label_6 : decode cX12_label 6 = .ok (.istore_n 2, 1) := by decide +kernel
theorem dX12_label_7 : decode cX12_label 7 = .ok (.iload_n 2, 1) := by decide +kernel
theorem dX12_label_8 : decode cX12_label 8 = .ok (.aload_n 0, 1) := by decide +kernel
theorem dX12_label_9 : decode cX12_label 9 = .ok (.getfield 389, 3) := by decide +kernel
theorem dX12_label_12 : decode cX12_label 12 = .ok (.if_icmp .ge 26, 3) := by decide +kernel
theorem dX12_label_15 : decode cX12_label 15 = .ok (.aload_n 0, 1) := by decide +kernel
theorem dX12_label_16 : decode cX12_label 16 = .ok (.getfield 122, 3) := by decide +kernel
theorem dX12_label_19 : decode cX12_label 19 = .ok (.iload_n 2, 1) := by decide +kernel
theorem dX12_label_20 : decode cX12_label 20 = .ok (.iaload, 1) := by decide +kernel
theorem dX12_label_21 : decode cX12_label 21 = .ok (.iload_n 1, 1) := by decide +kernel
theorem dX12_label_22 : decode cX12_label 22 = .ok (.if_icmp .ne 10, 3) := by decide +kernel
theorem dX12_label_25 : decode cX12_label 25 = .ok (.aload_n 0, 1) := by decide +kernel
theorem dX12_label_26 : decode cX12_label 26 = .ok (.getfield 119, 3) := by decide +kernel
theorem dX12_label_29 : decode cX12_label 29 = .ok (.iload_n 2, 1) := by decide +kernel
theorem dX12_label_30 : decode cX12_label 30 = .ok (.iaload, 1) := by decide +kernel
theorem dX12_label_31 : decode cX12_label 31 = .ok (.ireturn, 1) := by decide +kernel
theorem dX12_label_32 : decode cX12_label 32 = .ok (.iinc 2 1, 3) := by decide +kernel
theorem dX12_label_35 : decode cX12_label 35 = .ok (.goto (-28), 3) := by decide +kernel
theorem dX12_label_38 : decode cX12_label 38 = .ok (.iconst (-1), 1) := by decide +kernel
theorem dX12_label_39 : decode cX12_label 39 = .ok (.ireturn, 1) := by decide +kernel
theorem dX12_late_0 : decode cX12_late 0 = .ok (.aload_n 0, 1) := by decide +kernel
theorem dX12_late_1 : decode cX12_late 1 = .ok (.getfield 392, 3) := by decide +kernel
theorem dX12_late_4 : decode cX12_late 4 = .ok (.ifCond .le 4, 3) := by decide +kernel
theorem dX12_late_7 : decode cX12_late 7 = .ok (.return_, 1) := by decide +kernel
theorem dX12_late_8 : decode cX12_late 8 = .ok (.aload_n 0, 1) := by decide +kernel
theorem dX12_late_9 : decode cX12_late 9 = .ok (.iload_n 1, 1) := by decide +kernel
theorem dX12_late_10 : decode cX12_late 10 = .ok (.putfield 392, 3) := by decide +kernel
theorem dX12_late_13 : decode cX12_late 13 = .ok (.aload_n 0, 1) := by decide +kernel
theorem dX12_late_14 : decode cX12_late 14 = .ok (.iload_n 2, 1) := by decide +kernel
theorem dX12_late_15 : decode cX12_late 15 = .ok (.putfield 395, 3) := by decide +kernel
theorem dX12_late_18 : decode cX12_late 18 = .ok (.return_, 1) := by decide +kernel
theorem dX12_readExpr_0 : decode cX12_readExpr 0 = .ok (.aload_n 0, 1) := by decide +kernel
theorem dX12_readExpr_1 : decode cX12_readExpr 1 = .ok (.invokevirtual 347, 3) := by decide +kernel
theorem dX12_readExpr_4 : decode cX12_readExpr 4 = .ok (.aload_n 0, 1) := by decide +kernel
theorem dX12_readExpr_5 : decode cX12_readExpr 5 = .ok (.aload_n 0, 1) := by decide +kernel
theorem dX12_readExpr_6 : decode cX12_readExpr 6 = .ok (.getfield 338, 3) := by decide +kernel
theorem dX12_readExpr_9 : decode cX12_readExpr 9 = .ok (.putfield 398, 3) := by decide +kernel
theorem dX12_readExpr_12 : decode cX12_readExpr 12 = .ok (.aload_n 0, 1) := by decide +kernel
theorem dX12_readExpr_13 : decode cX12_readExpr 13 = .ok (.iconst 0, 1) := by decide +kernel
theorem dX12_readExpr_14 : decode cX12_readExpr 14 = .ok (.putfield 401, 3) := by decide +kernel
theorem dX12_readExpr_17 : decode cX12_readExpr 17 = .ok (.aload_n 0, 1) := by decide +kernel
theorem dX12_readExpr_18 : decode cX12_readExpr 18 = .ok (.invokevirtual 344, 3) := by decide +kernel
theorem dX12_readExpr_21 : decode cX12_readExpr 21 = .ok (.bipush 45, 2) := by decide +kernel
theorem dX12_readExpr_23 : decode cX12_readExpr 23 = .ok (.if_icmp .ne 65, 3) := by decide +kernel
theorem dX12_readExpr_26 : decode cX12_readExpr 26 = .ok (.aload_n 0, 1) := by decide +kernel
theorem dX12_readExpr_27 : decode cX12_readExpr 27 = .ok (.dup, 1) := by decide +kernel
theorem dX12_readExpr_28 : decode cX12_readExpr 28 = .ok (.getfield 338, 3) := by decide +kernel
theorem dX12_readExpr_31 : decode cX12_readExpr 31 = .ok (.iconst 1, 1) := by decide +kernel
theorem dX12_readExpr_32 : decode cX12_readExpr 32 = .ok (.iadd, 1) := by decide +kernel
theorem dX12_readExpr_33 : decode cX12_readExpr 33 = .ok (.putfield 338, 3) := by decide +kernel
theorem dX12_readExpr_36 : decode cX12_readExpr 36 = .ok (.aload_n 0, 1) := by decide +kernel
theorem dX12_readExpr_37 : decode cX12_readExpr 37 = .ok (.invokevirtual 404, 3) := by decide +kernel
theorem dX12_readExpr_40 : decode cX12_readExpr 40 = .ok (.ifCond .ne 5, 3) := by decide +kernel
theorem dX12_readExpr_43 : decode cX12_readExpr 43 = .ok (.iconst 0, 1) := by decide +kernel
theorem dX12_readExpr_44 : decode cX12_readExpr 44 = .ok (.ireturn, 1) := by decide +kernel
theorem dX12_readExpr_45 : decode cX12_readExpr 45 = .ok (.aload_n 0, 1) := by decide +kernel
theorem dX12_readExpr_46 : decode cX12_readExpr 46 = .ok (.getfield 383, 3) := by decide +kernel
theorem dX12_readExpr_49 : decode cX12_readExpr 49 = .ok (.ldc_w 265, 3) := by decide +kernel
theorem dX12_readExpr_52 : decode cX12_readExpr 52 = .ok (.if_icmp .le 13, 3) := by decide +kernel
theorem dX12_readExpr_55 : decode cX12_readExpr 55 = .ok (.aload_n 0, 1) := by decide +kernel
theorem dX12_readExpr_56 : decode cX12_readExpr 56 = .ok (.iconst 2, 1) := by decide +kernel
theorem dX12_readExpr_57 : decode cX12_readExpr 57 = .ok (.aload_n 0, 1) := by decide +kernel
theorem dX12_readExpr_58 : decode cX12_readExpr 58 = .ok (.getfield 398, 3) := by decide +kernel
theorem dX12_readExpr_61 : decode cX12_readExpr 61 = .ok (.invokevirtual 350, 3) := by decide +kernel
theorem dX12_readExpr_64 : decode cX12_readExpr 64 = .ok (.ireturn, 1) := by decide +kernel
theorem dX12_readExpr_65 : decode cX12_readExpr 65 = .ok (.aload_n 0, 1) := by decide +kernel
theorem dX12_readExpr_66 : decode cX12_readExpr 66 = .ok (.aload_n 0, 1) := by decide +kernel
theorem dX12_readExpr_67 : decode cX12_readExpr 67 = .ok (.getfield 383, 3) := by decide +kernel
theorem dX12_readExpr_70 : decode cX12_readExpr 70 = .ok (.ineg, 1) := by decide +kernel
theorem dX12_readExpr_71 : decode cX12_readExpr 71 = .ok (.ldc 205, 2) := by decide +kernel
theorem dX12_readExpr_73 : decode cX12_readExpr 73 = .ok (.iand, 1) := by decide +kernel
theorem dX12_readExpr_74 : decode cX12_readExpr 74 = .ok (.putfield 407, 3) := by decide +kernel
theorem dX12_readExpr_77 : decode cX12_readExpr 77 = .ok (.aload_n 0, 1) := by decide +kernel
theorem dX12_readExpr_78 : decode cX12_readExpr 78 = .ok (.aload_n 0, 1) := by decide +kernel
theorem dX12_readExpr_79 : decode cX12_readExpr 79 = .ok (.getfield 383, 3) := by decide +kernel
theorem dX12_readExpr_82 : decode cX12_readExpr 82 = .ok (.ineg, 1) := by decide +kernel
theorem dX12_readExpr_83 : decode cX12_readExpr 83 = .ok (.putfield 410, 3) := by decide +kernel
theorem dX12_readExpr_86 : decode cX12_readExpr 86 = .ok (.iconst 1, 1) := by decide +kernel
theorem dX12_readExpr_87 : decode cX12_readExpr 87 = .ok (.ireturn, 1) := by decide +kernel
theorem dX12_readExpr_88 : decode cX12_readExpr 88 = .ok (.aload_n 0, 1) := by decide +kernel
theorem dX12_readExpr_89 : decode cX12_readExpr 89 = .ok (.invokevirtual 344, 3) := by decide +kernel
theorem dX12_readExpr_92 : decode cX12_readExpr 92 = .ok (.invokestatic 364, 3) := by decide +kernel
theorem dX12_readExpr_95 : decode cX12_readExpr 95 = .ok (.ifCond .eq 49, 3) := by decide +kernel
theorem dX12_readExpr_98 : decode cX12_readExpr 98 = .ok (.aload_n 0, 1) := by decide +kernel
theorem dX12_readExpr_99 : decode cX12_readExpr 99 = .ok (.invokevirtual 404, 3) := by decide +kernel
theorem dX12_readExpr_102 : decode cX12_readExpr 102 = .ok (.ifCond .ne 5, 3) := by decide +kernel
theorem dX12_readExpr_105 : decode cX12_readExpr 105 = .ok (.iconst 0, 1) := by decide +kernel
theorem dX12_readExpr_106 : decode cX12_readExpr 106 = .ok (.ireturn, 1) := by decide +kernel
theorem dX12_readExpr_107 : decode cX12_readExpr 107 = .ok (.aload_n 0, 1) := by decide +kernel
theorem dX12_readExpr_108 : decode cX12_readExpr 108 = .ok (.getfield 383, 3) := by decide +kernel
theorem dX12_readExpr_111 : decode cX12_readExpr 111 = .ok (.ldc 205, 2) := by decide +kernel
theorem dX12_readExpr_113 : decode cX12_readExpr 113 = .ok (.if_icmp .le 13, 3) := by decide +kernel
theorem dX12_readExpr_116 : decode cX12_readExpr 116 = .ok (.aload_n 0, 1) := by decide +kernel
theorem dX12_readExpr_117 : decode cX12_readExpr 117 = .ok (.iconst 2, 1) := by decide +kernel
theorem dX12_readExpr_118 : decode cX12_readExpr 118 = .ok (.aload_n 0, 1) := by decide +kernel
theorem dX12_readExpr_119 : decode cX12_readExpr 119 = .ok (.getfield 398, 3) := by decide +kernel
theorem dX12_readExpr_122 : decode cX12_readExpr 122 = .ok (.invokevirtual 350, 3) := by decide +kernel
theorem dX12_readExpr_125 : decode cX12_readExpr 125 = .ok (.ireturn, 1) := by decide +kernel
theorem dX12_readExpr_126 : decode cX12_readExpr 126 = .ok (.aload_n 0, 1) := by decide +kernel
theorem dX12_readExpr_127 : decode cX12_readExpr 127 = .ok (.aload_n 0, 1) := by decide +kernel
theorem dX12_readExpr_128 : decode cX12_readExpr 128 = .ok (.getfield 383, 3) := by decide +kernel
theorem dX12_readExpr_131 : decode cX12_readExpr 131 = .ok (.putfield 407, 3) := by decide +kernel
theorem dX12_readExpr_134 : decode cX12_readExpr 134 = .ok (.aload_n 0, 1) := by decide +kernel
theorem dX12_readExpr_135 : decode cX12_readExpr 135 = .ok (.aload_n 0, 1) := by decide +kernel
theorem dX12_readExpr_136 : decode cX12_readExpr 136 = .ok (.getfield 383, 3) := by decide +kernel
theorem dX12_readExpr_139 : decode cX12_readExpr 139 = .ok (.putfield 410, 3) := by decide +kernel
theorem dX12_readExpr_142 : decode cX12_readExpr 142 = .ok (.iconst 1, 1) := by decide +kernel
theorem dX12_readExpr_143 : decode cX12_readExpr 143 = .ok (.ireturn, 1) := by decide +kernel
theorem dX12_readExpr_144 : decode cX12_readExpr 144 = .ok (.iload_n 1, 1) := by decide +kernel
theorem dX12_readExpr_145 : decode cX12_readExpr 145 = .ok (.ifCond .ne 13, 3) := by decide +kernel
theorem dX12_readExpr_148 : decode cX12_readExpr 148 = .ok (.aload_n 0, 1) := by decide +kernel
theorem dX12_readExpr_149 : decode cX12_readExpr 149 = .ok (.iconst 1, 1) := by decide +kernel
theorem dX12_readExpr_150 : decode cX12_readExpr 150 = .ok (.aload_n 0, 1) := by decide +kernel
theorem dX12_readExpr_151 : decode cX12_readExpr 151 = .ok (.getfield 338, 3) := by decide +kernel
theorem dX12_readExpr_154 : decode cX12_readExpr 154 = .ok (.invokevirtual 350, 3) := by decide +kernel
theorem dX12_readExpr_157 : decode cX12_readExpr 157 = .ok (.ireturn, 1) := by decide +kernel
theorem dX12_readExpr_158 : decode cX12_readExpr 158 = .ok (.aload_n 0, 1) := by decide +kernel
theorem dX12_readExpr_159 : decode cX12_readExpr 159 = .ok (.invokevirtual 413, 3) := by decide +kernel
theorem dX12_readExpr_162 : decode cX12_readExpr 162 = .ok (.ifCond .ne 5, 3) := by decide +kernel
theorem dX12_readExpr_165 : decode cX12_readExpr 165 = .ok (.iconst 0, 1) := by decide +kernel
theorem dX12_readExpr_166 : decode cX12_readExpr 166 = .ok (.ireturn, 1) := by decide +kernel
theorem dX12_readExpr_167 : decode cX12_readExpr 167 = .ok (.aload_n 0, 1) := by decide +kernel
theorem dX12_readExpr_168 : decode cX12_readExpr 168 = .ok (.invokevirtual 416, 3) := by decide +kernel
theorem dX12_readExpr_171 : decode cX12_readExpr 171 = .ok (.ifCond .ge 10, 3) := by decide +kernel
theorem dX12_readExpr_174 : decode cX12_readExpr 174 = .ok (.aload_n 0, 1) := by decide +kernel
theorem dX12_readExpr_175 : decode cX12_readExpr 175 = .ok (.invokevirtual 419, 3) := by decide +kernel
theorem dX12_readExpr_178 : decode cX12_readExpr 178 = .ok (.ifCond .lt 13, 3) := by decide +kernel
theorem dX12_readExpr_181 : decode cX12_readExpr 181 = .ok (.aload_n 0, 1) := by decide +kernel
theorem dX12_readExpr_182 : decode cX12_readExpr 182 = .ok (.iconst 1, 1) := by decide +kernel
theorem dX12_readExpr_183 : decode cX12_readExpr 183 = .ok (.aload_n 0, 1) := by decide +kernel
theorem dX12_readExpr_184 : decode cX12_readExpr 184 = .ok (.getfield 354, 3) := by decide +kernel
theorem dX12_readExpr_187 : decode cX12_readExpr 187 = .ok (.invokevirtual 350, 3) := by decide +kernel
theorem dX12_readExpr_190 : decode cX12_readExpr 190 = .ok (.ireturn, 1) := by decide +kernel
theorem dX12_readExpr_191 : decode cX12_readExpr 191 = .ok (.aload_n 0, 1) := by decide +kernel
theorem dX12_readExpr_192 : decode cX12_readExpr 192 = .ok (.iconst 1, 1) := by decide +kernel
theorem dX12_readExpr_193 : decode cX12_readExpr 193 = .ok (.putfield 401, 3) := by decide +kernel
theorem dX12_readExpr_196 : decode cX12_readExpr 196 = .ok (.aload_n 0, 1) := by decide +kernel
theorem dX12_readExpr_197 : decode cX12_readExpr 197 = .ok (.aload_n 0, 1) := by decide +kernel
theorem dX12_readExpr_198 : decode cX12_readExpr 198 = .ok (.getfield 360, 3) := by decide +kernel
theorem dX12_readExpr_201 : decode cX12_readExpr 201 = .ok (.invokevirtual 422, 3) := by decide +kernel
theorem dX12_readExpr_204 : decode cX12_readExpr 204 = .ok (.istore_n 2, 1) := by decide +kernel
theorem dX12_readExpr_205 : decode cX12_readExpr 205 = .ok (.aload_n 0, 1) := by decide +kernel
theorem dX12_readExpr_206 : decode cX12_readExpr 206 = .ok (.getfield 426, 3) := by decide +kernel
theorem dX12_readExpr_209 : decode cX12_readExpr 209 = .ok (.ifCond .eq 16, 3) := by decide +kernel
theorem dX12_readExpr_212 : decode cX12_readExpr 212 = .ok (.iload_n 2, 1) := by decide +kernel
theorem dX12_readExpr_213 : decode cX12_readExpr 213 = .ok (.ifCond .ge 12, 3) := by decide +kernel
theorem dX12_readExpr_216 : decode cX12_readExpr 216 = .ok (.aload_n 0, 1) := by decide +kernel
theorem dX12_readExpr_217 : decode cX12_readExpr 217 = .ok (.iconst 4, 1) := by decide +kernel
theorem dX12_readExpr_218 : decode cX12_readExpr 218 = .ok (.aload_n 0, 1) := by decide +kernel
theorem dX12_readExpr_219 : decode cX12_readExpr 219 = .ok (.getfield 354, 3) := by decide +kernel
theorem dX12_readExpr_222 : decode cX12_readExpr 222 = .ok (.invokevirtual 429, 3) := by decide +kernel
theorem dX12_readExpr_225 : decode cX12_readExpr 225 = .ok (.iload_n 2, 1) := by decide +kernel
theorem dX12_readExpr_226 : decode cX12_readExpr 226 = .ok (.ifCond .ge 7, 3) := by decide +kernel
theorem dX12_readExpr_229 : decode cX12_readExpr 229 = .ok (.iconst 0, 1) := by decide +kernel
theorem dX12_readExpr_230 : decode cX12_readExpr 230 = .ok (.goto 9, 3) := by decide +kernel
theorem dX12_readExpr_233 : decode cX12_readExpr 233 = .ok (.aload_n 0, 1) := by decide +kernel
theorem dX12_readExpr_234 : decode cX12_readExpr 234 = .ok (.getfield 113, 3) := by decide +kernel
theorem dX12_readExpr_237 : decode cX12_readExpr 237 = .ok (.iload_n 2, 1) := by decide +kernel
theorem dX12_readExpr_238 : decode cX12_readExpr 238 = .ok (.iaload, 1) := by decide +kernel
theorem dX12_readExpr_239 : decode cX12_readExpr 239 = .ok (.istore_n 3, 1) := by decide +kernel
theorem dX12_readExpr_240 : decode cX12_readExpr 240 = .ok (.aload_n 0, 1) := by decide +kernel
theorem dX12_readExpr_241 : decode cX12_readExpr 241 = .ok (.invokevirtual 347, 3) := by decide +kernel
theorem dX12_readExpr_244 : decode cX12_readExpr 244 = .ok (.aload_n 0, 1) := by decide +kernel
theorem dX12_readExpr_245 : decode cX12_readExpr 245 = .ok (.invokevirtual 344, 3) := by decide +kernel
theorem dX12_readExpr_248 : decode cX12_readExpr 248 = .ok (.bipush 43, 2) := by decide +kernel
theorem dX12_readExpr_250 : decode cX12_readExpr 250 = .ok (.if_icmp .eq 12, 3) := by decide +kernel
theorem dX12_readExpr_253 : decode cX12_readExpr 253 = .ok (.aload_n 0, 1) := by decide +kernel
theorem dX12_readExpr_254 : decode cX12_readExpr 254 = .ok (.invokevirtual 344, 3) := by decide +kernel
theorem dX12_readExpr_257 : decode cX12_readExpr 257 = .ok (.bipush 45, 2) := by decide +kernel
theorem dX12_readExpr_259 : decode cX12_readExpr 259 = .ok (.if_icmp .ne 78, 3) := by decide +kernel
theorem dX12_readExpr_262 : decode cX12_readExpr 262 = .ok (.aload_n 0, 1) := by decide +kernel
theorem dX12_readExpr_263 : decode cX12_readExpr 263 = .ok (.invokevirtual 344, 3) := by decide +kernel
theorem dX12_readExpr_266 : decode cX12_readExpr 266 = .ok (.bipush 43, 2) := by decide +kernel
theorem dX12_readExpr_268 : decode cX12_readExpr 268 = .ok (.if_icmp .ne 7, 3) := by decide +kernel
theorem dX12_readExpr_271 : decode cX12_readExpr 271 = .ok (.iconst 1, 1) := by decide +kernel
theorem dX12_readExpr_272 : decode cX12_readExpr 272 = .ok (.goto 4, 3) := by decide +kernel
theorem dX12_readExpr_275 : decode cX12_readExpr 275 = .ok (.iconst 0, 1) := by decide +kernel
theorem dX12_readExpr_276 : decode cX12_readExpr 276 = .ok (.istore 4, 2) := by decide +kernel
theorem dX12_readExpr_278 : decode cX12_readExpr 278 = .ok (.aload_n 0, 1) := by decide +kernel
theorem dX12_readExpr_279 : decode cX12_readExpr 279 = .ok (.dup, 1) := by decide +kernel
theorem dX12_readExpr_280 : decode cX12_readExpr 280 = .ok (.getfield 338, 3) := by decide +kernel
theorem dX12_readExpr_283 : decode cX12_readExpr 283 = .ok (.iconst 1, 1) := by decide +kernel
theorem dX12_readExpr_284 : decode cX12_readExpr 284 = .ok (.iadd, 1) := by decide +kernel
theorem dX12_readExpr_285 : decode cX12_readExpr 285 = .ok (.putfield 338, 3) := by decide +kernel
theorem dX12_readExpr_288 : decode cX12_readExpr 288 = .ok (.aload_n 0, 1) := by decide +kernel
theorem dX12_readExpr_289 : decode cX12_readExpr 289 = .ok (.invokevirtual 404, 3) := by decide +kernel
theorem dX12_readExpr_292 : decode cX12_readExpr 292 = .ok (.ifCond .ne 5, 3) := by decide +kernel
theorem dX12_readExpr_295 : decode cX12_readExpr 295 = .ok (.iconst 0, 1) := by decide +kernel
theorem dX12_readExpr_296 : decode cX12_readExpr 296 = .ok (.ireturn, 1) := by decide +kernel
theorem dX12_readExpr_297 : decode cX12_readExpr 297 = .ok (.aload_n 0, 1) := by decide +kernel
theorem dX12_readExpr_298 : decode cX12_readExpr 298 = .ok (.getfield 383, 3) := by decide +kernel
theorem dX12_readExpr_301 : decode cX12_readExpr 301 = .ok (.ldc 205, 2) := by decide +kernel
theorem dX12_readExpr_303 : decode cX12_readExpr 303 = .ok (.if_icmp .le 13, 3) := by decide +kernel
theorem dX12_readExpr_306 : decode cX12_readExpr 306 = .ok (.aload_n 0, 1) := by decide +kernel
theorem dX12_readExpr_307 : decode cX12_readExpr 307 = .ok (.iconst 2, 1) := by decide +kernel
theorem dX12_readExpr_308 : decode cX12_readExpr 308 = .ok (.aload_n 0, 1) := by decide +kernel
theorem dX12_readExpr_309 : decode cX12_readExpr 309 = .ok (.getfield 398, 3) := by decide +kernel
theorem dX12_readExpr_312 : decode cX12_readExpr 312 = .ok (.invokevirtual 350, 3) := by decide +kernel
theorem dX12_readExpr_315 : decode cX12_readExpr 315 = .ok (.ireturn, 1) := by decide +kernel
theorem dX12_readExpr_316 : decode cX12_readExpr 316 = .ok (.iload 4, 2) := by decide +kernel
theorem dX12_readExpr_318 : decode cX12_readExpr 318 = .ok (.ifCond .eq 12, 3) := by decide +kernel
theorem dX12_readExpr_321 : decode cX12_readExpr 321 = .ok (.iload_n 3, 1) := by decide +kernel
theorem dX12_readExpr_322 : decode cX12_readExpr 322 = .ok (.aload_n 0, 1) := by decide +kernel
theorem dX12_readExpr_323 : decode cX12_readExpr 323 = .ok (.getfield 383, 3) := by decide +kernel
theorem dX12_readExpr_326 : decode cX12_readExpr 326 = .ok (.iadd, 1) := by decide +kernel
theorem dX12_readExpr_327 : decode cX12_readExpr 327 = .ok (.goto 9, 3) := by decide +kernel
theorem dX12_readExpr_330 : decode cX12_readExpr 330 = .ok (.iload_n 3, 1) := by decide +kernel
theorem dX12_readExpr_331 : decode cX12_readExpr 331 = .ok (.aload_n 0, 1) := by decide +kernel
theorem dX12_readExpr_332 : decode cX12_readExpr 332 = .ok (.getfield 383, 3) := by decide +kernel
theorem dX12_readExpr_335 : decode cX12_readExpr 335 = .ok (.isub, 1) := by decide +kernel
theorem dX12_readExpr_336 : decode cX12_readExpr 336 = .ok (.istore_n 3, 1) := by decide +kernel
theorem dX12_readExpr_337 : decode cX12_readExpr 337 = .ok (.aload_n 0, 1) := by decide +kernel
theorem dX12_readExpr_338 : decode cX12_readExpr 338 = .ok (.iload_n 3, 1) := by decide +kernel
theorem dX12_readExpr_339 : decode cX12_readExpr 339 = .ok (.ldc 205, 2) := by decide +kernel
theorem dX12_readExpr_341 : decode cX12_readExpr 341 = .ok (.iand, 1) := by decide +kernel
theorem dX12_readExpr_342 : decode cX12_readExpr 342 = .ok (.putfield 407, 3) := by decide +kernel
theorem dX12_readExpr_345 : decode cX12_readExpr 345 = .ok (.iconst 1, 1) := by decide +kernel
theorem dX12_readExpr_346 : decode cX12_readExpr 346 = .ok (.ireturn, 1) := by decide +kernel
theorem dX12_make_0 : decode cX12_make 0 = .ok (.aload_n 0, 1) := by decide +kernel
theorem dX12_make_1 : decode cX12_make 1 = .ok (.getfield 432, 3) := by decide +kernel
theorem dX12_make_4 : decode cX12_make 4 = .ok (.ldc 7, 2) := by decide +kernel
theorem dX12_make_6 : decode cX12_make 6 = .ok (.if_icmp .ge 27, 3) := by decide +kernel
theorem dX12_make_9 : decode cX12_make 9 = .ok (.aload_n 0, 1) := by decide +kernel
theorem dX12_make_10 : decode cX12_make 10 = .ok (.getfield 125, 3) := by decide +kernel
theorem dX12_make_13 : decode cX12_make 13 = .ok (.aload_n 0, 1) := by decide +kernel
theorem dX12_make_14 : decode cX12_make 14 = .ok (.getfield 435, 3) := by decide +kernel
theorem dX12_make_17 : decode cX12_make 17 = .ok (.aload_n 0, 1) := by decide +kernel
theorem dX12_make_18 : decode cX12_make 18 = .ok (.getfield 432, 3) := by decide +kernel
theorem dX12_make_21 : decode cX12_make 21 = .ok (.iastore, 1) := by decide +kernel
theorem dX12_make_22 : decode cX12_make 22 = .ok (.aload_n 0, 1) := by decide +kernel
theorem dX12_make_23 : decode cX12_make 23 = .ok (.getfield 128, 3) := by decide +kernel
theorem dX12_make_26 : decode cX12_make 26 = .ok (.aload_n 0, 1) := by decide +kernel
theorem dX12_make_27 : decode cX12_make 27 = .ok (.getfield 435, 3) := by decide +kernel
theorem dX12_make_30 : decode cX12_make 30 = .ok (.iload_n 1, 1) := by decide +kernel
theorem dX12_make_31 : decode cX12_make 31 = .ok (.i2b, 1) := by decide +kernel
theorem dX12_make_32 : decode cX12_make 32 = .ok (.bastore, 1) := by decide +kernel
theorem dX12_make_33 : decode cX12_make 33 = .ok (.aload_n 0, 1) := by decide +kernel
theorem dX12_make_34 : decode cX12_make 34 = .ok (.dup, 1) := by decide +kernel
theorem dX12_make_35 : decode cX12_make 35 = .ok (.getfield 435, 3) := by decide +kernel
theorem dX12_make_38 : decode cX12_make 38 = .ok (.iconst 1, 1) := by decide +kernel
theorem dX12_make_39 : decode cX12_make 39 = .ok (.iadd, 1) := by decide +kernel
theorem dX12_make_40 : decode cX12_make 40 = .ok (.putfield 435, 3) := by decide +kernel
theorem dX12_make_43 : decode cX12_make 43 = .ok (.aload_n 0, 1) := by decide +kernel
theorem dX12_make_44 : decode cX12_make 44 = .ok (.dup, 1) := by decide +kernel
theorem dX12_make_45 : decode cX12_make 45 = .ok (.getfield 432, 3) := by decide +kernel
theorem dX12_make_48 : decode cX12_make 48 = .ok (.iconst 1, 1) := by decide +kernel
theorem dX12_make_49 : decode cX12_make 49 = .ok (.iadd, 1) := by decide +kernel
theorem dX12_make_50 : decode cX12_make 50 = .ok (.putfield 432, 3) := by decide +kernel
theorem dX12_make_53 : decode cX12_make 53 = .ok (.return_, 1) := by decide +kernel
theorem dX12_makeWord_0 : decode cX12_makeWord 0 = .ok (.aload_n 0, 1) := by decide +kernel
theorem dX12_makeWord_1 : decode cX12_makeWord 1 = .ok (.iload_n 1, 1) := by decide +kernel
theorem dX12_makeWord_2 : decode cX12_makeWord 2 = .ok (.sipush 255, 3) := by decide +kernel
theorem dX12_makeWord_5 : decode cX12_makeWord 5 = .ok (.iand, 1) := by decide +kernel
theorem dX12_makeWord_6 : decode cX12_makeWord 6 = .ok (.invokevirtual 438, 3) := by decide +kernel
theorem dX12_makeWord_9 : decode cX12_makeWord 9 = .ok (.aload_n 0, 1) := by decide +kernel
theorem dX12_makeWord_10 : decode cX12_makeWord 10 = .ok (.iload_n 1, 1) := by decide +kernel
theorem dX12_makeWord_11 : decode cX12_makeWord 11 = .ok (.bipush 8, 2) := by decide +kernel
theorem dX12_makeWord_13 : decode cX12_makeWord 13 = .ok (.ishr, 1) := by decide +kernel
theorem dX12_makeWord_14 : decode cX12_makeWord 14 = .ok (.sipush 255, 3) := by decide +kernel
theorem dX12_makeWord_17 : decode cX12_makeWord 17 = .ok (.iand, 1) := by decide +kernel
theorem dX12_makeWord_18 : decode cX12_makeWord 18 = .ok (.invokevirtual 438, 3) := by decide +kernel
theorem dX12_makeWord_21 : decode cX12_makeWord 21 = .ok (.return_, 1) := by decide +kernel
theorem dX12_operand_0 : decode cX12_operand 0 = .ok (.aload_n 0, 1) := by decide +kernel
theorem dX12_operand_1 : decode cX12_operand 1 = .ok (.iload_n 1, 1) := by decide +kernel
theorem dX12_operand_2 : decode cX12_operand 2 = .ok (.putfield 441, 3) := by decide +kernel
theorem dX12_operand_5 : decode cX12_operand 5 = .ok (.aload_n 0, 1) := by decide +kernel
theorem dX12_operand_6 : decode cX12_operand 6 = .ok (.iload_n 2, 1) := by decide +kernel
theorem dX12_operand_7 : decode cX12_operand 7 = .ok (.putfield 444, 3) := by decide +kernel
theorem dX12_operand_10 : decode cX12_operand 10 = .ok (.aload_n 0, 1) := by decide +kernel
theorem dX12_operand_11 : decode cX12_operand 11 = .ok (.iload_n 3, 1) := by decide +kernel
theorem dX12_operand_12 : decode cX12_operand 12 = .ok (.putfield 447, 3) := by decide +kernel
theorem dX12_operand_15 : decode cX12_operand 15 = .ok (.aload_n 0, 1) := by decide +kernel
theorem dX12_operand_16 : decode cX12_operand 16 = .ok (.iload 4, 2) := by decide +kernel
theorem dX12_operand_18 : decode cX12_operand 18 = .ok (.putfield 450, 3) := by decide +kernel
theorem dX12_operand_21 : decode cX12_operand 21 = .ok (.aload_n 0, 1) := by decide +kernel
theorem dX12_operand_22 : decode cX12_operand 22 = .ok (.iload 5, 2) := by decide +kernel
theorem dX12_operand_24 : decode cX12_operand 24 = .ok (.putfield 453, 3) := by decide +kernel
theorem dX12_operand_27 : decode cX12_operand 27 = .ok (.return_, 1) := by decide +kernel
theorem dX12_readBase_0 : decode cX12_readBase 0 = .ok (.aload_n 0, 1) := by decide +kernel
theorem dX12_readBase_1 : decode cX12_readBase 1 = .ok (.invokevirtual 413, 3) := by decide +kernel
theorem dX12_readBase_4 : decode cX12_readBase 4 = .ok (.ifCond .ne 5, 3) := by decide +kernel
theorem dX12_readBase_7 : decode cX12_readBase 7 = .ok (.iconst 0, 1) := by decide +kernel
theorem dX12_readBase_8 : decode cX12_readBase 8 = .ok (.ireturn, 1) := by decide +kernel
theorem dX12_readBase_9 : decode cX12_readBase 9 = .ok (.aload_n 0, 1) := by decide +kernel
theorem dX12_readBase_10 : decode cX12_readBase 10 = .ok (.invokevirtual 416, 3) := by decide +kernel
theorem dX12_readBase_13 : decode cX12_readBase 13 = .ok (.istore_n 1, 1) := by decide +kernel
theorem dX12_readBase_14 : decode cX12_readBase 14 = .ok (.iload_n 1, 1) := by decide +kernel
theorem dX12_readBase_15 : decode cX12_readBase 15 = .ok (.ifCond .lt 17, 3) := by decide +kernel
theorem dX12_readBase_18 : decode cX12_readBase 18 = .ok (.iload_n 1, 1) := by decide +kernel
theorem dX12_readBase_19 : decode cX12_readBase 19 = .ok (.ifCond .eq 13, 3) := by decide +kernel
theorem dX12_readBase_22 : decode cX12_readBase 22 = .ok (.iload_n 1, 1) := by decide +kernel
theorem dX12_readBase_23 : decode cX12_readBase 23 = .ok (.iconst 2, 1) := by decide +kernel
theorem dX12_readBase_24 : decode cX12_readBase 24 = .ok (.if_icmp .eq 8, 3) := by decide +kernel
theorem dX12_readBase_27 : decode cX12_readBase 27 = .ok (.iload_n 1, 1) := by decide +kernel
theorem dX12_readBase_28 : decode cX12_readBase 28 = .ok (.iconst 3, 1) := by decide +kernel
theorem dX12_readBase_29 : decode cX12_readBase 29 = .ok (.if_icmp .ne 13, 3) := by decide +kernel
theorem dX12_readBase_32 : decode cX12_readBase 32 = .ok (.aload_n 0, 1) := by decide +kernel
theorem dX12_readBase_33 : decode cX12_readBase 33 = .ok (.iconst 1, 1) := by decide +kernel
theorem dX12_readBase_34 : decode cX12_readBase 34 = .ok (.aload_n 0, 1) := by decide +kernel
theorem dX12_readBase_35 : decode cX12_readBase 35 = .ok (.getfield 354, 3) := by decide +kernel
theorem dX12_readBase_38 : decode cX12_readBase 38 = .ok (.invokevirtual 350, 3) := by decide +kernel
theorem dX12_readBase_41 : decode cX12_readBase 41 = .ok (.ireturn, 1) := by decide +kernel
theorem dX12_readBase_42 : decode cX12_readBase 42 = .ok (.aload_n 0, 1) := by decide +kernel
theorem dX12_readBase_43 : decode cX12_readBase 43 = .ok (.iload_n 1, 1) := by decide +kernel
theorem dX12_readBase_44 : decode cX12_readBase 44 = .ok (.putfield 456, 3) := by decide +kernel
theorem dX12_readBase_47 : decode cX12_readBase 47 = .ok (.iconst 1, 1) := by decide +kernel
theorem dX12_readBase_48 : decode cX12_readBase 48 = .ok (.ireturn, 1) := by decide +kernel
theorem dX12_readDestination_0 : decode cX12_readDestination 0 = .ok (.aload_n 0, 1) := by decide +kernel
theorem dX12_readDestination_1 : decode cX12_readDestination 1 = .ok (.invokevirtual 347, 3) := by decide +kernel
theorem dX12_readDestination_4 : decode cX12_readDestination 4 = .ok (.aload_n 0, 1) := by decide +kernel
theorem dX12_readDestination_5 : decode cX12_readDestination 5 = .ok (.invokevirtual 344, 3) := by decide +kernel
theorem dX12_readDestination_8 : decode cX12_readDestination 8 = .ok (.istore_n 1, 1) := by decide +kernel
theorem dX12_readDestination_9 : decode cX12_readDestination 9 = .ok (.iload_n 1, 1) := by decide +kernel
theorem dX12_readDestination_10 : decode cX12_readDestination 10 = .ok (.bipush 38, 2) := by decide +kernel
theorem dX12_readDestination_12 : decode cX12_readDestination 12 = .ok (.if_icmp .ne 37, 3) := by decide +kernel
theorem dX12_readDestination_15 : decode cX12_readDestination 15 = .ok (.aload_n 0, 1) := by decide +kernel
theorem dX12_readDestination_16 : decode cX12_readDestination 16 = .ok (.dup, 1) := by decide +kernel
theorem dX12_readDestination_17 : decode cX12_readDestination 17 = .ok (.getfield 338, 3) := by decide +kernel
theorem dX12_readDestination_20 : decode cX12_readDestination 20 = .ok (.iconst 1, 1) := by decide +kernel
theorem dX12_readDestination_21 : decode cX12_readDestination 21 = .ok (.iadd, 1) := by decide +kernel
theorem dX12_readDestination_22 : decode cX12_readDestination 22 = .ok (.putfield 338, 3) := by decide +kernel
theorem dX12_readDestination_25 : decode cX12_readDestination 25 = .ok (.aload_n 0, 1) := by decide +kernel
theorem dX12_readDestination_26 : decode cX12_readDestination 26 = .ok (.iconst 1, 1) := by decide +kernel
theorem dX12_readDestination_27 : decode cX12_readDestination 27 = .ok (.invokevirtual 459, 3) := by decide +kernel
theorem dX12_readDestination_30 : decode cX12_readDestination 30 = .ok (.ifCond .ne 5, 3) := by decide +kernel
theorem dX12_readDestination_33 : decode cX12_readDestination 33 = .ok (.iconst 0, 1) := by decide +kernel
theorem dX12_readDestination_34 : decode cX12_readDestination 34 = .ok (.ireturn, 1) := by decide +kernel
theorem dX12_readDestination_35 : decode cX12_readDestination 35 = .ok (.aload_n 0, 1) := by decide +kernel
theorem dX12_readDestination_36 : decode cX12_readDestination 36 = .ok (.iconst 2, 1) := by decide +kernel
theorem dX12_readDestination_37 : decode cX12_readDestination 37 = .ok (.iconst 1, 1) := by decide +kernel
theorem dX12_readDestination_38 : decode cX12_readDestination 38 = .ok (.iconst 1, 1) := by decide +kernel
theorem dX12_readDestination_39 : decode cX12_readDestination 39 = .ok (.aload_n 0, 1) := by decide +kernel
theorem dX12_readDestination_40 : decode cX12_readDestination 40 = .ok (.getfield 407, 3) := by decide +kernel
theorem dX12_readDestination_43 : decode cX12_readDestination 43 = .ok (.iconst 0, 1) := by decide +kernel
theorem dX12_readDestination_44 : decode cX12_readDestination 44 = .ok (.invokevirtual 462, 3) := by decide +kernel
theorem dX12_readDestination_47 : decode cX12_readDestination 47 = .ok (.iconst 1, 1) := by decide +kernel
theorem dX12_readDestination_48 : decode cX12_readDestination 48 = .ok (.ireturn, 1) := by decide +kernel
theorem dX12_readDestination_49 : decode cX12_readDestination 49 = .ok (.iload_n 1, 1) := by decide +kernel
theorem dX12_readDestination_50 : decode cX12_readDestination 50 = .ok (.invokestatic 357, 3) := by decide +kernel
theorem dX12_readDestination_53 : decode cX12_readDestination 53 = .ok (.ifCond .eq 42, 3) := by decide +kernel
theorem dX12_readDestination_56 : decode cX12_readDestination 56 = .ok (.aload_n 0, 1) := by decide +kernel
theorem dX12_readDestination_57 : decode cX12_readDestination 57 = .ok (.getfield 338, 3) := by decide +kernel
theorem dX12_readDestination_60 : decode cX12_readDestination 60 = .ok (.istore_n 2, 1) := by decide +kernel
theorem dX12_readDestination_61 : decode cX12_readDestination 61 = .ok (.aload_n 0, 1) := by decide +kernel
theorem dX12_readDestination_62 : decode cX12_readDestination 62 = .ok (.invokevirtual 413, 3) := by decide +kernel
theorem dX12_readDestination_65 : decode cX12_readDestination 65 = .ok (.ifCond .ne 5, 3) := by decide +kernel
theorem dX12_readDestination_68 : decode cX12_readDestination 68 = .ok (.iconst 0, 1) := by decide +kernel
theorem dX12_readDestination_69 : decode cX12_readDestination 69 = .ok (.ireturn, 1) := by decide +kernel
theorem dX12_readDestination_70 : decode cX12_readDestination 70 = .ok (.aload_n 0, 1) := by decide +kernel
theorem dX12_readDestination_71 : decode cX12_readDestination 71 = .ok (.invokevirtual 416, 3) := by decide +kernel
theorem dX12_readDestination_74 : decode cX12_readDestination 74 = .ok (.istore_n 3, 1) := by decide +kernel
theorem dX12_readDestination_75 : decode cX12_readDestination 75 = .ok (.iload_n 3, 1) := by decide +kernel
theorem dX12_readDestination_76 : decode cX12_readDestination 76 = .ok (.ifCond .lt 14, 3) := by decide +kernel
theorem dX12_readDestination_79 : decode cX12_readDestination 79 = .ok (.aload_n 0, 1) := by decide +kernel
theorem dX12_readDestination_80 : decode cX12_readDestination 80 = .ok (.iload_n 3, 1) := by decide +kernel
theorem dX12_readDestination_81 : decode cX12_readDestination 81 = .ok (.iconst 0, 1) := by decide +kernel
theorem dX12_readDestination_82 : decode cX12_readDestination 82 = .ok (.iconst 0, 1) := by decide +kernel
theorem dX12_readDestination_83 : decode cX12_readDestination 83 = .ok (.iconst 0, 1) := by decide +kernel
theorem dX12_readDestination_84 : decode cX12_readDestination 84 = .ok (.iconst 0, 1) := by decide +kernel
theorem dX12_readDestination_85 : decode cX12_readDestination 85 = .ok (.invokevirtual 462, 3) := by decide +kernel
theorem dX12_readDestination_88 : decode cX12_readDestination 88 = .ok (.iconst 1, 1) := by decide +kernel
theorem dX12_readDestination_89 : decode cX12_readDestination 89 = .ok (.ireturn, 1) := by decide +kernel
theorem dX12_readDestination_90 : decode cX12_readDestination 90 = .ok (.aload_n 0, 1) := by decide +kernel
theorem dX12_readDestination_91 : decode cX12_readDestination 91 = .ok (.iload_n 2, 1) := by decide +kernel
theorem dX12_readDestination_92 : decode cX12_readDestination 92 = .ok (.putfield 338, 3) := by decide +kernel
theorem dX12_readDestination_95 : decode cX12_readDestination 95 = .ok (.aload_n 0, 1) := by decide +kernel
theorem dX12_readDestination_96 : decode cX12_readDestination 96 = .ok (.iconst 1, 1) := by decide +kernel
theorem dX12_readDestination_97 : decode cX12_readDestination 97 = .ok (.invokevirtual 459, 3) := by decide +kernel
theorem dX12_readDestination_100 : decode cX12_readDestination 100 = .ok (.ifCond .ne 5, 3) := by decide +kernel
theorem dX12_readDestination_103 : decode cX12_readDestination 103 = .ok (.iconst 0, 1) := by decide +kernel
theorem dX12_readDestination_104 : decode cX12_readDestination 104 = .ok (.ireturn, 1) := by decide +kernel
theorem dX12_readDestination_105 : decode cX12_readDestination 105 = .ok (.aload_n 0, 1) := by decide +kernel
theorem dX12_readDestination_106 : decode cX12_readDestination 106 = .ok (.invokevirtual 347, 3) := by decide +kernel
theorem dX12_readDestination_109 : decode cX12_readDestination 109 = .ok (.aload_n 0, 1) := by decide +kernel
theorem dX12_readDestination_110 : decode cX12_readDestination 110 = .ok (.invokevirtual 344, 3) := by decide +kernel
theorem dX12_readDestination_113 : decode cX12_readDestination 113 = .ok (.bipush 40, 2) := by decide +kernel
theorem dX12_readDestination_115 : decode cX12_readDestination 115 = .ok (.if_icmp .eq 17, 3) := by decide +kernel
theorem dX12_readDestination_118 : decode cX12_readDestination 118 = .ok (.aload_n 0, 1) := by decide +kernel
theorem dX12_readDestination_119 : decode cX12_readDestination 119 = .ok (.iconst 0, 1) := by decide +kernel
theorem dX12_readDestination_120 : decode cX12_readDestination 120 = .ok (.iconst 1, 1) := by decide +kernel
theorem dX12_readDestination_121 : decode cX12_readDestination 121 = .ok (.iconst 1, 1) := by decide +kernel
theorem dX12_readDestination_122 : decode cX12_readDestination 122 = .ok (.aload_n 0, 1) := by decide +kernel
theorem dX12_readDestination_123 : decode cX12_readDestination 123 = .ok (.getfield 407, 3) := by decide +kernel
theorem dX12_readDestination_126 : decode cX12_readDestination 126 = .ok (.iconst 1, 1) := by decide +kernel
theorem dX12_readDestination_127 : decode cX12_readDestination 127 = .ok (.invokevirtual 462, 3) := by decide +kernel
theorem dX12_readDestination_130 : decode cX12_readDestination 130 = .ok (.iconst 1, 1) := by decide +kernel
theorem dX12_readDestination_131 : decode cX12_readDestination 131 = .ok (.ireturn, 1) := by decide +kernel
theorem dX12_readDestination_132 : decode cX12_readDestination 132 = .ok (.aload_n 0, 1) := by decide +kernel
theorem dX12_readDestination_133 : decode cX12_readDestination 133 = .ok (.getfield 407, 3) := by decide +kernel
theorem dX12_readDestination_136 : decode cX12_readDestination 136 = .ok (.istore_n 2, 1) := by decide +kernel
theorem dX12_readDestination_137 : decode cX12_readDestination 137 = .ok (.aload_n 0, 1) := by decide +kernel
theorem dX12_readDestination_138 : decode cX12_readDestination 138 = .ok (.dup, 1) := by decide +kernel
theorem dX12_readDestination_139 : decode cX12_readDestination 139 = .ok (.getfield 338, 3) := by decide +kernel
theorem dX12_readDestination_142 : decode cX12_readDestination 142 = .ok (.iconst 1, 1) := by decide +kernel
theorem dX12_readDestination_143 : decode cX12_readDestination 143 = .ok (.iadd, 1) := by decide +kernel
theorem dX12_readDestination_144 : decode cX12_readDestination 144 = .ok (.putfield 338, 3) := by decide +kernel
theorem dX12_readDestination_147 : decode cX12_readDestination 147 = .ok (.aload_n 0, 1) := by decide +kernel
theorem dX12_readDestination_148 : decode cX12_readDestination 148 = .ok (.invokevirtual 466, 3) := by decide +kernel
theorem dX12_readDestination_151 : decode cX12_readDestination 151 = .ok (.ifCond .eq 12, 3) := by decide +kernel
theorem dX12_readDestination_154 : decode cX12_readDestination 154 = .ok (.aload_n 0, 1) := by decide +kernel
theorem dX12_readDestination_155 : decode cX12_readDestination 155 = .ok (.bipush 41, 2) := by decide +kernel
theorem dX12_readDestination_157 : decode cX12_readDestination 157 = .ok (.invokevirtual 469, 3) := by decide +kernel
theorem dX12_readDestination_160 : decode cX12_readDestination 160 = .ok (.ifCond .ne 5, 3) := by decide +kernel
theorem dX12_readDestination_163 : decode cX12_readDestination 163 = .ok (.iconst 0, 1) := by decide +kernel
theorem dX12_readDestination_164 : decode cX12_readDestination 164 = .ok (.ireturn, 1) := by decide +kernel
theorem dX12_readDestination_165 : decode cX12_readDestination 165 = .ok (.aload_n 0, 1) := by decide +kernel
theorem dX12_readDestination_166 : decode cX12_readDestination 166 = .ok (.aload_n 0, 1) := by decide +kernel
theorem dX12_readDestination_167 : decode cX12_readDestination 167 = .ok (.getfield 456, 3) := by decide +kernel
theorem dX12_readDestination_170 : decode cX12_readDestination 170 = .ok (.iconst 1, 1) := by decide +kernel
theorem dX12_readDestination_171 : decode cX12_readDestination 171 = .ok (.iconst 1, 1) := by decide +kernel
theorem dX12_readDestination_172 : decode cX12_readDestination 172 = .ok (.iload_n 2, 1) := by decide +kernel
theorem dX12_readDestination_173 : decode cX12_readDestination 173 = .ok (.iconst 0, 1) := by decide +kernel
theorem dX12_readDestination_174 : decode cX12_readDestination 174 = .ok (.invokevirtual 462, 3) := by decide +kernel
theorem dX12_readDestination_177 : decode cX12_readDestination 177 = .ok (.iconst 1, 1) := by decide +kernel
theorem dX12_readDestination_178 : decode cX12_readDestination 178 = .ok (.ireturn, 1) := by decide +kernel
theorem dX12_readSource_0 : decode cX12_readSource 0 = .ok (.aload_n 0, 1) := by decide +kernel
theorem dX12_readSource_1 : decode cX12_readSource 1 = .ok (.invokevirtual 347, 3) := by decide +kernel
theorem dX12_readSource_4 : decode cX12_readSource 4 = .ok (.aload_n 0, 1) := by decide +kernel
theorem dX12_readSource_5 : decode cX12_readSource 5 = .ok (.invokevirtual 344, 3) := by decide +kernel
theorem dX12_readSource_8 : decode cX12_readSource 8 = .ok (.bipush 64, 2) := by decide +kernel
theorem dX12_readSource_10 : decode cX12_readSource 10 = .ok (.if_icmp .ne 77, 3) := by decide +kernel
theorem dX12_readSource_13 : decode cX12_readSource 13 = .ok (.aload_n 0, 1) := by decide +kernel
theorem dX12_readSource_14 : decode cX12_readSource 14 = .ok (.dup, 1) := by decide +kernel
theorem dX12_readSource_15 : decode cX12_readSource 15 = .ok (.getfield 338, 3) := by decide +kernel
theorem dX12_readSource_18 : decode cX12_readSource 18 = .ok (.iconst 1, 1) := by decide +kernel
theorem dX12_readSource_19 : decode cX12_readSource 19 = .ok (.iadd, 1) := by decide +kernel
theorem dX12_readSource_20 : decode cX12_readSource 20 = .ok (.putfield 338, 3) := by decide +kernel
theorem dX12_readSource_23 : decode cX12_readSource 23 = .ok (.aload_n 0, 1) := by decide +kernel
theorem dX12_readSource_24 : decode cX12_readSource 24 = .ok (.invokevirtual 466, 3) := by decide +kernel
theorem dX12_readSource_27 : decode cX12_readSource 27 = .ok (.ifCond .ne 5, 3) := by decide +kernel
theorem dX12_readSource_30 : decode cX12_readSource 30 = .ok (.iconst 0, 1) := by decide +kernel
theorem dX12_readSource_31 : decode cX12_readSource 31 = .ok (.ireturn, 1) := by decide +kernel
theorem dX12_readSource_32 : decode cX12_readSource 32 = .ok (.aload_n 0, 1) := by decide +kernel
theorem dX12_readSource_33 : decode cX12_readSource 33 = .ok (.invokevirtual 347, 3) := by decide +kernel
theorem dX12_readSource_36 : decode cX12_readSource 36 = .ok (.aload_n 0, 1) := by decide +kernel
theorem dX12_readSource_37 : decode cX12_readSource 37 = .ok (.invokevirtual 344, 3) := by decide +kernel
theorem dX12_readSource_40 : decode cX12_readSource 40 = .ok (.bipush 43, 2) := by decide +kernel
theorem dX12_readSource_42 : decode cX12_readSource 42 = .ok (.if_icmp .ne 7, 3) := by decide +kernel
theorem dX12_readSource_45 : decode cX12_readSource 45 = .ok (.iconst 1, 1) := by decide +kernel
theorem dX12_readSource_46 : decode cX12_readSource 46 = .ok (.goto 4, 3) := by decide +kernel
theorem dX12_readSource_49 : decode cX12_readSource 49 = .ok (.iconst 0, 1) := by decide +kernel
theorem dX12_readSource_50 : decode cX12_readSource 50 = .ok (.istore_n 2, 1) := by decide +kernel
theorem dX12_readSource_51 : decode cX12_readSource 51 = .ok (.iload_n 2, 1) := by decide +kernel
theorem dX12_readSource_52 : decode cX12_readSource 52 = .ok (.ifCond .eq 13, 3) := by decide +kernel
theorem dX12_readSource_55 : decode cX12_readSource 55 = .ok (.aload_n 0, 1) := by decide +kernel
theorem dX12_readSource_56 : decode cX12_readSource 56 = .ok (.dup, 1) := by decide +kernel
theorem dX12_readSource_57 : decode cX12_readSource 57 = .ok (.getfield 338, 3) := by decide +kernel
theorem dX12_readSource_60 : decode cX12_readSource 60 = .ok (.iconst 1, 1) := by decide +kernel
theorem dX12_readSource_61 : decode cX12_readSource 61 = .ok (.iadd, 1) := by decide +kernel
theorem dX12_readSource_62 : decode cX12_readSource 62 = .ok (.putfield 338, 3) := by decide +kernel
theorem dX12_readSource_65 : decode cX12_readSource 65 = .ok (.aload_n 0, 1) := by decide +kernel
theorem dX12_readSource_66 : decode cX12_readSource 66 = .ok (.aload_n 0, 1) := by decide +kernel
theorem dX12_readSource_67 : decode cX12_readSource 67 = .ok (.getfield 456, 3) := by decide +kernel
theorem dX12_readSource_70 : decode cX12_readSource 70 = .ok (.iload_n 2, 1) := by decide +kernel
theorem dX12_readSource_71 : decode cX12_readSource 71 = .ok (.ifCond .eq 7, 3) := by decide +kernel
theorem dX12_readSource_74 : decode cX12_readSource 74 = .ok (.iconst 3, 1) := by decide +kernel
theorem dX12_readSource_75 : decode cX12_readSource 75 = .ok (.goto 4, 3) := by decide +kernel
theorem dX12_readSource_78 : decode cX12_readSource 78 = .ok (.iconst 2, 1) := by decide +kernel
theorem dX12_readSource_79 : decode cX12_readSource 79 = .ok (.iconst 0, 1) := by decide +kernel
theorem dX12_readSource_80 : decode cX12_readSource 80 = .ok (.iconst 0, 1) := by decide +kernel
theorem dX12_readSource_81 : decode cX12_readSource 81 = .ok (.iconst 0, 1) := by decide +kernel
theorem dX12_readSource_82 : decode cX12_readSource 82 = .ok (.invokevirtual 462, 3) := by decide +kernel
theorem dX12_readSource_85 : decode cX12_readSource 85 = .ok (.iconst 1, 1) := by decide +kernel
theorem dX12_readSource_86 : decode cX12_readSource 86 = .ok (.ireturn, 1) := by decide +kernel
theorem dX12_readSource_87 : decode cX12_readSource 87 = .ok (.aload_n 0, 1) := by decide +kernel
theorem dX12_readSource_88 : decode cX12_readSource 88 = .ok (.invokevirtual 344, 3) := by decide +kernel
theorem dX12_readSource_91 : decode cX12_readSource 91 = .ok (.bipush 35, 2) := by decide +kernel
theorem dX12_readSource_93 : decode cX12_readSource 93 = .ok (.if_icmp .eq 8, 3) := by decide +kernel
theorem dX12_readSource_96 : decode cX12_readSource 96 = .ok (.aload_n 0, 1) := by decide +kernel
theorem dX12_readSource_97 : decode cX12_readSource 97 = .ok (.invokevirtual 472, 3) := by decide +kernel
theorem dX12_readSource_100 : decode cX12_readSource 100 = .ok (.ireturn, 1) := by decide +kernel
theorem dX12_readSource_101 : decode cX12_readSource 101 = .ok (.aload_n 0, 1) := by decide +kernel
theorem dX12_readSource_102 : decode cX12_readSource 102 = .ok (.dup, 1) := by decide +kernel
theorem dX12_readSource_103 : decode cX12_readSource 103 = .ok (.getfield 338, 3) := by decide +kernel
theorem dX12_readSource_106 : decode cX12_readSource 106 = .ok (.iconst 1, 1) := by decide +kernel
theorem dX12_readSource_107 : decode cX12_readSource 107 = .ok (.iadd, 1) := by decide +kernel
theorem dX12_readSource_108 : decode cX12_readSource 108 = .ok (.putfield 338, 3) := by decide +kernel
theorem dX12_readSource_111 : decode cX12_readSource 111 = .ok (.aload_n 0, 1) := by decide +kernel
theorem dX12_readSource_112 : decode cX12_readSource 112 = .ok (.iconst 1, 1) := by decide +kernel
theorem dX12_readSource_113 : decode cX12_readSource 113 = .ok (.invokevirtual 459, 3) := by decide +kernel
theorem dX12_readSource_116 : decode cX12_readSource 116 = .ok (.ifCond .ne 5, 3) := by decide +kernel
theorem dX12_readSource_119 : decode cX12_readSource 119 = .ok (.iconst 0, 1) := by decide +kernel
theorem dX12_readSource_120 : decode cX12_readSource 120 = .ok (.ireturn, 1) := by decide +kernel
theorem dX12_readSource_121 : decode cX12_readSource 121 = .ok (.aload_n 0, 1) := by decide +kernel
theorem dX12_readSource_122 : decode cX12_readSource 122 = .ok (.getfield 407, 3) := by decide +kernel
theorem dX12_readSource_125 : decode cX12_readSource 125 = .ok (.istore_n 2, 1) := by decide +kernel
theorem dX12_readSource_126 : decode cX12_readSource 126 = .ok (.aload_n 0, 1) := by decide +kernel
theorem dX12_readSource_127 : decode cX12_readSource 127 = .ok (.getfield 401, 3) := by decide +kernel
theorem dX12_readSource_130 : decode cX12_readSource 130 = .ok (.ifCond .ne 33, 3) := by decide +kernel
theorem dX12_readSource_133 : decode cX12_readSource 133 = .ok (.iload_n 1, 1) := by decide +kernel
theorem dX12_readSource_134 : decode cX12_readSource 134 = .ok (.ifCond .ne 29, 3) := by decide +kernel
theorem dX12_readSource_137 : decode cX12_readSource 137 = .ok (.iload_n 2, 1) := by decide +kernel
theorem dX12_readSource_138 : decode cX12_readSource 138 = .ok (.iconst 3, 1) := by decide +kernel
theorem dX12_readSource_139 : decode cX12_readSource 139 = .ok (.if_icmp .lt 20, 3) := by decide +kernel
theorem dX12_readSource_142 : decode cX12_readSource 142 = .ok (.iload_n 2, 1) := by decide +kernel
theorem dX12_readSource_143 : decode cX12_readSource 143 = .ok (.iconst 4, 1) := by decide +kernel
theorem dX12_readSource_144 : decode cX12_readSource 144 = .ok (.if_icmp .eq 15, 3) := by decide +kernel
theorem dX12_readSource_147 : decode cX12_readSource 147 = .ok (.iload_n 2, 1) := by decide +kernel
theorem dX12_readSource_148 : decode cX12_readSource 148 = .ok (.bipush 8, 2) := by decide +kernel
theorem dX12_readSource_150 : decode cX12_readSource 150 = .ok (.if_icmp .eq 9, 3) := by decide +kernel
theorem dX12_readSource_153 : decode cX12_readSource 153 = .ok (.iload_n 2, 1) := by decide +kernel
theorem dX12_readSource_154 : decode cX12_readSource 154 = .ok (.ldc 205, 2) := by decide +kernel
theorem dX12_readSource_156 : decode cX12_readSource 156 = .ok (.if_icmp .ne 7, 3) := by decide +kernel
theorem dX12_readSource_159 : decode cX12_readSource 159 = .ok (.iconst 1, 1) := by decide +kernel
theorem dX12_readSource_160 : decode cX12_readSource 160 = .ok (.goto 4, 3) := by decide +kernel
theorem dX12_readSource_163 : decode cX12_readSource 163 = .ok (.iconst 0, 1) := by decide +kernel
theorem dX12_readSource_164 : decode cX12_readSource 164 = .ok (.istore_n 3, 1) := by decide +kernel
theorem dX12_readSource_165 : decode cX12_readSource 165 = .ok (.iload_n 3, 1) := by decide +kernel
theorem dX12_readSource_166 : decode cX12_readSource 166 = .ok (.ifCond .eq 59, 3) := by decide +kernel
theorem dX12_readSource_169 : decode cX12_readSource 169 = .ok (.aload_n 0, 1) := by decide +kernel
theorem dX12_readSource_170 : decode cX12_readSource 170 = .ok (.iload_n 2, 1) := by decide +kernel
theorem dX12_readSource_171 : decode cX12_readSource 171 = .ok (.iconst 4, 1) := by decide +kernel
theorem dX12_readSource_172 : decode cX12_readSource 172 = .ok (.if_icmp .eq 9, 3) := by decide +kernel
theorem dX12_readSource_175 : decode cX12_readSource 175 = .ok (.iload_n 2, 1) := by decide +kernel
theorem dX12_readSource_176 : decode cX12_readSource 176 = .ok (.bipush 8, 2) := by decide +kernel
theorem dX12_readSource_178 : decode cX12_readSource 178 = .ok (.if_icmp .ne 7, 3) := by decide +kernel
theorem dX12_readSource_181 : decode cX12_readSource 181 = .ok (.iconst 2, 1) := by decide +kernel
theorem dX12_readSource_182 : decode cX12_readSource 182 = .ok (.goto 4, 3) := by decide +kernel
theorem dX12_readSource_185 : decode cX12_readSource 185 = .ok (.iconst 3, 1) := by decide +kernel
theorem dX12_readSource_186 : decode cX12_readSource 186 = .ok (.iload_n 2, 1) := by decide +kernel
theorem dX12_readSource_187 : decode cX12_readSource 187 = .ok (.ldc 205, 2) := by decide +kernel
theorem dX12_readSource_189 : decode cX12_readSource 189 = .ok (.if_icmp .ne 7, 3) := by decide +kernel
theorem dX12_readSource_192 : decode cX12_readSource 192 = .ok (.iconst 3, 1) := by decide +kernel
theorem dX12_readSource_193 : decode cX12_readSource 193 = .ok (.goto 23, 3) := by decide +kernel
theorem dX12_readSource_196 : decode cX12_readSource 196 = .ok (.iload_n 2, 1) := by decide +kernel
theorem dX12_readSource_197 : decode cX12_readSource 197 = .ok (.iconst 4, 1) := by decide +kernel
theorem dX12_readSource_198 : decode cX12_readSource 198 = .ok (.if_icmp .ne 7, 3) := by decide +kernel
theorem dX12_readSource_201 : decode cX12_readSource 201 = .ok (.iconst 2, 1) := by decide +kernel
theorem dX12_readSource_202 : decode cX12_readSource 202 = .ok (.goto 14, 3) := by decide +kernel
theorem dX12_readSource_205 : decode cX12_readSource 205 = .ok (.iload_n 2, 1) := by decide +kernel
theorem dX12_readSource_206 : decode cX12_readSource 206 = .ok (.bipush 8, 2) := by decide +kernel
theorem dX12_readSource_208 : decode cX12_readSource 208 = .ok (.if_icmp .ne 7, 3) := by decide +kernel
theorem dX12_readSource_211 : decode cX12_readSource 211 = .ok (.iconst 3, 1) := by decide +kernel
theorem dX12_readSource_212 : decode cX12_readSource 212 = .ok (.goto 4, 3) := by decide +kernel
theorem dX12_readSource_215 : decode cX12_readSource 215 = .ok (.iload_n 2, 1) := by decide +kernel
theorem dX12_readSource_216 : decode cX12_readSource 216 = .ok (.iconst 0, 1) := by decide +kernel
theorem dX12_readSource_217 : decode cX12_readSource 217 = .ok (.iconst 0, 1) := by decide +kernel
theorem dX12_readSource_218 : decode cX12_readSource 218 = .ok (.iconst 0, 1) := by decide +kernel
theorem dX12_readSource_219 : decode cX12_readSource 219 = .ok (.invokevirtual 462, 3) := by decide +kernel
theorem dX12_readSource_222 : decode cX12_readSource 222 = .ok (.goto 12, 3) := by decide +kernel
theorem dX12_readSource_225 : decode cX12_readSource 225 = .ok (.aload_n 0, 1) := by decide +kernel
theorem dX12_readSource_226 : decode cX12_readSource 226 = .ok (.iconst 0, 1) := by decide +kernel
theorem dX12_readSource_227 : decode cX12_readSource 227 = .ok (.iconst 3, 1) := by decide +kernel
theorem dX12_readSource_228 : decode cX12_readSource 228 = .ok (.iconst 1, 1) := by decide +kernel
theorem dX12_readSource_229 : decode cX12_readSource 229 = .ok (.iload_n 2, 1) := by decide +kernel
theorem dX12_readSource_230 : decode cX12_readSource 230 = .ok (.iconst 0, 1) := by decide +kernel
theorem dX12_readSource_231 : decode cX12_readSource 231 = .ok (.invokevirtual 462, 3) := by decide +kernel
theorem dX12_readSource_234 : decode cX12_readSource 234 = .ok (.iconst 1, 1) := by decide +kernel
theorem dX12_readSource_235 : decode cX12_readSource 235 = .ok (.ireturn, 1) := by decide +kernel
theorem dX12_even_0 : decode cX12_even 0 = .ok (.aload_n 0, 1) := by decide +kernel
theorem dX12_even_1 : decode cX12_even 1 = .ok (.getfield 432, 3) := by decide +kernel
theorem dX12_even_4 : decode cX12_even 4 = .ok (.iconst 1, 1) := by decide +kernel
theorem dX12_even_5 : decode cX12_even 5 = .ok (.iand, 1) := by decide +kernel
theorem dX12_even_6 : decode cX12_even 6 = .ok (.iconst 1, 1) := by decide +kernel
theorem dX12_even_7 : decode cX12_even 7 = .ok (.if_icmp .ne 13, 3) := by decide +kernel
theorem dX12_even_10 : decode cX12_even 10 = .ok (.aload_n 0, 1) := by decide +kernel
theorem dX12_even_11 : decode cX12_even 11 = .ok (.dup, 1) := by decide +kernel
theorem dX12_even_12 : decode cX12_even 12 = .ok (.getfield 432, 3) := by decide +kernel
theorem dX12_even_15 : decode cX12_even 15 = .ok (.iconst 1, 1) := by decide +kernel
theorem dX12_even_16 : decode cX12_even 16 = .ok (.iadd, 1) := by decide +kernel
theorem dX12_even_17 : decode cX12_even 17 = .ok (.putfield 432, 3) := by decide +kernel
theorem dX12_even_20 : decode cX12_even 20 = .ok (.return_, 1) := by decide +kernel
theorem dX12_statement_0 : decode cX12_statement 0 = .ok (.iload_n 1, 1) := by decide +kernel
theorem dX12_statement_1 : decode cX12_statement 1 = .ok (.bipush 40, 2) := by decide +kernel
theorem dX12_statement_3 : decode cX12_statement 3 = .ok (.if_icmp .ne 23, 3) := by decide +kernel
theorem dX12_statement_6 : decode cX12_statement 6 = .ok (.aload_n 0, 1) := by decide +kernel
theorem dX12_statement_7 : decode cX12_statement 7 = .ok (.iconst 0, 1) := by decide +kernel
theorem dX12_statement_8 : decode cX12_statement 8 = .ok (.invokevirtual 459, 3) := by decide +kernel
theorem dX12_statement_11 : decode cX12_statement 11 = .ok (.ifCond .ne 5, 3) := by decide +kernel
theorem dX12_statement_14 : decode cX12_statement 14 = .ok (.iconst 0, 1) := by decide +kernel
theorem dX12_statement_15 : decode cX12_statement 15 = .ok (.ireturn, 1) := by decide +kernel
theorem dX12_statement_16 : decode cX12_statement 16 = .ok (.aload_n 0, 1) := by decide +kernel
theorem dX12_statement_17 : decode cX12_statement 17 = .ok (.aload_n 0, 1) := by decide +kernel
theorem dX12_statement_18 : decode cX12_statement 18 = .ok (.getfield 407, 3) := by decide +kernel
theorem dX12_statement_21 : decode cX12_statement 21 = .ok (.putfield 432, 3) := by decide +kernel
theorem dX12_statement_24 : decode cX12_statement 24 = .ok (.iconst 1, 1) := by decide +kernel
theorem dX12_statement_25 : decode cX12_statement 25 = .ok (.ireturn, 1) := by decide +kernel
theorem dX12_statement_26 : decode cX12_statement 26 = .ok (.iload_n 1, 1) := by decide +kernel
theorem dX12_statement_27 : decode cX12_statement 27 = .ok (.bipush 41, 2) := by decide +kernel
theorem dX12_statement_29 : decode cX12_statement 29 = .ok (.if_icmp .eq 9, 3) := by decide +kernel
theorem dX12_statement_32 : decode cX12_statement 32 = .ok (.iload_n 1, 1) := by decide +kernel
theorem dX12_statement_33 : decode cX12_statement 33 = .ok (.bipush 42, 2) := by decide +kernel
theorem dX12_statement_35 : decode cX12_statement 35 = .ok (.if_icmp .ne 19, 3) := by decide +kernel
theorem dX12_statement_38 : decode cX12_statement 38 = .ok (.aload_n 0, 1) := by decide +kernel
theorem dX12_statement_39 : decode cX12_statement 39 = .ok (.iload_n 1, 1) := by decide +kernel
theorem dX12_statement_40 : decode cX12_statement 40 = .ok (.bipush 42, 2) := by decide +kernel
theorem dX12_statement_42 : decode cX12_statement 42 = .ok (.if_icmp .ne 7, 3) := by decide +kernel
theorem dX12_statement_45 : decode cX12_statement 45 = .ok (.iconst 1, 1) := by decide +kernel
theorem dX12_statement_46 : decode cX12_statement 46 = .ok (.goto 4, 3) := by decide +kernel
theorem dX12_statement_49 : decode cX12_statement 49 = .ok (.iconst 0, 1) := by decide +kernel
theorem dX12_statement_50 : decode cX12_statement 50 = .ok (.invokevirtual 475, 3) := by decide +kernel
theorem dX12_statement_53 : decode cX12_statement 53 = .ok (.ireturn, 1) := by decide +kernel
theorem dX12_statement_54 : decode cX12_statement 54 = .ok (.iload_n 1, 1) := by decide +kernel
theorem dX12_statement_55 : decode cX12_statement 55 = .ok (.bipush 30, 2) := by decide +kernel
theorem dX12_statement_57 : decode cX12_statement 57 = .ok (.if_icmp .lt 18, 3) := by decide +kernel
theorem dX12_statement_60 : decode cX12_statement 60 = .ok (.iload_n 1, 1) := by decide +kernel
theorem dX12_statement_61 : decode cX12_statement 61 = .ok (.bipush 40, 2) := by decide +kernel
theorem dX12_statement_63 : decode cX12_statement 63 = .ok (.if_icmp .ge 12, 3) := by decide +kernel
theorem dX12_statement_66 : decode cX12_statement 66 = .ok (.aload_n 0, 1) := by decide +kernel
theorem dX12_statement_67 : decode cX12_statement 67 = .ok (.iload_n 1, 1) := by decide +kernel
theorem dX12_statement_68 : decode cX12_statement 68 = .ok (.bipush 30, 2) := by decide +kernel
theorem dX12_statement_70 : decode cX12_statement 70 = .ok (.isub, 1) := by decide +kernel
theorem dX12_statement_71 : decode cX12_statement 71 = .ok (.invokevirtual 478, 3) := by decide +kernel
theorem dX12_statement_74 : decode cX12_statement 74 = .ok (.ireturn, 1) := by decide +kernel
theorem dX12_statement_75 : decode cX12_statement 75 = .ok (.iload_n 1, 1) := by decide +kernel
theorem dX12_statement_76 : decode cX12_statement 76 = .ok (.bipush 43, 2) := by decide +kernel
theorem dX12_statement_78 : decode cX12_statement 78 = .ok (.if_icmp .ne 13, 3) := by decide +kernel
theorem dX12_statement_81 : decode cX12_statement 81 = .ok (.aload_n 0, 1) := by decide +kernel
theorem dX12_statement_82 : decode cX12_statement 82 = .ok (.iconst 4, 1) := by decide +kernel
theorem dX12_statement_83 : decode cX12_statement 83 = .ok (.iconst 1, 1) := by decide +kernel
theorem dX12_statement_84 : decode cX12_statement 84 = .ok (.iconst 3, 1) := by decide +kernel
theorem dX12_statement_85 : decode cX12_statement 85 = .ok (.iconst 0, 1) := by decide +kernel
theorem dX12_statement_86 : decode cX12_statement 86 = .ok (.iconst 0, 1) := by decide +kernel
theorem dX12_statement_87 : decode cX12_statement 87 = .ok (.invokevirtual 481, 3) := by decide +kernel
theorem dX12_statement_90 : decode cX12_statement 90 = .ok (.ireturn, 1) := by decide +kernel
theorem dX12_statement_91 : decode cX12_statement 91 = .ok (.iload_n 1, 1) := by decide +kernel
theorem dX12_statement_92 : decode cX12_statement 92 = .ok (.bipush 45, 2) := by decide +kernel
theorem dX12_statement_94 : decode cX12_statement 94 = .ok (.if_icmp .ne 13, 3) := by decide +kernel
theorem dX12_statement_97 : decode cX12_statement 97 = .ok (.aload_n 0, 1) := by decide +kernel
theorem dX12_statement_98 : decode cX12_statement 98 = .ok (.iconst 4, 1) := by decide +kernel
theorem dX12_statement_99 : decode cX12_statement 99 = .ok (.iconst 3, 1) := by decide +kernel
theorem dX12_statement_100 : decode cX12_statement 100 = .ok (.iconst 0, 1) := by decide +kernel
theorem dX12_statement_101 : decode cX12_statement 101 = .ok (.iconst 3, 1) := by decide +kernel
theorem dX12_statement_102 : decode cX12_statement 102 = .ok (.iconst 0, 1) := by decide +kernel
theorem dX12_statement_103 : decode cX12_statement 103 = .ok (.invokevirtual 481, 3) := by decide +kernel
