theorem dX12_peekWord_12 : decode cX12_peekWord 12 = .ok (.iconst 1, 1) := by decide +kernel
theorem dX12_peekWord_13 : decode cX12_peekWord 13 = .ok (.iadd, 1) := by decide +kernel
theorem dX12_peekWord_14 : decode cX12_peekWord 14 = .ok (.invokevirtual 216, 3) := by decide +kernel
theorem dX12_peekWord_17 : decode cX12_peekWord 17 = .ok (.bipush 8, 2) := by decide +kernel
theorem dX12_peekWord_19 : decode cX12_peekWord 19 = .ok (.ishl, 1) := by decide +kernel
theorem dX12_peekWord_20 : decode cX12_peekWord 20 = .ok (.ior, 1) := by decide +kernel
theorem dX12_peekWord_21 : decode cX12_peekWord 21 = .ok (.ireturn, 1) := by decide +kernel
theorem dX12_readWord_0 : decode cX12_readWord 0 = .ok (.aload_n 0, 1) := by decide +kernel
theorem dX12_readWord_1 : decode cX12_readWord 1 = .ok (.iload_n 1, 1) := by decide +kernel
theorem dX12_readWord_2 : decode cX12_readWord 2 = .ok (.invokevirtual 197, 3) := by decide +kernel
theorem dX12_readWord_5 : decode cX12_readWord 5 = .ok (.istore_n 2, 1) := by decide +kernel
theorem dX12_readWord_6 : decode cX12_readWord 6 = .ok (.iload_n 1, 1) := by decide +kernel
theorem dX12_readWord_7 : decode cX12_readWord 7 = .ok (.ldc 196, 2) := by decide +kernel
theorem dX12_readWord_9 : decode cX12_readWord 9 = .ok (.iand, 1) := by decide +kernel
theorem dX12_readWord_10 : decode cX12_readWord 10 = .ok (.sipush 302, 3) := by decide +kernel
theorem dX12_readWord_13 : decode cX12_readWord 13 = .ok (.if_icmp .ne 7, 3) := by decide +kernel
theorem dX12_readWord_16 : decode cX12_readWord 16 = .ok (.aload_n 0, 1) := by decide +kernel
theorem dX12_readWord_17 : decode cX12_readWord 17 = .ok (.invokevirtual 219, 3) := by decide +kernel
theorem dX12_readWord_20 : decode cX12_readWord 20 = .ok (.iload_n 2, 1) := by decide +kernel
theorem dX12_readWord_21 : decode cX12_readWord 21 = .ok (.ireturn, 1) := by decide +kernel
theorem dX12_readByte_0 : decode cX12_readByte 0 = .ok (.aload_n 0, 1) := by decide +kernel
theorem dX12_readByte_1 : decode cX12_readByte 1 = .ok (.iload_n 1, 1) := by decide +kernel
theorem dX12_readByte_2 : decode cX12_readByte 2 = .ok (.invokevirtual 216, 3) := by decide +kernel
theorem dX12_readByte_5 : decode cX12_readByte 5 = .ok (.istore_n 2, 1) := by decide +kernel
theorem dX12_readByte_6 : decode cX12_readByte 6 = .ok (.iload_n 1, 1) := by decide +kernel
theorem dX12_readByte_7 : decode cX12_readByte 7 = .ok (.ldc 196, 2) := by decide +kernel
theorem dX12_readByte_9 : decode cX12_readByte 9 = .ok (.iand, 1) := by decide +kernel
theorem dX12_readByte_10 : decode cX12_readByte 10 = .ok (.sipush 302, 3) := by decide +kernel
theorem dX12_readByte_13 : decode cX12_readByte 13 = .ok (.if_icmp .ne 7, 3) := by decide +kernel
theorem dX12_readByte_16 : decode cX12_readByte 16 = .ok (.aload_n 0, 1) := by decide +kernel
theorem dX12_readByte_17 : decode cX12_readByte 17 = .ok (.invokevirtual 219, 3) := by decide +kernel
theorem dX12_readByte_20 : decode cX12_readByte 20 = .ok (.iload_n 2, 1) := by decide +kernel
theorem dX12_readByte_21 : decode cX12_readByte 21 = .ok (.ireturn, 1) := by decide +kernel
theorem dX12_multiply_0 : decode cX12_multiply 0 = .ok (.aload_n 0, 1) := by decide +kernel
theorem dX12_multiply_1 : decode cX12_multiply 1 = .ok (.getfield 156, 3) := by decide +kernel
theorem dX12_multiply_4 : decode cX12_multiply 4 = .ok (.iconst 1, 1) := by decide +kernel
theorem dX12_multiply_5 : decode cX12_multiply 5 = .ok (.if_icmp .ne 12, 3) := by decide +kernel
theorem dX12_multiply_8 : decode cX12_multiply 8 = .ok (.aload_n 0, 1) := by decide +kernel
theorem dX12_multiply_9 : decode cX12_multiply 9 = .ok (.getfield 153, 3) := by decide +kernel
theorem dX12_multiply_12 : decode cX12_multiply 12 = .ok (.i2s, 1) := by decide +kernel
theorem dX12_multiply_13 : decode cX12_multiply 13 = .ok (.i2l, 1) := by decide +kernel
theorem dX12_multiply_14 : decode cX12_multiply 14 = .ok (.goto 8, 3) := by decide +kernel
theorem dX12_multiply_17 : decode cX12_multiply 17 = .ok (.aload_n 0, 1) := by decide +kernel
theorem dX12_multiply_18 : decode cX12_multiply 18 = .ok (.getfield 153, 3) := by decide +kernel
theorem dX12_multiply_21 : decode cX12_multiply 21 = .ok (.i2l, 1) := by decide +kernel
theorem dX12_multiply_22 : decode cX12_multiply 22 = .ok (.lstore_n 1, 1) := by decide +kernel
theorem dX12_multiply_23 : decode cX12_multiply 23 = .ok (.aload_n 0, 1) := by decide +kernel
theorem dX12_multiply_24 : decode cX12_multiply 24 = .ok (.getfield 156, 3) := by decide +kernel
theorem dX12_multiply_27 : decode cX12_multiply 27 = .ok (.iconst 1, 1) := by decide +kernel
theorem dX12_multiply_28 : decode cX12_multiply 28 = .ok (.if_icmp .ne 12, 3) := by decide +kernel
theorem dX12_multiply_31 : decode cX12_multiply 31 = .ok (.aload_n 0, 1) := by decide +kernel
theorem dX12_multiply_32 : decode cX12_multiply 32 = .ok (.getfield 159, 3) := by decide +kernel
theorem dX12_multiply_35 : decode cX12_multiply 35 = .ok (.i2s, 1) := by decide +kernel
theorem dX12_multiply_36 : decode cX12_multiply 36 = .ok (.i2l, 1) := by decide +kernel
theorem dX12_multiply_37 : decode cX12_multiply 37 = .ok (.goto 8, 3) := by decide +kernel
theorem dX12_multiply_40 : decode cX12_multiply 40 = .ok (.aload_n 0, 1) := by decide +kernel
theorem dX12_multiply_41 : decode cX12_multiply 41 = .ok (.getfield 159, 3) := by decide +kernel
theorem dX12_multiply_44 : decode cX12_multiply 44 = .ok (.i2l, 1) := by decide +kernel
theorem dX12_multiply_45 : decode cX12_multiply 45 = .ok (.lstore_n 3, 1) := by decide +kernel
theorem dX12_multiply_46 : decode cX12_multiply 46 = .ok (.lload_n 1, 1) := by decide +kernel
theorem dX12_multiply_47 : decode cX12_multiply 47 = .ok (.lload_n 3, 1) := by decide +kernel
theorem dX12_multiply_48 : decode cX12_multiply 48 = .ok (.lmul, 1) := by decide +kernel
theorem dX12_multiply_49 : decode cX12_multiply 49 = .ok (.lstore 5, 2) := by decide +kernel
theorem dX12_multiply_51 : decode cX12_multiply 51 = .ok (.aload_n 0, 1) := by decide +kernel
theorem dX12_multiply_52 : decode cX12_multiply 52 = .ok (.getfield 156, 3) := by decide +kernel
theorem dX12_multiply_55 : decode cX12_multiply 55 = .ok (.iconst 2, 1) := by decide +kernel
theorem dX12_multiply_56 : decode cX12_multiply 56 = .ok (.if_icmp .ne 43, 3) := by decide +kernel
theorem dX12_multiply_59 : decode cX12_multiply 59 = .ok (.lload 5, 2) := by decide +kernel
theorem dX12_multiply_61 : decode cX12_multiply 61 = .ok (.aload_n 0, 1) := by decide +kernel
theorem dX12_multiply_62 : decode cX12_multiply 62 = .ok (.getfield 165, 3) := by decide +kernel
theorem dX12_multiply_65 : decode cX12_multiply 65 = .ok (.i2l, 1) := by decide +kernel
theorem dX12_multiply_66 : decode cX12_multiply 66 = .ok (.bipush 16, 2) := by decide +kernel
theorem dX12_multiply_68 : decode cX12_multiply 68 = .ok (.lshl, 1) := by decide +kernel
theorem dX12_multiply_69 : decode cX12_multiply 69 = .ok (.aload_n 0, 1) := by decide +kernel
theorem dX12_multiply_70 : decode cX12_multiply 70 = .ok (.getfield 162, 3) := by decide +kernel
theorem dX12_multiply_73 : decode cX12_multiply 73 = .ok (.i2l, 1) := by decide +kernel
theorem dX12_multiply_74 : decode cX12_multiply 74 = .ok (.lor, 1) := by decide +kernel
theorem dX12_multiply_75 : decode cX12_multiply 75 = .ok (.ladd, 1) := by decide +kernel
theorem dX12_multiply_76 : decode cX12_multiply 76 = .ok (.lstore 5, 2) := by decide +kernel
theorem dX12_multiply_78 : decode cX12_multiply 78 = .ok (.aload_n 0, 1) := by decide +kernel
theorem dX12_multiply_79 : decode cX12_multiply 79 = .ok (.lload 5, 2) := by decide +kernel
theorem dX12_multiply_81 : decode cX12_multiply 81 = .ok (.ldc2_w 222, 3) := by decide +kernel
theorem dX12_multiply_84 : decode cX12_multiply 84 = .ok (.lcmp, 1) := by decide +kernel
theorem dX12_multiply_85 : decode cX12_multiply 85 = .ok (.ifCond .le 7, 3) := by decide +kernel
theorem dX12_multiply_88 : decode cX12_multiply 88 = .ok (.iconst 1, 1) := by decide +kernel
theorem dX12_multiply_89 : decode cX12_multiply 89 = .ok (.goto 4, 3) := by decide +kernel
theorem dX12_multiply_92 : decode cX12_multiply 92 = .ok (.iconst 0, 1) := by decide +kernel
theorem dX12_multiply_93 : decode cX12_multiply 93 = .ok (.putfield 168, 3) := by decide +kernel
theorem dX12_multiply_96 : decode cX12_multiply 96 = .ok (.goto 20, 3) := by decide +kernel
theorem dX12_multiply_99 : decode cX12_multiply 99 = .ok (.aload_n 0, 1) := by decide +kernel
theorem dX12_multiply_100 : decode cX12_multiply 100 = .ok (.lload 5, 2) := by decide +kernel
theorem dX12_multiply_102 : decode cX12_multiply 102 = .ok (.lconst 0, 1) := by decide +kernel
theorem dX12_multiply_103 : decode cX12_multiply 103 = .ok (.lcmp, 1) := by decide +kernel
theorem dX12_multiply_104 : decode cX12_multiply 104 = .ok (.ifCond .ge 8, 3) := by decide +kernel
theorem dX12_multiply_107 : decode cX12_multiply 107 = .ok (.ldc 205, 2) := by decide +kernel
theorem dX12_multiply_109 : decode cX12_multiply 109 = .ok (.goto 4, 3) := by decide +kernel
theorem dX12_multiply_112 : decode cX12_multiply 112 = .ok (.iconst 0, 1) := by decide +kernel
theorem dX12_multiply_113 : decode cX12_multiply 113 = .ok (.putfield 168, 3) := by decide +kernel
theorem dX12_multiply_116 : decode cX12_multiply 116 = .ok (.aload_n 0, 1) := by decide +kernel
theorem dX12_multiply_117 : decode cX12_multiply 117 = .ok (.lload 5, 2) := by decide +kernel
theorem dX12_multiply_119 : decode cX12_multiply 119 = .ok (.ldc2_w 224, 3) := by decide +kernel
theorem dX12_multiply_122 : decode cX12_multiply 122 = .ok (.land, 1) := by decide +kernel
theorem dX12_multiply_123 : decode cX12_multiply 123 = .ok (.l2i, 1) := by decide +kernel
theorem dX12_multiply_124 : decode cX12_multiply 124 = .ok (.putfield 162, 3) := by decide +kernel
theorem dX12_multiply_127 : decode cX12_multiply 127 = .ok (.aload_n 0, 1) := by decide +kernel
theorem dX12_multiply_128 : decode cX12_multiply 128 = .ok (.lload 5, 2) := by decide +kernel
theorem dX12_multiply_130 : decode cX12_multiply 130 = .ok (.bipush 16, 2) := by decide +kernel
theorem dX12_multiply_132 : decode cX12_multiply 132 = .ok (.lshr, 1) := by decide +kernel
theorem dX12_multiply_133 : decode cX12_multiply 133 = .ok (.ldc2_w 224, 3) := by decide +kernel
theorem dX12_multiply_136 : decode cX12_multiply 136 = .ok (.land, 1) := by decide +kernel
theorem dX12_multiply_137 : decode cX12_multiply 137 = .ok (.l2i, 1) := by decide +kernel
theorem dX12_multiply_138 : decode cX12_multiply 138 = .ok (.putfield 165, 3) := by decide +kernel
theorem dX12_multiply_141 : decode cX12_multiply 141 = .ok (.return_, 1) := by decide +kernel
theorem dX12_writeThing_0 : decode cX12_writeThing 0 = .ok (.iload_n 1, 1) := by decide +kernel
theorem dX12_writeThing_1 : decode cX12_writeThing 1 = .ok (.lookupswitch 243 #[(302, 131), (304, 136), (306, 136), (308, 136), (312, 153), (314, 163), (316, 169), (352, 175), (354, 206), (356, 206), (358, 206), (368, 223), (370, 229), (372, 229), (374, 229)], 131) := by decide +kernel
theorem dX12_writeThing_132 : decode cX12_writeThing 132 = .ok (.aload_n 0, 1) := by decide +kernel
theorem dX12_writeThing_133 : decode cX12_writeThing 133 = .ok (.invokevirtual 219, 3) := by decide +kernel
theorem dX12_writeThing_136 : decode cX12_writeThing 136 = .ok (.return_, 1) := by decide +kernel
theorem dX12_writeThing_137 : decode cX12_writeThing 137 = .ok (.aload_n 0, 1) := by decide +kernel
theorem dX12_writeThing_138 : decode cX12_writeThing 138 = .ok (.iload_n 2, 1) := by decide +kernel
theorem dX12_writeThing_139 : decode cX12_writeThing 139 = .ok (.putfield 153, 3) := by decide +kernel
theorem dX12_writeThing_142 : decode cX12_writeThing 142 = .ok (.aload_n 0, 1) := by decide +kernel
theorem dX12_writeThing_143 : decode cX12_writeThing 143 = .ok (.iload_n 1, 1) := by decide +kernel
theorem dX12_writeThing_144 : decode cX12_writeThing 144 = .ok (.sipush 304, 3) := by decide +kernel
theorem dX12_writeThing_147 : decode cX12_writeThing 147 = .ok (.isub, 1) := by decide +kernel
theorem dX12_writeThing_148 : decode cX12_writeThing 148 = .ok (.iconst 2, 1) := by decide +kernel
theorem dX12_writeThing_149 : decode cX12_writeThing 149 = .ok (.idiv, 1) := by decide +kernel
theorem dX12_writeThing_150 : decode cX12_writeThing 150 = .ok (.putfield 156, 3) := by decide +kernel
theorem dX12_writeThing_153 : decode cX12_writeThing 153 = .ok (.return_, 1) := by decide +kernel
theorem dX12_writeThing_154 : decode cX12_writeThing 154 = .ok (.aload_n 0, 1) := by decide +kernel
theorem dX12_writeThing_155 : decode cX12_writeThing 155 = .ok (.iload_n 2, 1) := by decide +kernel
theorem dX12_writeThing_156 : decode cX12_writeThing 156 = .ok (.putfield 159, 3) := by decide +kernel
theorem dX12_writeThing_159 : decode cX12_writeThing 159 = .ok (.aload_n 0, 1) := by decide +kernel
theorem dX12_writeThing_160 : decode cX12_writeThing 160 = .ok (.invokevirtual 226, 3) := by decide +kernel
theorem dX12_writeThing_163 : decode cX12_writeThing 163 = .ok (.return_, 1) := by decide +kernel
theorem dX12_writeThing_164 : decode cX12_writeThing 164 = .ok (.aload_n 0, 1) := by decide +kernel
theorem dX12_writeThing_165 : decode cX12_writeThing 165 = .ok (.iload_n 2, 1) := by decide +kernel
theorem dX12_writeThing_166 : decode cX12_writeThing 166 = .ok (.putfield 162, 3) := by decide +kernel
theorem dX12_writeThing_169 : decode cX12_writeThing 169 = .ok (.return_, 1) := by decide +kernel
theorem dX12_writeThing_170 : decode cX12_writeThing 170 = .ok (.aload_n 0, 1) := by decide +kernel
theorem dX12_writeThing_171 : decode cX12_writeThing 171 = .ok (.iload_n 2, 1) := by decide +kernel
theorem dX12_writeThing_172 : decode cX12_writeThing 172 = .ok (.putfield 165, 3) := by decide +kernel
theorem dX12_writeThing_175 : decode cX12_writeThing 175 = .ok (.return_, 1) := by decide +kernel
theorem dX12_writeThing_176 : decode cX12_writeThing 176 = .ok (.aload_n 0, 1) := by decide +kernel
theorem dX12_writeThing_177 : decode cX12_writeThing 177 = .ok (.iload_n 2, 1) := by decide +kernel
theorem dX12_writeThing_178 : decode cX12_writeThing 178 = .ok (.sipush 1011, 3) := by decide +kernel
theorem dX12_writeThing_181 : decode cX12_writeThing 181 = .ok (.iand, 1) := by decide +kernel
theorem dX12_writeThing_182 : decode cX12_writeThing 182 = .ok (.putfield 171, 3) := by decide +kernel
theorem dX12_writeThing_185 : decode cX12_writeThing 185 = .ok (.iload_n 2, 1) := by decide +kernel
theorem dX12_writeThing_186 : decode cX12_writeThing 186 = .ok (.iconst 4, 1) := by decide +kernel
theorem dX12_writeThing_187 : decode cX12_writeThing 187 = .ok (.iand, 1) := by decide +kernel
theorem dX12_writeThing_188 : decode cX12_writeThing 188 = .ok (.ifCond .eq 18, 3) := by decide +kernel
theorem dX12_writeThing_191 : decode cX12_writeThing 191 = .ok (.aload_n 0, 1) := by decide +kernel
theorem dX12_writeThing_192 : decode cX12_writeThing 192 = .ok (.iconst 0, 1) := by decide +kernel
theorem dX12_writeThing_193 : decode cX12_writeThing 193 = .ok (.putfield 174, 3) := by decide +kernel
theorem dX12_writeThing_196 : decode cX12_writeThing 196 = .ok (.aload_n 0, 1) := by decide +kernel
theorem dX12_writeThing_197 : decode cX12_writeThing 197 = .ok (.iconst 0, 1) := by decide +kernel
theorem dX12_writeThing_198 : decode cX12_writeThing 198 = .ok (.putfield 177, 3) := by decide +kernel
theorem dX12_writeThing_201 : decode cX12_writeThing 201 = .ok (.aload_n 0, 1) := by decide +kernel
theorem dX12_writeThing_202 : decode cX12_writeThing 202 = .ok (.iconst 0, 1) := by decide +kernel
theorem dX12_writeThing_203 : decode cX12_writeThing 203 = .ok (.putfield 180, 3) := by decide +kernel
theorem dX12_writeThing_206 : decode cX12_writeThing 206 = .ok (.return_, 1) := by decide +kernel
theorem dX12_writeThing_207 : decode cX12_writeThing 207 = .ok (.aload_n 0, 1) := by decide +kernel
theorem dX12_writeThing_208 : decode cX12_writeThing 208 = .ok (.getfield 18, 3) := by decide +kernel
theorem dX12_writeThing_211 : decode cX12_writeThing 211 = .ok (.iload_n 1, 1) := by decide +kernel
theorem dX12_writeThing_212 : decode cX12_writeThing 212 = .ok (.sipush 354, 3) := by decide +kernel
theorem dX12_writeThing_215 : decode cX12_writeThing 215 = .ok (.isub, 1) := by decide +kernel
theorem dX12_writeThing_216 : decode cX12_writeThing 216 = .ok (.iconst 2, 1) := by decide +kernel
theorem dX12_writeThing_217 : decode cX12_writeThing 217 = .ok (.idiv, 1) := by decide +kernel
theorem dX12_writeThing_218 : decode cX12_writeThing 218 = .ok (.iload_n 2, 1) := by decide +kernel
theorem dX12_writeThing_219 : decode cX12_writeThing 219 = .ok (.bipush 17, 2) := by decide +kernel
theorem dX12_writeThing_221 : decode cX12_writeThing 221 = .ok (.iand, 1) := by decide +kernel
theorem dX12_writeThing_222 : decode cX12_writeThing 222 = .ok (.iastore, 1) := by decide +kernel
theorem dX12_writeThing_223 : decode cX12_writeThing 223 = .ok (.return_, 1) := by decide +kernel
theorem dX12_writeThing_224 : decode cX12_writeThing 224 = .ok (.aload_n 0, 1) := by decide +kernel
theorem dX12_writeThing_225 : decode cX12_writeThing 225 = .ok (.iload_n 2, 1) := by decide +kernel
theorem dX12_writeThing_226 : decode cX12_writeThing 226 = .ok (.putfield 174, 3) := by decide +kernel
theorem dX12_writeThing_229 : decode cX12_writeThing 229 = .ok (.return_, 1) := by decide +kernel
theorem dX12_writeThing_230 : decode cX12_writeThing 230 = .ok (.aload_n 0, 1) := by decide +kernel
theorem dX12_writeThing_231 : decode cX12_writeThing 231 = .ok (.getfield 21, 3) := by decide +kernel
theorem dX12_writeThing_234 : decode cX12_writeThing 234 = .ok (.iload_n 1, 1) := by decide +kernel
theorem dX12_writeThing_235 : decode cX12_writeThing 235 = .ok (.sipush 370, 3) := by decide +kernel
theorem dX12_writeThing_238 : decode cX12_writeThing 238 = .ok (.isub, 1) := by decide +kernel
theorem dX12_writeThing_239 : decode cX12_writeThing 239 = .ok (.iconst 2, 1) := by decide +kernel
theorem dX12_writeThing_240 : decode cX12_writeThing 240 = .ok (.idiv, 1) := by decide +kernel
theorem dX12_writeThing_241 : decode cX12_writeThing 241 = .ok (.iload_n 2, 1) := by decide +kernel
theorem dX12_writeThing_242 : decode cX12_writeThing 242 = .ok (.iastore, 1) := by decide +kernel
theorem dX12_writeThing_243 : decode cX12_writeThing 243 = .ok (.return_, 1) := by decide +kernel
theorem dX12_writeThing_244 : decode cX12_writeThing 244 = .ok (.return_, 1) := by decide +kernel
theorem dX12_writeByte_0 : decode cX12_writeByte 0 = .ok (.iload_n 1, 1) := by decide +kernel
theorem dX12_writeByte_1 : decode cX12_writeByte 1 = .ok (.sipush 512, 3) := by decide +kernel
theorem dX12_writeByte_4 : decode cX12_writeByte 4 = .ok (.if_icmp .lt 14, 3) := by decide +kernel
theorem dX12_writeByte_7 : decode cX12_writeByte 7 = .ok (.aload_n 0, 1) := by decide +kernel
theorem dX12_writeByte_8 : decode cX12_writeByte 8 = .ok (.getfield 8, 3) := by decide +kernel
theorem dX12_writeByte_11 : decode cX12_writeByte 11 = .ok (.iload_n 1, 1) := by decide +kernel
theorem dX12_writeByte_12 : decode cX12_writeByte 12 = .ok (.iload_n 2, 1) := by decide +kernel
theorem dX12_writeByte_13 : decode cX12_writeByte 13 = .ok (.i2b, 1) := by decide +kernel
theorem dX12_writeByte_14 : decode cX12_writeByte 14 = .ok (.bastore, 1) := by decide +kernel
theorem dX12_writeByte_15 : decode cX12_writeByte 15 = .ok (.goto 108, 3) := by decide +kernel
theorem dX12_writeByte_18 : decode cX12_writeByte 18 = .ok (.iload_n 1, 1) := by decide +kernel
theorem dX12_writeByte_19 : decode cX12_writeByte 19 = .ok (.sipush 288, 3) := by decide +kernel
theorem dX12_writeByte_22 : decode cX12_writeByte 22 = .ok (.if_icmp .lt 48, 3) := by decide +kernel
theorem dX12_writeByte_25 : decode cX12_writeByte 25 = .ok (.aload_n 0, 1) := by decide +kernel
theorem dX12_writeByte_26 : decode cX12_writeByte 26 = .ok (.iload_n 1, 1) := by decide +kernel
theorem dX12_writeByte_27 : decode cX12_writeByte 27 = .ok (.bipush (-2), 2) := by decide +kernel
theorem dX12_writeByte_29 : decode cX12_writeByte 29 = .ok (.iand, 1) := by decide +kernel
theorem dX12_writeByte_30 : decode cX12_writeByte 30 = .ok (.invokevirtual 210, 3) := by decide +kernel
theorem dX12_writeByte_33 : decode cX12_writeByte 33 = .ok (.istore_n 3, 1) := by decide +kernel
theorem dX12_writeByte_34 : decode cX12_writeByte 34 = .ok (.aload_n 0, 1) := by decide +kernel
theorem dX12_writeByte_35 : decode cX12_writeByte 35 = .ok (.iload_n 1, 1) := by decide +kernel
theorem dX12_writeByte_36 : decode cX12_writeByte 36 = .ok (.bipush (-2), 2) := by decide +kernel
theorem dX12_writeByte_38 : decode cX12_writeByte 38 = .ok (.iand, 1) := by decide +kernel
theorem dX12_writeByte_39 : decode cX12_writeByte 39 = .ok (.iload_n 1, 1) := by decide +kernel
theorem dX12_writeByte_40 : decode cX12_writeByte 40 = .ok (.iconst 1, 1) := by decide +kernel
theorem dX12_writeByte_41 : decode cX12_writeByte 41 = .ok (.iand, 1) := by decide +kernel
theorem dX12_writeByte_42 : decode cX12_writeByte 42 = .ok (.ifCond .ne 12, 3) := by decide +kernel
theorem dX12_writeByte_45 : decode cX12_writeByte 45 = .ok (.iload_n 3, 1) := by decide +kernel
theorem dX12_writeByte_46 : decode cX12_writeByte 46 = .ok (.ldc 229, 2) := by decide +kernel
theorem dX12_writeByte_48 : decode cX12_writeByte 48 = .ok (.iand, 1) := by decide +kernel
theorem dX12_writeByte_49 : decode cX12_writeByte 49 = .ok (.iload_n 2, 1) := by decide +kernel
theorem dX12_writeByte_50 : decode cX12_writeByte 50 = .ok (.ior, 1) := by decide +kernel
theorem dX12_writeByte_51 : decode cX12_writeByte 51 = .ok (.goto 13, 3) := by decide +kernel
theorem dX12_writeByte_54 : decode cX12_writeByte 54 = .ok (.iload_n 3, 1) := by decide +kernel
theorem dX12_writeByte_55 : decode cX12_writeByte 55 = .ok (.sipush 255, 3) := by decide +kernel
theorem dX12_writeByte_58 : decode cX12_writeByte 58 = .ok (.iand, 1) := by decide +kernel
theorem dX12_writeByte_59 : decode cX12_writeByte 59 = .ok (.iload_n 2, 1) := by decide +kernel
theorem dX12_writeByte_60 : decode cX12_writeByte 60 = .ok (.bipush 8, 2) := by decide +kernel
theorem dX12_writeByte_62 : decode cX12_writeByte 62 = .ok (.ishl, 1) := by decide +kernel
theorem dX12_writeByte_63 : decode cX12_writeByte 63 = .ok (.ior, 1) := by decide +kernel
theorem dX12_writeByte_64 : decode cX12_writeByte 64 = .ok (.invokevirtual 230, 3) := by decide +kernel
theorem dX12_writeByte_67 : decode cX12_writeByte 67 = .ok (.goto 56, 3) := by decide +kernel
theorem dX12_writeByte_70 : decode cX12_writeByte 70 = .ok (.iload_n 1, 1) := by decide +kernel
theorem dX12_writeByte_71 : decode cX12_writeByte 71 = .ok (.bipush 33, 2) := by decide +kernel
theorem dX12_writeByte_73 : decode cX12_writeByte 73 = .ok (.if_icmp .ne 11, 3) := by decide +kernel
theorem dX12_writeByte_76 : decode cX12_writeByte 76 = .ok (.aload_n 0, 1) := by decide +kernel
theorem dX12_writeByte_77 : decode cX12_writeByte 77 = .ok (.iload_n 2, 1) := by decide +kernel
theorem dX12_writeByte_78 : decode cX12_writeByte 78 = .ok (.putfield 141, 3) := by decide +kernel
theorem dX12_writeByte_81 : decode cX12_writeByte 81 = .ok (.goto 42, 3) := by decide +kernel
theorem dX12_writeByte_84 : decode cX12_writeByte 84 = .ok (.iload_n 1, 1) := by decide +kernel
theorem dX12_writeByte_85 : decode cX12_writeByte 85 = .ok (.bipush 35, 2) := by decide +kernel
theorem dX12_writeByte_87 : decode cX12_writeByte 87 = .ok (.if_icmp .ne 11, 3) := by decide +kernel
theorem dX12_writeByte_90 : decode cX12_writeByte 90 = .ok (.aload_n 0, 1) := by decide +kernel
theorem dX12_writeByte_91 : decode cX12_writeByte 91 = .ok (.iload_n 2, 1) := by decide +kernel
theorem dX12_writeByte_92 : decode cX12_writeByte 92 = .ok (.putfield 144, 3) := by decide +kernel
theorem dX12_writeByte_95 : decode cX12_writeByte 95 = .ok (.goto 28, 3) := by decide +kernel
theorem dX12_writeByte_98 : decode cX12_writeByte 98 = .ok (.iload_n 1, 1) := by decide +kernel
theorem dX12_writeByte_99 : decode cX12_writeByte 99 = .ok (.bipush 36, 2) := by decide +kernel
theorem dX12_writeByte_101 : decode cX12_writeByte 101 = .ok (.if_icmp .ne 11, 3) := by decide +kernel
theorem dX12_writeByte_104 : decode cX12_writeByte 104 = .ok (.aload_n 0, 1) := by decide +kernel
theorem dX12_writeByte_105 : decode cX12_writeByte 105 = .ok (.iload_n 2, 1) := by decide +kernel
theorem dX12_writeByte_106 : decode cX12_writeByte 106 = .ok (.putfield 147, 3) := by decide +kernel
theorem dX12_writeByte_109 : decode cX12_writeByte 109 = .ok (.goto 14, 3) := by decide +kernel
theorem dX12_writeByte_112 : decode cX12_writeByte 112 = .ok (.iload_n 1, 1) := by decide +kernel
theorem dX12_writeByte_113 : decode cX12_writeByte 113 = .ok (.bipush 37, 2) := by decide +kernel
theorem dX12_writeByte_115 : decode cX12_writeByte 115 = .ok (.if_icmp .ne 8, 3) := by decide +kernel
theorem dX12_writeByte_118 : decode cX12_writeByte 118 = .ok (.aload_n 0, 1) := by decide +kernel
theorem dX12_writeByte_119 : decode cX12_writeByte 119 = .ok (.iload_n 2, 1) := by decide +kernel
theorem dX12_writeByte_120 : decode cX12_writeByte 120 = .ok (.putfield 150, 3) := by decide +kernel
theorem dX12_writeByte_123 : decode cX12_writeByte 123 = .ok (.return_, 1) := by decide +kernel
theorem dX12_writeWord_0 : decode cX12_writeWord 0 = .ok (.iload_n 1, 1) := by decide +kernel
theorem dX12_writeWord_1 : decode cX12_writeWord 1 = .ok (.ldc 196, 2) := by decide +kernel
theorem dX12_writeWord_3 : decode cX12_writeWord 3 = .ok (.iand, 1) := by decide +kernel
theorem dX12_writeWord_4 : decode cX12_writeWord 4 = .ok (.istore_n 3, 1) := by decide +kernel
theorem dX12_writeWord_5 : decode cX12_writeWord 5 = .ok (.iload_n 3, 1) := by decide +kernel
theorem dX12_writeWord_6 : decode cX12_writeWord 6 = .ok (.sipush 288, 3) := by decide +kernel
theorem dX12_writeWord_9 : decode cX12_writeWord 9 = .ok (.if_icmp .lt 17, 3) := by decide +kernel
theorem dX12_writeWord_12 : decode cX12_writeWord 12 = .ok (.iload_n 3, 1) := by decide +kernel
theorem dX12_writeWord_13 : decode cX12_writeWord 13 = .ok (.sipush 512, 3) := by decide +kernel
theorem dX12_writeWord_16 : decode cX12_writeWord 16 = .ok (.if_icmp .ge 10, 3) := by decide +kernel
theorem dX12_writeWord_19 : decode cX12_writeWord 19 = .ok (.aload_n 0, 1) := by decide +kernel
theorem dX12_writeWord_20 : decode cX12_writeWord 20 = .ok (.iload_n 3, 1) := by decide +kernel
theorem dX12_writeWord_21 : decode cX12_writeWord 21 = .ok (.iload_n 2, 1) := by decide +kernel
theorem dX12_writeWord_22 : decode cX12_writeWord 22 = .ok (.invokevirtual 230, 3) := by decide +kernel
theorem dX12_writeWord_25 : decode cX12_writeWord 25 = .ok (.return_, 1) := by decide +kernel
theorem dX12_writeWord_26 : decode cX12_writeWord 26 = .ok (.aload_n 0, 1) := by decide +kernel
theorem dX12_writeWord_27 : decode cX12_writeWord 27 = .ok (.iload_n 3, 1) := by decide +kernel
theorem dX12_writeWord_28 : decode cX12_writeWord 28 = .ok (.iload_n 2, 1) := by decide +kernel
theorem dX12_writeWord_29 : decode cX12_writeWord 29 = .ok (.sipush 255, 3) := by decide +kernel
theorem dX12_writeWord_32 : decode cX12_writeWord 32 = .ok (.iand, 1) := by decide +kernel
theorem dX12_writeWord_33 : decode cX12_writeWord 33 = .ok (.invokevirtual 233, 3) := by decide +kernel
theorem dX12_writeWord_36 : decode cX12_writeWord 36 = .ok (.aload_n 0, 1) := by decide +kernel
theorem dX12_writeWord_37 : decode cX12_writeWord 37 = .ok (.iload_n 3, 1) := by decide +kernel
theorem dX12_writeWord_38 : decode cX12_writeWord 38 = .ok (.iconst 1, 1) := by decide +kernel
theorem dX12_writeWord_39 : decode cX12_writeWord 39 = .ok (.iadd, 1) := by decide +kernel
theorem dX12_writeWord_40 : decode cX12_writeWord 40 = .ok (.iload_n 2, 1) := by decide +kernel
theorem dX12_writeWord_41 : decode cX12_writeWord 41 = .ok (.bipush 8, 2) := by decide +kernel
theorem dX12_writeWord_43 : decode cX12_writeWord 43 = .ok (.ishr, 1) := by decide +kernel
theorem dX12_writeWord_44 : decode cX12_writeWord 44 = .ok (.sipush 255, 3) := by decide +kernel
theorem dX12_writeWord_47 : decode cX12_writeWord 47 = .ok (.iand, 1) := by decide +kernel
theorem dX12_writeWord_48 : decode cX12_writeWord 48 = .ok (.invokevirtual 233, 3) := by decide +kernel
theorem dX12_writeWord_51 : decode cX12_writeWord 51 = .ok (.return_, 1) := by decide +kernel
theorem dX12_count_0 : decode cX12_count 0 = .ok (.aload_n 0, 1) := by decide +kernel
theorem dX12_count_1 : decode cX12_count 1 = .ok (.getfield 171, 3) := by decide +kernel
theorem dX12_count_4 : decode cX12_count 4 = .ok (.iconst 4, 1) := by decide +kernel
theorem dX12_count_5 : decode cX12_count 5 = .ok (.ishr, 1) := by decide +kernel
theorem dX12_count_6 : decode cX12_count 6 = .ok (.iconst 3, 1) := by decide +kernel
theorem dX12_count_7 : decode cX12_count 7 = .ok (.iand, 1) := by decide +kernel
theorem dX12_count_8 : decode cX12_count 8 = .ok (.istore_n 1, 1) := by decide +kernel
theorem dX12_count_9 : decode cX12_count 9 = .ok (.iload_n 1, 1) := by decide +kernel
theorem dX12_count_10 : decode cX12_count 10 = .ok (.ifCond .eq 17, 3) := by decide +kernel
theorem dX12_count_13 : decode cX12_count 13 = .ok (.iload_n 1, 1) := by decide +kernel
theorem dX12_count_14 : decode cX12_count 14 = .ok (.iconst 2, 1) := by decide +kernel
theorem dX12_count_15 : decode cX12_count 15 = .ok (.if_icmp .eq 13, 3) := by decide +kernel
theorem dX12_count_18 : decode cX12_count 18 = .ok (.aload_n 0, 1) := by decide +kernel
theorem dX12_count_19 : decode cX12_count 19 = .ok (.getfield 21, 3) := by decide +kernel
theorem dX12_count_22 : decode cX12_count 22 = .ok (.iconst 0, 1) := by decide +kernel
theorem dX12_count_23 : decode cX12_count 23 = .ok (.iaload, 1) := by decide +kernel
theorem dX12_count_24 : decode cX12_count 24 = .ok (.ifCond .ne 4, 3) := by decide +kernel
theorem dX12_count_27 : decode cX12_count 27 = .ok (.return_, 1) := by decide +kernel
theorem dX12_count_28 : decode cX12_count 28 = .ok (.iload_n 1, 1) := by decide +kernel
theorem dX12_count_29 : decode cX12_count 29 = .ok (.iconst 1, 1) := by decide +kernel
theorem dX12_count_30 : decode cX12_count 30 = .ok (.if_icmp .ne 33, 3) := by decide +kernel
theorem dX12_count_33 : decode cX12_count 33 = .ok (.aload_n 0, 1) := by decide +kernel
theorem dX12_count_34 : decode cX12_count 34 = .ok (.aload_n 0, 1) := by decide +kernel
theorem dX12_count_35 : decode cX12_count 35 = .ok (.getfield 174, 3) := by decide +kernel
theorem dX12_count_38 : decode cX12_count 38 = .ok (.aload_n 0, 1) := by decide +kernel
theorem dX12_count_39 : decode cX12_count 39 = .ok (.getfield 21, 3) := by decide +kernel
theorem dX12_count_42 : decode cX12_count 42 = .ok (.iconst 0, 1) := by decide +kernel
theorem dX12_count_43 : decode cX12_count 43 = .ok (.iaload, 1) := by decide +kernel
theorem dX12_count_44 : decode cX12_count 44 = .ok (.if_icmp .lt 7, 3) := by decide +kernel
theorem dX12_count_47 : decode cX12_count 47 = .ok (.iconst 0, 1) := by decide +kernel
theorem dX12_count_48 : decode cX12_count 48 = .ok (.goto 9, 3) := by decide +kernel
theorem dX12_count_51 : decode cX12_count 51 = .ok (.aload_n 0, 1) := by decide +kernel
theorem dX12_count_52 : decode cX12_count 52 = .ok (.getfield 174, 3) := by decide +kernel
theorem dX12_count_55 : decode cX12_count 55 = .ok (.iconst 1, 1) := by decide +kernel
theorem dX12_count_56 : decode cX12_count 56 = .ok (.iadd, 1) := by decide +kernel
theorem dX12_count_57 : decode cX12_count 57 = .ok (.putfield 174, 3) := by decide +kernel
theorem dX12_count_60 : decode cX12_count 60 = .ok (.goto 78, 3) := by decide +kernel
theorem dX12_count_63 : decode cX12_count 63 = .ok (.iload_n 1, 1) := by decide +kernel
theorem dX12_count_64 : decode cX12_count 64 = .ok (.iconst 2, 1) := by decide +kernel
theorem dX12_count_65 : decode cX12_count 65 = .ok (.if_icmp .ne 19, 3) := by decide +kernel
theorem dX12_count_68 : decode cX12_count 68 = .ok (.aload_n 0, 1) := by decide +kernel
theorem dX12_count_69 : decode cX12_count 69 = .ok (.aload_n 0, 1) := by decide +kernel
theorem dX12_count_70 : decode cX12_count 70 = .ok (.getfield 174, 3) := by decide +kernel
theorem dX12_count_73 : decode cX12_count 73 = .ok (.iconst 1, 1) := by decide +kernel
theorem dX12_count_74 : decode cX12_count 74 = .ok (.iadd, 1) := by decide +kernel
theorem dX12_count_75 : decode cX12_count 75 = .ok (.ldc 205, 2) := by decide +kernel
theorem dX12_count_77 : decode cX12_count 77 = .ok (.iand, 1) := by decide +kernel
theorem dX12_count_78 : decode cX12_count 78 = .ok (.putfield 174, 3) := by decide +kernel
theorem dX12_count_81 : decode cX12_count 81 = .ok (.goto 57, 3) := by decide +kernel
theorem dX12_count_84 : decode cX12_count 84 = .ok (.aload_n 0, 1) := by decide +kernel
theorem dX12_count_85 : decode cX12_count 85 = .ok (.getfield 174, 3) := by decide +kernel
theorem dX12_count_88 : decode cX12_count 88 = .ok (.aload_n 0, 1) := by decide +kernel
theorem dX12_count_89 : decode cX12_count 89 = .ok (.getfield 21, 3) := by decide +kernel
theorem dX12_count_92 : decode cX12_count 92 = .ok (.iconst 0, 1) := by decide +kernel
theorem dX12_count_93 : decode cX12_count 93 = .ok (.iaload, 1) := by decide +kernel
theorem dX12_count_94 : decode cX12_count 94 = .ok (.if_icmp .lt 11, 3) := by decide +kernel
theorem dX12_count_97 : decode cX12_count 97 = .ok (.aload_n 0, 1) := by decide +kernel
theorem dX12_count_98 : decode cX12_count 98 = .ok (.iconst 1, 1) := by decide +kernel
theorem dX12_count_99 : decode cX12_count 99 = .ok (.putfield 180, 3) := by decide +kernel
theorem dX12_count_102 : decode cX12_count 102 = .ok (.goto 15, 3) := by decide +kernel
theorem dX12_count_105 : decode cX12_count 105 = .ok (.aload_n 0, 1) := by decide +kernel
theorem dX12_count_106 : decode cX12_count 106 = .ok (.getfield 174, 3) := by decide +kernel
theorem dX12_count_109 : decode cX12_count 109 = .ok (.ifCond .ne 8, 3) := by decide +kernel
theorem dX12_count_112 : decode cX12_count 112 = .ok (.aload_n 0, 1) := by decide +kernel
theorem dX12_count_113 : decode cX12_count 113 = .ok (.iconst 0, 1) := by decide +kernel
theorem dX12_count_114 : decode cX12_count 114 = .ok (.putfield 180, 3) := by decide +kernel
theorem dX12_count_117 : decode cX12_count 117 = .ok (.aload_n 0, 1) := by decide +kernel
theorem dX12_count_118 : decode cX12_count 118 = .ok (.dup, 1) := by decide +kernel
theorem dX12_count_119 : decode cX12_count 119 = .ok (.getfield 174, 3) := by decide +kernel
theorem dX12_count_122 : decode cX12_count 122 = .ok (.aload_n 0, 1) := by decide +kernel
theorem dX12_count_123 : decode cX12_count 123 = .ok (.getfield 180, 3) := by decide +kernel
theorem dX12_count_126 : decode cX12_count 126 = .ok (.ifCond .eq 7, 3) := by decide +kernel
theorem dX12_count_129 : decode cX12_count 129 = .ok (.iconst (-1), 1) := by decide +kernel
theorem dX12_count_130 : decode cX12_count 130 = .ok (.goto 4, 3) := by decide +kernel
theorem dX12_count_133 : decode cX12_count 133 = .ok (.iconst 1, 1) := by decide +kernel
theorem dX12_count_134 : decode cX12_count 134 = .ok (.iadd, 1) := by decide +kernel
theorem dX12_count_135 : decode cX12_count 135 = .ok (.putfield 174, 3) := by decide +kernel
theorem dX12_count_138 : decode cX12_count 138 = .ok (.iconst 0, 1) := by decide +kernel
theorem dX12_count_139 : decode cX12_count 139 = .ok (.istore_n 2, 1) := by decide +kernel
theorem dX12_count_140 : decode cX12_count 140 = .ok (.iload_n 2, 1) := by decide +kernel
theorem dX12_count_141 : decode cX12_count 141 = .ok (.iconst 3, 1) := by decide +kernel
theorem dX12_count_142 : decode cX12_count 142 = .ok (.if_icmp .ge 32, 3) := by decide +kernel
theorem dX12_count_145 : decode cX12_count 145 = .ok (.aload_n 0, 1) := by decide +kernel
theorem dX12_count_146 : decode cX12_count 146 = .ok (.getfield 174, 3) := by decide +kernel
theorem dX12_count_149 : decode cX12_count 149 = .ok (.aload_n 0, 1) := by decide +kernel
theorem dX12_count_150 : decode cX12_count 150 = .ok (.getfield 21, 3) := by decide +kernel
theorem dX12_count_153 : decode cX12_count 153 = .ok (.iload_n 2, 1) := by decide +kernel
theorem dX12_count_154 : decode cX12_count 154 = .ok (.iaload, 1) := by decide +kernel
theorem dX12_count_155 : decode cX12_count 155 = .ok (.if_icmp .ne 13, 3) := by decide +kernel
theorem dX12_count_158 : decode cX12_count 158 = .ok (.aload_n 0, 1) := by decide +kernel
theorem dX12_count_159 : decode cX12_count 159 = .ok (.getfield 18, 3) := by decide +kernel
theorem dX12_count_162 : decode cX12_count 162 = .ok (.iload_n 2, 1) := by decide +kernel
theorem dX12_count_163 : decode cX12_count 163 = .ok (.dup2, 1) := by decide +kernel
theorem dX12_count_164 : decode cX12_count 164 = .ok (.iaload, 1) := by decide +kernel
theorem dX12_count_165 : decode cX12_count 165 = .ok (.iconst 1, 1) := by decide +kernel
theorem dX12_count_166 : decode cX12_count 166 = .ok (.ior, 1) := by decide +kernel
theorem dX12_count_167 : decode cX12_count 167 = .ok (.iastore, 1) := by decide +kernel
theorem dX12_count_168 : decode cX12_count 168 = .ok (.iinc 2 1, 3) := by decide +kernel
theorem dX12_count_171 : decode cX12_count 171 = .ok (.goto (-31), 3) := by decide +kernel
theorem dX12_count_174 : decode cX12_count 174 = .ok (.aload_n 0, 1) := by decide +kernel
theorem dX12_count_175 : decode cX12_count 175 = .ok (.getfield 174, 3) := by decide +kernel
theorem dX12_count_178 : decode cX12_count 178 = .ok (.ifCond .ne 13, 3) := by decide +kernel
theorem dX12_count_181 : decode cX12_count 181 = .ok (.aload_n 0, 1) := by decide +kernel
theorem dX12_count_182 : decode cX12_count 182 = .ok (.dup, 1) := by decide +kernel
theorem dX12_count_183 : decode cX12_count 183 = .ok (.getfield 171, 3) := by decide +kernel
theorem dX12_count_186 : decode cX12_count 186 = .ok (.iconst 1, 1) := by decide +kernel
theorem dX12_count_187 : decode cX12_count 187 = .ok (.ior, 1) := by decide +kernel
theorem dX12_count_188 : decode cX12_count 188 = .ok (.putfield 171, 3) := by decide +kernel
theorem dX12_count_191 : decode cX12_count 191 = .ok (.return_, 1) := by decide +kernel
theorem dX12_beat_0 : decode cX12_beat 0 = .ok (.aload_n 0, 1) := by decide +kernel
theorem dX12_beat_1 : decode cX12_beat 1 = .ok (.dup, 1) := by decide +kernel
theorem dX12_beat_2 : decode cX12_beat 2 = .ok (.getfield 177, 3) := by decide +kernel
theorem dX12_beat_5 : decode cX12_beat 5 = .ok (.iconst 1, 1) := by decide +kernel
theorem dX12_beat_6 : decode cX12_beat 6 = .ok (.iadd, 1) := by decide +kernel
theorem dX12_beat_7 : decode cX12_beat 7 = .ok (.putfield 177, 3) := by decide +kernel
theorem dX12_beat_10 : decode cX12_beat 10 = .ok (.aload_n 0, 1) := by decide +kernel
theorem dX12_beat_11 : decode cX12_beat 11 = .ok (.getfield 177, 3) := by decide +kernel
theorem dX12_beat_14 : decode cX12_beat 14 = .ok (.iconst 1, 1) := by decide +kernel
theorem dX12_beat_15 : decode cX12_beat 15 = .ok (.aload_n 0, 1) := by decide +kernel
theorem dX12_beat_16 : decode cX12_beat 16 = .ok (.getfield 171, 3) := by decide +kernel
theorem dX12_beat_19 : decode cX12_beat 19 = .ok (.bipush 6, 2) := by decide +kernel
theorem dX12_beat_21 : decode cX12_beat 21 = .ok (.ishr, 1) := by decide +kernel
theorem dX12_beat_22 : decode cX12_beat 22 = .ok (.iconst 3, 1) := by decide +kernel
theorem dX12_beat_23 : decode cX12_beat 23 = .ok (.iand, 1) := by decide +kernel
theorem dX12_beat_24 : decode cX12_beat 24 = .ok (.ishl, 1) := by decide +kernel
theorem dX12_beat_25 : decode cX12_beat 25 = .ok (.if_icmp .ge 4, 3) := by decide +kernel
theorem dX12_beat_28 : decode cX12_beat 28 = .ok (.return_, 1) := by decide +kernel
theorem dX12_beat_29 : decode cX12_beat 29 = .ok (.aload_n 0, 1) := by decide +kernel
theorem dX12_beat_30 : decode cX12_beat 30 = .ok (.iconst 0, 1) := by decide +kernel
theorem dX12_beat_31 : decode cX12_beat 31 = .ok (.putfield 177, 3) := by decide +kernel
theorem dX12_beat_34 : decode cX12_beat 34 = .ok (.aload_n 0, 1) := by decide +kernel
theorem dX12_beat_35 : decode cX12_beat 35 = .ok (.invokevirtual 236, 3) := by decide +kernel
theorem dX12_beat_38 : decode cX12_beat 38 = .ok (.return_, 1) := by decide +kernel
theorem dX12_pass_0 : decode cX12_pass 0 = .ok (.iconst 0, 1) := by decide +kernel
theorem dX12_pass_1 : decode cX12_pass 1 = .ok (.istore_n 2, 1) := by decide +kernel
theorem dX12_pass_2 : decode cX12_pass 2 = .ok (.iload_n 2, 1) := by decide +kernel
theorem dX12_pass_3 : decode cX12_pass 3 = .ok (.iload_n 1, 1) := by decide +kernel
theorem dX12_pass_4 : decode cX12_pass 4 = .ok (.if_icmp .ge 102, 3) := by decide +kernel
theorem dX12_pass_7 : decode cX12_pass 7 = .ok (.aload_n 0, 1) := by decide +kernel
theorem dX12_pass_8 : decode cX12_pass 8 = .ok (.dup, 1) := by decide +kernel
theorem dX12_pass_9 : decode cX12_pass 9 = .ok (.getfield 187, 3) := by decide +kernel
theorem dX12_pass_12 : decode cX12_pass 12 = .ok (.iconst 1, 1) := by decide +kernel
theorem dX12_pass_13 : decode cX12_pass 13 = .ok (.iadd, 1) := by decide +kernel
theorem dX12_pass_14 : decode cX12_pass 14 = .ok (.putfield 187, 3) := by decide +kernel
theorem dX12_pass_17 : decode cX12_pass 17 = .ok (.aload_n 0, 1) := by decide +kernel
theorem dX12_pass_18 : decode cX12_pass 18 = .ok (.getfield 171, 3) := by decide +kernel
theorem dX12_pass_21 : decode cX12_pass 21 = .ok (.bipush 8, 2) := by decide +kernel
theorem dX12_pass_23 : decode cX12_pass 23 = .ok (.ishr, 1) := by decide +kernel
theorem dX12_pass_24 : decode cX12_pass 24 = .ok (.iconst 3, 1) := by decide +kernel
theorem dX12_pass_25 : decode cX12_pass 25 = .ok (.iand, 1) := by decide +kernel
theorem dX12_pass_26 : decode cX12_pass 26 = .ok (.istore_n 3, 1) := by decide +kernel
theorem dX12_pass_27 : decode cX12_pass 27 = .ok (.iload_n 3, 1) := by decide +kernel
theorem dX12_pass_28 : decode cX12_pass 28 = .ok (.iconst 2, 1) := by decide +kernel
theorem dX12_pass_29 : decode cX12_pass 29 = .ok (.if_icmp .ne 20, 3) := by decide +kernel
theorem dX12_pass_32 : decode cX12_pass 32 = .ok (.aload_n 0, 1) := by decide +kernel
theorem dX12_pass_33 : decode cX12_pass 33 = .ok (.getfield 14, 3) := by decide +kernel
theorem dX12_pass_36 : decode cX12_pass 36 = .ok (.iconst 2, 1) := by decide +kernel
theorem dX12_pass_37 : decode cX12_pass 37 = .ok (.iaload, 1) := by decide +kernel
theorem dX12_pass_38 : decode cX12_pass 38 = .ok (.sipush 128, 3) := by decide +kernel
theorem dX12_pass_41 : decode cX12_pass 41 = .ok (.iand, 1) := by decide +kernel
theorem dX12_pass_42 : decode cX12_pass 42 = .ok (.ifCond .ne 7, 3) := by decide +kernel
theorem dX12_pass_45 : decode cX12_pass 45 = .ok (.iconst 1, 1) := by decide +kernel
theorem dX12_pass_46 : decode cX12_pass 46 = .ok (.goto 4, 3) := by decide +kernel
theorem dX12_pass_49 : decode cX12_pass 49 = .ok (.iconst 0, 1) := by decide +kernel
theorem dX12_pass_50 : decode cX12_pass 50 = .ok (.istore 4, 2) := by decide +kernel
theorem dX12_pass_52 : decode cX12_pass 52 = .ok (.iload_n 3, 1) := by decide +kernel
theorem dX12_pass_53 : decode cX12_pass 53 = .ok (.iconst 1, 1) := by decide +kernel
theorem dX12_pass_54 : decode cX12_pass 54 = .ok (.if_icmp .ne 29, 3) := by decide +kernel
theorem dX12_pass_57 : decode cX12_pass 57 = .ok (.aload_n 0, 1) := by decide +kernel
theorem dX12_pass_58 : decode cX12_pass 58 = .ok (.getfield 187, 3) := by decide +kernel
theorem dX12_pass_61 : decode cX12_pass 61 = .ok (.bipush 15, 2) := by decide +kernel
theorem dX12_pass_63 : decode cX12_pass 63 = .ok (.iand, 1) := by decide +kernel
theorem dX12_pass_64 : decode cX12_pass 64 = .ok (.ifCond .ne 19, 3) := by decide +kernel
theorem dX12_pass_67 : decode cX12_pass 67 = .ok (.aload_n 0, 1) := by decide +kernel
theorem dX12_pass_68 : decode cX12_pass 68 = .ok (.getfield 14, 3) := by decide +kernel
theorem dX12_pass_71 : decode cX12_pass 71 = .ok (.iconst 2, 1) := by decide +kernel
theorem dX12_pass_72 : decode cX12_pass 72 = .ok (.iaload, 1) := by decide +kernel
theorem dX12_pass_73 : decode cX12_pass 73 = .ok (.bipush 32, 2) := by decide +kernel
theorem dX12_pass_75 : decode cX12_pass 75 = .ok (.iand, 1) := by decide +kernel
theorem dX12_pass_76 : decode cX12_pass 76 = .ok (.ifCond .ne 7, 3) := by decide +kernel
theorem dX12_pass_79 : decode cX12_pass 79 = .ok (.iconst 1, 1) := by decide +kernel
theorem dX12_pass_80 : decode cX12_pass 80 = .ok (.goto 4, 3) := by decide +kernel
theorem dX12_pass_83 : decode cX12_pass 83 = .ok (.iconst 0, 1) := by decide +kernel
theorem dX12_pass_84 : decode cX12_pass 84 = .ok (.istore 5, 2) := by decide +kernel
theorem dX12_pass_86 : decode cX12_pass 86 = .ok (.iload 4, 2) := by decide +kernel
theorem dX12_pass_88 : decode cX12_pass 88 = .ok (.ifCond .ne 8, 3) := by decide +kernel
theorem dX12_pass_91 : decode cX12_pass 91 = .ok (.iload 5, 2) := by decide +kernel
theorem dX12_pass_93 : decode cX12_pass 93 = .ok (.ifCond .eq 7, 3) := by decide +kernel
theorem dX12_pass_96 : decode cX12_pass 96 = .ok (.aload_n 0, 1) := by decide +kernel
theorem dX12_pass_97 : decode cX12_pass 97 = .ok (.invokevirtual 239, 3) := by decide +kernel
theorem dX12_pass_100 : decode cX12_pass 100 = .ok (.iinc 2 1, 3) := by decide +kernel
theorem dX12_pass_103 : decode cX12_pass 103 = .ok (.goto (-101), 3) := by decide +kernel
theorem dX12_pass_106 : decode cX12_pass 106 = .ok (.return_, 1) := by decide +kernel
theorem dX12_comes_0 : decode cX12_comes 0 = .ok (.iload_n 1, 1) := by decide +kernel
theorem dX12_comes_1 : decode cX12_comes 1 = .ok (.aload_n 0, 1) := by decide +kernel
theorem dX12_comes_2 : decode cX12_comes 2 = .ok (.getfield 138, 3) := by decide +kernel
theorem dX12_comes_5 : decode cX12_comes 5 = .ok (.ixor, 1) := by decide +kernel
theorem dX12_comes_6 : decode cX12_comes 6 = .ok (.iload_n 1, 1) := by decide +kernel
theorem dX12_comes_7 : decode cX12_comes 7 = .ok (.aload_n 0, 1) := by decide +kernel
theorem dX12_comes_8 : decode cX12_comes 8 = .ok (.getfield 147, 3) := by decide +kernel
theorem dX12_comes_11 : decode cX12_comes 11 = .ok (.ixor, 1) := by decide +kernel
theorem dX12_comes_12 : decode cX12_comes 12 = .ok (.iand, 1) := by decide +kernel
theorem dX12_comes_13 : decode cX12_comes 13 = .ok (.istore_n 2, 1) := by decide +kernel
theorem dX12_comes_14 : decode cX12_comes 14 = .ok (.aload_n 0, 1) := by decide +kernel
theorem dX12_comes_15 : decode cX12_comes 15 = .ok (.dup, 1) := by decide +kernel
theorem dX12_comes_16 : decode cX12_comes 16 = .ok (.getfield 144, 3) := by decide +kernel
theorem dX12_comes_19 : decode cX12_comes 19 = .ok (.iload_n 2, 1) := by decide +kernel
theorem dX12_comes_20 : decode cX12_comes 20 = .ok (.sipush 255, 3) := by decide +kernel
theorem dX12_comes_23 : decode cX12_comes 23 = .ok (.iand, 1) := by decide +kernel
theorem dX12_comes_24 : decode cX12_comes 24 = .ok (.ior, 1) := by decide +kernel
theorem dX12_comes_25 : decode cX12_comes 25 = .ok (.putfield 144, 3) := by decide +kernel
theorem dX12_comes_28 : decode cX12_comes 28 = .ok (.aload_n 0, 1) := by decide +kernel
theorem dX12_comes_29 : decode cX12_comes 29 = .ok (.iload_n 1, 1) := by decide +kernel
theorem dX12_comes_30 : decode cX12_comes 30 = .ok (.putfield 138, 3) := by decide +kernel
theorem dX12_comes_33 : decode cX12_comes 33 = .ok (.return_, 1) := by decide +kernel
theorem dX12_event_0 : decode cX12_event 0 = .ok (.aload_n 0, 1) := by decide +kernel
theorem dX12_event_1 : decode cX12_event 1 = .ok (.iconst 0, 1) := by decide +kernel
theorem dX12_event_2 : decode cX12_event 2 = .ok (.putfield 134, 3) := by decide +kernel
theorem dX12_event_5 : decode cX12_event 5 = .ok (.aload_n 0, 1) := by decide +kernel
theorem dX12_event_6 : decode cX12_event 6 = .ok (.getfield 184, 3) := by decide +kernel
theorem dX12_event_9 : decode cX12_event 9 = .ok (.bipush 40, 2) := by decide +kernel
theorem dX12_event_11 : decode cX12_event 11 = .ok (.if_icmp .eq 44, 3) := by decide +kernel
theorem dX12_event_14 : decode cX12_event 14 = .ok (.iload_n 2, 1) := by decide +kernel
theorem dX12_event_15 : decode cX12_event 15 = .ok (.ifCond .lt 40, 3) := by decide +kernel
theorem dX12_event_18 : decode cX12_event 18 = .ok (.iload_n 2, 1) := by decide +kernel
theorem dX12_event_19 : decode cX12_event 19 = .ok (.sipush 255, 3) := by decide +kernel
theorem dX12_event_22 : decode cX12_event 22 = .ok (.if_icmp .gt 33, 3) := by decide +kernel
theorem dX12_event_25 : decode cX12_event 25 = .ok (.iload_n 1, 1) := by decide +kernel
theorem dX12_event_26 : decode cX12_event 26 = .ok (.aload_n 0, 1) := by decide +kernel
theorem dX12_event_27 : decode cX12_event 27 = .ok (.getfield 187, 3) := by decide +kernel
theorem dX12_event_30 : decode cX12_event 30 = .ok (.if_icmp .lt 25, 3) := by decide +kernel
theorem dX12_event_33 : decode cX12_event 33 = .ok (.aload_n 0, 1) := by decide +kernel
theorem dX12_event_34 : decode cX12_event 34 = .ok (.getfield 184, 3) := by decide +kernel
theorem dX12_event_37 : decode cX12_event 37 = .ok (.ifCond .le 20, 3) := by decide +kernel
theorem dX12_event_40 : decode cX12_event 40 = .ok (.iload_n 1, 1) := by decide +kernel
theorem dX12_event_41 : decode cX12_event 41 = .ok (.aload_n 0, 1) := by decide +kernel
theorem dX12_event_42 : decode cX12_event 42 = .ok (.getfield 24, 3) := by decide +kernel
theorem dX12_event_45 : decode cX12_event 45 = .ok (.aload_n 0, 1) := by decide +kernel
theorem dX12_event_46 : decode cX12_event 46 = .ok (.getfield 184, 3) := by decide +kernel
theorem dX12_event_49 : decode cX12_event 49 = .ok (.iconst 1, 1) := by decide +kernel
theorem dX12_event_50 : decode cX12_event 50 = .ok (.isub, 1) := by decide +kernel
theorem dX12_event_51 : decode cX12_event 51 = .ok (.iaload, 1) := by decide +kernel
theorem dX12_event_52 : decode cX12_event 52 = .ok (.if_icmp .ge 5, 3) := by decide +kernel
theorem dX12_event_55 : decode cX12_event 55 = .ok (.iconst (-1), 1) := by decide +kernel
theorem dX12_event_56 : decode cX12_event 56 = .ok (.ireturn, 1) := by decide +kernel
theorem dX12_event_57 : decode cX12_event 57 = .ok (.aload_n 0, 1) := by decide +kernel
theorem dX12_event_58 : decode cX12_event 58 = .ok (.getfield 24, 3) := by decide +kernel
theorem dX12_event_61 : decode cX12_event 61 = .ok (.aload_n 0, 1) := by decide +kernel
theorem dX12_event_62 : decode cX12_event 62 = .ok (.getfield 184, 3) := by decide +kernel
theorem dX12_event_65 : decode cX12_event 65 = .ok (.iload_n 1, 1) := by decide +kernel
theorem dX12_event_66 : decode cX12_event 66 = .ok (.iastore, 1) := by decide +kernel
theorem dX12_event_67 : decode cX12_event 67 = .ok (.aload_n 0, 1) := by decide +kernel
theorem dX12_event_68 : decode cX12_event 68 = .ok (.getfield 27, 3) := by decide +kernel
theorem dX12_event_71 : decode cX12_event 71 = .ok (.aload_n 0, 1) := by decide +kernel
theorem dX12_event_72 : decode cX12_event 72 = .ok (.getfield 184, 3) := by decide +kernel
theorem dX12_event_75 : decode cX12_event 75 = .ok (.iload_n 2, 1) := by decide +kernel
theorem dX12_event_76 : decode cX12_event 76 = .ok (.iastore, 1) := by decide +kernel
theorem dX12_event_77 : decode cX12_event 77 = .ok (.aload_n 0, 1) := by decide +kernel
theorem dX12_event_78 : decode cX12_event 78 = .ok (.dup, 1) := by decide +kernel
theorem dX12_event_79 : decode cX12_event 79 = .ok (.getfield 184, 3) := by decide +kernel
theorem dX12_event_82 : decode cX12_event 82 = .ok (.iconst 1, 1) := by decide +kernel
theorem dX12_event_83 : decode cX12_event 83 = .ok (.iadd, 1) := by decide +kernel
theorem dX12_event_84 : decode cX12_event 84 = .ok (.putfield 184, 3) := by decide +kernel
theorem dX12_event_87 : decode cX12_event 87 = .ok (.aload_n 0, 1) := by decide +kernel
theorem dX12_event_88 : decode cX12_event 88 = .ok (.getfield 184, 3) := by decide +kernel
theorem dX12_event_91 : decode cX12_event 91 = .ok (.ireturn, 1) := by decide +kernel
theorem dX12_x_0 : decode cX12_x 0 = .ok (.aload_n 0, 1) := by decide +kernel
theorem dX12_x_1 : decode cX12_x 1 = .ok (.aload_n 0, 1) := by decide +kernel
theorem dX12_x_2 : decode cX12_x 2 = .ok (.getfield 14, 3) := by decide +kernel
theorem dX12_x_5 : decode cX12_x 5 = .ok (.iconst 0, 1) := by decide +kernel
theorem dX12_x_6 : decode cX12_x 6 = .ok (.iaload, 1) := by decide +kernel
theorem dX12_x_7 : decode cX12_x 7 = .ok (.invokevirtual 242, 3) := by decide +kernel
theorem dX12_x_10 : decode cX12_x 10 = .ok (.istore_n 1, 1) := by decide +kernel
theorem dX12_x_11 : decode cX12_x 11 = .ok (.aload_n 0, 1) := by decide +kernel
theorem dX12_x_12 : decode cX12_x 12 = .ok (.iconst 0, 1) := by decide +kernel
theorem dX12_x_13 : decode cX12_x 13 = .ok (.aload_n 0, 1) := by decide +kernel
theorem dX12_x_14 : decode cX12_x 14 = .ok (.getfield 14, 3) := by decide +kernel
theorem dX12_x_17 : decode cX12_x 17 = .ok (.iconst 0, 1) := by decide +kernel
theorem dX12_x_18 : decode cX12_x 18 = .ok (.iaload, 1) := by decide +kernel
theorem dX12_x_19 : decode cX12_x 19 = .ok (.iconst 2, 1) := by decide +kernel
theorem dX12_x_20 : decode cX12_x 20 = .ok (.iadd, 1) := by decide +kernel
theorem dX12_x_21 : decode cX12_x 21 = .ok (.invokevirtual 201, 3) := by decide +kernel
theorem dX12_x_24 : decode cX12_x 24 = .ok (.iload_n 1, 1) := by decide +kernel
theorem dX12_x_25 : decode cX12_x 25 = .ok (.ireturn, 1) := by decide +kernel
theorem dX12_source_0 : decode cX12_source 0 = .ok (.aload_n 0, 1) := by decide +kernel
theorem dX12_source_1 : decode cX12_source 1 = .ok (.iconst 0, 1) := by decide +kernel
theorem dX12_source_2 : decode cX12_source 2 = .ok (.putfield 245, 3) := by decide +kernel
theorem dX12_source_5 : decode cX12_source 5 = .ok (.iload_n 2, 1) := by decide +kernel
theorem dX12_source_6 : decode cX12_source 6 = .ok (.ifCond .ne 36, 3) := by decide +kernel
theorem dX12_source_9 : decode cX12_source 9 = .ok (.iload_n 1, 1) := by decide +kernel
theorem dX12_source_10 : decode cX12_source 10 = .ok (.iconst 3, 1) := by decide +kernel
theorem dX12_source_11 : decode cX12_source 11 = .ok (.if_icmp .ne 7, 3) := by decide +kernel
theorem dX12_source_14 : decode cX12_source 14 = .ok (.iconst 0, 1) := by decide +kernel
theorem dX12_source_15 : decode cX12_source 15 = .ok (.goto 26, 3) := by decide +kernel
theorem dX12_source_18 : decode cX12_source 18 = .ok (.iload_n 3, 1) := by decide +kernel
theorem dX12_source_19 : decode cX12_source 19 = .ok (.ifCond .eq 16, 3) := by decide +kernel
theorem dX12_source_22 : decode cX12_source 22 = .ok (.aload_n 0, 1) := by decide +kernel
theorem dX12_source_23 : decode cX12_source 23 = .ok (.getfield 14, 3) := by decide +kernel
theorem dX12_source_26 : decode cX12_source 26 = .ok (.iload_n 1, 1) := by decide +kernel
theorem dX12_source_27 : decode cX12_source 27 = .ok (.iaload, 1) := by decide +kernel
theorem dX12_source_28 : decode cX12_source 28 = .ok (.sipush 255, 3) := by decide +kernel
theorem dX12_source_31 : decode cX12_source 31 = .ok (.iand, 1) := by decide +kernel
theorem dX12_source_32 : decode cX12_source 32 = .ok (.goto 9, 3) := by decide +kernel
theorem dX12_source_35 : decode cX12_source 35 = .ok (.aload_n 0, 1) := by decide +kernel
theorem dX12_source_36 : decode cX12_source 36 = .ok (.getfield 14, 3) := by decide +kernel
theorem dX12_source_39 : decode cX12_source 39 = .ok (.iload_n 1, 1) := by decide +kernel
theorem dX12_source_40 : decode cX12_source 40 = .ok (.iaload, 1) := by decide +kernel
theorem dX12_source_41 : decode cX12_source 41 = .ok (.ireturn, 1) := by decide +kernel
theorem dX12_source_42 : decode cX12_source 42 = .ok (.iload_n 1, 1) := by decide +kernel
theorem dX12_source_43 : decode cX12_source 43 = .ok (.iconst 3, 1) := by decide +kernel
theorem dX12_source_44 : decode cX12_source 44 = .ok (.if_icmp .ne 34, 3) := by decide +kernel
theorem dX12_source_47 : decode cX12_source 47 = .ok (.iload_n 2, 1) := by decide +kernel
theorem dX12_source_48 : decode cX12_source 48 = .ok (.iconst 1, 1) := by decide +kernel
theorem dX12_source_49 : decode cX12_source 49 = .ok (.if_icmp .ne 7, 3) := by decide +kernel
theorem dX12_source_52 : decode cX12_source 52 = .ok (.iconst 1, 1) := by decide +kernel
theorem dX12_source_53 : decode cX12_source 53 = .ok (.goto 24, 3) := by decide +kernel
theorem dX12_source_56 : decode cX12_source 56 = .ok (.iload_n 2, 1) := by decide +kernel
theorem dX12_source_57 : decode cX12_source 57 = .ok (.iconst 2, 1) := by decide +kernel
theorem dX12_source_58 : decode cX12_source 58 = .ok (.if_icmp .ne 7, 3) := by decide +kernel
theorem dX12_source_61 : decode cX12_source 61 = .ok (.iconst 2, 1) := by decide +kernel
theorem dX12_source_62 : decode cX12_source 62 = .ok (.goto 15, 3) := by decide +kernel
theorem dX12_source_65 : decode cX12_source 65 = .ok (.iload_n 3, 1) := by decide +kernel
theorem dX12_source_66 : decode cX12_source 66 = .ok (.ifCond .eq 9, 3) := by decide +kernel
theorem dX12_source_69 : decode cX12_source 69 = .ok (.sipush 255, 3) := by decide +kernel
theorem dX12_source_72 : decode cX12_source 72 = .ok (.goto 5, 3) := by decide +kernel
theorem dX12_source_75 : decode cX12_source 75 = .ok (.ldc 205, 2) := by decide +kernel
theorem dX12_source_77 : decode cX12_source 77 = .ok (.ireturn, 1) := by decide +kernel
theorem dX12_source_78 : decode cX12_source 78 = .ok (.iload_n 1, 1) := by decide +kernel
theorem dX12_source_79 : decode cX12_source 79 = .ok (.iconst 2, 1) := by decide +kernel
theorem dX12_source_80 : decode cX12_source 80 = .ok (.if_icmp .ne 20, 3) := by decide +kernel
theorem dX12_source_83 : decode cX12_source 83 = .ok (.iload_n 2, 1) := by decide +kernel
theorem dX12_source_84 : decode cX12_source 84 = .ok (.iconst 1, 1) := by decide +kernel
theorem dX12_source_85 : decode cX12_source 85 = .ok (.if_icmp .le 15, 3) := by decide +kernel
theorem dX12_source_88 : decode cX12_source 88 = .ok (.iload_n 2, 1) := by decide +kernel
theorem dX12_source_89 : decode cX12_source 89 = .ok (.iconst 2, 1) := by decide +kernel
theorem dX12_source_90 : decode cX12_source 90 = .ok (.if_icmp .ne 7, 3) := by decide +kernel
theorem dX12_source_93 : decode cX12_source 93 = .ok (.iconst 4, 1) := by decide +kernel
theorem dX12_source_94 : decode cX12_source 94 = .ok (.goto 5, 3) := by decide +kernel
theorem dX12_source_97 : decode cX12_source 97 = .ok (.bipush 8, 2) := by decide +kernel
theorem dX12_source_99 : decode cX12_source 99 = .ok (.ireturn, 1) := by decide +kernel
theorem dX12_source_100 : decode cX12_source 100 = .ok (.aload_n 0, 1) := by decide +kernel
theorem dX12_source_101 : decode cX12_source 101 = .ok (.iconst 1, 1) := by decide +kernel
theorem dX12_source_102 : decode cX12_source 102 = .ok (.putfield 245, 3) := by decide +kernel
theorem dX12_source_105 : decode cX12_source 105 = .ok (.iload_n 2, 1) := by decide +kernel
theorem dX12_source_106 : decode cX12_source 106 = .ok (.iconst 1, 1) := by decide +kernel
theorem dX12_source_107 : decode cX12_source 107 = .ok (.if_icmp .ne 41, 3) := by decide +kernel
theorem dX12_source_110 : decode cX12_source 110 = .ok (.iload_n 1, 1) := by decide +kernel
theorem dX12_source_111 : decode cX12_source 111 = .ok (.iconst 2, 1) := by decide +kernel
theorem dX12_source_112 : decode cX12_source 112 = .ok (.if_icmp .ne 7, 3) := by decide +kernel
theorem dX12_source_115 : decode cX12_source 115 = .ok (.iconst 0, 1) := by decide +kernel
theorem dX12_source_116 : decode cX12_source 116 = .ok (.goto 9, 3) := by decide +kernel
theorem dX12_source_119 : decode cX12_source 119 = .ok (.aload_n 0, 1) := by decide +kernel
theorem dX12_source_120 : decode cX12_source 120 = .ok (.getfield 14, 3) := by decide +kernel
theorem dX12_source_123 : decode cX12_source 123 = .ok (.iload_n 1, 1) := by decide +kernel
theorem dX12_source_124 : decode cX12_source 124 = .ok (.iaload, 1) := by decide +kernel
theorem dX12_source_125 : decode cX12_source 125 = .ok (.istore 4, 2) := by decide +kernel
theorem dX12_source_127 : decode cX12_source 127 = .ok (.aload_n 0, 1) := by decide +kernel
theorem dX12_source_128 : decode cX12_source 128 = .ok (.invokevirtual 248, 3) := by decide +kernel
theorem dX12_source_131 : decode cX12_source 131 = .ok (.istore 5, 2) := by decide +kernel
theorem dX12_source_133 : decode cX12_source 133 = .ok (.aload_n 0, 1) := by decide +kernel
theorem dX12_source_134 : decode cX12_source 134 = .ok (.iload 4, 2) := by decide +kernel
theorem dX12_source_136 : decode cX12_source 136 = .ok (.iload 5, 2) := by decide +kernel
theorem dX12_source_138 : decode cX12_source 138 = .ok (.iadd, 1) := by decide +kernel
theorem dX12_source_139 : decode cX12_source 139 = .ok (.ldc 205, 2) := by decide +kernel
theorem dX12_source_141 : decode cX12_source 141 = .ok (.iand, 1) := by decide +kernel
theorem dX12_source_142 : decode cX12_source 142 = .ok (.putfield 251, 3) := by decide +kernel
theorem dX12_source_145 : decode cX12_source 145 = .ok (.goto 13, 3) := by decide +kernel
theorem dX12_source_148 : decode cX12_source 148 = .ok (.aload_n 0, 1) := by decide +kernel
theorem dX12_source_149 : decode cX12_source 149 = .ok (.aload_n 0, 1) := by decide +kernel
theorem dX12_source_150 : decode cX12_source 150 = .ok (.getfield 14, 3) := by decide +kernel
theorem dX12_source_153 : decode cX12_source 153 = .ok (.iload_n 1, 1) := by decide +kernel
theorem dX12_source_154 : decode cX12_source 154 = .ok (.iaload, 1) := by decide +kernel
theorem dX12_source_155 : decode cX12_source 155 = .ok (.putfield 251, 3) := by decide +kernel
theorem dX12_source_158 : decode cX12_source 158 = .ok (.iload_n 3, 1) := by decide +kernel
theorem dX12_source_159 : decode cX12_source 159 = .ok (.ifCond .eq 14, 3) := by decide +kernel
theorem dX12_source_162 : decode cX12_source 162 = .ok (.aload_n 0, 1) := by decide +kernel
theorem dX12_source_163 : decode cX12_source 163 = .ok (.aload_n 0, 1) := by decide +kernel
theorem dX12_source_164 : decode cX12_source 164 = .ok (.getfield 251, 3) := by decide +kernel
theorem dX12_source_167 : decode cX12_source 167 = .ok (.invokevirtual 254, 3) := by decide +kernel
theorem dX12_source_170 : decode cX12_source 170 = .ok (.goto 11, 3) := by decide +kernel
theorem dX12_source_173 : decode cX12_source 173 = .ok (.aload_n 0, 1) := by decide +kernel
theorem dX12_source_174 : decode cX12_source 174 = .ok (.aload_n 0, 1) := by decide +kernel
theorem dX12_source_175 : decode cX12_source 175 = .ok (.getfield 251, 3) := by decide +kernel
theorem dX12_source_178 : decode cX12_source 178 = .ok (.invokevirtual 242, 3) := by decide +kernel
theorem dX12_source_181 : decode cX12_source 181 = .ok (.istore 4, 2) := by decide +kernel
theorem dX12_source_183 : decode cX12_source 183 = .ok (.iload_n 2, 1) := by decide +kernel
theorem dX12_source_184 : decode cX12_source 184 = .ok (.iconst 3, 1) := by decide +kernel
theorem dX12_source_185 : decode cX12_source 185 = .ok (.if_icmp .ne 29, 3) := by decide +kernel
theorem dX12_source_188 : decode cX12_source 188 = .ok (.aload_n 0, 1) := by decide +kernel
theorem dX12_source_189 : decode cX12_source 189 = .ok (.iload_n 1, 1) := by decide +kernel
theorem dX12_source_190 : decode cX12_source 190 = .ok (.aload_n 0, 1) := by decide +kernel
theorem dX12_source_191 : decode cX12_source 191 = .ok (.getfield 14, 3) := by decide +kernel
theorem dX12_source_194 : decode cX12_source 194 = .ok (.iload_n 1, 1) := by decide +kernel
theorem dX12_source_195 : decode cX12_source 195 = .ok (.iaload, 1) := by decide +kernel
theorem dX12_source_196 : decode cX12_source 196 = .ok (.iload_n 3, 1) := by decide +kernel
theorem dX12_source_197 : decode cX12_source 197 = .ok (.ifCond .eq 12, 3) := by decide +kernel
theorem dX12_source_200 : decode cX12_source 200 = .ok (.iload_n 1, 1) := by decide +kernel
theorem dX12_source_201 : decode cX12_source 201 = .ok (.iconst 1, 1) := by decide +kernel
theorem dX12_source_202 : decode cX12_source 202 = .ok (.if_icmp .le 7, 3) := by decide +kernel
theorem dX12_source_205 : decode cX12_source 205 = .ok (.iconst 1, 1) := by decide +kernel
theorem dX12_source_206 : decode cX12_source 206 = .ok (.goto 4, 3) := by decide +kernel
theorem dX12_source_209 : decode cX12_source 209 = .ok (.iconst 2, 1) := by decide +kernel
theorem dX12_source_210 : decode cX12_source 210 = .ok (.iadd, 1) := by decide +kernel
theorem dX12_source_211 : decode cX12_source 211 = .ok (.invokevirtual 201, 3) := by decide +kernel
theorem dX12_source_214 : decode cX12_source 214 = .ok (.iload 4, 2) := by decide +kernel
theorem dX12_source_216 : decode cX12_source 216 = .ok (.ireturn, 1) := by decide +kernel
theorem dX12_flag_0 : decode cX12_flag 0 = .ok (.aload_n 0, 1) := by decide +kernel
theorem dX12_flag_1 : decode cX12_flag 1 = .ok (.getfield 14, 3) := by decide +kernel
theorem dX12_flag_4 : decode cX12_flag 4 = .ok (.iconst 2, 1) := by decide +kernel
theorem dX12_flag_5 : decode cX12_flag 5 = .ok (.iaload, 1) := by decide +kernel
theorem dX12_flag_6 : decode cX12_flag 6 = .ok (.iload_n 1, 1) := by decide +kernel
theorem dX12_flag_7 : decode cX12_flag 7 = .ok (.iand, 1) := by decide +kernel
theorem dX12_flag_8 : decode cX12_flag 8 = .ok (.ifCond .eq 7, 3) := by decide +kernel
theorem dX12_flag_11 : decode cX12_flag 11 = .ok (.iconst 1, 1) := by decide +kernel
theorem dX12_flag_12 : decode cX12_flag 12 = .ok (.goto 4, 3) := by decide +kernel
theorem dX12_flag_15 : decode cX12_flag 15 = .ok (.iconst 0, 1) := by decide +kernel
theorem dX12_flag_16 : decode cX12_flag 16 = .ok (.ireturn, 1) := by decide +kernel
theorem dX12_flags_0 : decode cX12_flags 0 = .ok (.aload_n 0, 1) := by decide +kernel
theorem dX12_flags_1 : decode cX12_flags 1 = .ok (.getfield 14, 3) := by decide +kernel
theorem dX12_flags_4 : decode cX12_flags 4 = .ok (.iconst 2, 1) := by decide +kernel
theorem dX12_flags_5 : decode cX12_flags 5 = .ok (.aload_n 0, 1) := by decide +kernel
theorem dX12_flags_6 : decode cX12_flags 6 = .ok (.getfield 14, 3) := by decide +kernel
theorem dX12_flags_9 : decode cX12_flags 9 = .ok (.iconst 2, 1) := by decide +kernel
theorem dX12_flags_10 : decode cX12_flags 10 = .ok (.iaload, 1) := by decide +kernel
theorem dX12_flags_11 : decode cX12_flags 11 = .ok (.sipush (-264), 3) := by decide +kernel
theorem dX12_flags_14 : decode cX12_flags 14 = .ok (.iand, 1) := by decide +kernel
theorem dX12_flags_15 : decode cX12_flags 15 = .ok (.iload_n 1, 1) := by decide +kernel
theorem dX12_flags_16 : decode cX12_flags 16 = .ok (.ifCond .eq 7, 3) := by decide +kernel
theorem dX12_flags_19 : decode cX12_flags 19 = .ok (.iconst 1, 1) := by decide +kernel
theorem dX12_flags_20 : decode cX12_flags 20 = .ok (.goto 4, 3) := by decide +kernel
theorem dX12_flags_23 : decode cX12_flags 23 = .ok (.iconst 0, 1) := by decide +kernel
theorem dX12_flags_24 : decode cX12_flags 24 = .ok (.ior, 1) := by decide +kernel
theorem dX12_flags_25 : decode cX12_flags 25 = .ok (.iload_n 2, 1) := by decide +kernel
theorem dX12_flags_26 : decode cX12_flags 26 = .ok (.ifCond .eq 7, 3) := by decide +kernel
theorem dX12_flags_29 : decode cX12_flags 29 = .ok (.iconst 2, 1) := by decide +kernel
theorem dX12_flags_30 : decode cX12_flags 30 = .ok (.goto 4, 3) := by decide +kernel
theorem dX12_flags_33 : decode cX12_flags 33 = .ok (.iconst 0, 1) := by decide +kernel
theorem dX12_flags_34 : decode cX12_flags 34 = .ok (.ior, 1) := by decide +kernel
theorem dX12_flags_35 : decode cX12_flags 35 = .ok (.iload_n 3, 1) := by decide +kernel
theorem dX12_flags_36 : decode cX12_flags 36 = .ok (.ifCond .eq 7, 3) := by decide +kernel
theorem dX12_flags_39 : decode cX12_flags 39 = .ok (.iconst 4, 1) := by decide +kernel
theorem dX12_flags_40 : decode cX12_flags 40 = .ok (.goto 4, 3) := by decide +kernel
theorem dX12_flags_43 : decode cX12_flags 43 = .ok (.iconst 0, 1) := by decide +kernel
theorem dX12_flags_44 : decode cX12_flags 44 = .ok (.ior, 1) := by decide +kernel
theorem dX12_flags_45 : decode cX12_flags 45 = .ok (.iload 4, 2) := by decide +kernel
theorem dX12_flags_47 : decode cX12_flags 47 = .ok (.ifCond .eq 9, 3) := by decide +kernel
theorem dX12_flags_50 : decode cX12_flags 50 = .ok (.sipush 256, 3) := by decide +kernel
theorem dX12_flags_53 : decode cX12_flags 53 = .ok (.goto 4, 3) := by decide +kernel
theorem dX12_flags_56 : decode cX12_flags 56 = .ok (.iconst 0, 1) := by decide +kernel
theorem dX12_flags_57 : decode cX12_flags 57 = .ok (.ior, 1) := by decide +kernel
theorem dX12_flags_58 : decode cX12_flags 58 = .ok (.iastore, 1) := by decide +kernel
theorem dX12_flags_59 : decode cX12_flags 59 = .ok (.return_, 1) := by decide +kernel
theorem dX12_isCode_0 : decode cX12_isCode 0 = .ok (.iload_n 0, 1) := by decide +kernel
theorem dX12_isCode_1 : decode cX12_isCode 1 = .ok (.bipush 12, 2) := by decide +kernel
theorem dX12_isCode_3 : decode cX12_isCode 3 = .ok (.ishr, 1) := by decide +kernel
theorem dX12_isCode_4 : decode cX12_isCode 4 = .ok (.istore_n 1, 1) := by decide +kernel
theorem dX12_isCode_5 : decode cX12_isCode 5 = .ok (.iload_n 1, 1) := by decide +kernel
theorem dX12_isCode_6 : decode cX12_isCode 6 = .ok (.iconst 3, 1) := by decide +kernel
theorem dX12_isCode_7 : decode cX12_isCode 7 = .ok (.if_icmp .le 5, 3) := by decide +kernel
theorem dX12_isCode_10 : decode cX12_isCode 10 = .ok (.iconst 1, 1) := by decide +kernel
theorem dX12_isCode_11 : decode cX12_isCode 11 = .ok (.ireturn, 1) := by decide +kernel
theorem dX12_isCode_12 : decode cX12_isCode 12 = .ok (.iload_n 1, 1) := by decide +kernel
theorem dX12_isCode_13 : decode cX12_isCode 13 = .ok (.iconst 1, 1) := by decide +kernel
theorem dX12_isCode_14 : decode cX12_isCode 14 = .ok (.if_icmp .le 5, 3) := by decide +kernel
theorem dX12_isCode_17 : decode cX12_isCode 17 = .ok (.iconst 1, 1) := by decide +kernel
theorem dX12_isCode_18 : decode cX12_isCode 18 = .ok (.ireturn, 1) := by decide +kernel
theorem dX12_isCode_19 : decode cX12_isCode 19 = .ok (.iload_n 0, 1) := by decide +kernel
theorem dX12_isCode_20 : decode cX12_isCode 20 = .ok (.bipush 10, 2) := by decide +kernel
theorem dX12_isCode_22 : decode cX12_isCode 22 = .ok (.ishr, 1) := by decide +kernel
theorem dX12_isCode_23 : decode cX12_isCode 23 = .ok (.iconst 4, 1) := by decide +kernel
theorem dX12_isCode_24 : decode cX12_isCode 24 = .ok (.if_icmp .eq 5, 3) := by decide +kernel
theorem dX12_isCode_27 : decode cX12_isCode 27 = .ok (.iconst 0, 1) := by decide +kernel
theorem dX12_isCode_28 : decode cX12_isCode 28 = .ok (.ireturn, 1) := by decide +kernel
theorem dX12_isCode_29 : decode cX12_isCode 29 = .ok (.iload_n 0, 1) := by decide +kernel
theorem dX12_isCode_30 : decode cX12_isCode 30 = .ok (.bipush 7, 2) := by decide +kernel
theorem dX12_isCode_32 : decode cX12_isCode 32 = .ok (.ishr, 1) := by decide +kernel
theorem dX12_isCode_33 : decode cX12_isCode 33 = .ok (.bipush 7, 2) := by decide +kernel
theorem dX12_isCode_35 : decode cX12_isCode 35 = .ok (.iand, 1) := by decide +kernel
theorem dX12_isCode_36 : decode cX12_isCode 36 = .ok (.istore_n 2, 1) := by decide +kernel
theorem dX12_isCode_37 : decode cX12_isCode 37 = .ok (.iload_n 0, 1) := by decide +kernel
theorem dX12_isCode_38 : decode cX12_isCode 38 = .ok (.bipush 6, 2) := by decide +kernel
theorem dX12_isCode_40 : decode cX12_isCode 40 = .ok (.ishr, 1) := by decide +kernel
theorem dX12_isCode_41 : decode cX12_isCode 41 = .ok (.iconst 1, 1) := by decide +kernel
theorem dX12_isCode_42 : decode cX12_isCode 42 = .ok (.iand, 1) := by decide +kernel
theorem dX12_isCode_43 : decode cX12_isCode 43 = .ok (.iconst 1, 1) := by decide +kernel
theorem dX12_isCode_44 : decode cX12_isCode 44 = .ok (.if_icmp .ne 7, 3) := by decide +kernel
theorem dX12_isCode_47 : decode cX12_isCode 47 = .ok (.iconst 1, 1) := by decide +kernel
theorem dX12_isCode_48 : decode cX12_isCode 48 = .ok (.goto 4, 3) := by decide +kernel
theorem dX12_isCode_51 : decode cX12_isCode 51 = .ok (.iconst 0, 1) := by decide +kernel
theorem dX12_isCode_52 : decode cX12_isCode 52 = .ok (.istore_n 3, 1) := by decide +kernel
theorem dX12_isCode_53 : decode cX12_isCode 53 = .ok (.iload_n 2, 1) := by decide +kernel
theorem dX12_isCode_54 : decode cX12_isCode 54 = .ok (.bipush 7, 2) := by decide +kernel
theorem dX12_isCode_56 : decode cX12_isCode 56 = .ok (.if_icmp .eq 32, 3) := by decide +kernel
theorem dX12_isCode_59 : decode cX12_isCode 59 = .ok (.iload_n 3, 1) := by decide +kernel
theorem dX12_isCode_60 : decode cX12_isCode 60 = .ok (.ifCond .eq 24, 3) := by decide +kernel
theorem dX12_isCode_63 : decode cX12_isCode 63 = .ok (.iload_n 2, 1) := by decide +kernel
theorem dX12_isCode_64 : decode cX12_isCode 64 = .ok (.iconst 1, 1) := by decide +kernel
theorem dX12_isCode_65 : decode cX12_isCode 65 = .ok (.if_icmp .eq 23, 3) := by decide +kernel
theorem dX12_isCode_68 : decode cX12_isCode 68 = .ok (.iload_n 2, 1) := by decide +kernel
theorem dX12_isCode_69 : decode cX12_isCode 69 = .ok (.iconst 3, 1) := by decide +kernel
theorem dX12_isCode_70 : decode cX12_isCode 70 = .ok (.if_icmp .eq 18, 3) := by decide +kernel
theorem dX12_isCode_73 : decode cX12_isCode 73 = .ok (.iload_n 2, 1) := by decide +kernel
theorem dX12_isCode_74 : decode cX12_isCode 74 = .ok (.iconst 5, 1) := by decide +kernel
theorem dX12_isCode_75 : decode cX12_isCode 75 = .ok (.if_icmp .eq 13, 3) := by decide +kernel
theorem dX12_isCode_78 : decode cX12_isCode 78 = .ok (.iload_n 2, 1) := by decide +kernel
theorem dX12_isCode_79 : decode cX12_isCode 79 = .ok (.bipush 6, 2) := by decide +kernel
theorem dX12_isCode_81 : decode cX12_isCode 81 = .ok (.if_icmp .eq 7, 3) := by decide +kernel
theorem dX12_isCode_84 : decode cX12_isCode 84 = .ok (.iconst 1, 1) := by decide +kernel
theorem dX12_isCode_85 : decode cX12_isCode 85 = .ok (.goto 4, 3) := by decide +kernel
theorem dX12_isCode_88 : decode cX12_isCode 88 = .ok (.iconst 0, 1) := by decide +kernel
theorem dX12_isCode_89 : decode cX12_isCode 89 = .ok (.ireturn, 1) := by decide +kernel
theorem dX12_twoOf_0 : decode cX12_twoOf 0 = .ok (.iload_n 1, 1) := by decide +kernel
theorem dX12_twoOf_1 : decode cX12_twoOf 1 = .ok (.bipush 12, 2) := by decide +kernel
theorem dX12_twoOf_3 : decode cX12_twoOf 3 = .ok (.ishr, 1) := by decide +kernel
theorem dX12_twoOf_4 : decode cX12_twoOf 4 = .ok (.istore_n 2, 1) := by decide +kernel
theorem dX12_twoOf_5 : decode cX12_twoOf 5 = .ok (.iload_n 1, 1) := by decide +kernel
theorem dX12_twoOf_6 : decode cX12_twoOf 6 = .ok (.bipush 8, 2) := by decide +kernel
theorem dX12_twoOf_8 : decode cX12_twoOf 8 = .ok (.ishr, 1) := by decide +kernel
theorem dX12_twoOf_9 : decode cX12_twoOf 9 = .ok (.bipush 15, 2) := by decide +kernel
theorem dX12_twoOf_11 : decode cX12_twoOf 11 = .ok (.iand, 1) := by decide +kernel
theorem dX12_twoOf_12 : decode cX12_twoOf 12 = .ok (.istore_n 3, 1) := by decide +kernel
theorem dX12_twoOf_13 : decode cX12_twoOf 13 = .ok (.iload_n 1, 1) := by decide +kernel
theorem dX12_twoOf_14 : decode cX12_twoOf 14 = .ok (.bipush 7, 2) := by decide +kernel
theorem dX12_twoOf_16 : decode cX12_twoOf 16 = .ok (.ishr, 1) := by decide +kernel
theorem dX12_twoOf_17 : decode cX12_twoOf 17 = .ok (.iconst 1, 1) := by decide +kernel
theorem dX12_twoOf_18 : decode cX12_twoOf 18 = .ok (.iand, 1) := by decide +kernel
theorem dX12_twoOf_19 : decode cX12_twoOf 19 = .ok (.iconst 1, 1) := by decide +kernel
theorem dX12_twoOf_20 : decode cX12_twoOf 20 = .ok (.if_icmp .ne 7, 3) := by decide +kernel
theorem dX12_twoOf_23 : decode cX12_twoOf 23 = .ok (.iconst 1, 1) := by decide +kernel
theorem dX12_twoOf_24 : decode cX12_twoOf 24 = .ok (.goto 4, 3) := by decide +kernel
theorem dX12_twoOf_27 : decode cX12_twoOf 27 = .ok (.iconst 0, 1) := by decide +kernel
theorem dX12_twoOf_28 : decode cX12_twoOf 28 = .ok (.istore 4, 2) := by decide +kernel
theorem dX12_twoOf_30 : decode cX12_twoOf 30 = .ok (.iload_n 1, 1) := by decide +kernel
theorem dX12_twoOf_31 : decode cX12_twoOf 31 = .ok (.bipush 6, 2) := by decide +kernel
theorem dX12_twoOf_33 : decode cX12_twoOf 33 = .ok (.ishr, 1) := by decide +kernel
theorem dX12_twoOf_34 : decode cX12_twoOf 34 = .ok (.iconst 1, 1) := by decide +kernel
theorem dX12_twoOf_35 : decode cX12_twoOf 35 = .ok (.iand, 1) := by decide +kernel
theorem dX12_twoOf_36 : decode cX12_twoOf 36 = .ok (.iconst 1, 1) := by decide +kernel
theorem dX12_twoOf_37 : decode cX12_twoOf 37 = .ok (.if_icmp .ne 7, 3) := by decide +kernel
theorem dX12_twoOf_40 : decode cX12_twoOf 40 = .ok (.iconst 1, 1) := by decide +kernel
theorem dX12_twoOf_41 : decode cX12_twoOf 41 = .ok (.goto 4, 3) := by decide +kernel
theorem dX12_twoOf_44 : decode cX12_twoOf 44 = .ok (.iconst 0, 1) := by decide +kernel
theorem dX12_twoOf_45 : decode cX12_twoOf 45 = .ok (.istore 5, 2) := by decide +kernel
theorem dX12_twoOf_47 : decode cX12_twoOf 47 = .ok (.iload_n 1, 1) := by decide +kernel
theorem dX12_twoOf_48 : decode cX12_twoOf 48 = .ok (.iconst 4, 1) := by decide +kernel
theorem dX12_twoOf_49 : decode cX12_twoOf 49 = .ok (.ishr, 1) := by decide +kernel
theorem dX12_twoOf_50 : decode cX12_twoOf 50 = .ok (.iconst 3, 1) := by decide +kernel
theorem dX12_twoOf_51 : decode cX12_twoOf 51 = .ok (.iand, 1) := by decide +kernel
theorem dX12_twoOf_52 : decode cX12_twoOf 52 = .ok (.istore 6, 2) := by decide +kernel
theorem dX12_twoOf_54 : decode cX12_twoOf 54 = .ok (.iload_n 1, 1) := by decide +kernel
theorem dX12_twoOf_55 : decode cX12_twoOf 55 = .ok (.bipush 15, 2) := by decide +kernel
theorem dX12_twoOf_57 : decode cX12_twoOf 57 = .ok (.iand, 1) := by decide +kernel
theorem dX12_twoOf_58 : decode cX12_twoOf 58 = .ok (.istore 7, 2) := by decide +kernel
theorem dX12_twoOf_60 : decode cX12_twoOf 60 = .ok (.iload_n 3, 1) := by decide +kernel
theorem dX12_twoOf_61 : decode cX12_twoOf 61 = .ok (.iload 6, 2) := by decide +kernel
theorem dX12_twoOf_63 : decode cX12_twoOf 63 = .ok (.iconst 1, 1) := by decide +kernel
theorem dX12_twoOf_64 : decode cX12_twoOf 64 = .ok (.iconst 2, 1) := by decide +kernel
theorem dX12_twoOf_65 : decode cX12_twoOf 65 = .ok (.iconst 3, 1) := by decide +kernel
theorem dX12_twoOf_66 : decode cX12_twoOf 66 = .ok (.iconst 2, 1) := by decide +kernel
theorem dX12_twoOf_67 : decode cX12_twoOf 67 = .ok (.invokestatic 257, 3) := by decide +kernel
theorem dX12_twoOf_70 : decode cX12_twoOf 70 = .ok (.istore 8, 2) := by decide +kernel
theorem dX12_twoOf_72 : decode cX12_twoOf 72 = .ok (.aload_n 0, 1) := by decide +kernel
theorem dX12_twoOf_73 : decode cX12_twoOf 73 = .ok (.iload_n 3, 1) := by decide +kernel
theorem dX12_twoOf_74 : decode cX12_twoOf 74 = .ok (.iload 6, 2) := by decide +kernel
theorem dX12_twoOf_76 : decode cX12_twoOf 76 = .ok (.iload 5, 2) := by decide +kernel
theorem dX12_twoOf_78 : decode cX12_twoOf 78 = .ok (.invokevirtual 261, 3) := by decide +kernel
theorem dX12_twoOf_81 : decode cX12_twoOf 81 = .ok (.istore 9, 2) := by decide +kernel
theorem dX12_twoOf_83 : decode cX12_twoOf 83 = .ok (.iload 4, 2) := by decide +kernel
theorem dX12_twoOf_85 : decode cX12_twoOf 85 = .ok (.ifCond .eq 9, 3) := by decide +kernel
theorem dX12_twoOf_88 : decode cX12_twoOf 88 = .ok (.iinc 8 3, 3) := by decide +kernel
theorem dX12_twoOf_91 : decode cX12_twoOf 91 = .ok (.goto 23, 3) := by decide +kernel
theorem dX12_twoOf_94 : decode cX12_twoOf 94 = .ok (.iload 7, 2) := by decide +kernel
theorem dX12_twoOf_96 : decode cX12_twoOf 96 = .ok (.ifCond .ne 18, 3) := by decide +kernel
theorem dX12_twoOf_99 : decode cX12_twoOf 99 = .ok (.iload 8, 2) := by decide +kernel
theorem dX12_twoOf_101 : decode cX12_twoOf 101 = .ok (.iconst 1, 1) := by decide +kernel
theorem dX12_twoOf_102 : decode cX12_twoOf 102 = .ok (.if_icmp .eq 9, 3) := by decide +kernel
theorem dX12_twoOf_105 : decode cX12_twoOf 105 = .ok (.iload 6, 2) := by decide +kernel
theorem dX12_twoOf_107 : decode cX12_twoOf 107 = .ok (.iconst 3, 1) := by decide +kernel
theorem dX12_twoOf_108 : decode cX12_twoOf 108 = .ok (.if_icmp .ne 6, 3) := by decide +kernel
theorem dX12_twoOf_111 : decode cX12_twoOf 111 = .ok (.iinc 8 1, 3) := by decide +kernel
theorem dX12_twoOf_114 : decode cX12_twoOf 114 = .ok (.iconst 0, 1) := by decide +kernel
theorem dX12_twoOf_115 : decode cX12_twoOf 115 = .ok (.istore 10, 2) := by decide +kernel
theorem dX12_twoOf_117 : decode cX12_twoOf 117 = .ok (.iload 4, 2) := by decide +kernel
theorem dX12_twoOf_119 : decode cX12_twoOf 119 = .ok (.ifCond .eq 40, 3) := by decide +kernel
theorem dX12_twoOf_122 : decode cX12_twoOf 122 = .ok (.iload 7, 2) := by decide +kernel
theorem dX12_twoOf_124 : decode cX12_twoOf 124 = .ok (.iconst 2, 1) := by decide +kernel
theorem dX12_twoOf_125 : decode cX12_twoOf 125 = .ok (.if_icmp .eq 9, 3) := by decide +kernel
theorem dX12_twoOf_128 : decode cX12_twoOf 128 = .ok (.iload 7, 2) := by decide +kernel
theorem dX12_twoOf_130 : decode cX12_twoOf 130 = .ok (.iconst 3, 1) := by decide +kernel
theorem dX12_twoOf_131 : decode cX12_twoOf 131 = .ok (.if_icmp .ne 7, 3) := by decide +kernel
theorem dX12_twoOf_134 : decode cX12_twoOf 134 = .ok (.iconst 0, 1) := by decide +kernel
theorem dX12_twoOf_135 : decode cX12_twoOf 135 = .ok (.goto 10, 3) := by decide +kernel
theorem dX12_twoOf_138 : decode cX12_twoOf 138 = .ok (.aload_n 0, 1) := by decide +kernel
theorem dX12_twoOf_139 : decode cX12_twoOf 139 = .ok (.getfield 14, 3) := by decide +kernel
theorem dX12_twoOf_142 : decode cX12_twoOf 142 = .ok (.iload 7, 2) := by decide +kernel
theorem dX12_twoOf_144 : decode cX12_twoOf 144 = .ok (.iaload, 1) := by decide +kernel
theorem dX12_twoOf_145 : decode cX12_twoOf 145 = .ok (.istore 11, 2) := by decide +kernel
theorem dX12_twoOf_147 : decode cX12_twoOf 147 = .ok (.iload 11, 2) := by decide +kernel
theorem dX12_twoOf_149 : decode cX12_twoOf 149 = .ok (.aload_n 0, 1) := by decide +kernel
theorem dX12_twoOf_150 : decode cX12_twoOf 150 = .ok (.invokevirtual 248, 3) := by decide +kernel
theorem dX12_twoOf_153 : decode cX12_twoOf 153 = .ok (.iadd, 1) := by decide +kernel
theorem dX12_twoOf_154 : decode cX12_twoOf 154 = .ok (.ldc 205, 2) := by decide +kernel
theorem dX12_twoOf_156 : decode cX12_twoOf 156 = .ok (.iand, 1) := by decide +kernel
theorem dX12_twoOf_157 : decode cX12_twoOf 157 = .ok (.istore 10, 2) := by decide +kernel
theorem dX12_twoOf_159 : decode cX12_twoOf 159 = .ok (.iload 5, 2) := by decide +kernel
theorem dX12_twoOf_161 : decode cX12_twoOf 161 = .ok (.ifCond .eq 9, 3) := by decide +kernel
theorem dX12_twoOf_164 : decode cX12_twoOf 164 = .ok (.sipush 255, 3) := by decide +kernel
theorem dX12_twoOf_167 : decode cX12_twoOf 167 = .ok (.goto 5, 3) := by decide +kernel
theorem dX12_twoOf_170 : decode cX12_twoOf 170 = .ok (.ldc 205, 2) := by decide +kernel
theorem dX12_twoOf_172 : decode cX12_twoOf 172 = .ok (.istore 11, 2) := by decide +kernel
theorem dX12_twoOf_174 : decode cX12_twoOf 174 = .ok (.iload 5, 2) := by decide +kernel
theorem dX12_twoOf_176 : decode cX12_twoOf 176 = .ok (.ifCond .eq 9, 3) := by decide +kernel
theorem dX12_twoOf_179 : decode cX12_twoOf 179 = .ok (.sipush 128, 3) := by decide +kernel
theorem dX12_twoOf_182 : decode cX12_twoOf 182 = .ok (.goto 6, 3) := by decide +kernel
theorem dX12_twoOf_185 : decode cX12_twoOf 185 = .ok (.ldc_w 265, 3) := by decide +kernel
theorem dX12_twoOf_188 : decode cX12_twoOf 188 = .ok (.istore 12, 2) := by decide +kernel
theorem dX12_twoOf_190 : decode cX12_twoOf 190 = .ok (.iload_n 2, 1) := by decide +kernel
theorem dX12_twoOf_191 : decode cX12_twoOf 191 = .ok (.iconst 4, 1) := by decide +kernel
theorem dX12_twoOf_192 : decode cX12_twoOf 192 = .ok (.if_icmp .ne 7, 3) := by decide +kernel
theorem dX12_twoOf_195 : decode cX12_twoOf 195 = .ok (.iconst 0, 1) := by decide +kernel
theorem dX12_twoOf_196 : decode cX12_twoOf 196 = .ok (.goto 41, 3) := by decide +kernel
theorem dX12_twoOf_199 : decode cX12_twoOf 199 = .ok (.iload 4, 2) := by decide +kernel
theorem dX12_twoOf_201 : decode cX12_twoOf 201 = .ok (.ifCond .eq 26, 3) := by decide +kernel
theorem dX12_twoOf_204 : decode cX12_twoOf 204 = .ok (.iload 5, 2) := by decide +kernel
theorem dX12_twoOf_206 : decode cX12_twoOf 206 = .ok (.ifCond .eq 12, 3) := by decide +kernel
theorem dX12_twoOf_209 : decode cX12_twoOf 209 = .ok (.aload_n 0, 1) := by decide +kernel
theorem dX12_twoOf_210 : decode cX12_twoOf 210 = .ok (.iload 10, 2) := by decide +kernel
theorem dX12_twoOf_212 : decode cX12_twoOf 212 = .ok (.invokevirtual 254, 3) := by decide +kernel
theorem dX12_twoOf_215 : decode cX12_twoOf 215 = .ok (.goto 19, 3) := by decide +kernel
theorem dX12_twoOf_218 : decode cX12_twoOf 218 = .ok (.aload_n 0, 1) := by decide +kernel
theorem dX12_twoOf_219 : decode cX12_twoOf 219 = .ok (.iload 10, 2) := by decide +kernel
theorem dX12_twoOf_221 : decode cX12_twoOf 221 = .ok (.invokevirtual 242, 3) := by decide +kernel
theorem dX12_twoOf_224 : decode cX12_twoOf 224 = .ok (.goto 10, 3) := by decide +kernel
theorem dX12_twoOf_227 : decode cX12_twoOf 227 = .ok (.aload_n 0, 1) := by decide +kernel
theorem dX12_twoOf_228 : decode cX12_twoOf 228 = .ok (.getfield 14, 3) := by decide +kernel
theorem dX12_twoOf_231 : decode cX12_twoOf 231 = .ok (.iload 7, 2) := by decide +kernel
theorem dX12_twoOf_233 : decode cX12_twoOf 233 = .ok (.iaload, 1) := by decide +kernel
theorem dX12_twoOf_234 : decode cX12_twoOf 234 = .ok (.iload 11, 2) := by decide +kernel
theorem dX12_twoOf_236 : decode cX12_twoOf 236 = .ok (.iand, 1) := by decide +kernel
theorem dX12_twoOf_237 : decode cX12_twoOf 237 = .ok (.istore 13, 2) := by decide +kernel
theorem dX12_twoOf_239 : decode cX12_twoOf 239 = .ok (.iload 9, 2) := by decide +kernel
theorem dX12_twoOf_241 : decode cX12_twoOf 241 = .ok (.istore 14, 2) := by decide +kernel
theorem dX12_twoOf_243 : decode cX12_twoOf 243 = .ok (.iload_n 2, 1) := by decide +kernel
theorem dX12_twoOf_244 : decode cX12_twoOf 244 = .ok (.iconst 5, 1) := by decide +kernel
theorem dX12_twoOf_245 : decode cX12_twoOf 245 = .ok (.if_icmp .lt 146, 3) := by decide +kernel
theorem dX12_twoOf_248 : decode cX12_twoOf 248 = .ok (.iload_n 2, 1) := by decide +kernel
theorem dX12_twoOf_249 : decode cX12_twoOf 249 = .ok (.bipush 9, 2) := by decide +kernel
theorem dX12_twoOf_251 : decode cX12_twoOf 251 = .ok (.if_icmp .gt 140, 3) := by decide +kernel
theorem dX12_twoOf_254 : decode cX12_twoOf 254 = .ok (.iload_n 2, 1) := by decide +kernel
theorem dX12_twoOf_255 : decode cX12_twoOf 255 = .ok (.bipush 6, 2) := by decide +kernel
theorem dX12_twoOf_257 : decode cX12_twoOf 257 = .ok (.if_icmp .le 13, 3) := by decide +kernel
theorem dX12_twoOf_260 : decode cX12_twoOf 260 = .ok (.iload 9, 2) := by decide +kernel
theorem dX12_twoOf_262 : decode cX12_twoOf 262 = .ok (.iconst (-1), 1) := by decide +kernel
theorem dX12_twoOf_263 : decode cX12_twoOf 263 = .ok (.ixor, 1) := by decide +kernel
theorem dX12_twoOf_264 : decode cX12_twoOf 264 = .ok (.iload 11, 2) := by decide +kernel
theorem dX12_twoOf_266 : decode cX12_twoOf 266 = .ok (.iand, 1) := by decide +kernel
theorem dX12_twoOf_267 : decode cX12_twoOf 267 = .ok (.goto 5, 3) := by decide +kernel
theorem dX12_twoOf_270 : decode cX12_twoOf 270 = .ok (.iload 9, 2) := by decide +kernel
theorem dX12_twoOf_272 : decode cX12_twoOf 272 = .ok (.istore 15, 2) := by decide +kernel
theorem dX12_twoOf_274 : decode cX12_twoOf 274 = .ok (.iload 13, 2) := by decide +kernel
theorem dX12_twoOf_276 : decode cX12_twoOf 276 = .ok (.iload 15, 2) := by decide +kernel
theorem dX12_twoOf_278 : decode cX12_twoOf 278 = .ok (.iadd, 1) := by decide +kernel
theorem dX12_twoOf_279 : decode cX12_twoOf 279 = .ok (.iload_n 2, 1) := by decide +kernel
theorem dX12_twoOf_280 : decode cX12_twoOf 280 = .ok (.iconst 5, 1) := by decide +kernel
theorem dX12_twoOf_281 : decode cX12_twoOf 281 = .ok (.if_icmp .ne 7, 3) := by decide +kernel
theorem dX12_twoOf_284 : decode cX12_twoOf 284 = .ok (.iconst 0, 1) := by decide +kernel
theorem dX12_twoOf_285 : decode cX12_twoOf 285 = .ok (.goto 27, 3) := by decide +kernel
theorem dX12_twoOf_288 : decode cX12_twoOf 288 = .ok (.iload_n 2, 1) := by decide +kernel
theorem dX12_twoOf_289 : decode cX12_twoOf 289 = .ok (.bipush 6, 2) := by decide +kernel
theorem dX12_twoOf_291 : decode cX12_twoOf 291 = .ok (.if_icmp .eq 9, 3) := by decide +kernel
theorem dX12_twoOf_294 : decode cX12_twoOf 294 = .ok (.iload_n 2, 1) := by decide +kernel
theorem dX12_twoOf_295 : decode cX12_twoOf 295 = .ok (.bipush 7, 2) := by decide +kernel
theorem dX12_twoOf_297 : decode cX12_twoOf 297 = .ok (.if_icmp .ne 14, 3) := by decide +kernel
theorem dX12_twoOf_300 : decode cX12_twoOf 300 = .ok (.aload_n 0, 1) := by decide +kernel
theorem dX12_twoOf_301 : decode cX12_twoOf 301 = .ok (.getfield 14, 3) := by decide +kernel
theorem dX12_twoOf_304 : decode cX12_twoOf 304 = .ok (.iconst 2, 1) := by decide +kernel
theorem dX12_twoOf_305 : decode cX12_twoOf 305 = .ok (.iaload, 1) := by decide +kernel
theorem dX12_twoOf_306 : decode cX12_twoOf 306 = .ok (.iconst 1, 1) := by decide +kernel
theorem dX12_twoOf_307 : decode cX12_twoOf 307 = .ok (.iand, 1) := by decide +kernel
theorem dX12_twoOf_308 : decode cX12_twoOf 308 = .ok (.goto 4, 3) := by decide +kernel
theorem dX12_twoOf_311 : decode cX12_twoOf 311 = .ok (.iconst 1, 1) := by decide +kernel
theorem dX12_twoOf_312 : decode cX12_twoOf 312 = .ok (.iadd, 1) := by decide +kernel
theorem dX12_twoOf_313 : decode cX12_twoOf 313 = .ok (.istore 16, 2) := by decide +kernel
theorem dX12_twoOf_315 : decode cX12_twoOf 315 = .ok (.iload 16, 2) := by decide +kernel
theorem dX12_twoOf_317 : decode cX12_twoOf 317 = .ok (.iload 11, 2) := by decide +kernel
theorem dX12_twoOf_319 : decode cX12_twoOf 319 = .ok (.iand, 1) := by decide +kernel
theorem dX12_twoOf_320 : decode cX12_twoOf 320 = .ok (.istore 14, 2) := by decide +kernel
theorem dX12_twoOf_322 : decode cX12_twoOf 322 = .ok (.aload_n 0, 1) := by decide +kernel
theorem dX12_twoOf_323 : decode cX12_twoOf 323 = .ok (.iload 16, 2) := by decide +kernel
theorem dX12_twoOf_325 : decode cX12_twoOf 325 = .ok (.iload 11, 2) := by decide +kernel
theorem dX12_twoOf_327 : decode cX12_twoOf 327 = .ok (.if_icmp .le 7, 3) := by decide +kernel
theorem dX12_twoOf_330 : decode cX12_twoOf 330 = .ok (.iconst 1, 1) := by decide +kernel
theorem dX12_twoOf_331 : decode cX12_twoOf 331 = .ok (.goto 4, 3) := by decide +kernel
theorem dX12_twoOf_334 : decode cX12_twoOf 334 = .ok (.iconst 0, 1) := by decide +kernel
theorem dX12_twoOf_335 : decode cX12_twoOf 335 = .ok (.iload 14, 2) := by decide +kernel
theorem dX12_twoOf_337 : decode cX12_twoOf 337 = .ok (.ifCond .ne 7, 3) := by decide +kernel
theorem dX12_twoOf_340 : decode cX12_twoOf 340 = .ok (.iconst 1, 1) := by decide +kernel
theorem dX12_twoOf_341 : decode cX12_twoOf 341 = .ok (.goto 4, 3) := by decide +kernel
theorem dX12_twoOf_344 : decode cX12_twoOf 344 = .ok (.iconst 0, 1) := by decide +kernel
theorem dX12_twoOf_345 : decode cX12_twoOf 345 = .ok (.iload 14, 2) := by decide +kernel
theorem dX12_twoOf_347 : decode cX12_twoOf 347 = .ok (.iload 12, 2) := by decide +kernel
theorem dX12_twoOf_349 : decode cX12_twoOf 349 = .ok (.iand, 1) := by decide +kernel
theorem dX12_twoOf_350 : decode cX12_twoOf 350 = .ok (.ifCond .eq 7, 3) := by decide +kernel
theorem dX12_twoOf_353 : decode cX12_twoOf 353 = .ok (.iconst 1, 1) := by decide +kernel
theorem dX12_twoOf_354 : decode cX12_twoOf 354 = .ok (.goto 4, 3) := by decide +kernel
theorem dX12_twoOf_357 : decode cX12_twoOf 357 = .ok (.iconst 0, 1) := by decide +kernel
theorem dX12_twoOf_358 : decode cX12_twoOf 358 = .ok (.iload 13, 2) := by decide +kernel
theorem dX12_twoOf_360 : decode cX12_twoOf 360 = .ok (.iload 15, 2) := by decide +kernel
theorem dX12_twoOf_362 : decode cX12_twoOf 362 = .ok (.ixor, 1) := by decide +kernel
theorem dX12_twoOf_363 : decode cX12_twoOf 363 = .ok (.iload 12, 2) := by decide +kernel
theorem dX12_twoOf_365 : decode cX12_twoOf 365 = .ok (.iand, 1) := by decide +kernel
theorem dX12_twoOf_366 : decode cX12_twoOf 366 = .ok (.ifCond .ne 18, 3) := by decide +kernel
theorem dX12_twoOf_369 : decode cX12_twoOf 369 = .ok (.iload 13, 2) := by decide +kernel
theorem dX12_twoOf_371 : decode cX12_twoOf 371 = .ok (.iload 14, 2) := by decide +kernel
theorem dX12_twoOf_373 : decode cX12_twoOf 373 = .ok (.ixor, 1) := by decide +kernel
theorem dX12_twoOf_374 : decode cX12_twoOf 374 = .ok (.iload 12, 2) := by decide +kernel
theorem dX12_twoOf_376 : decode cX12_twoOf 376 = .ok (.iand, 1) := by decide +kernel
theorem dX12_twoOf_377 : decode cX12_twoOf 377 = .ok (.ifCond .eq 7, 3) := by decide +kernel
theorem dX12_twoOf_380 : decode cX12_twoOf 380 = .ok (.iconst 1, 1) := by decide +kernel
theorem dX12_twoOf_381 : decode cX12_twoOf 381 = .ok (.goto 4, 3) := by decide +kernel
theorem dX12_twoOf_384 : decode cX12_twoOf 384 = .ok (.iconst 0, 1) := by decide +kernel
theorem dX12_twoOf_385 : decode cX12_twoOf 385 = .ok (.invokevirtual 266, 3) := by decide +kernel
theorem dX12_twoOf_388 : decode cX12_twoOf 388 = .ok (.goto 202, 3) := by decide +kernel
theorem dX12_twoOf_391 : decode cX12_twoOf 391 = .ok (.iload_n 2, 1) := by decide +kernel
theorem dX12_twoOf_392 : decode cX12_twoOf 392 = .ok (.bipush 10, 2) := by decide +kernel
theorem dX12_twoOf_394 : decode cX12_twoOf 394 = .ok (.if_icmp .ne 64, 3) := by decide +kernel
theorem dX12_twoOf_397 : decode cX12_twoOf 397 = .ok (.aload_n 0, 1) := by decide +kernel
theorem dX12_twoOf_398 : decode cX12_twoOf 398 = .ok (.iload 13, 2) := by decide +kernel
theorem dX12_twoOf_400 : decode cX12_twoOf 400 = .ok (.iload 9, 2) := by decide +kernel
theorem dX12_twoOf_402 : decode cX12_twoOf 402 = .ok (.iload 5, 2) := by decide +kernel
theorem dX12_twoOf_404 : decode cX12_twoOf 404 = .ok (.ifCond .eq 7, 3) := by decide +kernel
theorem dX12_twoOf_407 : decode cX12_twoOf 407 = .ok (.iconst 2, 1) := by decide +kernel
theorem dX12_twoOf_408 : decode cX12_twoOf 408 = .ok (.goto 4, 3) := by decide +kernel
theorem dX12_twoOf_411 : decode cX12_twoOf 411 = .ok (.iconst 4, 1) := by decide +kernel
theorem dX12_twoOf_412 : decode cX12_twoOf 412 = .ok (.invokevirtual 270, 3) := by decide +kernel
theorem dX12_twoOf_415 : decode cX12_twoOf 415 = .ok (.istore 14, 2) := by decide +kernel
theorem dX12_twoOf_417 : decode cX12_twoOf 417 = .ok (.aload_n 0, 1) := by decide +kernel
theorem dX12_twoOf_418 : decode cX12_twoOf 418 = .ok (.aload_n 0, 1) := by decide +kernel
theorem dX12_twoOf_419 : decode cX12_twoOf 419 = .ok (.getfield 274, 3) := by decide +kernel
theorem dX12_twoOf_422 : decode cX12_twoOf 422 = .ok (.iload 14, 2) := by decide +kernel
theorem dX12_twoOf_424 : decode cX12_twoOf 424 = .ok (.ifCond .ne 7, 3) := by decide +kernel
theorem dX12_twoOf_427 : decode cX12_twoOf 427 = .ok (.iconst 1, 1) := by decide +kernel
theorem dX12_twoOf_428 : decode cX12_twoOf 428 = .ok (.goto 4, 3) := by decide +kernel
theorem dX12_twoOf_431 : decode cX12_twoOf 431 = .ok (.iconst 0, 1) := by decide +kernel
theorem dX12_twoOf_432 : decode cX12_twoOf 432 = .ok (.iload 14, 2) := by decide +kernel
theorem dX12_twoOf_434 : decode cX12_twoOf 434 = .ok (.iload 12, 2) := by decide +kernel
theorem dX12_twoOf_436 : decode cX12_twoOf 436 = .ok (.iand, 1) := by decide +kernel
theorem dX12_twoOf_437 : decode cX12_twoOf 437 = .ok (.ifCond .eq 7, 3) := by decide +kernel
theorem dX12_twoOf_440 : decode cX12_twoOf 440 = .ok (.iconst 1, 1) := by decide +kernel
theorem dX12_twoOf_441 : decode cX12_twoOf 441 = .ok (.goto 4, 3) := by decide +kernel
theorem dX12_twoOf_444 : decode cX12_twoOf 444 = .ok (.iconst 0, 1) := by decide +kernel
theorem dX12_twoOf_445 : decode cX12_twoOf 445 = .ok (.aload_n 0, 1) := by decide +kernel
theorem dX12_twoOf_446 : decode cX12_twoOf 446 = .ok (.sipush 256, 3) := by decide +kernel
theorem dX12_twoOf_449 : decode cX12_twoOf 449 = .ok (.invokevirtual 277, 3) := by decide +kernel
theorem dX12_twoOf_452 : decode cX12_twoOf 452 = .ok (.invokevirtual 266, 3) := by decide +kernel
theorem dX12_twoOf_455 : decode cX12_twoOf 455 = .ok (.goto 135, 3) := by decide +kernel
theorem dX12_twoOf_458 : decode cX12_twoOf 458 = .ok (.iload_n 2, 1) := by decide +kernel
theorem dX12_twoOf_459 : decode cX12_twoOf 459 = .ok (.bipush 11, 2) := by decide +kernel
theorem dX12_twoOf_461 : decode cX12_twoOf 461 = .ok (.if_icmp .eq 15, 3) := by decide +kernel
theorem dX12_twoOf_464 : decode cX12_twoOf 464 = .ok (.iload_n 2, 1) := by decide +kernel
theorem dX12_twoOf_465 : decode cX12_twoOf 465 = .ok (.bipush 14, 2) := by decide +kernel
theorem dX12_twoOf_467 : decode cX12_twoOf 467 = .ok (.if_icmp .eq 9, 3) := by decide +kernel
theorem dX12_twoOf_470 : decode cX12_twoOf 470 = .ok (.iload_n 2, 1) := by decide +kernel
theorem dX12_twoOf_471 : decode cX12_twoOf 471 = .ok (.bipush 15, 2) := by decide +kernel
theorem dX12_twoOf_473 : decode cX12_twoOf 473 = .ok (.if_icmp .ne 86, 3) := by decide +kernel
theorem dX12_twoOf_476 : decode cX12_twoOf 476 = .ok (.iload_n 2, 1) := by decide +kernel
theorem dX12_twoOf_477 : decode cX12_twoOf 477 = .ok (.bipush 14, 2) := by decide +kernel
theorem dX12_twoOf_479 : decode cX12_twoOf 479 = .ok (.if_icmp .ne 11, 3) := by decide +kernel
theorem dX12_twoOf_482 : decode cX12_twoOf 482 = .ok (.iload 13, 2) := by decide +kernel
theorem dX12_twoOf_484 : decode cX12_twoOf 484 = .ok (.iload 9, 2) := by decide +kernel
theorem dX12_twoOf_486 : decode cX12_twoOf 486 = .ok (.ixor, 1) := by decide +kernel
theorem dX12_twoOf_487 : decode cX12_twoOf 487 = .ok (.goto 8, 3) := by decide +kernel
theorem dX12_twoOf_490 : decode cX12_twoOf 490 = .ok (.iload 13, 2) := by decide +kernel
theorem dX12_twoOf_492 : decode cX12_twoOf 492 = .ok (.iload 9, 2) := by decide +kernel
theorem dX12_twoOf_494 : decode cX12_twoOf 494 = .ok (.iand, 1) := by decide +kernel
theorem dX12_twoOf_495 : decode cX12_twoOf 495 = .ok (.istore 14, 2) := by decide +kernel
theorem dX12_twoOf_497 : decode cX12_twoOf 497 = .ok (.aload_n 0, 1) := by decide +kernel
theorem dX12_twoOf_498 : decode cX12_twoOf 498 = .ok (.iload 14, 2) := by decide +kernel
theorem dX12_twoOf_500 : decode cX12_twoOf 500 = .ok (.ifCond .eq 7, 3) := by decide +kernel
theorem dX12_twoOf_503 : decode cX12_twoOf 503 = .ok (.iconst 1, 1) := by decide +kernel
theorem dX12_twoOf_504 : decode cX12_twoOf 504 = .ok (.goto 4, 3) := by decide +kernel
theorem dX12_twoOf_507 : decode cX12_twoOf 507 = .ok (.iconst 0, 1) := by decide +kernel
theorem dX12_twoOf_508 : decode cX12_twoOf 508 = .ok (.iload 14, 2) := by decide +kernel
theorem dX12_twoOf_510 : decode cX12_twoOf 510 = .ok (.ifCond .ne 7, 3) := by decide +kernel
theorem dX12_twoOf_513 : decode cX12_twoOf 513 = .ok (.iconst 1, 1) := by decide +kernel
theorem dX12_twoOf_514 : decode cX12_twoOf 514 = .ok (.goto 4, 3) := by decide +kernel
theorem dX12_twoOf_517 : decode cX12_twoOf 517 = .ok (.iconst 0, 1) := by decide +kernel
theorem dX12_twoOf_518 : decode cX12_twoOf 518 = .ok (.iload 14, 2) := by decide +kernel
theorem dX12_twoOf_520 : decode cX12_twoOf 520 = .ok (.iload 12, 2) := by decide +kernel
theorem dX12_twoOf_522 : decode cX12_twoOf 522 = .ok (.iand, 1) := by decide +kernel
theorem dX12_twoOf_523 : decode cX12_twoOf 523 = .ok (.ifCond .eq 7, 3) := by decide +kernel
theorem dX12_twoOf_526 : decode cX12_twoOf 526 = .ok (.iconst 1, 1) := by decide +kernel
theorem dX12_twoOf_527 : decode cX12_twoOf 527 = .ok (.goto 4, 3) := by decide +kernel
theorem dX12_twoOf_530 : decode cX12_twoOf 530 = .ok (.iconst 0, 1) := by decide +kernel
theorem dX12_twoOf_531 : decode cX12_twoOf 531 = .ok (.iload_n 2, 1) := by decide +kernel
theorem dX12_twoOf_532 : decode cX12_twoOf 532 = .ok (.bipush 14, 2) := by decide +kernel
theorem dX12_twoOf_534 : decode cX12_twoOf 534 = .ok (.if_icmp .ne 18, 3) := by decide +kernel
theorem dX12_twoOf_537 : decode cX12_twoOf 537 = .ok (.iload 13, 2) := by decide +kernel
theorem dX12_twoOf_539 : decode cX12_twoOf 539 = .ok (.iload 9, 2) := by decide +kernel
theorem dX12_twoOf_541 : decode cX12_twoOf 541 = .ok (.iand, 1) := by decide +kernel
theorem dX12_twoOf_542 : decode cX12_twoOf 542 = .ok (.iload 12, 2) := by decide +kernel
theorem dX12_twoOf_544 : decode cX12_twoOf 544 = .ok (.iand, 1) := by decide +kernel
theorem dX12_twoOf_545 : decode cX12_twoOf 545 = .ok (.ifCond .eq 7, 3) := by decide +kernel
theorem dX12_twoOf_548 : decode cX12_twoOf 548 = .ok (.iconst 1, 1) := by decide +kernel
theorem dX12_twoOf_549 : decode cX12_twoOf 549 = .ok (.goto 4, 3) := by decide +kernel
theorem dX12_twoOf_552 : decode cX12_twoOf 552 = .ok (.iconst 0, 1) := by decide +kernel
theorem dX12_twoOf_553 : decode cX12_twoOf 553 = .ok (.invokevirtual 266, 3) := by decide +kernel
theorem dX12_twoOf_556 : decode cX12_twoOf 556 = .ok (.goto 34, 3) := by decide +kernel
theorem dX12_twoOf_559 : decode cX12_twoOf 559 = .ok (.iload_n 2, 1) := by decide +kernel
theorem dX12_twoOf_560 : decode cX12_twoOf 560 = .ok (.bipush 12, 2) := by decide +kernel
theorem dX12_twoOf_562 : decode cX12_twoOf 562 = .ok (.if_icmp .ne 15, 3) := by decide +kernel
theorem dX12_twoOf_565 : decode cX12_twoOf 565 = .ok (.iload 13, 2) := by decide +kernel
theorem dX12_twoOf_567 : decode cX12_twoOf 567 = .ok (.iload 9, 2) := by decide +kernel
theorem dX12_twoOf_569 : decode cX12_twoOf 569 = .ok (.iconst (-1), 1) := by decide +kernel
theorem dX12_twoOf_570 : decode cX12_twoOf 570 = .ok (.ixor, 1) := by decide +kernel
theorem dX12_twoOf_571 : decode cX12_twoOf 571 = .ok (.iand, 1) := by decide +kernel
theorem dX12_twoOf_572 : decode cX12_twoOf 572 = .ok (.istore 14, 2) := by decide +kernel
theorem dX12_twoOf_574 : decode cX12_twoOf 574 = .ok (.goto 16, 3) := by decide +kernel
theorem dX12_twoOf_577 : decode cX12_twoOf 577 = .ok (.iload_n 2, 1) := by decide +kernel
theorem dX12_twoOf_578 : decode cX12_twoOf 578 = .ok (.bipush 13, 2) := by decide +kernel
theorem dX12_twoOf_580 : decode cX12_twoOf 580 = .ok (.if_icmp .ne 10, 3) := by decide +kernel
theorem dX12_twoOf_583 : decode cX12_twoOf 583 = .ok (.iload 13, 2) := by decide +kernel
theorem dX12_twoOf_585 : decode cX12_twoOf 585 = .ok (.iload 9, 2) := by decide +kernel
theorem dX12_twoOf_587 : decode cX12_twoOf 587 = .ok (.ior, 1) := by decide +kernel
theorem dX12_twoOf_588 : decode cX12_twoOf 588 = .ok (.istore 14, 2) := by decide +kernel
theorem dX12_twoOf_590 : decode cX12_twoOf 590 = .ok (.iload_n 2, 1) := by decide +kernel
theorem dX12_twoOf_591 : decode cX12_twoOf 591 = .ok (.bipush 9, 2) := by decide +kernel
theorem dX12_twoOf_593 : decode cX12_twoOf 593 = .ok (.if_icmp .eq 9, 3) := by decide +kernel
theorem dX12_twoOf_596 : decode cX12_twoOf 596 = .ok (.iload_n 2, 1) := by decide +kernel
theorem dX12_twoOf_597 : decode cX12_twoOf 597 = .ok (.bipush 11, 2) := by decide +kernel
theorem dX12_twoOf_599 : decode cX12_twoOf 599 = .ok (.if_icmp .ne 6, 3) := by decide +kernel
theorem dX12_twoOf_602 : decode cX12_twoOf 602 = .ok (.iload 8, 2) := by decide +kernel
theorem dX12_twoOf_604 : decode cX12_twoOf 604 = .ok (.ireturn, 1) := by decide +kernel
theorem dX12_twoOf_605 : decode cX12_twoOf 605 = .ok (.iload 4, 2) := by decide +kernel
theorem dX12_twoOf_607 : decode cX12_twoOf 607 = .ok (.ifCond .ne 17, 3) := by decide +kernel
theorem dX12_twoOf_610 : decode cX12_twoOf 610 = .ok (.aload_n 0, 1) := by decide +kernel
theorem dX12_twoOf_611 : decode cX12_twoOf 611 = .ok (.iload 7, 2) := by decide +kernel
theorem dX12_twoOf_613 : decode cX12_twoOf 613 = .ok (.iload 14, 2) := by decide +kernel
theorem dX12_twoOf_615 : decode cX12_twoOf 615 = .ok (.iload 11, 2) := by decide +kernel
theorem dX12_twoOf_617 : decode cX12_twoOf 617 = .ok (.iand, 1) := by decide +kernel
theorem dX12_twoOf_618 : decode cX12_twoOf 618 = .ok (.invokevirtual 201, 3) := by decide +kernel
theorem dX12_twoOf_621 : decode cX12_twoOf 621 = .ok (.goto 34, 3) := by decide +kernel
theorem dX12_twoOf_624 : decode cX12_twoOf 624 = .ok (.iload 5, 2) := by decide +kernel
theorem dX12_twoOf_626 : decode cX12_twoOf 626 = .ok (.ifCond .eq 18, 3) := by decide +kernel
theorem dX12_twoOf_629 : decode cX12_twoOf 629 = .ok (.aload_n 0, 1) := by decide +kernel
theorem dX12_twoOf_630 : decode cX12_twoOf 630 = .ok (.iload 10, 2) := by decide +kernel
theorem dX12_twoOf_632 : decode cX12_twoOf 632 = .ok (.iload 14, 2) := by decide +kernel
theorem dX12_twoOf_634 : decode cX12_twoOf 634 = .ok (.sipush 255, 3) := by decide +kernel
theorem dX12_twoOf_637 : decode cX12_twoOf 637 = .ok (.iand, 1) := by decide +kernel
theorem dX12_twoOf_638 : decode cX12_twoOf 638 = .ok (.invokevirtual 233, 3) := by decide +kernel
theorem dX12_twoOf_641 : decode cX12_twoOf 641 = .ok (.goto 14, 3) := by decide +kernel
theorem dX12_twoOf_644 : decode cX12_twoOf 644 = .ok (.aload_n 0, 1) := by decide +kernel
theorem dX12_twoOf_645 : decode cX12_twoOf 645 = .ok (.iload 10, 2) := by decide +kernel
theorem dX12_twoOf_647 : decode cX12_twoOf 647 = .ok (.iload 14, 2) := by decide +kernel
theorem dX12_twoOf_649 : decode cX12_twoOf 649 = .ok (.ldc 205, 2) := by decide +kernel
theorem dX12_twoOf_651 : decode cX12_twoOf 651 = .ok (.iand, 1) := by decide +kernel
theorem dX12_twoOf_652 : decode cX12_twoOf 652 = .ok (.invokevirtual 281, 3) := by decide +kernel
theorem dX12_twoOf_655 : decode cX12_twoOf 655 = .ok (.iload 8, 2) := by decide +kernel
theorem dX12_twoOf_657 : decode cX12_twoOf 657 = .ok (.ireturn, 1) := by decide +kernel
theorem dX12_decimal_0 : decode cX12_decimal 0 = .ok (.iconst 0, 1) := by decide +kernel
theorem dX12_decimal_1 : decode cX12_decimal 1 = .ok (.istore 4, 2) := by decide +kernel
theorem dX12_decimal_3 : decode cX12_decimal 3 = .ok (.aload_n 0, 1) := by decide +kernel
theorem dX12_decimal_4 : decode cX12_decimal 4 = .ok (.getfield 14, 3) := by decide +kernel
theorem dX12_decimal_7 : decode cX12_decimal 7 = .ok (.iconst 2, 1) := by decide +kernel
theorem dX12_decimal_8 : decode cX12_decimal 8 = .ok (.iaload, 1) := by decide +kernel
theorem dX12_decimal_9 : decode cX12_decimal 9 = .ok (.iconst 1, 1) := by decide +kernel
theorem dX12_decimal_10 : decode cX12_decimal 10 = .ok (.iand, 1) := by decide +kernel
theorem dX12_decimal_11 : decode cX12_decimal 11 = .ok (.istore 5, 2) := by decide +kernel
theorem dX12_decimal_13 : decode cX12_decimal 13 = .ok (.iconst 0, 1) := by decide +kernel
theorem dX12_decimal_14 : decode cX12_decimal 14 = .ok (.istore 6, 2) := by decide +kernel
theorem dX12_decimal_16 : decode cX12_decimal 16 = .ok (.iload 6, 2) := by decide +kernel
theorem dX12_decimal_18 : decode cX12_decimal 18 = .ok (.iconst 4, 1) := by decide +kernel
theorem dX12_decimal_19 : decode cX12_decimal 19 = .ok (.iload_n 3, 1) := by decide +kernel
theorem dX12_decimal_20 : decode cX12_decimal 20 = .ok (.imul, 1) := by decide +kernel
theorem dX12_decimal_21 : decode cX12_decimal 21 = .ok (.if_icmp .ge 66, 3) := by decide +kernel
theorem dX12_decimal_24 : decode cX12_decimal 24 = .ok (.iload_n 1, 1) := by decide +kernel
theorem dX12_decimal_25 : decode cX12_decimal 25 = .ok (.iload 6, 2) := by decide +kernel
theorem dX12_decimal_27 : decode cX12_decimal 27 = .ok (.ishr, 1) := by decide +kernel
theorem dX12_decimal_28 : decode cX12_decimal 28 = .ok (.bipush 15, 2) := by decide +kernel
theorem dX12_decimal_30 : decode cX12_decimal 30 = .ok (.iand, 1) := by decide +kernel
theorem dX12_decimal_31 : decode cX12_decimal 31 = .ok (.iload_n 2, 1) := by decide +kernel
theorem dX12_decimal_32 : decode cX12_decimal 32 = .ok (.iload 6, 2) := by decide +kernel
theorem dX12_decimal_34 : decode cX12_decimal 34 = .ok (.ishr, 1) := by decide +kernel
theorem dX12_decimal_35 : decode cX12_decimal 35 = .ok (.bipush 15, 2) := by decide +kernel
theorem dX12_decimal_37 : decode cX12_decimal 37 = .ok (.iand, 1) := by decide +kernel
theorem dX12_decimal_38 : decode cX12_decimal 38 = .ok (.iadd, 1) := by decide +kernel
theorem dX12_decimal_39 : decode cX12_decimal 39 = .ok (.iload 5, 2) := by decide +kernel
theorem dX12_decimal_41 : decode cX12_decimal 41 = .ok (.iadd, 1) := by decide +kernel
theorem dX12_decimal_42 : decode cX12_decimal 42 = .ok (.istore 7, 2) := by decide +kernel
theorem dX12_decimal_44 : decode cX12_decimal 44 = .ok (.iload 7, 2) := by decide +kernel
theorem dX12_decimal_46 : decode cX12_decimal 46 = .ok (.bipush 9, 2) := by decide +kernel
theorem dX12_decimal_48 : decode cX12_decimal 48 = .ok (.if_icmp .le 7, 3) := by decide +kernel
theorem dX12_decimal_51 : decode cX12_decimal 51 = .ok (.iconst 1, 1) := by decide +kernel
theorem dX12_decimal_52 : decode cX12_decimal 52 = .ok (.goto 4, 3) := by decide +kernel
theorem dX12_decimal_55 : decode cX12_decimal 55 = .ok (.iconst 0, 1) := by decide +kernel
theorem dX12_decimal_56 : decode cX12_decimal 56 = .ok (.istore 5, 2) := by decide +kernel
theorem dX12_decimal_58 : decode cX12_decimal 58 = .ok (.iload 7, 2) := by decide +kernel
theorem dX12_decimal_60 : decode cX12_decimal 60 = .ok (.bipush 9, 2) := by decide +kernel
theorem dX12_decimal_62 : decode cX12_decimal 62 = .ok (.if_icmp .le 6, 3) := by decide +kernel
theorem dX12_decimal_65 : decode cX12_decimal 65 = .ok (.iinc 7 (-10), 3) := by decide +kernel
theorem dX12_decimal_68 : decode cX12_decimal 68 = .ok (.iload 4, 2) := by decide +kernel
theorem dX12_decimal_70 : decode cX12_decimal 70 = .ok (.iload 7, 2) := by decide +kernel
theorem dX12_decimal_72 : decode cX12_decimal 72 = .ok (.bipush 15, 2) := by decide +kernel
theorem dX12_decimal_74 : decode cX12_decimal 74 = .ok (.iand, 1) := by decide +kernel
theorem dX12_decimal_75 : decode cX12_decimal 75 = .ok (.iload 6, 2) := by decide +kernel
theorem dX12_decimal_77 : decode cX12_decimal 77 = .ok (.ishl, 1) := by decide +kernel
theorem dX12_decimal_78 : decode cX12_decimal 78 = .ok (.ior, 1) := by decide +kernel
theorem dX12_decimal_79 : decode cX12_decimal 79 = .ok (.istore 4, 2) := by decide +kernel
theorem dX12_decimal_81 : decode cX12_decimal 81 = .ok (.iinc 6 4, 3) := by decide +kernel
theorem dX12_decimal_84 : decode cX12_decimal 84 = .ok (.goto (-68), 3) := by decide +kernel
theorem dX12_decimal_87 : decode cX12_decimal 87 = .ok (.aload_n 0, 1) := by decide +kernel
theorem dX12_decimal_88 : decode cX12_decimal 88 = .ok (.iload 5, 2) := by decide +kernel
theorem dX12_decimal_90 : decode cX12_decimal 90 = .ok (.iconst 1, 1) := by decide +kernel
theorem dX12_decimal_91 : decode cX12_decimal 91 = .ok (.if_icmp .ne 7, 3) := by decide +kernel
theorem dX12_decimal_94 : decode cX12_decimal 94 = .ok (.iconst 1, 1) := by decide +kernel
theorem dX12_decimal_95 : decode cX12_decimal 95 = .ok (.goto 4, 3) := by decide +kernel
theorem dX12_decimal_98 : decode cX12_decimal 98 = .ok (.iconst 0, 1) := by decide +kernel
theorem dX12_decimal_99 : decode cX12_decimal 99 = .ok (.putfield 274, 3) := by decide +kernel
theorem dX12_decimal_102 : decode cX12_decimal 102 = .ok (.iload 4, 2) := by decide +kernel
theorem dX12_decimal_104 : decode cX12_decimal 104 = .ok (.ireturn, 1) := by decide +kernel
theorem dX12_cost_0 : decode cX12_cost 0 = .ok (.iload_n 1, 1) := by decide +kernel
theorem dX12_cost_1 : decode cX12_cost 1 = .ok (.ifCond .eq 18, 3) := by decide +kernel
theorem dX12_cost_4 : decode cX12_cost 4 = .ok (.iload_n 0, 1) := by decide +kernel
theorem dX12_cost_5 : decode cX12_cost 5 = .ok (.iconst 3, 1) := by decide +kernel
theorem dX12_cost_6 : decode cX12_cost 6 = .ok (.if_icmp .eq 13, 3) := by decide +kernel
theorem dX12_cost_9 : decode cX12_cost 9 = .ok (.iload_n 0, 1) := by decide +kernel
theorem dX12_cost_10 : decode cX12_cost 10 = .ok (.iconst 2, 1) := by decide +kernel
theorem dX12_cost_11 : decode cX12_cost 11 = .ok (.if_icmp .ne 12, 3) := by decide +kernel
theorem dX12_cost_14 : decode cX12_cost 14 = .ok (.iload_n 1, 1) := by decide +kernel
theorem dX12_cost_15 : decode cX12_cost 15 = .ok (.iconst 1, 1) := by decide +kernel
theorem dX12_cost_16 : decode cX12_cost 16 = .ok (.if_icmp .le 7, 3) := by decide +kernel
theorem dX12_cost_19 : decode cX12_cost 19 = .ok (.iconst 1, 1) := by decide +kernel
theorem dX12_cost_20 : decode cX12_cost 20 = .ok (.goto 4, 3) := by decide +kernel
theorem dX12_cost_23 : decode cX12_cost 23 = .ok (.iconst 0, 1) := by decide +kernel
theorem dX12_cost_24 : decode cX12_cost 24 = .ok (.istore 6, 2) := by decide +kernel
theorem dX12_cost_26 : decode cX12_cost 26 = .ok (.iload 6, 2) := by decide +kernel
theorem dX12_cost_28 : decode cX12_cost 28 = .ok (.ifCond .eq 7, 3) := by decide +kernel
theorem dX12_cost_31 : decode cX12_cost 31 = .ok (.iload_n 2, 1) := by decide +kernel
theorem dX12_cost_32 : decode cX12_cost 32 = .ok (.goto 24, 3) := by decide +kernel
theorem dX12_cost_35 : decode cX12_cost 35 = .ok (.iload_n 1, 1) := by decide +kernel
theorem dX12_cost_36 : decode cX12_cost 36 = .ok (.iconst 1, 1) := by decide +kernel
theorem dX12_cost_37 : decode cX12_cost 37 = .ok (.if_icmp .ne 8, 3) := by decide +kernel
theorem dX12_cost_40 : decode cX12_cost 40 = .ok (.iload 4, 2) := by decide +kernel
theorem dX12_cost_42 : decode cX12_cost 42 = .ok (.goto 14, 3) := by decide +kernel
theorem dX12_cost_45 : decode cX12_cost 45 = .ok (.iload_n 1, 1) := by decide +kernel
theorem dX12_cost_46 : decode cX12_cost 46 = .ok (.iconst 2, 1) := by decide +kernel
theorem dX12_cost_47 : decode cX12_cost 47 = .ok (.if_icmp .ne 7, 3) := by decide +kernel
theorem dX12_cost_50 : decode cX12_cost 50 = .ok (.iload_n 3, 1) := by decide +kernel
theorem dX12_cost_51 : decode cX12_cost 51 = .ok (.goto 5, 3) := by decide +kernel
theorem dX12_cost_54 : decode cX12_cost 54 = .ok (.iload 5, 2) := by decide +kernel
theorem dX12_cost_56 : decode cX12_cost 56 = .ok (.ireturn, 1) := by decide +kernel
theorem dX12_push_0 : decode cX12_push 0 = .ok (.aload_n 0, 1) := by decide +kernel
theorem dX12_push_1 : decode cX12_push 1 = .ok (.iconst 1, 1) := by decide +kernel
theorem dX12_push_2 : decode cX12_push 2 = .ok (.aload_n 0, 1) := by decide +kernel
theorem dX12_push_3 : decode cX12_push 3 = .ok (.getfield 14, 3) := by decide +kernel
theorem dX12_push_6 : decode cX12_push 6 = .ok (.iconst 1, 1) := by decide +kernel
theorem dX12_push_7 : decode cX12_push 7 = .ok (.iaload, 1) := by decide +kernel
theorem dX12_push_8 : decode cX12_push 8 = .ok (.iconst 2, 1) := by decide +kernel
theorem dX12_push_9 : decode cX12_push 9 = .ok (.isub, 1) := by decide +kernel
theorem dX12_push_10 : decode cX12_push 10 = .ok (.invokevirtual 201, 3) := by decide +kernel
theorem dX12_push_13 : decode cX12_push 13 = .ok (.aload_n 0, 1) := by decide +kernel
theorem dX12_push_14 : decode cX12_push 14 = .ok (.aload_n 0, 1) := by decide +kernel
theorem dX12_push_15 : decode cX12_push 15 = .ok (.getfield 14, 3) := by decide +kernel
theorem dX12_push_18 : decode cX12_push 18 = .ok (.iconst 1, 1) := by decide +kernel
theorem dX12_push_19 : decode cX12_push 19 = .ok (.iaload, 1) := by decide +kernel
theorem dX12_push_20 : decode cX12_push 20 = .ok (.iload_n 1, 1) := by decide +kernel
theorem dX12_push_21 : decode cX12_push 21 = .ok (.invokevirtual 281, 3) := by decide +kernel
theorem dX12_push_24 : decode cX12_push 24 = .ok (.return_, 1) := by decide +kernel
theorem dX12_pop_0 : decode cX12_pop 0 = .ok (.aload_n 0, 1) := by decide +kernel
theorem dX12_pop_1 : decode cX12_pop 1 = .ok (.aload_n 0, 1) := by decide +kernel
theorem dX12_pop_2 : decode cX12_pop 2 = .ok (.getfield 14, 3) := by decide +kernel
theorem dX12_pop_5 : decode cX12_pop 5 = .ok (.iconst 1, 1) := by decide +kernel
theorem dX12_pop_6 : decode cX12_pop 6 = .ok (.iaload, 1) := by decide +kernel
theorem dX12_pop_7 : decode cX12_pop 7 = .ok (.invokevirtual 242, 3) := by decide +kernel
theorem dX12_pop_10 : decode cX12_pop 10 = .ok (.istore_n 1, 1) := by decide +kernel
theorem dX12_pop_11 : decode cX12_pop 11 = .ok (.aload_n 0, 1) := by decide +kernel
theorem dX12_pop_12 : decode cX12_pop 12 = .ok (.iconst 1, 1) := by decide +kernel
theorem dX12_pop_13 : decode cX12_pop 13 = .ok (.aload_n 0, 1) := by decide +kernel
theorem dX12_pop_14 : decode cX12_pop 14 = .ok (.getfield 14, 3) := by decide +kernel
theorem dX12_pop_17 : decode cX12_pop 17 = .ok (.iconst 1, 1) := by decide +kernel
theorem dX12_pop_18 : decode cX12_pop 18 = .ok (.iaload, 1) := by decide +kernel
theorem dX12_pop_19 : decode cX12_pop 19 = .ok (.iconst 2, 1) := by decide +kernel
theorem dX12_pop_20 : decode cX12_pop 20 = .ok (.iadd, 1) := by decide +kernel
theorem dX12_pop_21 : decode cX12_pop 21 = .ok (.invokevirtual 201, 3) := by decide +kernel
theorem dX12_pop_24 : decode cX12_pop 24 = .ok (.iload_n 1, 1) := by decide +kernel
theorem dX12_pop_25 : decode cX12_pop 25 = .ok (.ireturn, 1) := by decide +kernel
theorem dX12_oneOf_0 : decode cX12_oneOf 0 = .ok (.iload_n 1, 1) := by decide +kernel
theorem dX12_oneOf_1 : decode cX12_oneOf 1 = .ok (.bipush 7, 2) := by decide +kernel
theorem dX12_oneOf_3 : decode cX12_oneOf 3 = .ok (.ishr, 1) := by decide +kernel
theorem dX12_oneOf_4 : decode cX12_oneOf 4 = .ok (.bipush 7, 2) := by decide +kernel
theorem dX12_oneOf_6 : decode cX12_oneOf 6 = .ok (.iand, 1) := by decide +kernel
theorem dX12_oneOf_7 : decode cX12_oneOf 7 = .ok (.istore_n 2, 1) := by decide +kernel
theorem dX12_oneOf_8 : decode cX12_oneOf 8 = .ok (.iload_n 1, 1) := by decide +kernel
theorem dX12_oneOf_9 : decode cX12_oneOf 9 = .ok (.bipush 15, 2) := by decide +kernel
theorem dX12_oneOf_11 : decode cX12_oneOf 11 = .ok (.iand, 1) := by decide +kernel
theorem dX12_oneOf_12 : decode cX12_oneOf 12 = .ok (.istore_n 3, 1) := by decide +kernel
theorem dX12_oneOf_13 : decode cX12_oneOf 13 = .ok (.iload_n 1, 1) := by decide +kernel
theorem dX12_oneOf_14 : decode cX12_oneOf 14 = .ok (.iconst 4, 1) := by decide +kernel
theorem dX12_oneOf_15 : decode cX12_oneOf 15 = .ok (.ishr, 1) := by decide +kernel
theorem dX12_oneOf_16 : decode cX12_oneOf 16 = .ok (.iconst 3, 1) := by decide +kernel
theorem dX12_oneOf_17 : decode cX12_oneOf 17 = .ok (.iand, 1) := by decide +kernel
theorem dX12_oneOf_18 : decode cX12_oneOf 18 = .ok (.istore 4, 2) := by decide +kernel
theorem dX12_oneOf_20 : decode cX12_oneOf 20 = .ok (.iload_n 1, 1) := by decide +kernel
theorem dX12_oneOf_21 : decode cX12_oneOf 21 = .ok (.bipush 6, 2) := by decide +kernel
theorem dX12_oneOf_23 : decode cX12_oneOf 23 = .ok (.ishr, 1) := by decide +kernel
theorem dX12_oneOf_24 : decode cX12_oneOf 24 = .ok (.iconst 1, 1) := by decide +kernel
theorem dX12_oneOf_25 : decode cX12_oneOf 25 = .ok (.iand, 1) := by decide +kernel
theorem dX12_oneOf_26 : decode cX12_oneOf 26 = .ok (.iconst 1, 1) := by decide +kernel
theorem dX12_oneOf_27 : decode cX12_oneOf 27 = .ok (.if_icmp .ne 7, 3) := by decide +kernel
theorem dX12_oneOf_30 : decode cX12_oneOf 30 = .ok (.iconst 1, 1) := by decide +kernel
theorem dX12_oneOf_31 : decode cX12_oneOf 31 = .ok (.goto 4, 3) := by decide +kernel
theorem dX12_oneOf_34 : decode cX12_oneOf 34 = .ok (.iconst 0, 1) := by decide +kernel
theorem dX12_oneOf_35 : decode cX12_oneOf 35 = .ok (.istore 5, 2) := by decide +kernel
theorem dX12_oneOf_37 : decode cX12_oneOf 37 = .ok (.iload_n 2, 1) := by decide +kernel
theorem dX12_oneOf_38 : decode cX12_oneOf 38 = .ok (.bipush 6, 2) := by decide +kernel
theorem dX12_oneOf_40 : decode cX12_oneOf 40 = .ok (.if_icmp .ne 23, 3) := by decide +kernel
theorem dX12_oneOf_43 : decode cX12_oneOf 43 = .ok (.aload_n 0, 1) := by decide +kernel
theorem dX12_oneOf_44 : decode cX12_oneOf 44 = .ok (.iconst 2, 1) := by decide +kernel
theorem dX12_oneOf_45 : decode cX12_oneOf 45 = .ok (.aload_n 0, 1) := by decide +kernel
theorem dX12_oneOf_46 : decode cX12_oneOf 46 = .ok (.invokevirtual 284, 3) := by decide +kernel
theorem dX12_oneOf_49 : decode cX12_oneOf 49 = .ok (.invokevirtual 201, 3) := by decide +kernel
theorem dX12_oneOf_52 : decode cX12_oneOf 52 = .ok (.aload_n 0, 1) := by decide +kernel
theorem dX12_oneOf_53 : decode cX12_oneOf 53 = .ok (.iconst 0, 1) := by decide +kernel
theorem dX12_oneOf_54 : decode cX12_oneOf 54 = .ok (.aload_n 0, 1) := by decide +kernel
theorem dX12_oneOf_55 : decode cX12_oneOf 55 = .ok (.invokevirtual 284, 3) := by decide +kernel
theorem dX12_oneOf_58 : decode cX12_oneOf 58 = .ok (.invokevirtual 201, 3) := by decide +kernel
theorem dX12_oneOf_61 : decode cX12_oneOf 61 = .ok (.iconst 5, 1) := by decide +kernel
theorem dX12_oneOf_62 : decode cX12_oneOf 62 = .ok (.ireturn, 1) := by decide +kernel
theorem dX12_oneOf_63 : decode cX12_oneOf 63 = .ok (.iload_n 2, 1) := by decide +kernel
theorem dX12_oneOf_64 : decode cX12_oneOf 64 = .ok (.iconst 4, 1) := by decide +kernel
theorem dX12_oneOf_65 : decode cX12_oneOf 65 = .ok (.if_icmp .ge 16, 3) := by decide +kernel
theorem dX12_oneOf_68 : decode cX12_oneOf 68 = .ok (.iload_n 3, 1) := by decide +kernel
theorem dX12_oneOf_69 : decode cX12_oneOf 69 = .ok (.iload 4, 2) := by decide +kernel
theorem dX12_oneOf_71 : decode cX12_oneOf 71 = .ok (.iconst 1, 1) := by decide +kernel
theorem dX12_oneOf_72 : decode cX12_oneOf 72 = .ok (.iconst 3, 1) := by decide +kernel
theorem dX12_oneOf_73 : decode cX12_oneOf 73 = .ok (.iconst 4, 1) := by decide +kernel
theorem dX12_oneOf_74 : decode cX12_oneOf 74 = .ok (.iconst 3, 1) := by decide +kernel
theorem dX12_oneOf_75 : decode cX12_oneOf 75 = .ok (.invokestatic 257, 3) := by decide +kernel
theorem dX12_oneOf_78 : decode cX12_oneOf 78 = .ok (.goto 31, 3) := by decide +kernel
theorem dX12_oneOf_81 : decode cX12_oneOf 81 = .ok (.iload_n 2, 1) := by decide +kernel
theorem dX12_oneOf_82 : decode cX12_oneOf 82 = .ok (.iconst 4, 1) := by decide +kernel
theorem dX12_oneOf_83 : decode cX12_oneOf 83 = .ok (.if_icmp .ne 16, 3) := by decide +kernel
theorem dX12_oneOf_86 : decode cX12_oneOf 86 = .ok (.iload_n 3, 1) := by decide +kernel
theorem dX12_oneOf_87 : decode cX12_oneOf 87 = .ok (.iload 4, 2) := by decide +kernel
theorem dX12_oneOf_89 : decode cX12_oneOf 89 = .ok (.iconst 3, 1) := by decide +kernel
theorem dX12_oneOf_90 : decode cX12_oneOf 90 = .ok (.iconst 4, 1) := by decide +kernel
theorem dX12_oneOf_91 : decode cX12_oneOf 91 = .ok (.iconst 5, 1) := by decide +kernel
theorem dX12_oneOf_92 : decode cX12_oneOf 92 = .ok (.iconst 4, 1) := by decide +kernel
theorem dX12_oneOf_93 : decode cX12_oneOf 93 = .ok (.invokestatic 257, 3) := by decide +kernel
theorem dX12_oneOf_96 : decode cX12_oneOf 96 = .ok (.goto 13, 3) := by decide +kernel
theorem dX12_oneOf_99 : decode cX12_oneOf 99 = .ok (.iload_n 3, 1) := by decide +kernel
theorem dX12_oneOf_100 : decode cX12_oneOf 100 = .ok (.iload 4, 2) := by decide +kernel
theorem dX12_oneOf_102 : decode cX12_oneOf 102 = .ok (.iconst 4, 1) := by decide +kernel
theorem dX12_oneOf_103 : decode cX12_oneOf 103 = .ok (.iconst 4, 1) := by decide +kernel
theorem dX12_oneOf_104 : decode cX12_oneOf 104 = .ok (.iconst 5, 1) := by decide +kernel
theorem dX12_oneOf_105 : decode cX12_oneOf 105 = .ok (.iconst 5, 1) := by decide +kernel
theorem dX12_oneOf_106 : decode cX12_oneOf 106 = .ok (.invokestatic 257, 3) := by decide +kernel
theorem dX12_oneOf_109 : decode cX12_oneOf 109 = .ok (.istore 6, 2) := by decide +kernel
theorem dX12_oneOf_111 : decode cX12_oneOf 111 = .ok (.aload_n 0, 1) := by decide +kernel
theorem dX12_oneOf_112 : decode cX12_oneOf 112 = .ok (.iload_n 3, 1) := by decide +kernel
theorem dX12_oneOf_113 : decode cX12_oneOf 113 = .ok (.iload 4, 2) := by decide +kernel
theorem dX12_oneOf_115 : decode cX12_oneOf 115 = .ok (.iload 5, 2) := by decide +kernel
theorem dX12_oneOf_117 : decode cX12_oneOf 117 = .ok (.invokevirtual 261, 3) := by decide +kernel
theorem dX12_oneOf_120 : decode cX12_oneOf 120 = .ok (.istore 7, 2) := by decide +kernel
theorem dX12_oneOf_122 : decode cX12_oneOf 122 = .ok (.iload_n 2, 1) := by decide +kernel
theorem dX12_oneOf_123 : decode cX12_oneOf 123 = .ok (.iconst 4, 1) := by decide +kernel
theorem dX12_oneOf_124 : decode cX12_oneOf 124 = .ok (.if_icmp .ne 55, 3) := by decide +kernel
theorem dX12_oneOf_127 : decode cX12_oneOf 127 = .ok (.aload_n 0, 1) := by decide +kernel
theorem dX12_oneOf_128 : decode cX12_oneOf 128 = .ok (.iconst 1, 1) := by decide +kernel
theorem dX12_oneOf_129 : decode cX12_oneOf 129 = .ok (.aload_n 0, 1) := by decide +kernel
theorem dX12_oneOf_130 : decode cX12_oneOf 130 = .ok (.getfield 14, 3) := by decide +kernel
theorem dX12_oneOf_133 : decode cX12_oneOf 133 = .ok (.iconst 1, 1) := by decide +kernel
theorem dX12_oneOf_134 : decode cX12_oneOf 134 = .ok (.iaload, 1) := by decide +kernel
theorem dX12_oneOf_135 : decode cX12_oneOf 135 = .ok (.iconst 2, 1) := by decide +kernel
theorem dX12_oneOf_136 : decode cX12_oneOf 136 = .ok (.isub, 1) := by decide +kernel
theorem dX12_oneOf_137 : decode cX12_oneOf 137 = .ok (.invokevirtual 201, 3) := by decide +kernel
theorem dX12_oneOf_140 : decode cX12_oneOf 140 = .ok (.iload 5, 2) := by decide +kernel
theorem dX12_oneOf_142 : decode cX12_oneOf 142 = .ok (.ifCond .eq 22, 3) := by decide +kernel
theorem dX12_oneOf_145 : decode cX12_oneOf 145 = .ok (.aload_n 0, 1) := by decide +kernel
theorem dX12_oneOf_146 : decode cX12_oneOf 146 = .ok (.aload_n 0, 1) := by decide +kernel
theorem dX12_oneOf_147 : decode cX12_oneOf 147 = .ok (.getfield 14, 3) := by decide +kernel
theorem dX12_oneOf_150 : decode cX12_oneOf 150 = .ok (.iconst 1, 1) := by decide +kernel
theorem dX12_oneOf_151 : decode cX12_oneOf 151 = .ok (.iaload, 1) := by decide +kernel
theorem dX12_oneOf_152 : decode cX12_oneOf 152 = .ok (.iload 7, 2) := by decide +kernel
theorem dX12_oneOf_154 : decode cX12_oneOf 154 = .ok (.sipush 255, 3) := by decide +kernel
theorem dX12_oneOf_157 : decode cX12_oneOf 157 = .ok (.iand, 1) := by decide +kernel
theorem dX12_oneOf_158 : decode cX12_oneOf 158 = .ok (.invokevirtual 233, 3) := by decide +kernel
theorem dX12_oneOf_161 : decode cX12_oneOf 161 = .ok (.goto 15, 3) := by decide +kernel
theorem dX12_oneOf_164 : decode cX12_oneOf 164 = .ok (.aload_n 0, 1) := by decide +kernel
theorem dX12_oneOf_165 : decode cX12_oneOf 165 = .ok (.aload_n 0, 1) := by decide +kernel
theorem dX12_oneOf_166 : decode cX12_oneOf 166 = .ok (.getfield 14, 3) := by decide +kernel
theorem dX12_oneOf_169 : decode cX12_oneOf 169 = .ok (.iconst 1, 1) := by decide +kernel
theorem dX12_oneOf_170 : decode cX12_oneOf 170 = .ok (.iaload, 1) := by decide +kernel
theorem dX12_oneOf_171 : decode cX12_oneOf 171 = .ok (.iload 7, 2) := by decide +kernel
theorem dX12_oneOf_173 : decode cX12_oneOf 173 = .ok (.invokevirtual 281, 3) := by decide +kernel
theorem dX12_oneOf_176 : decode cX12_oneOf 176 = .ok (.iload 6, 2) := by decide +kernel
theorem dX12_oneOf_178 : decode cX12_oneOf 178 = .ok (.ireturn, 1) := by decide +kernel
theorem dX12_oneOf_179 : decode cX12_oneOf 179 = .ok (.iload_n 2, 1) := by decide +kernel
theorem dX12_oneOf_180 : decode cX12_oneOf 180 = .ok (.iconst 5, 1) := by decide +kernel
theorem dX12_oneOf_181 : decode cX12_oneOf 181 = .ok (.if_icmp .ne 23, 3) := by decide +kernel
theorem dX12_oneOf_184 : decode cX12_oneOf 184 = .ok (.aload_n 0, 1) := by decide +kernel
theorem dX12_oneOf_185 : decode cX12_oneOf 185 = .ok (.aload_n 0, 1) := by decide +kernel
theorem dX12_oneOf_186 : decode cX12_oneOf 186 = .ok (.getfield 14, 3) := by decide +kernel
theorem dX12_oneOf_189 : decode cX12_oneOf 189 = .ok (.iconst 0, 1) := by decide +kernel
theorem dX12_oneOf_190 : decode cX12_oneOf 190 = .ok (.iaload, 1) := by decide +kernel
theorem dX12_oneOf_191 : decode cX12_oneOf 191 = .ok (.invokevirtual 287, 3) := by decide +kernel
theorem dX12_oneOf_194 : decode cX12_oneOf 194 = .ok (.aload_n 0, 1) := by decide +kernel
theorem dX12_oneOf_195 : decode cX12_oneOf 195 = .ok (.iconst 0, 1) := by decide +kernel
theorem dX12_oneOf_196 : decode cX12_oneOf 196 = .ok (.iload 7, 2) := by decide +kernel
theorem dX12_oneOf_198 : decode cX12_oneOf 198 = .ok (.invokevirtual 201, 3) := by decide +kernel
theorem dX12_oneOf_201 : decode cX12_oneOf 201 = .ok (.iload 6, 2) := by decide +kernel
theorem dX12_oneOf_203 : decode cX12_oneOf 203 = .ok (.ireturn, 1) := by decide +kernel
theorem dX12_oneOf_204 : decode cX12_oneOf 204 = .ok (.iload 5, 2) := by decide +kernel
theorem dX12_oneOf_206 : decode cX12_oneOf 206 = .ok (.ifCond .eq 9, 3) := by decide +kernel
theorem dX12_oneOf_209 : decode cX12_oneOf 209 = .ok (.sipush 128, 3) := by decide +kernel
theorem dX12_oneOf_212 : decode cX12_oneOf 212 = .ok (.goto 6, 3) := by decide +kernel
theorem dX12_oneOf_215 : decode cX12_oneOf 215 = .ok (.ldc_w 265, 3) := by decide +kernel
theorem dX12_oneOf_218 : decode cX12_oneOf 218 = .ok (.istore 8, 2) := by decide +kernel
theorem dX12_oneOf_220 : decode cX12_oneOf 220 = .ok (.iload_n 2, 1) := by decide +kernel
theorem dX12_oneOf_221 : decode cX12_oneOf 221 = .ok (.iconst 1, 1) := by decide +kernel
theorem dX12_oneOf_222 : decode cX12_oneOf 222 = .ok (.if_icmp .ne 23, 3) := by decide +kernel
theorem dX12_oneOf_225 : decode cX12_oneOf 225 = .ok (.iload 7, 2) := by decide +kernel
theorem dX12_oneOf_227 : decode cX12_oneOf 227 = .ok (.sipush 255, 3) := by decide +kernel
theorem dX12_oneOf_230 : decode cX12_oneOf 230 = .ok (.iand, 1) := by decide +kernel
theorem dX12_oneOf_231 : decode cX12_oneOf 231 = .ok (.bipush 8, 2) := by decide +kernel
theorem dX12_oneOf_233 : decode cX12_oneOf 233 = .ok (.ishl, 1) := by decide +kernel
theorem dX12_oneOf_234 : decode cX12_oneOf 234 = .ok (.iload 7, 2) := by decide +kernel
theorem dX12_oneOf_236 : decode cX12_oneOf 236 = .ok (.bipush 8, 2) := by decide +kernel
theorem dX12_oneOf_238 : decode cX12_oneOf 238 = .ok (.ishr, 1) := by decide +kernel
theorem dX12_oneOf_239 : decode cX12_oneOf 239 = .ok (.ior, 1) := by decide +kernel
theorem dX12_oneOf_240 : decode cX12_oneOf 240 = .ok (.istore 9, 2) := by decide +kernel
theorem dX12_oneOf_242 : decode cX12_oneOf 242 = .ok (.goto 131, 3) := by decide +kernel
theorem dX12_oneOf_245 : decode cX12_oneOf 245 = .ok (.iload_n 2, 1) := by decide +kernel
theorem dX12_oneOf_246 : decode cX12_oneOf 246 = .ok (.iconst 3, 1) := by decide +kernel
theorem dX12_oneOf_247 : decode cX12_oneOf 247 = .ok (.if_icmp .ne 52, 3) := by decide +kernel
theorem dX12_oneOf_250 : decode cX12_oneOf 250 = .ok (.iload 7, 2) := by decide +kernel
theorem dX12_oneOf_252 : decode cX12_oneOf 252 = .ok (.i2b, 1) := by decide +kernel
theorem dX12_oneOf_253 : decode cX12_oneOf 253 = .ok (.ldc 205, 2) := by decide +kernel
theorem dX12_oneOf_255 : decode cX12_oneOf 255 = .ok (.iand, 1) := by decide +kernel
theorem dX12_oneOf_256 : decode cX12_oneOf 256 = .ok (.istore 9, 2) := by decide +kernel
theorem dX12_oneOf_258 : decode cX12_oneOf 258 = .ok (.aload_n 0, 1) := by decide +kernel
theorem dX12_oneOf_259 : decode cX12_oneOf 259 = .ok (.iload 9, 2) := by decide +kernel
theorem dX12_oneOf_261 : decode cX12_oneOf 261 = .ok (.ifCond .eq 7, 3) := by decide +kernel
theorem dX12_oneOf_264 : decode cX12_oneOf 264 = .ok (.iconst 1, 1) := by decide +kernel
theorem dX12_oneOf_265 : decode cX12_oneOf 265 = .ok (.goto 4, 3) := by decide +kernel
theorem dX12_oneOf_268 : decode cX12_oneOf 268 = .ok (.iconst 0, 1) := by decide +kernel
theorem dX12_oneOf_269 : decode cX12_oneOf 269 = .ok (.iload 9, 2) := by decide +kernel
theorem dX12_oneOf_271 : decode cX12_oneOf 271 = .ok (.ifCond .ne 7, 3) := by decide +kernel
theorem dX12_oneOf_274 : decode cX12_oneOf 274 = .ok (.iconst 1, 1) := by decide +kernel
theorem dX12_oneOf_275 : decode cX12_oneOf 275 = .ok (.goto 4, 3) := by decide +kernel
theorem dX12_oneOf_278 : decode cX12_oneOf 278 = .ok (.iconst 0, 1) := by decide +kernel
theorem dX12_oneOf_279 : decode cX12_oneOf 279 = .ok (.iload 9, 2) := by decide +kernel
theorem dX12_oneOf_281 : decode cX12_oneOf 281 = .ok (.iload 8, 2) := by decide +kernel
theorem dX12_oneOf_283 : decode cX12_oneOf 283 = .ok (.iand, 1) := by decide +kernel
theorem dX12_oneOf_284 : decode cX12_oneOf 284 = .ok (.ifCond .eq 7, 3) := by decide +kernel
theorem dX12_oneOf_287 : decode cX12_oneOf 287 = .ok (.iconst 1, 1) := by decide +kernel
theorem dX12_oneOf_288 : decode cX12_oneOf 288 = .ok (.goto 4, 3) := by decide +kernel
theorem dX12_oneOf_291 : decode cX12_oneOf 291 = .ok (.iconst 0, 1) := by decide +kernel
theorem dX12_oneOf_292 : decode cX12_oneOf 292 = .ok (.iconst 0, 1) := by decide +kernel
theorem dX12_oneOf_293 : decode cX12_oneOf 293 = .ok (.invokevirtual 266, 3) := by decide +kernel
theorem dX12_oneOf_296 : decode cX12_oneOf 296 = .ok (.goto 77, 3) := by decide +kernel
theorem dX12_oneOf_299 : decode cX12_oneOf 299 = .ok (.iload 7, 2) := by decide +kernel
theorem dX12_oneOf_301 : decode cX12_oneOf 301 = .ok (.iconst 1, 1) := by decide +kernel
theorem dX12_oneOf_302 : decode cX12_oneOf 302 = .ok (.ishr, 1) := by decide +kernel
theorem dX12_oneOf_303 : decode cX12_oneOf 303 = .ok (.iload_n 2, 1) := by decide +kernel
theorem dX12_oneOf_304 : decode cX12_oneOf 304 = .ok (.ifCond .ne 20, 3) := by decide +kernel
theorem dX12_oneOf_307 : decode cX12_oneOf 307 = .ok (.aload_n 0, 1) := by decide +kernel
theorem dX12_oneOf_308 : decode cX12_oneOf 308 = .ok (.iconst 1, 1) := by decide +kernel
theorem dX12_oneOf_309 : decode cX12_oneOf 309 = .ok (.invokevirtual 277, 3) := by decide +kernel
theorem dX12_oneOf_312 : decode cX12_oneOf 312 = .ok (.ifCond .eq 8, 3) := by decide +kernel
theorem dX12_oneOf_315 : decode cX12_oneOf 315 = .ok (.iload 8, 2) := by decide +kernel
theorem dX12_oneOf_317 : decode cX12_oneOf 317 = .ok (.goto 12, 3) := by decide +kernel
theorem dX12_oneOf_320 : decode cX12_oneOf 320 = .ok (.iconst 0, 1) := by decide +kernel
theorem dX12_oneOf_321 : decode cX12_oneOf 321 = .ok (.goto 8, 3) := by decide +kernel
theorem dX12_oneOf_324 : decode cX12_oneOf 324 = .ok (.iload 7, 2) := by decide +kernel
theorem dX12_oneOf_326 : decode cX12_oneOf 326 = .ok (.iload 8, 2) := by decide +kernel
theorem dX12_oneOf_328 : decode cX12_oneOf 328 = .ok (.iand, 1) := by decide +kernel
theorem dX12_oneOf_329 : decode cX12_oneOf 329 = .ok (.ior, 1) := by decide +kernel
theorem dX12_oneOf_330 : decode cX12_oneOf 330 = .ok (.istore 9, 2) := by decide +kernel
theorem dX12_oneOf_332 : decode cX12_oneOf 332 = .ok (.aload_n 0, 1) := by decide +kernel
theorem dX12_oneOf_333 : decode cX12_oneOf 333 = .ok (.iload 7, 2) := by decide +kernel
theorem dX12_oneOf_335 : decode cX12_oneOf 335 = .ok (.iconst 1, 1) := by decide +kernel
theorem dX12_oneOf_336 : decode cX12_oneOf 336 = .ok (.iand, 1) := by decide +kernel
theorem dX12_oneOf_337 : decode cX12_oneOf 337 = .ok (.iconst 1, 1) := by decide +kernel
theorem dX12_oneOf_338 : decode cX12_oneOf 338 = .ok (.if_icmp .ne 7, 3) := by decide +kernel
theorem dX12_oneOf_341 : decode cX12_oneOf 341 = .ok (.iconst 1, 1) := by decide +kernel
theorem dX12_oneOf_342 : decode cX12_oneOf 342 = .ok (.goto 4, 3) := by decide +kernel
theorem dX12_oneOf_345 : decode cX12_oneOf 345 = .ok (.iconst 0, 1) := by decide +kernel
theorem dX12_oneOf_346 : decode cX12_oneOf 346 = .ok (.iload 9, 2) := by decide +kernel
theorem dX12_oneOf_348 : decode cX12_oneOf 348 = .ok (.ifCond .ne 7, 3) := by decide +kernel
theorem dX12_oneOf_351 : decode cX12_oneOf 351 = .ok (.iconst 1, 1) := by decide +kernel
theorem dX12_oneOf_352 : decode cX12_oneOf 352 = .ok (.goto 4, 3) := by decide +kernel
theorem dX12_oneOf_355 : decode cX12_oneOf 355 = .ok (.iconst 0, 1) := by decide +kernel
theorem dX12_oneOf_356 : decode cX12_oneOf 356 = .ok (.iload 9, 2) := by decide +kernel
theorem dX12_oneOf_358 : decode cX12_oneOf 358 = .ok (.iload 8, 2) := by decide +kernel
theorem dX12_oneOf_360 : decode cX12_oneOf 360 = .ok (.iand, 1) := by decide +kernel
theorem dX12_oneOf_361 : decode cX12_oneOf 361 = .ok (.ifCond .eq 7, 3) := by decide +kernel
theorem dX12_oneOf_364 : decode cX12_oneOf 364 = .ok (.iconst 1, 1) := by decide +kernel
theorem dX12_oneOf_365 : decode cX12_oneOf 365 = .ok (.goto 4, 3) := by decide +kernel
theorem dX12_oneOf_368 : decode cX12_oneOf 368 = .ok (.iconst 0, 1) := by decide +kernel
theorem dX12_oneOf_369 : decode cX12_oneOf 369 = .ok (.iconst 0, 1) := by decide +kernel
theorem dX12_oneOf_370 : decode cX12_oneOf 370 = .ok (.invokevirtual 266, 3) := by decide +kernel
theorem dX12_oneOf_373 : decode cX12_oneOf 373 = .ok (.aload_n 0, 1) := by decide +kernel
theorem dX12_oneOf_374 : decode cX12_oneOf 374 = .ok (.getfield 245, 3) := by decide +kernel
theorem dX12_oneOf_377 : decode cX12_oneOf 377 = .ok (.ifCond .eq 34, 3) := by decide +kernel
theorem dX12_oneOf_380 : decode cX12_oneOf 380 = .ok (.iload 5, 2) := by decide +kernel
theorem dX12_oneOf_382 : decode cX12_oneOf 382 = .ok (.ifCond .eq 16, 3) := by decide +kernel
theorem dX12_oneOf_385 : decode cX12_oneOf 385 = .ok (.aload_n 0, 1) := by decide +kernel
theorem dX12_oneOf_386 : decode cX12_oneOf 386 = .ok (.aload_n 0, 1) := by decide +kernel
