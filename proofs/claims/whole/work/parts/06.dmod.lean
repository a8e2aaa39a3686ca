theorem d_Mod_init_0 : decode b_Mod_init 0 = .ok (.aload_n 0, 1) := by decide +kernel
theorem d_Mod_init_1 : decode b_Mod_init 1 = .ok (.invokespecial 1, 3) := by decide +kernel
theorem d_Mod_init_4 : decode b_Mod_init 4 = .ok (.aload_n 0, 1) := by decide +kernel
theorem d_Mod_init_5 : decode b_Mod_init 5 = .ok (.iconst 4, 1) := by decide +kernel
theorem d_Mod_init_6 : decode b_Mod_init 6 = .ok (.newarray .int, 2) := by decide +kernel
theorem d_Mod_init_8 : decode b_Mod_init 8 = .ok (.putfield 7, 3) := by decide +kernel
theorem d_Mod_init_11 : decode b_Mod_init 11 = .ok (.aload_n 0, 1) := by decide +kernel
theorem d_Mod_init_12 : decode b_Mod_init 12 = .ok (.iconst 4, 1) := by decide +kernel
theorem d_Mod_init_13 : decode b_Mod_init 13 = .ok (.newarray .int, 2) := by decide +kernel
theorem d_Mod_init_15 : decode b_Mod_init 15 = .ok (.putfield 13, 3) := by decide +kernel
theorem d_Mod_init_18 : decode b_Mod_init 18 = .ok (.aload_n 0, 1) := by decide +kernel
theorem d_Mod_init_19 : decode b_Mod_init 19 = .ok (.sipush 200, 3) := by decide +kernel
theorem d_Mod_init_22 : decode b_Mod_init 22 = .ok (.newarray .int, 2) := by decide +kernel
theorem d_Mod_init_24 : decode b_Mod_init 24 = .ok (.putfield 16, 3) := by decide +kernel
theorem d_Mod_init_27 : decode b_Mod_init 27 = .ok (.aload_n 0, 1) := by decide +kernel
theorem d_Mod_init_28 : decode b_Mod_init 28 = .ok (.sipush 200, 3) := by decide +kernel
theorem d_Mod_init_31 : decode b_Mod_init 31 = .ok (.newarray .int, 2) := by decide +kernel
theorem d_Mod_init_33 : decode b_Mod_init 33 = .ok (.putfield 19, 3) := by decide +kernel
theorem d_Mod_init_36 : decode b_Mod_init 36 = .ok (.aload_n 0, 1) := by decide +kernel
theorem d_Mod_init_37 : decode b_Mod_init 37 = .ok (.sipush 200, 3) := by decide +kernel
theorem d_Mod_init_40 : decode b_Mod_init 40 = .ok (.newarray .int, 2) := by decide +kernel
theorem d_Mod_init_42 : decode b_Mod_init 42 = .ok (.putfield 22, 3) := by decide +kernel
theorem d_Mod_init_45 : decode b_Mod_init 45 = .ok (.aload_n 0, 1) := by decide +kernel
theorem d_Mod_init_46 : decode b_Mod_init 46 = .ok (.sipush 200, 3) := by decide +kernel
theorem d_Mod_init_49 : decode b_Mod_init 49 = .ok (.newarray .long, 2) := by decide +kernel
theorem d_Mod_init_51 : decode b_Mod_init 51 = .ok (.putfield 25, 3) := by decide +kernel
theorem d_Mod_init_54 : decode b_Mod_init 54 = .ok (.aload_n 0, 1) := by decide +kernel
theorem d_Mod_init_55 : decode b_Mod_init 55 = .ok (.sipush 200, 3) := by decide +kernel
theorem d_Mod_init_58 : decode b_Mod_init 58 = .ok (.newarray .long, 2) := by decide +kernel
theorem d_Mod_init_60 : decode b_Mod_init 60 = .ok (.putfield 29, 3) := by decide +kernel
theorem d_Mod_init_63 : decode b_Mod_init 63 = .ok (.aload_n 0, 1) := by decide +kernel
theorem d_Mod_init_64 : decode b_Mod_init 64 = .ok (.bipush 8, 2) := by decide +kernel
theorem d_Mod_init_66 : decode b_Mod_init 66 = .ok (.newarray .int, 2) := by decide +kernel
theorem d_Mod_init_68 : decode b_Mod_init 68 = .ok (.putfield 32, 3) := by decide +kernel
theorem d_Mod_init_71 : decode b_Mod_init 71 = .ok (.aload_n 0, 1) := by decide +kernel
theorem d_Mod_init_72 : decode b_Mod_init 72 = .ok (.bipush 80, 2) := by decide +kernel
theorem d_Mod_init_74 : decode b_Mod_init 74 = .ok (.newarray .int, 2) := by decide +kernel
theorem d_Mod_init_76 : decode b_Mod_init 76 = .ok (.putfield 35, 3) := by decide +kernel
theorem d_Mod_init_79 : decode b_Mod_init 79 = .ok (.aload_n 0, 1) := by decide +kernel
theorem d_Mod_init_80 : decode b_Mod_init 80 = .ok (.bipush 80, 2) := by decide +kernel
theorem d_Mod_init_82 : decode b_Mod_init 82 = .ok (.newarray .long, 2) := by decide +kernel
theorem d_Mod_init_84 : decode b_Mod_init 84 = .ok (.putfield 38, 3) := by decide +kernel
theorem d_Mod_init_87 : decode b_Mod_init 87 = .ok (.aload_n 0, 1) := by decide +kernel
theorem d_Mod_init_88 : decode b_Mod_init 88 = .ok (.bipush 80, 2) := by decide +kernel
theorem d_Mod_init_90 : decode b_Mod_init 90 = .ok (.newarray .long, 2) := by decide +kernel
theorem d_Mod_init_92 : decode b_Mod_init 92 = .ok (.putfield 41, 3) := by decide +kernel
theorem d_Mod_init_95 : decode b_Mod_init 95 = .ok (.aload_n 0, 1) := by decide +kernel
theorem d_Mod_init_96 : decode b_Mod_init 96 = .ok (.bipush 80, 2) := by decide +kernel
theorem d_Mod_init_98 : decode b_Mod_init 98 = .ok (.newarray .int, 2) := by decide +kernel
theorem d_Mod_init_100 : decode b_Mod_init 100 = .ok (.putfield 44, 3) := by decide +kernel
theorem d_Mod_init_103 : decode b_Mod_init 103 = .ok (.aload_n 0, 1) := by decide +kernel
theorem d_Mod_init_104 : decode b_Mod_init 104 = .ok (.bipush 8, 2) := by decide +kernel
theorem d_Mod_init_106 : decode b_Mod_init 106 = .ok (.newarray .int, 2) := by decide +kernel
theorem d_Mod_init_108 : decode b_Mod_init 108 = .ok (.putfield 47, 3) := by decide +kernel
theorem d_Mod_init_111 : decode b_Mod_init 111 = .ok (.aload_n 0, 1) := by decide +kernel
theorem d_Mod_init_112 : decode b_Mod_init 112 = .ok (.iconst 4, 1) := by decide +kernel
theorem d_Mod_init_113 : decode b_Mod_init 113 = .ok (.newarray .int, 2) := by decide +kernel
theorem d_Mod_init_115 : decode b_Mod_init 115 = .ok (.putfield 50, 3) := by decide +kernel
theorem d_Mod_init_118 : decode b_Mod_init 118 = .ok (.aload_n 0, 1) := by decide +kernel
theorem d_Mod_init_119 : decode b_Mod_init 119 = .ok (.bipush 16, 2) := by decide +kernel
theorem d_Mod_init_121 : decode b_Mod_init 121 = .ok (.newarray .long, 2) := by decide +kernel
theorem d_Mod_init_123 : decode b_Mod_init 123 = .ok (.putfield 53, 3) := by decide +kernel
theorem d_Mod_init_126 : decode b_Mod_init 126 = .ok (.aload_n 0, 1) := by decide +kernel
theorem d_Mod_init_127 : decode b_Mod_init 127 = .ok (.bipush 16, 2) := by decide +kernel
theorem d_Mod_init_129 : decode b_Mod_init 129 = .ok (.newarray .int, 2) := by decide +kernel
theorem d_Mod_init_131 : decode b_Mod_init 131 = .ok (.putfield 56, 3) := by decide +kernel
theorem d_Mod_init_134 : decode b_Mod_init 134 = .ok (.aload_n 0, 1) := by decide +kernel
theorem d_Mod_init_135 : decode b_Mod_init 135 = .ok (.bipush 100, 2) := by decide +kernel
theorem d_Mod_init_137 : decode b_Mod_init 137 = .ok (.newarray .int, 2) := by decide +kernel
theorem d_Mod_init_139 : decode b_Mod_init 139 = .ok (.putfield 59, 3) := by decide +kernel
theorem d_Mod_init_142 : decode b_Mod_init 142 = .ok (.aload_n 0, 1) := by decide +kernel
theorem d_Mod_init_143 : decode b_Mod_init 143 = .ok (.bipush 100, 2) := by decide +kernel
theorem d_Mod_init_145 : decode b_Mod_init 145 = .ok (.newarray .boolean, 2) := by decide +kernel
theorem d_Mod_init_147 : decode b_Mod_init 147 = .ok (.putfield 62, 3) := by decide +kernel
theorem d_Mod_init_150 : decode b_Mod_init 150 = .ok (.aload_n 0, 1) := by decide +kernel
theorem d_Mod_init_151 : decode b_Mod_init 151 = .ok (.iconst 4, 1) := by decide +kernel
theorem d_Mod_init_152 : decode b_Mod_init 152 = .ok (.newarray .int, 2) := by decide +kernel
theorem d_Mod_init_154 : decode b_Mod_init 154 = .ok (.putfield 66, 3) := by decide +kernel
theorem d_Mod_init_157 : decode b_Mod_init 157 = .ok (.aload_n 0, 1) := by decide +kernel
theorem d_Mod_init_158 : decode b_Mod_init 158 = .ok (.iconst 4, 1) := by decide +kernel
theorem d_Mod_init_159 : decode b_Mod_init 159 = .ok (.newarray .int, 2) := by decide +kernel
theorem d_Mod_init_161 : decode b_Mod_init 161 = .ok (.putfield 69, 3) := by decide +kernel
theorem d_Mod_init_164 : decode b_Mod_init 164 = .ok (.aload_n 0, 1) := by decide +kernel
theorem d_Mod_init_165 : decode b_Mod_init 165 = .ok (.iconst 4, 1) := by decide +kernel
theorem d_Mod_init_166 : decode b_Mod_init 166 = .ok (.newarray .long, 2) := by decide +kernel
theorem d_Mod_init_168 : decode b_Mod_init 168 = .ok (.putfield 72, 3) := by decide +kernel
theorem d_Mod_init_171 : decode b_Mod_init 171 = .ok (.aload_n 0, 1) := by decide +kernel
theorem d_Mod_init_172 : decode b_Mod_init 172 = .ok (.iload_n 1, 1) := by decide +kernel
theorem d_Mod_init_173 : decode b_Mod_init 173 = .ok (.iconst 1, 1) := by decide +kernel
theorem d_Mod_init_174 : decode b_Mod_init 174 = .ok (.if_icmp .lt 13, 3) := by decide +kernel
theorem d_Mod_init_177 : decode b_Mod_init 177 = .ok (.iload_n 1, 1) := by decide +kernel
theorem d_Mod_init_178 : decode b_Mod_init 178 = .ok (.bipush 8, 2) := by decide +kernel
theorem d_Mod_init_180 : decode b_Mod_init 180 = .ok (.if_icmp .gt 7, 3) := by decide +kernel
theorem d_Mod_init_183 : decode b_Mod_init 183 = .ok (.iload_n 1, 1) := by decide +kernel
theorem d_Mod_init_184 : decode b_Mod_init 184 = .ok (.goto 4, 3) := by decide +kernel
theorem d_Mod_init_187 : decode b_Mod_init 187 = .ok (.iconst 1, 1) := by decide +kernel
theorem d_Mod_init_188 : decode b_Mod_init 188 = .ok (.putfield 75, 3) := by decide +kernel
theorem d_Mod_init_191 : decode b_Mod_init 191 = .ok (.aload_n 0, 1) := by decide +kernel
theorem d_Mod_init_192 : decode b_Mod_init 192 = .ok (.iload_n 2, 1) := by decide +kernel
theorem d_Mod_init_193 : decode b_Mod_init 193 = .ok (.iconst 1, 1) := by decide +kernel
theorem d_Mod_init_194 : decode b_Mod_init 194 = .ok (.if_icmp .lt 13, 3) := by decide +kernel
theorem d_Mod_init_197 : decode b_Mod_init 197 = .ok (.iload_n 2, 1) := by decide +kernel
theorem d_Mod_init_198 : decode b_Mod_init 198 = .ok (.bipush 100, 2) := by decide +kernel
theorem d_Mod_init_200 : decode b_Mod_init 200 = .ok (.if_icmp .gt 7, 3) := by decide +kernel
theorem d_Mod_init_203 : decode b_Mod_init 203 = .ok (.iload_n 2, 1) := by decide +kernel
theorem d_Mod_init_204 : decode b_Mod_init 204 = .ok (.goto 4, 3) := by decide +kernel
theorem d_Mod_init_207 : decode b_Mod_init 207 = .ok (.iconst 1, 1) := by decide +kernel
theorem d_Mod_init_208 : decode b_Mod_init 208 = .ok (.putfield 79, 3) := by decide +kernel
theorem d_Mod_init_211 : decode b_Mod_init 211 = .ok (.iconst 0, 1) := by decide +kernel
theorem d_Mod_init_212 : decode b_Mod_init 212 = .ok (.istore_n 3, 1) := by decide +kernel
theorem d_Mod_init_213 : decode b_Mod_init 213 = .ok (.iload_n 3, 1) := by decide +kernel
theorem d_Mod_init_214 : decode b_Mod_init 214 = .ok (.iconst 4, 1) := by decide +kernel
theorem d_Mod_init_215 : decode b_Mod_init 215 = .ok (.if_icmp .ge 27, 3) := by decide +kernel
theorem d_Mod_init_218 : decode b_Mod_init 218 = .ok (.aload_n 0, 1) := by decide +kernel
theorem d_Mod_init_219 : decode b_Mod_init 219 = .ok (.getfield 7, 3) := by decide +kernel
theorem d_Mod_init_222 : decode b_Mod_init 222 = .ok (.iload_n 3, 1) := by decide +kernel
theorem d_Mod_init_223 : decode b_Mod_init 223 = .ok (.sipush 500, 3) := by decide +kernel
theorem d_Mod_init_226 : decode b_Mod_init 226 = .ok (.iastore, 1) := by decide +kernel
theorem d_Mod_init_227 : decode b_Mod_init 227 = .ok (.aload_n 0, 1) := by decide +kernel
theorem d_Mod_init_228 : decode b_Mod_init 228 = .ok (.getfield 13, 3) := by decide +kernel
theorem d_Mod_init_231 : decode b_Mod_init 231 = .ok (.iload_n 3, 1) := by decide +kernel
theorem d_Mod_init_232 : decode b_Mod_init 232 = .ok (.sipush 1000, 3) := by decide +kernel
theorem d_Mod_init_235 : decode b_Mod_init 235 = .ok (.iastore, 1) := by decide +kernel
theorem d_Mod_init_236 : decode b_Mod_init 236 = .ok (.iinc 3 1, 3) := by decide +kernel
theorem d_Mod_init_239 : decode b_Mod_init 239 = .ok (.goto (-26), 3) := by decide +kernel
theorem d_Mod_init_242 : decode b_Mod_init 242 = .ok (.return_, 1) := by decide +kernel
theorem d_Mod_isIn_0 : decode b_Mod_isIn 0 = .ok (.lload_n 0, 1) := by decide +kernel
theorem d_Mod_isIn_1 : decode b_Mod_isIn 1 = .ok (.lload_n 2, 1) := by decide +kernel
theorem d_Mod_isIn_2 : decode b_Mod_isIn 2 = .ok (.lcmp, 1) := by decide +kernel
theorem d_Mod_isIn_3 : decode b_Mod_isIn 3 = .ok (.ifCond .lt 14, 3) := by decide +kernel
theorem d_Mod_isIn_6 : decode b_Mod_isIn 6 = .ok (.lload_n 0, 1) := by decide +kernel
theorem d_Mod_isIn_7 : decode b_Mod_isIn 7 = .ok (.lload 4, 2) := by decide +kernel
theorem d_Mod_isIn_9 : decode b_Mod_isIn 9 = .ok (.lcmp, 1) := by decide +kernel
theorem d_Mod_isIn_10 : decode b_Mod_isIn 10 = .ok (.ifCond .gt 7, 3) := by decide +kernel
theorem d_Mod_isIn_13 : decode b_Mod_isIn 13 = .ok (.iconst 1, 1) := by decide +kernel
theorem d_Mod_isIn_14 : decode b_Mod_isIn 14 = .ok (.goto 4, 3) := by decide +kernel
theorem d_Mod_isIn_17 : decode b_Mod_isIn 17 = .ok (.iconst 0, 1) := by decide +kernel
theorem d_Mod_isIn_18 : decode b_Mod_isIn 18 = .ok (.ireturn, 1) := by decide +kernel
theorem d_Mod_isKind_0 : decode b_Mod_isKind 0 = .ok (.iload_n 0, 1) := by decide +kernel
theorem d_Mod_isKind_1 : decode b_Mod_isKind 1 = .ok (.i2l, 1) := by decide +kernel
theorem d_Mod_isKind_2 : decode b_Mod_isKind 2 = .ok (.lconst 0, 1) := by decide +kernel
theorem d_Mod_isKind_3 : decode b_Mod_isKind 3 = .ok (.ldc2_w 82, 3) := by decide +kernel
theorem d_Mod_isKind_6 : decode b_Mod_isKind 6 = .ok (.invokestatic 84, 3) := by decide +kernel
theorem d_Mod_isKind_9 : decode b_Mod_isKind 9 = .ok (.ireturn, 1) := by decide +kernel
theorem d_Mod_isColumn_0 : decode b_Mod_isColumn 0 = .ok (.iload_n 1, 1) := by decide +kernel
theorem d_Mod_isColumn_1 : decode b_Mod_isColumn 1 = .ok (.i2l, 1) := by decide +kernel
theorem d_Mod_isColumn_2 : decode b_Mod_isColumn 2 = .ok (.lconst 0, 1) := by decide +kernel
theorem d_Mod_isColumn_3 : decode b_Mod_isColumn 3 = .ok (.aload_n 0, 1) := by decide +kernel
theorem d_Mod_isColumn_4 : decode b_Mod_isColumn 4 = .ok (.getfield 75, 3) := by decide +kernel
theorem d_Mod_isColumn_7 : decode b_Mod_isColumn 7 = .ok (.i2l, 1) := by decide +kernel
theorem d_Mod_isColumn_8 : decode b_Mod_isColumn 8 = .ok (.lconst 1, 1) := by decide +kernel
theorem d_Mod_isColumn_9 : decode b_Mod_isColumn 9 = .ok (.lsub, 1) := by decide +kernel
theorem d_Mod_isColumn_10 : decode b_Mod_isColumn 10 = .ok (.invokestatic 84, 3) := by decide +kernel
theorem d_Mod_isColumn_13 : decode b_Mod_isColumn 13 = .ok (.ireturn, 1) := by decide +kernel
theorem d_Mod_oneYear_0 : decode b_Mod_oneYear 0 = .ok (.iconst 0, 1) := by decide +kernel
theorem d_Mod_oneYear_1 : decode b_Mod_oneYear 1 = .ok (.istore_n 1, 1) := by decide +kernel
theorem d_Mod_oneYear_2 : decode b_Mod_oneYear 2 = .ok (.iload_n 1, 1) := by decide +kernel
theorem d_Mod_oneYear_3 : decode b_Mod_oneYear 3 = .ok (.aload_n 0, 1) := by decide +kernel
theorem d_Mod_oneYear_4 : decode b_Mod_oneYear 4 = .ok (.getfield 75, 3) := by decide +kernel
theorem d_Mod_oneYear_7 : decode b_Mod_oneYear 7 = .ok (.if_icmp .ge 154, 3) := by decide +kernel
theorem d_Mod_oneYear_10 : decode b_Mod_oneYear 10 = .ok (.lconst 0, 1) := by decide +kernel
theorem d_Mod_oneYear_11 : decode b_Mod_oneYear 11 = .ok (.lstore_n 2, 1) := by decide +kernel
theorem d_Mod_oneYear_12 : decode b_Mod_oneYear 12 = .ok (.aload_n 0, 1) := by decide +kernel
theorem d_Mod_oneYear_13 : decode b_Mod_oneYear 13 = .ok (.getfield 32, 3) := by decide +kernel
theorem d_Mod_oneYear_16 : decode b_Mod_oneYear 16 = .ok (.iload_n 1, 1) := by decide +kernel
theorem d_Mod_oneYear_17 : decode b_Mod_oneYear 17 = .ok (.iaload, 1) := by decide +kernel
theorem d_Mod_oneYear_18 : decode b_Mod_oneYear 18 = .ok (.iconst 1, 1) := by decide +kernel
theorem d_Mod_oneYear_19 : decode b_Mod_oneYear 19 = .ok (.isub, 1) := by decide +kernel
theorem d_Mod_oneYear_20 : decode b_Mod_oneYear 20 = .ok (.istore 4, 2) := by decide +kernel
theorem d_Mod_oneYear_22 : decode b_Mod_oneYear 22 = .ok (.iload 4, 2) := by decide +kernel
theorem d_Mod_oneYear_24 : decode b_Mod_oneYear 24 = .ok (.ifCond .lt 131, 3) := by decide +kernel
theorem d_Mod_oneYear_27 : decode b_Mod_oneYear 27 = .ok (.bipush 10, 2) := by decide +kernel
theorem d_Mod_oneYear_29 : decode b_Mod_oneYear 29 = .ok (.iload_n 1, 1) := by decide +kernel
theorem d_Mod_oneYear_30 : decode b_Mod_oneYear 30 = .ok (.imul, 1) := by decide +kernel
theorem d_Mod_oneYear_31 : decode b_Mod_oneYear 31 = .ok (.iload 4, 2) := by decide +kernel
theorem d_Mod_oneYear_33 : decode b_Mod_oneYear 33 = .ok (.iadd, 1) := by decide +kernel
theorem d_Mod_oneYear_34 : decode b_Mod_oneYear 34 = .ok (.istore 5, 2) := by decide +kernel
theorem d_Mod_oneYear_36 : decode b_Mod_oneYear 36 = .ok (.aload_n 0, 1) := by decide +kernel
theorem d_Mod_oneYear_37 : decode b_Mod_oneYear 37 = .ok (.getfield 35, 3) := by decide +kernel
theorem d_Mod_oneYear_40 : decode b_Mod_oneYear 40 = .ok (.iload 5, 2) := by decide +kernel
theorem d_Mod_oneYear_42 : decode b_Mod_oneYear 42 = .ok (.iaload, 1) := by decide +kernel
theorem d_Mod_oneYear_43 : decode b_Mod_oneYear 43 = .ok (.istore 6, 2) := by decide +kernel
theorem d_Mod_oneYear_45 : decode b_Mod_oneYear 45 = .ok (.lconst 0, 1) := by decide +kernel
theorem d_Mod_oneYear_46 : decode b_Mod_oneYear 46 = .ok (.lstore 7, 2) := by decide +kernel
theorem d_Mod_oneYear_48 : decode b_Mod_oneYear 48 = .ok (.iconst 0, 1) := by decide +kernel
theorem d_Mod_oneYear_49 : decode b_Mod_oneYear 49 = .ok (.istore 9, 2) := by decide +kernel
theorem d_Mod_oneYear_51 : decode b_Mod_oneYear 51 = .ok (.iload 9, 2) := by decide +kernel
theorem d_Mod_oneYear_53 : decode b_Mod_oneYear 53 = .ok (.aload_n 0, 1) := by decide +kernel
theorem d_Mod_oneYear_54 : decode b_Mod_oneYear 54 = .ok (.getfield 50, 3) := by decide +kernel
theorem d_Mod_oneYear_57 : decode b_Mod_oneYear 57 = .ok (.iload 6, 2) := by decide +kernel
theorem d_Mod_oneYear_59 : decode b_Mod_oneYear 59 = .ok (.iaload, 1) := by decide +kernel
theorem d_Mod_oneYear_60 : decode b_Mod_oneYear 60 = .ok (.if_icmp .ge 46, 3) := by decide +kernel
theorem d_Mod_oneYear_63 : decode b_Mod_oneYear 63 = .ok (.aload_n 0, 1) := by decide +kernel
theorem d_Mod_oneYear_64 : decode b_Mod_oneYear 64 = .ok (.getfield 53, 3) := by decide +kernel
theorem d_Mod_oneYear_67 : decode b_Mod_oneYear 67 = .ok (.iconst 4, 1) := by decide +kernel
theorem d_Mod_oneYear_68 : decode b_Mod_oneYear 68 = .ok (.iload 6, 2) := by decide +kernel
theorem d_Mod_oneYear_70 : decode b_Mod_oneYear 70 = .ok (.imul, 1) := by decide +kernel
theorem d_Mod_oneYear_71 : decode b_Mod_oneYear 71 = .ok (.iload 9, 2) := by decide +kernel
theorem d_Mod_oneYear_73 : decode b_Mod_oneYear 73 = .ok (.iadd, 1) := by decide +kernel
theorem d_Mod_oneYear_74 : decode b_Mod_oneYear 74 = .ok (.laload, 1) := by decide +kernel
theorem d_Mod_oneYear_75 : decode b_Mod_oneYear 75 = .ok (.lload_n 2, 1) := by decide +kernel
theorem d_Mod_oneYear_76 : decode b_Mod_oneYear 76 = .ok (.lcmp, 1) := by decide +kernel
theorem d_Mod_oneYear_77 : decode b_Mod_oneYear 77 = .ok (.ifCond .gt 19, 3) := by decide +kernel
theorem d_Mod_oneYear_80 : decode b_Mod_oneYear 80 = .ok (.aload_n 0, 1) := by decide +kernel
theorem d_Mod_oneYear_81 : decode b_Mod_oneYear 81 = .ok (.getfield 56, 3) := by decide +kernel
theorem d_Mod_oneYear_84 : decode b_Mod_oneYear 84 = .ok (.iconst 4, 1) := by decide +kernel
theorem d_Mod_oneYear_85 : decode b_Mod_oneYear 85 = .ok (.iload 6, 2) := by decide +kernel
theorem d_Mod_oneYear_87 : decode b_Mod_oneYear 87 = .ok (.imul, 1) := by decide +kernel
theorem d_Mod_oneYear_88 : decode b_Mod_oneYear 88 = .ok (.iload 9, 2) := by decide +kernel
theorem d_Mod_oneYear_90 : decode b_Mod_oneYear 90 = .ok (.iadd, 1) := by decide +kernel
theorem d_Mod_oneYear_91 : decode b_Mod_oneYear 91 = .ok (.iaload, 1) := by decide +kernel
theorem d_Mod_oneYear_92 : decode b_Mod_oneYear 92 = .ok (.i2l, 1) := by decide +kernel
theorem d_Mod_oneYear_93 : decode b_Mod_oneYear 93 = .ok (.goto 5, 3) := by decide +kernel
theorem d_Mod_oneYear_96 : decode b_Mod_oneYear 96 = .ok (.lload 7, 2) := by decide +kernel
theorem d_Mod_oneYear_98 : decode b_Mod_oneYear 98 = .ok (.lstore 7, 2) := by decide +kernel
theorem d_Mod_oneYear_100 : decode b_Mod_oneYear 100 = .ok (.iinc 9 1, 3) := by decide +kernel
theorem d_Mod_oneYear_103 : decode b_Mod_oneYear 103 = .ok (.goto (-52), 3) := by decide +kernel
theorem d_Mod_oneYear_106 : decode b_Mod_oneYear 106 = .ok (.aload_n 0, 1) := by decide +kernel
theorem d_Mod_oneYear_107 : decode b_Mod_oneYear 107 = .ok (.getfield 41, 3) := by decide +kernel
theorem d_Mod_oneYear_110 : decode b_Mod_oneYear 110 = .ok (.iload 5, 2) := by decide +kernel
theorem d_Mod_oneYear_112 : decode b_Mod_oneYear 112 = .ok (.dup2, 1) := by decide +kernel
theorem d_Mod_oneYear_113 : decode b_Mod_oneYear 113 = .ok (.laload, 1) := by decide +kernel
theorem d_Mod_oneYear_114 : decode b_Mod_oneYear 114 = .ok (.aload_n 0, 1) := by decide +kernel
theorem d_Mod_oneYear_115 : decode b_Mod_oneYear 115 = .ok (.getfield 41, 3) := by decide +kernel
theorem d_Mod_oneYear_118 : decode b_Mod_oneYear 118 = .ok (.iload 5, 2) := by decide +kernel
theorem d_Mod_oneYear_120 : decode b_Mod_oneYear 120 = .ok (.laload, 1) := by decide +kernel
theorem d_Mod_oneYear_121 : decode b_Mod_oneYear 121 = .ok (.lload 7, 2) := by decide +kernel
theorem d_Mod_oneYear_123 : decode b_Mod_oneYear 123 = .ok (.lmul, 1) := by decide +kernel
theorem d_Mod_oneYear_124 : decode b_Mod_oneYear 124 = .ok (.aload_n 0, 1) := by decide +kernel
theorem d_Mod_oneYear_125 : decode b_Mod_oneYear 125 = .ok (.getfield 13, 3) := by decide +kernel
theorem d_Mod_oneYear_128 : decode b_Mod_oneYear 128 = .ok (.iload 6, 2) := by decide +kernel
theorem d_Mod_oneYear_130 : decode b_Mod_oneYear 130 = .ok (.iaload, 1) := by decide +kernel
theorem d_Mod_oneYear_131 : decode b_Mod_oneYear 131 = .ok (.i2l, 1) := by decide +kernel
theorem d_Mod_oneYear_132 : decode b_Mod_oneYear 132 = .ok (.lmul, 1) := by decide +kernel
theorem d_Mod_oneYear_133 : decode b_Mod_oneYear 133 = .ok (.ldc2_w 88, 3) := by decide +kernel
theorem d_Mod_oneYear_136 : decode b_Mod_oneYear 136 = .ok (.ldiv, 1) := by decide +kernel
theorem d_Mod_oneYear_137 : decode b_Mod_oneYear 137 = .ok (.lsub, 1) := by decide +kernel
theorem d_Mod_oneYear_138 : decode b_Mod_oneYear 138 = .ok (.lastore, 1) := by decide +kernel
theorem d_Mod_oneYear_139 : decode b_Mod_oneYear 139 = .ok (.lload_n 2, 1) := by decide +kernel
theorem d_Mod_oneYear_140 : decode b_Mod_oneYear 140 = .ok (.aload_n 0, 1) := by decide +kernel
theorem d_Mod_oneYear_141 : decode b_Mod_oneYear 141 = .ok (.getfield 38, 3) := by decide +kernel
theorem d_Mod_oneYear_144 : decode b_Mod_oneYear 144 = .ok (.iload 5, 2) := by decide +kernel
theorem d_Mod_oneYear_146 : decode b_Mod_oneYear 146 = .ok (.laload, 1) := by decide +kernel
theorem d_Mod_oneYear_147 : decode b_Mod_oneYear 147 = .ok (.ladd, 1) := by decide +kernel
theorem d_Mod_oneYear_148 : decode b_Mod_oneYear 148 = .ok (.lstore_n 2, 1) := by decide +kernel
theorem d_Mod_oneYear_149 : decode b_Mod_oneYear 149 = .ok (.iinc 4 (-1), 3) := by decide +kernel
theorem d_Mod_oneYear_152 : decode b_Mod_oneYear 152 = .ok (.goto (-130), 3) := by decide +kernel
theorem d_Mod_oneYear_155 : decode b_Mod_oneYear 155 = .ok (.iinc 1 1, 3) := by decide +kernel
theorem d_Mod_oneYear_158 : decode b_Mod_oneYear 158 = .ok (.goto (-156), 3) := by decide +kernel
theorem d_Mod_oneYear_161 : decode b_Mod_oneYear 161 = .ok (.aload_n 0, 1) := by decide +kernel
theorem d_Mod_oneYear_162 : decode b_Mod_oneYear 162 = .ok (.dup, 1) := by decide +kernel
theorem d_Mod_oneYear_163 : decode b_Mod_oneYear 163 = .ok (.getfield 90, 3) := by decide +kernel
theorem d_Mod_oneYear_166 : decode b_Mod_oneYear 166 = .ok (.iconst 1, 1) := by decide +kernel
theorem d_Mod_oneYear_167 : decode b_Mod_oneYear 167 = .ok (.iadd, 1) := by decide +kernel
theorem d_Mod_oneYear_168 : decode b_Mod_oneYear 168 = .ok (.putfield 90, 3) := by decide +kernel
theorem d_Mod_oneYear_171 : decode b_Mod_oneYear 171 = .ok (.return_, 1) := by decide +kernel
theorem d_Mod_onePass_0 : decode b_Mod_onePass 0 = .ok (.bipush 10, 2) := by decide +kernel
theorem d_Mod_onePass_2 : decode b_Mod_onePass 2 = .ok (.iload_n 1, 1) := by decide +kernel
theorem d_Mod_onePass_3 : decode b_Mod_onePass 3 = .ok (.imul, 1) := by decide +kernel
theorem d_Mod_onePass_4 : decode b_Mod_onePass 4 = .ok (.aload_n 0, 1) := by decide +kernel
theorem d_Mod_onePass_5 : decode b_Mod_onePass 5 = .ok (.getfield 32, 3) := by decide +kernel
theorem d_Mod_onePass_8 : decode b_Mod_onePass 8 = .ok (.iload_n 1, 1) := by decide +kernel
theorem d_Mod_onePass_9 : decode b_Mod_onePass 9 = .ok (.iaload, 1) := by decide +kernel
theorem d_Mod_onePass_10 : decode b_Mod_onePass 10 = .ok (.iadd, 1) := by decide +kernel
theorem d_Mod_onePass_11 : decode b_Mod_onePass 11 = .ok (.iconst 1, 1) := by decide +kernel
theorem d_Mod_onePass_12 : decode b_Mod_onePass 12 = .ok (.isub, 1) := by decide +kernel
theorem d_Mod_onePass_13 : decode b_Mod_onePass 13 = .ok (.istore_n 2, 1) := by decide +kernel
theorem d_Mod_onePass_14 : decode b_Mod_onePass 14 = .ok (.aload_n 0, 1) := by decide +kernel
theorem d_Mod_onePass_15 : decode b_Mod_onePass 15 = .ok (.getfield 41, 3) := by decide +kernel
theorem d_Mod_onePass_18 : decode b_Mod_onePass 18 = .ok (.iload_n 2, 1) := by decide +kernel
theorem d_Mod_onePass_19 : decode b_Mod_onePass 19 = .ok (.dup2, 1) := by decide +kernel
theorem d_Mod_onePass_20 : decode b_Mod_onePass 20 = .ok (.laload, 1) := by decide +kernel
theorem d_Mod_onePass_21 : decode b_Mod_onePass 21 = .ok (.aload_n 0, 1) := by decide +kernel
theorem d_Mod_onePass_22 : decode b_Mod_onePass 22 = .ok (.getfield 41, 3) := by decide +kernel
theorem d_Mod_onePass_25 : decode b_Mod_onePass 25 = .ok (.iload_n 2, 1) := by decide +kernel
theorem d_Mod_onePass_26 : decode b_Mod_onePass 26 = .ok (.laload, 1) := by decide +kernel
theorem d_Mod_onePass_27 : decode b_Mod_onePass 27 = .ok (.bipush 8, 2) := by decide +kernel
theorem d_Mod_onePass_29 : decode b_Mod_onePass 29 = .ok (.aload_n 0, 1) := by decide +kernel
theorem d_Mod_onePass_30 : decode b_Mod_onePass 30 = .ok (.getfield 44, 3) := by decide +kernel
theorem d_Mod_onePass_33 : decode b_Mod_onePass 33 = .ok (.iload_n 2, 1) := by decide +kernel
theorem d_Mod_onePass_34 : decode b_Mod_onePass 34 = .ok (.iaload, 1) := by decide +kernel
theorem d_Mod_onePass_35 : decode b_Mod_onePass 35 = .ok (.iadd, 1) := by decide +kernel
theorem d_Mod_onePass_36 : decode b_Mod_onePass 36 = .ok (.i2l, 1) := by decide +kernel
theorem d_Mod_onePass_37 : decode b_Mod_onePass 37 = .ok (.ldiv, 1) := by decide +kernel
theorem d_Mod_onePass_38 : decode b_Mod_onePass 38 = .ok (.lsub, 1) := by decide +kernel
theorem d_Mod_onePass_39 : decode b_Mod_onePass 39 = .ok (.lastore, 1) := by decide +kernel
theorem d_Mod_onePass_40 : decode b_Mod_onePass 40 = .ok (.aload_n 0, 1) := by decide +kernel
theorem d_Mod_onePass_41 : decode b_Mod_onePass 41 = .ok (.getfield 44, 3) := by decide +kernel
theorem d_Mod_onePass_44 : decode b_Mod_onePass 44 = .ok (.iload_n 2, 1) := by decide +kernel
theorem d_Mod_onePass_45 : decode b_Mod_onePass 45 = .ok (.dup2, 1) := by decide +kernel
theorem d_Mod_onePass_46 : decode b_Mod_onePass 46 = .ok (.iaload, 1) := by decide +kernel
theorem d_Mod_onePass_47 : decode b_Mod_onePass 47 = .ok (.iconst 1, 1) := by decide +kernel
theorem d_Mod_onePass_48 : decode b_Mod_onePass 48 = .ok (.iadd, 1) := by decide +kernel
theorem d_Mod_onePass_49 : decode b_Mod_onePass 49 = .ok (.iastore, 1) := by decide +kernel
theorem d_Mod_onePass_50 : decode b_Mod_onePass 50 = .ok (.return_, 1) := by decide +kernel
theorem d_Mod_heightOf_0 : decode b_Mod_heightOf 0 = .ok (.ldc2_w 93, 3) := by decide +kernel
theorem d_Mod_heightOf_3 : decode b_Mod_heightOf 3 = .ok (.aload_n 0, 1) := by decide +kernel
theorem d_Mod_heightOf_4 : decode b_Mod_heightOf 4 = .ok (.getfield 47, 3) := by decide +kernel
theorem d_Mod_heightOf_7 : decode b_Mod_heightOf 7 = .ok (.iload_n 1, 1) := by decide +kernel
theorem d_Mod_heightOf_8 : decode b_Mod_heightOf 8 = .ok (.iaload, 1) := by decide +kernel
theorem d_Mod_heightOf_9 : decode b_Mod_heightOf 9 = .ok (.i2l, 1) := by decide +kernel
theorem d_Mod_heightOf_10 : decode b_Mod_heightOf 10 = .ok (.lmul, 1) := by decide +kernel
theorem d_Mod_heightOf_11 : decode b_Mod_heightOf 11 = .ok (.lstore_n 2, 1) := by decide +kernel
theorem d_Mod_heightOf_12 : decode b_Mod_heightOf 12 = .ok (.iconst 0, 1) := by decide +kernel
theorem d_Mod_heightOf_13 : decode b_Mod_heightOf 13 = .ok (.istore 4, 2) := by decide +kernel
theorem d_Mod_heightOf_15 : decode b_Mod_heightOf 15 = .ok (.iload 4, 2) := by decide +kernel
theorem d_Mod_heightOf_17 : decode b_Mod_heightOf 17 = .ok (.aload_n 0, 1) := by decide +kernel
theorem d_Mod_heightOf_18 : decode b_Mod_heightOf 18 = .ok (.getfield 32, 3) := by decide +kernel
theorem d_Mod_heightOf_21 : decode b_Mod_heightOf 21 = .ok (.iload_n 1, 1) := by decide +kernel
theorem d_Mod_heightOf_22 : decode b_Mod_heightOf 22 = .ok (.iaload, 1) := by decide +kernel
theorem d_Mod_heightOf_23 : decode b_Mod_heightOf 23 = .ok (.if_icmp .ge 24, 3) := by decide +kernel
theorem d_Mod_heightOf_26 : decode b_Mod_heightOf 26 = .ok (.lload_n 2, 1) := by decide +kernel
theorem d_Mod_heightOf_27 : decode b_Mod_heightOf 27 = .ok (.aload_n 0, 1) := by decide +kernel
theorem d_Mod_heightOf_28 : decode b_Mod_heightOf 28 = .ok (.getfield 41, 3) := by decide +kernel
theorem d_Mod_heightOf_31 : decode b_Mod_heightOf 31 = .ok (.bipush 10, 2) := by decide +kernel
theorem d_Mod_heightOf_33 : decode b_Mod_heightOf 33 = .ok (.iload_n 1, 1) := by decide +kernel
theorem d_Mod_heightOf_34 : decode b_Mod_heightOf 34 = .ok (.imul, 1) := by decide +kernel
theorem d_Mod_heightOf_35 : decode b_Mod_heightOf 35 = .ok (.iload 4, 2) := by decide +kernel
theorem d_Mod_heightOf_37 : decode b_Mod_heightOf 37 = .ok (.iadd, 1) := by decide +kernel
theorem d_Mod_heightOf_38 : decode b_Mod_heightOf 38 = .ok (.laload, 1) := by decide +kernel
theorem d_Mod_heightOf_39 : decode b_Mod_heightOf 39 = .ok (.ladd, 1) := by decide +kernel
theorem d_Mod_heightOf_40 : decode b_Mod_heightOf 40 = .ok (.lstore_n 2, 1) := by decide +kernel
theorem d_Mod_heightOf_41 : decode b_Mod_heightOf 41 = .ok (.iinc 4 1, 3) := by decide +kernel
theorem d_Mod_heightOf_44 : decode b_Mod_heightOf 44 = .ok (.goto (-29), 3) := by decide +kernel
theorem d_Mod_heightOf_47 : decode b_Mod_heightOf 47 = .ok (.lload_n 2, 1) := by decide +kernel
theorem d_Mod_heightOf_48 : decode b_Mod_heightOf 48 = .ok (.lreturn, 1) := by decide +kernel
theorem d_Mod_act_0 : decode b_Mod_act 0 = .ok (.aload_n 0, 1) := by decide +kernel
theorem d_Mod_act_1 : decode b_Mod_act 1 = .ok (.getfield 19, 3) := by decide +kernel
theorem d_Mod_act_4 : decode b_Mod_act 4 = .ok (.iload_n 1, 1) := by decide +kernel
theorem d_Mod_act_5 : decode b_Mod_act 5 = .ok (.iaload, 1) := by decide +kernel
theorem d_Mod_act_6 : decode b_Mod_act 6 = .ok (.istore_n 2, 1) := by decide +kernel
theorem d_Mod_act_7 : decode b_Mod_act 7 = .ok (.aload_n 0, 1) := by decide +kernel
theorem d_Mod_act_8 : decode b_Mod_act 8 = .ok (.getfield 16, 3) := by decide +kernel
theorem d_Mod_act_11 : decode b_Mod_act 11 = .ok (.iload_n 1, 1) := by decide +kernel
theorem d_Mod_act_12 : decode b_Mod_act 12 = .ok (.iaload, 1) := by decide +kernel
theorem d_Mod_act_13 : decode b_Mod_act 13 = .ok (.ifCond .ne 51, 3) := by decide +kernel
theorem d_Mod_act_16 : decode b_Mod_act 16 = .ok (.iconst 4, 1) := by decide +kernel
theorem d_Mod_act_17 : decode b_Mod_act 17 = .ok (.iload_n 2, 1) := by decide +kernel
theorem d_Mod_act_18 : decode b_Mod_act 18 = .ok (.imul, 1) := by decide +kernel
theorem d_Mod_act_19 : decode b_Mod_act 19 = .ok (.aload_n 0, 1) := by decide +kernel
theorem d_Mod_act_20 : decode b_Mod_act 20 = .ok (.getfield 50, 3) := by decide +kernel
theorem d_Mod_act_23 : decode b_Mod_act 23 = .ok (.iload_n 2, 1) := by decide +kernel
theorem d_Mod_act_24 : decode b_Mod_act 24 = .ok (.iaload, 1) := by decide +kernel
theorem d_Mod_act_25 : decode b_Mod_act 25 = .ok (.iadd, 1) := by decide +kernel
theorem d_Mod_act_26 : decode b_Mod_act 26 = .ok (.istore_n 3, 1) := by decide +kernel
theorem d_Mod_act_27 : decode b_Mod_act 27 = .ok (.aload_n 0, 1) := by decide +kernel
theorem d_Mod_act_28 : decode b_Mod_act 28 = .ok (.getfield 53, 3) := by decide +kernel
theorem d_Mod_act_31 : decode b_Mod_act 31 = .ok (.iload_n 3, 1) := by decide +kernel
theorem d_Mod_act_32 : decode b_Mod_act 32 = .ok (.aload_n 0, 1) := by decide +kernel
theorem d_Mod_act_33 : decode b_Mod_act 33 = .ok (.getfield 25, 3) := by decide +kernel
theorem d_Mod_act_36 : decode b_Mod_act 36 = .ok (.iload_n 1, 1) := by decide +kernel
theorem d_Mod_act_37 : decode b_Mod_act 37 = .ok (.laload, 1) := by decide +kernel
theorem d_Mod_act_38 : decode b_Mod_act 38 = .ok (.lastore, 1) := by decide +kernel
theorem d_Mod_act_39 : decode b_Mod_act 39 = .ok (.aload_n 0, 1) := by decide +kernel
theorem d_Mod_act_40 : decode b_Mod_act 40 = .ok (.getfield 56, 3) := by decide +kernel
theorem d_Mod_act_43 : decode b_Mod_act 43 = .ok (.iload_n 3, 1) := by decide +kernel
theorem d_Mod_act_44 : decode b_Mod_act 44 = .ok (.aload_n 0, 1) := by decide +kernel
theorem d_Mod_act_45 : decode b_Mod_act 45 = .ok (.getfield 22, 3) := by decide +kernel
theorem d_Mod_act_48 : decode b_Mod_act 48 = .ok (.iload_n 1, 1) := by decide +kernel
theorem d_Mod_act_49 : decode b_Mod_act 49 = .ok (.iaload, 1) := by decide +kernel
theorem d_Mod_act_50 : decode b_Mod_act 50 = .ok (.iastore, 1) := by decide +kernel
theorem d_Mod_act_51 : decode b_Mod_act 51 = .ok (.aload_n 0, 1) := by decide +kernel
theorem d_Mod_act_52 : decode b_Mod_act 52 = .ok (.getfield 50, 3) := by decide +kernel
theorem d_Mod_act_55 : decode b_Mod_act 55 = .ok (.iload_n 2, 1) := by decide +kernel
theorem d_Mod_act_56 : decode b_Mod_act 56 = .ok (.dup2, 1) := by decide +kernel
theorem d_Mod_act_57 : decode b_Mod_act 57 = .ok (.iaload, 1) := by decide +kernel
theorem d_Mod_act_58 : decode b_Mod_act 58 = .ok (.iconst 1, 1) := by decide +kernel
theorem d_Mod_act_59 : decode b_Mod_act 59 = .ok (.iadd, 1) := by decide +kernel
theorem d_Mod_act_60 : decode b_Mod_act 60 = .ok (.iastore, 1) := by decide +kernel
theorem d_Mod_act_61 : decode b_Mod_act 61 = .ok (.goto 258, 3) := by decide +kernel
theorem d_Mod_act_64 : decode b_Mod_act 64 = .ok (.aload_n 0, 1) := by decide +kernel
theorem d_Mod_act_65 : decode b_Mod_act 65 = .ok (.getfield 16, 3) := by decide +kernel
theorem d_Mod_act_68 : decode b_Mod_act 68 = .ok (.iload_n 1, 1) := by decide +kernel
theorem d_Mod_act_69 : decode b_Mod_act 69 = .ok (.iaload, 1) := by decide +kernel
theorem d_Mod_act_70 : decode b_Mod_act 70 = .ok (.iconst 1, 1) := by decide +kernel
theorem d_Mod_act_71 : decode b_Mod_act 71 = .ok (.if_icmp .ne 71, 3) := by decide +kernel
theorem d_Mod_act_74 : decode b_Mod_act 74 = .ok (.bipush 10, 2) := by decide +kernel
theorem d_Mod_act_76 : decode b_Mod_act 76 = .ok (.iload_n 2, 1) := by decide +kernel
theorem d_Mod_act_77 : decode b_Mod_act 77 = .ok (.imul, 1) := by decide +kernel
theorem d_Mod_act_78 : decode b_Mod_act 78 = .ok (.aload_n 0, 1) := by decide +kernel
theorem d_Mod_act_79 : decode b_Mod_act 79 = .ok (.getfield 32, 3) := by decide +kernel
theorem d_Mod_act_82 : decode b_Mod_act 82 = .ok (.iload_n 2, 1) := by decide +kernel
theorem d_Mod_act_83 : decode b_Mod_act 83 = .ok (.iaload, 1) := by decide +kernel
theorem d_Mod_act_84 : decode b_Mod_act 84 = .ok (.iadd, 1) := by decide +kernel
theorem d_Mod_act_85 : decode b_Mod_act 85 = .ok (.istore_n 3, 1) := by decide +kernel
theorem d_Mod_act_86 : decode b_Mod_act 86 = .ok (.aload_n 0, 1) := by decide +kernel
theorem d_Mod_act_87 : decode b_Mod_act 87 = .ok (.getfield 35, 3) := by decide +kernel
theorem d_Mod_act_90 : decode b_Mod_act 90 = .ok (.iload_n 3, 1) := by decide +kernel
theorem d_Mod_act_91 : decode b_Mod_act 91 = .ok (.aload_n 0, 1) := by decide +kernel
theorem d_Mod_act_92 : decode b_Mod_act 92 = .ok (.getfield 22, 3) := by decide +kernel
theorem d_Mod_act_95 : decode b_Mod_act 95 = .ok (.iload_n 1, 1) := by decide +kernel
theorem d_Mod_act_96 : decode b_Mod_act 96 = .ok (.iaload, 1) := by decide +kernel
theorem d_Mod_act_97 : decode b_Mod_act 97 = .ok (.iastore, 1) := by decide +kernel
theorem d_Mod_act_98 : decode b_Mod_act 98 = .ok (.aload_n 0, 1) := by decide +kernel
theorem d_Mod_act_99 : decode b_Mod_act 99 = .ok (.getfield 38, 3) := by decide +kernel
theorem d_Mod_act_102 : decode b_Mod_act 102 = .ok (.iload_n 3, 1) := by decide +kernel
theorem d_Mod_act_103 : decode b_Mod_act 103 = .ok (.aload_n 0, 1) := by decide +kernel
theorem d_Mod_act_104 : decode b_Mod_act 104 = .ok (.getfield 25, 3) := by decide +kernel
theorem d_Mod_act_107 : decode b_Mod_act 107 = .ok (.iload_n 1, 1) := by decide +kernel
theorem d_Mod_act_108 : decode b_Mod_act 108 = .ok (.laload, 1) := by decide +kernel
theorem d_Mod_act_109 : decode b_Mod_act 109 = .ok (.lastore, 1) := by decide +kernel
theorem d_Mod_act_110 : decode b_Mod_act 110 = .ok (.aload_n 0, 1) := by decide +kernel
theorem d_Mod_act_111 : decode b_Mod_act 111 = .ok (.getfield 41, 3) := by decide +kernel
theorem d_Mod_act_114 : decode b_Mod_act 114 = .ok (.iload_n 3, 1) := by decide +kernel
theorem d_Mod_act_115 : decode b_Mod_act 115 = .ok (.aload_n 0, 1) := by decide +kernel
theorem d_Mod_act_116 : decode b_Mod_act 116 = .ok (.getfield 29, 3) := by decide +kernel
theorem d_Mod_act_119 : decode b_Mod_act 119 = .ok (.iload_n 1, 1) := by decide +kernel
theorem d_Mod_act_120 : decode b_Mod_act 120 = .ok (.laload, 1) := by decide +kernel
theorem d_Mod_act_121 : decode b_Mod_act 121 = .ok (.lastore, 1) := by decide +kernel
theorem d_Mod_act_122 : decode b_Mod_act 122 = .ok (.aload_n 0, 1) := by decide +kernel
theorem d_Mod_act_123 : decode b_Mod_act 123 = .ok (.getfield 44, 3) := by decide +kernel
theorem d_Mod_act_126 : decode b_Mod_act 126 = .ok (.iload_n 3, 1) := by decide +kernel
theorem d_Mod_act_127 : decode b_Mod_act 127 = .ok (.iconst 0, 1) := by decide +kernel
theorem d_Mod_act_128 : decode b_Mod_act 128 = .ok (.iastore, 1) := by decide +kernel
theorem d_Mod_act_129 : decode b_Mod_act 129 = .ok (.aload_n 0, 1) := by decide +kernel
theorem d_Mod_act_130 : decode b_Mod_act 130 = .ok (.getfield 32, 3) := by decide +kernel
theorem d_Mod_act_133 : decode b_Mod_act 133 = .ok (.iload_n 2, 1) := by decide +kernel
theorem d_Mod_act_134 : decode b_Mod_act 134 = .ok (.dup2, 1) := by decide +kernel
theorem d_Mod_act_135 : decode b_Mod_act 135 = .ok (.iaload, 1) := by decide +kernel
theorem d_Mod_act_136 : decode b_Mod_act 136 = .ok (.iconst 1, 1) := by decide +kernel
theorem d_Mod_act_137 : decode b_Mod_act 137 = .ok (.iadd, 1) := by decide +kernel
theorem d_Mod_act_138 : decode b_Mod_act 138 = .ok (.iastore, 1) := by decide +kernel
theorem d_Mod_act_139 : decode b_Mod_act 139 = .ok (.goto 180, 3) := by decide +kernel
theorem d_Mod_act_142 : decode b_Mod_act 142 = .ok (.aload_n 0, 1) := by decide +kernel
theorem d_Mod_act_143 : decode b_Mod_act 143 = .ok (.getfield 16, 3) := by decide +kernel
theorem d_Mod_act_146 : decode b_Mod_act 146 = .ok (.iload_n 1, 1) := by decide +kernel
theorem d_Mod_act_147 : decode b_Mod_act 147 = .ok (.iaload, 1) := by decide +kernel
theorem d_Mod_act_148 : decode b_Mod_act 148 = .ok (.iconst 2, 1) := by decide +kernel
theorem d_Mod_act_149 : decode b_Mod_act 149 = .ok (.if_icmp .ne 29, 3) := by decide +kernel
theorem d_Mod_act_152 : decode b_Mod_act 152 = .ok (.iconst 0, 1) := by decide +kernel
theorem d_Mod_act_153 : decode b_Mod_act 153 = .ok (.istore_n 3, 1) := by decide +kernel
theorem d_Mod_act_154 : decode b_Mod_act 154 = .ok (.iload_n 3, 1) := by decide +kernel
theorem d_Mod_act_155 : decode b_Mod_act 155 = .ok (.aload_n 0, 1) := by decide +kernel
theorem d_Mod_act_156 : decode b_Mod_act 156 = .ok (.getfield 22, 3) := by decide +kernel
theorem d_Mod_act_159 : decode b_Mod_act 159 = .ok (.iload_n 1, 1) := by decide +kernel
theorem d_Mod_act_160 : decode b_Mod_act 160 = .ok (.iaload, 1) := by decide +kernel
theorem d_Mod_act_161 : decode b_Mod_act 161 = .ok (.if_icmp .ge 14, 3) := by decide +kernel
theorem d_Mod_act_164 : decode b_Mod_act 164 = .ok (.aload_n 0, 1) := by decide +kernel
theorem d_Mod_act_165 : decode b_Mod_act 165 = .ok (.iload_n 2, 1) := by decide +kernel
theorem d_Mod_act_166 : decode b_Mod_act 166 = .ok (.invokevirtual 95, 3) := by decide +kernel
theorem d_Mod_act_169 : decode b_Mod_act 169 = .ok (.iinc 3 1, 3) := by decide +kernel
theorem d_Mod_act_172 : decode b_Mod_act 172 = .ok (.goto (-18), 3) := by decide +kernel
theorem d_Mod_act_175 : decode b_Mod_act 175 = .ok (.goto 144, 3) := by decide +kernel
theorem d_Mod_act_178 : decode b_Mod_act 178 = .ok (.aload_n 0, 1) := by decide +kernel
theorem d_Mod_act_179 : decode b_Mod_act 179 = .ok (.getfield 16, 3) := by decide +kernel
theorem d_Mod_act_182 : decode b_Mod_act 182 = .ok (.iload_n 1, 1) := by decide +kernel
theorem d_Mod_act_183 : decode b_Mod_act 183 = .ok (.iaload, 1) := by decide +kernel
theorem d_Mod_act_184 : decode b_Mod_act 184 = .ok (.iconst 3, 1) := by decide +kernel
theorem d_Mod_act_185 : decode b_Mod_act 185 = .ok (.if_icmp .ne 28, 3) := by decide +kernel
theorem d_Mod_act_188 : decode b_Mod_act 188 = .ok (.iconst 0, 1) := by decide +kernel
theorem d_Mod_act_189 : decode b_Mod_act 189 = .ok (.istore_n 3, 1) := by decide +kernel
theorem d_Mod_act_190 : decode b_Mod_act 190 = .ok (.iload_n 3, 1) := by decide +kernel
theorem d_Mod_act_191 : decode b_Mod_act 191 = .ok (.aload_n 0, 1) := by decide +kernel
theorem d_Mod_act_192 : decode b_Mod_act 192 = .ok (.getfield 22, 3) := by decide +kernel
theorem d_Mod_act_195 : decode b_Mod_act 195 = .ok (.iload_n 1, 1) := by decide +kernel
theorem d_Mod_act_196 : decode b_Mod_act 196 = .ok (.iaload, 1) := by decide +kernel
theorem d_Mod_act_197 : decode b_Mod_act 197 = .ok (.if_icmp .ge 13, 3) := by decide +kernel
theorem d_Mod_act_200 : decode b_Mod_act 200 = .ok (.aload_n 0, 1) := by decide +kernel
theorem d_Mod_act_201 : decode b_Mod_act 201 = .ok (.invokevirtual 99, 3) := by decide +kernel
theorem d_Mod_act_204 : decode b_Mod_act 204 = .ok (.iinc 3 1, 3) := by decide +kernel
theorem d_Mod_act_207 : decode b_Mod_act 207 = .ok (.goto (-17), 3) := by decide +kernel
theorem d_Mod_act_210 : decode b_Mod_act 210 = .ok (.goto 109, 3) := by decide +kernel
theorem d_Mod_act_213 : decode b_Mod_act 213 = .ok (.aload_n 0, 1) := by decide +kernel
theorem d_Mod_act_214 : decode b_Mod_act 214 = .ok (.getfield 16, 3) := by decide +kernel
theorem d_Mod_act_217 : decode b_Mod_act 217 = .ok (.iload_n 1, 1) := by decide +kernel
theorem d_Mod_act_218 : decode b_Mod_act 218 = .ok (.iaload, 1) := by decide +kernel
theorem d_Mod_act_219 : decode b_Mod_act 219 = .ok (.iconst 4, 1) := by decide +kernel
theorem d_Mod_act_220 : decode b_Mod_act 220 = .ok (.if_icmp .ne 21, 3) := by decide +kernel
theorem d_Mod_act_223 : decode b_Mod_act 223 = .ok (.aload_n 0, 1) := by decide +kernel
theorem d_Mod_act_224 : decode b_Mod_act 224 = .ok (.getfield 47, 3) := by decide +kernel
theorem d_Mod_act_227 : decode b_Mod_act 227 = .ok (.iload_n 2, 1) := by decide +kernel
theorem d_Mod_act_228 : decode b_Mod_act 228 = .ok (.dup2, 1) := by decide +kernel
theorem d_Mod_act_229 : decode b_Mod_act 229 = .ok (.iaload, 1) := by decide +kernel
theorem d_Mod_act_230 : decode b_Mod_act 230 = .ok (.aload_n 0, 1) := by decide +kernel
theorem d_Mod_act_231 : decode b_Mod_act 231 = .ok (.getfield 22, 3) := by decide +kernel
theorem d_Mod_act_234 : decode b_Mod_act 234 = .ok (.iload_n 1, 1) := by decide +kernel
theorem d_Mod_act_235 : decode b_Mod_act 235 = .ok (.iaload, 1) := by decide +kernel
theorem d_Mod_act_236 : decode b_Mod_act 236 = .ok (.iadd, 1) := by decide +kernel
theorem d_Mod_act_237 : decode b_Mod_act 237 = .ok (.iastore, 1) := by decide +kernel
theorem d_Mod_act_238 : decode b_Mod_act 238 = .ok (.goto 81, 3) := by decide +kernel
theorem d_Mod_act_241 : decode b_Mod_act 241 = .ok (.aload_n 0, 1) := by decide +kernel
theorem d_Mod_act_242 : decode b_Mod_act 242 = .ok (.iload_n 2, 1) := by decide +kernel
theorem d_Mod_act_243 : decode b_Mod_act 243 = .ok (.invokevirtual 102, 3) := by decide +kernel
theorem d_Mod_act_246 : decode b_Mod_act 246 = .ok (.lstore_n 3, 1) := by decide +kernel
theorem d_Mod_act_247 : decode b_Mod_act 247 = .ok (.lload_n 3, 1) := by decide +kernel
theorem d_Mod_act_248 : decode b_Mod_act 248 = .ok (.ldc2_w 93, 3) := by decide +kernel
theorem d_Mod_act_251 : decode b_Mod_act 251 = .ok (.ldiv, 1) := by decide +kernel
theorem d_Mod_act_252 : decode b_Mod_act 252 = .ok (.aload_n 0, 1) := by decide +kernel
theorem d_Mod_act_253 : decode b_Mod_act 253 = .ok (.getfield 25, 3) := by decide +kernel
theorem d_Mod_act_256 : decode b_Mod_act 256 = .ok (.iload_n 1, 1) := by decide +kernel
theorem d_Mod_act_257 : decode b_Mod_act 257 = .ok (.laload, 1) := by decide +kernel
theorem d_Mod_act_258 : decode b_Mod_act 258 = .ok (.lsub, 1) := by decide +kernel
theorem d_Mod_act_259 : decode b_Mod_act 259 = .ok (.lstore 5, 2) := by decide +kernel
theorem d_Mod_act_261 : decode b_Mod_act 261 = .ok (.lload 5, 2) := by decide +kernel
theorem d_Mod_act_263 : decode b_Mod_act 263 = .ok (.ldc2_w 106, 3) := by decide +kernel
theorem d_Mod_act_266 : decode b_Mod_act 266 = .ok (.lcmp, 1) := by decide +kernel
theorem d_Mod_act_267 : decode b_Mod_act 267 = .ok (.ifCond .ge 9, 3) := by decide +kernel
theorem d_Mod_act_270 : decode b_Mod_act 270 = .ok (.ldc2_w 106, 3) := by decide +kernel
theorem d_Mod_act_273 : decode b_Mod_act 273 = .ok (.goto 20, 3) := by decide +kernel
theorem d_Mod_act_276 : decode b_Mod_act 276 = .ok (.lload 5, 2) := by decide +kernel
theorem d_Mod_act_278 : decode b_Mod_act 278 = .ok (.ldc2_w 88, 3) := by decide +kernel
theorem d_Mod_act_281 : decode b_Mod_act 281 = .ok (.lcmp, 1) := by decide +kernel
theorem d_Mod_act_282 : decode b_Mod_act 282 = .ok (.ifCond .le 9, 3) := by decide +kernel
theorem d_Mod_act_285 : decode b_Mod_act 285 = .ok (.ldc2_w 88, 3) := by decide +kernel
theorem d_Mod_act_288 : decode b_Mod_act 288 = .ok (.goto 5, 3) := by decide +kernel
theorem d_Mod_act_291 : decode b_Mod_act 291 = .ok (.lload 5, 2) := by decide +kernel
theorem d_Mod_act_293 : decode b_Mod_act 293 = .ok (.lstore 5, 2) := by decide +kernel
theorem d_Mod_act_295 : decode b_Mod_act 295 = .ok (.aload_n 0, 1) := by decide +kernel
theorem d_Mod_act_296 : decode b_Mod_act 296 = .ok (.dup, 1) := by decide +kernel
theorem d_Mod_act_297 : decode b_Mod_act 297 = .ok (.getfield 108, 3) := by decide +kernel
theorem d_Mod_act_300 : decode b_Mod_act 300 = .ok (.lload 5, 2) := by decide +kernel
theorem d_Mod_act_302 : decode b_Mod_act 302 = .ok (.lload 5, 2) := by decide +kernel
theorem d_Mod_act_304 : decode b_Mod_act 304 = .ok (.lmul, 1) := by decide +kernel
theorem d_Mod_act_305 : decode b_Mod_act 305 = .ok (.ladd, 1) := by decide +kernel
theorem d_Mod_act_306 : decode b_Mod_act 306 = .ok (.putfield 108, 3) := by decide +kernel
theorem d_Mod_act_309 : decode b_Mod_act 309 = .ok (.aload_n 0, 1) := by decide +kernel
theorem d_Mod_act_310 : decode b_Mod_act 310 = .ok (.dup, 1) := by decide +kernel
theorem d_Mod_act_311 : decode b_Mod_act 311 = .ok (.getfield 112, 3) := by decide +kernel
theorem d_Mod_act_314 : decode b_Mod_act 314 = .ok (.iconst 1, 1) := by decide +kernel
theorem d_Mod_act_315 : decode b_Mod_act 315 = .ok (.iadd, 1) := by decide +kernel
theorem d_Mod_act_316 : decode b_Mod_act 316 = .ok (.putfield 112, 3) := by decide +kernel
theorem d_Mod_act_319 : decode b_Mod_act 319 = .ok (.return_, 1) := by decide +kernel
theorem d_Mod_doAnew_0 : decode b_Mod_doAnew 0 = .ok (.iconst 0, 1) := by decide +kernel
theorem d_Mod_doAnew_1 : decode b_Mod_doAnew 1 = .ok (.istore_n 1, 1) := by decide +kernel
theorem d_Mod_doAnew_2 : decode b_Mod_doAnew 2 = .ok (.iload_n 1, 1) := by decide +kernel
theorem d_Mod_doAnew_3 : decode b_Mod_doAnew 3 = .ok (.bipush 8, 2) := by decide +kernel
theorem d_Mod_doAnew_5 : decode b_Mod_doAnew 5 = .ok (.if_icmp .ge 23, 3) := by decide +kernel
theorem d_Mod_doAnew_8 : decode b_Mod_doAnew 8 = .ok (.aload_n 0, 1) := by decide +kernel
theorem d_Mod_doAnew_9 : decode b_Mod_doAnew 9 = .ok (.getfield 32, 3) := by decide +kernel
theorem d_Mod_doAnew_12 : decode b_Mod_doAnew 12 = .ok (.iload_n 1, 1) := by decide +kernel
theorem d_Mod_doAnew_13 : decode b_Mod_doAnew 13 = .ok (.iconst 0, 1) := by decide +kernel
theorem d_Mod_doAnew_14 : decode b_Mod_doAnew 14 = .ok (.iastore, 1) := by decide +kernel
theorem d_Mod_doAnew_15 : decode b_Mod_doAnew 15 = .ok (.aload_n 0, 1) := by decide +kernel
theorem d_Mod_doAnew_16 : decode b_Mod_doAnew 16 = .ok (.getfield 47, 3) := by decide +kernel
theorem d_Mod_doAnew_19 : decode b_Mod_doAnew 19 = .ok (.iload_n 1, 1) := by decide +kernel
theorem d_Mod_doAnew_20 : decode b_Mod_doAnew 20 = .ok (.iconst 0, 1) := by decide +kernel
theorem d_Mod_doAnew_21 : decode b_Mod_doAnew 21 = .ok (.iastore, 1) := by decide +kernel
theorem d_Mod_doAnew_22 : decode b_Mod_doAnew 22 = .ok (.iinc 1 1, 3) := by decide +kernel
theorem d_Mod_doAnew_25 : decode b_Mod_doAnew 25 = .ok (.goto (-23), 3) := by decide +kernel
theorem d_Mod_doAnew_28 : decode b_Mod_doAnew 28 = .ok (.iconst 0, 1) := by decide +kernel
theorem d_Mod_doAnew_29 : decode b_Mod_doAnew 29 = .ok (.istore_n 1, 1) := by decide +kernel
theorem d_Mod_doAnew_30 : decode b_Mod_doAnew 30 = .ok (.iload_n 1, 1) := by decide +kernel
theorem d_Mod_doAnew_31 : decode b_Mod_doAnew 31 = .ok (.iconst 4, 1) := by decide +kernel
theorem d_Mod_doAnew_32 : decode b_Mod_doAnew 32 = .ok (.if_icmp .ge 16, 3) := by decide +kernel
theorem d_Mod_doAnew_35 : decode b_Mod_doAnew 35 = .ok (.aload_n 0, 1) := by decide +kernel
theorem d_Mod_doAnew_36 : decode b_Mod_doAnew 36 = .ok (.getfield 50, 3) := by decide +kernel
theorem d_Mod_doAnew_39 : decode b_Mod_doAnew 39 = .ok (.iload_n 1, 1) := by decide +kernel
theorem d_Mod_doAnew_40 : decode b_Mod_doAnew 40 = .ok (.iconst 0, 1) := by decide +kernel
theorem d_Mod_doAnew_41 : decode b_Mod_doAnew 41 = .ok (.iastore, 1) := by decide +kernel
theorem d_Mod_doAnew_42 : decode b_Mod_doAnew 42 = .ok (.iinc 1 1, 3) := by decide +kernel
theorem d_Mod_doAnew_45 : decode b_Mod_doAnew 45 = .ok (.goto (-15), 3) := by decide +kernel
theorem d_Mod_doAnew_48 : decode b_Mod_doAnew 48 = .ok (.aload_n 0, 1) := by decide +kernel
theorem d_Mod_doAnew_49 : decode b_Mod_doAnew 49 = .ok (.iconst 0, 1) := by decide +kernel
theorem d_Mod_doAnew_50 : decode b_Mod_doAnew 50 = .ok (.putfield 90, 3) := by decide +kernel
theorem d_Mod_doAnew_53 : decode b_Mod_doAnew 53 = .ok (.aload_n 0, 1) := by decide +kernel
theorem d_Mod_doAnew_54 : decode b_Mod_doAnew 54 = .ok (.iconst 0, 1) := by decide +kernel
theorem d_Mod_doAnew_55 : decode b_Mod_doAnew 55 = .ok (.putfield 112, 3) := by decide +kernel
theorem d_Mod_doAnew_58 : decode b_Mod_doAnew 58 = .ok (.aload_n 0, 1) := by decide +kernel
theorem d_Mod_doAnew_59 : decode b_Mod_doAnew 59 = .ok (.lconst 0, 1) := by decide +kernel
theorem d_Mod_doAnew_60 : decode b_Mod_doAnew 60 = .ok (.putfield 108, 3) := by decide +kernel
theorem d_Mod_doAnew_63 : decode b_Mod_doAnew 63 = .ok (.iconst 0, 1) := by decide +kernel
theorem d_Mod_doAnew_64 : decode b_Mod_doAnew 64 = .ok (.istore_n 1, 1) := by decide +kernel
theorem d_Mod_doAnew_65 : decode b_Mod_doAnew 65 = .ok (.iload_n 1, 1) := by decide +kernel
theorem d_Mod_doAnew_66 : decode b_Mod_doAnew 66 = .ok (.aload_n 0, 1) := by decide +kernel
theorem d_Mod_doAnew_67 : decode b_Mod_doAnew 67 = .ok (.getfield 115, 3) := by decide +kernel
theorem d_Mod_doAnew_70 : decode b_Mod_doAnew 70 = .ok (.if_icmp .ge 14, 3) := by decide +kernel
theorem d_Mod_doAnew_73 : decode b_Mod_doAnew 73 = .ok (.aload_n 0, 1) := by decide +kernel
theorem d_Mod_doAnew_74 : decode b_Mod_doAnew 74 = .ok (.iload_n 1, 1) := by decide +kernel
theorem d_Mod_doAnew_75 : decode b_Mod_doAnew 75 = .ok (.invokevirtual 118, 3) := by decide +kernel
theorem d_Mod_doAnew_78 : decode b_Mod_doAnew 78 = .ok (.iinc 1 1, 3) := by decide +kernel
theorem d_Mod_doAnew_81 : decode b_Mod_doAnew 81 = .ok (.goto (-16), 3) := by decide +kernel
theorem d_Mod_doAnew_84 : decode b_Mod_doAnew 84 = .ok (.return_, 1) := by decide +kernel
theorem d_Mod_tell_0 : decode b_Mod_tell 0 = .ok (.aload_n 0, 1) := by decide +kernel
theorem d_Mod_tell_1 : decode b_Mod_tell 1 = .ok (.getfield 16, 3) := by decide +kernel
theorem d_Mod_tell_4 : decode b_Mod_tell 4 = .ok (.aload_n 0, 1) := by decide +kernel
theorem d_Mod_tell_5 : decode b_Mod_tell 5 = .ok (.getfield 115, 3) := by decide +kernel
theorem d_Mod_tell_8 : decode b_Mod_tell 8 = .ok (.iload_n 1, 1) := by decide +kernel
theorem d_Mod_tell_9 : decode b_Mod_tell 9 = .ok (.iastore, 1) := by decide +kernel
theorem d_Mod_tell_10 : decode b_Mod_tell 10 = .ok (.aload_n 0, 1) := by decide +kernel
theorem d_Mod_tell_11 : decode b_Mod_tell 11 = .ok (.getfield 19, 3) := by decide +kernel
theorem d_Mod_tell_14 : decode b_Mod_tell 14 = .ok (.aload_n 0, 1) := by decide +kernel
theorem d_Mod_tell_15 : decode b_Mod_tell 15 = .ok (.getfield 115, 3) := by decide +kernel
theorem d_Mod_tell_18 : decode b_Mod_tell 18 = .ok (.iload_n 2, 1) := by decide +kernel
theorem d_Mod_tell_19 : decode b_Mod_tell 19 = .ok (.iastore, 1) := by decide +kernel
theorem d_Mod_tell_20 : decode b_Mod_tell 20 = .ok (.aload_n 0, 1) := by decide +kernel
theorem d_Mod_tell_21 : decode b_Mod_tell 21 = .ok (.getfield 22, 3) := by decide +kernel
theorem d_Mod_tell_24 : decode b_Mod_tell 24 = .ok (.aload_n 0, 1) := by decide +kernel
theorem d_Mod_tell_25 : decode b_Mod_tell 25 = .ok (.getfield 115, 3) := by decide +kernel
theorem d_Mod_tell_28 : decode b_Mod_tell 28 = .ok (.iload_n 3, 1) := by decide +kernel
theorem d_Mod_tell_29 : decode b_Mod_tell 29 = .ok (.iastore, 1) := by decide +kernel
theorem d_Mod_tell_30 : decode b_Mod_tell 30 = .ok (.aload_n 0, 1) := by decide +kernel
theorem d_Mod_tell_31 : decode b_Mod_tell 31 = .ok (.getfield 25, 3) := by decide +kernel
theorem d_Mod_tell_34 : decode b_Mod_tell 34 = .ok (.aload_n 0, 1) := by decide +kernel
theorem d_Mod_tell_35 : decode b_Mod_tell 35 = .ok (.getfield 115, 3) := by decide +kernel
theorem d_Mod_tell_38 : decode b_Mod_tell 38 = .ok (.lload 4, 2) := by decide +kernel
theorem d_Mod_tell_40 : decode b_Mod_tell 40 = .ok (.lastore, 1) := by decide +kernel
theorem d_Mod_tell_41 : decode b_Mod_tell 41 = .ok (.aload_n 0, 1) := by decide +kernel
theorem d_Mod_tell_42 : decode b_Mod_tell 42 = .ok (.getfield 29, 3) := by decide +kernel
theorem d_Mod_tell_45 : decode b_Mod_tell 45 = .ok (.aload_n 0, 1) := by decide +kernel
theorem d_Mod_tell_46 : decode b_Mod_tell 46 = .ok (.getfield 115, 3) := by decide +kernel
theorem d_Mod_tell_49 : decode b_Mod_tell 49 = .ok (.lload 6, 2) := by decide +kernel
theorem d_Mod_tell_51 : decode b_Mod_tell 51 = .ok (.lastore, 1) := by decide +kernel
theorem d_Mod_tell_52 : decode b_Mod_tell 52 = .ok (.aload_n 0, 1) := by decide +kernel
theorem d_Mod_tell_53 : decode b_Mod_tell 53 = .ok (.dup, 1) := by decide +kernel
theorem d_Mod_tell_54 : decode b_Mod_tell 54 = .ok (.getfield 115, 3) := by decide +kernel
theorem d_Mod_tell_57 : decode b_Mod_tell 57 = .ok (.iconst 1, 1) := by decide +kernel
theorem d_Mod_tell_58 : decode b_Mod_tell 58 = .ok (.iadd, 1) := by decide +kernel
theorem d_Mod_tell_59 : decode b_Mod_tell 59 = .ok (.putfield 115, 3) := by decide +kernel
theorem d_Mod_tell_62 : decode b_Mod_tell 62 = .ok (.aload_n 0, 1) := by decide +kernel
theorem d_Mod_tell_63 : decode b_Mod_tell 63 = .ok (.invokevirtual 121, 3) := by decide +kernel
theorem d_Mod_tell_66 : decode b_Mod_tell 66 = .ok (.return_, 1) := by decide +kernel
theorem d_Mod_density_0 : decode b_Mod_density 0 = .ok (.iload_n 1, 1) := by decide +kernel
theorem d_Mod_density_1 : decode b_Mod_density 1 = .ok (.invokestatic 124, 3) := by decide +kernel
theorem d_Mod_density_4 : decode b_Mod_density 4 = .ok (.ifCond .eq 17, 3) := by decide +kernel
theorem d_Mod_density_7 : decode b_Mod_density 7 = .ok (.iload_n 2, 1) := by decide +kernel
theorem d_Mod_density_8 : decode b_Mod_density 8 = .ok (.i2l, 1) := by decide +kernel
theorem d_Mod_density_9 : decode b_Mod_density 9 = .ok (.ldc2_w 128, 3) := by decide +kernel
theorem d_Mod_density_12 : decode b_Mod_density 12 = .ok (.ldc2_w 130, 3) := by decide +kernel
theorem d_Mod_density_15 : decode b_Mod_density 15 = .ok (.invokestatic 84, 3) := by decide +kernel
theorem d_Mod_density_18 : decode b_Mod_density 18 = .ok (.ifCond .ne 5, 3) := by decide +kernel
theorem d_Mod_density_21 : decode b_Mod_density 21 = .ok (.iconst 0, 1) := by decide +kernel
theorem d_Mod_density_22 : decode b_Mod_density 22 = .ok (.ireturn, 1) := by decide +kernel
theorem d_Mod_density_23 : decode b_Mod_density 23 = .ok (.aload_n 0, 1) := by decide +kernel
theorem d_Mod_density_24 : decode b_Mod_density 24 = .ok (.getfield 7, 3) := by decide +kernel
theorem d_Mod_density_27 : decode b_Mod_density 27 = .ok (.iload_n 1, 1) := by decide +kernel
theorem d_Mod_density_28 : decode b_Mod_density 28 = .ok (.iload_n 2, 1) := by decide +kernel
theorem d_Mod_density_29 : decode b_Mod_density 29 = .ok (.iastore, 1) := by decide +kernel
theorem d_Mod_density_30 : decode b_Mod_density 30 = .ok (.iconst 1, 1) := by decide +kernel
theorem d_Mod_density_31 : decode b_Mod_density 31 = .ok (.ireturn, 1) := by decide +kernel
theorem d_Mod_row_0 : decode b_Mod_row 0 = .ok (.aload_n 0, 1) := by decide +kernel
theorem d_Mod_row_1 : decode b_Mod_row 1 = .ok (.getfield 115, 3) := by decide +kernel
theorem d_Mod_row_4 : decode b_Mod_row 4 = .ok (.sipush 200, 3) := by decide +kernel
theorem d_Mod_row_7 : decode b_Mod_row 7 = .ok (.if_icmp .eq 44, 3) := by decide +kernel
theorem d_Mod_row_10 : decode b_Mod_row 10 = .ok (.iload_n 1, 1) := by decide +kernel
theorem d_Mod_row_11 : decode b_Mod_row 11 = .ok (.invokestatic 124, 3) := by decide +kernel
theorem d_Mod_row_14 : decode b_Mod_row 14 = .ok (.ifCond .eq 37, 3) := by decide +kernel
theorem d_Mod_row_17 : decode b_Mod_row 17 = .ok (.lload_n 2, 1) := by decide +kernel
theorem d_Mod_row_18 : decode b_Mod_row 18 = .ok (.lconst 0, 1) := by decide +kernel
theorem d_Mod_row_19 : decode b_Mod_row 19 = .ok (.ldc2_w 132, 3) := by decide +kernel
theorem d_Mod_row_22 : decode b_Mod_row 22 = .ok (.invokestatic 84, 3) := by decide +kernel
theorem d_Mod_row_25 : decode b_Mod_row 25 = .ok (.ifCond .eq 26, 3) := by decide +kernel
theorem d_Mod_row_28 : decode b_Mod_row 28 = .ok (.iload 4, 2) := by decide +kernel
theorem d_Mod_row_30 : decode b_Mod_row 30 = .ok (.i2l, 1) := by decide +kernel
theorem d_Mod_row_31 : decode b_Mod_row 31 = .ok (.lconst 0, 1) := by decide +kernel
theorem d_Mod_row_32 : decode b_Mod_row 32 = .ok (.ldc2_w 134, 3) := by decide +kernel
theorem d_Mod_row_35 : decode b_Mod_row 35 = .ok (.invokestatic 84, 3) := by decide +kernel
theorem d_Mod_row_38 : decode b_Mod_row 38 = .ok (.ifCond .eq 13, 3) := by decide +kernel
theorem d_Mod_row_41 : decode b_Mod_row 41 = .ok (.aload_n 0, 1) := by decide +kernel
theorem d_Mod_row_42 : decode b_Mod_row 42 = .ok (.getfield 50, 3) := by decide +kernel
theorem d_Mod_row_45 : decode b_Mod_row 45 = .ok (.iload_n 1, 1) := by decide +kernel
theorem d_Mod_row_46 : decode b_Mod_row 46 = .ok (.iaload, 1) := by decide +kernel
theorem d_Mod_row_47 : decode b_Mod_row 47 = .ok (.iconst 4, 1) := by decide +kernel
theorem d_Mod_row_48 : decode b_Mod_row 48 = .ok (.if_icmp .ne 5, 3) := by decide +kernel
theorem d_Mod_row_51 : decode b_Mod_row 51 = .ok (.iconst 0, 1) := by decide +kernel
theorem d_Mod_row_52 : decode b_Mod_row 52 = .ok (.ireturn, 1) := by decide +kernel
theorem d_Mod_row_53 : decode b_Mod_row 53 = .ok (.aload_n 0, 1) := by decide +kernel
theorem d_Mod_row_54 : decode b_Mod_row 54 = .ok (.getfield 50, 3) := by decide +kernel
theorem d_Mod_row_57 : decode b_Mod_row 57 = .ok (.iload_n 1, 1) := by decide +kernel
theorem d_Mod_row_58 : decode b_Mod_row 58 = .ok (.iaload, 1) := by decide +kernel
theorem d_Mod_row_59 : decode b_Mod_row 59 = .ok (.ifCond .le 27, 3) := by decide +kernel
theorem d_Mod_row_62 : decode b_Mod_row 62 = .ok (.lload_n 2, 1) := by decide +kernel
theorem d_Mod_row_63 : decode b_Mod_row 63 = .ok (.aload_n 0, 1) := by decide +kernel
theorem d_Mod_row_64 : decode b_Mod_row 64 = .ok (.getfield 53, 3) := by decide +kernel
theorem d_Mod_row_67 : decode b_Mod_row 67 = .ok (.iconst 4, 1) := by decide +kernel
theorem d_Mod_row_68 : decode b_Mod_row 68 = .ok (.iload_n 1, 1) := by decide +kernel
theorem d_Mod_row_69 : decode b_Mod_row 69 = .ok (.imul, 1) := by decide +kernel
theorem d_Mod_row_70 : decode b_Mod_row 70 = .ok (.aload_n 0, 1) := by decide +kernel
theorem d_Mod_row_71 : decode b_Mod_row 71 = .ok (.getfield 50, 3) := by decide +kernel
theorem d_Mod_row_74 : decode b_Mod_row 74 = .ok (.iload_n 1, 1) := by decide +kernel
theorem d_Mod_row_75 : decode b_Mod_row 75 = .ok (.iaload, 1) := by decide +kernel
theorem d_Mod_row_76 : decode b_Mod_row 76 = .ok (.iadd, 1) := by decide +kernel
theorem d_Mod_row_77 : decode b_Mod_row 77 = .ok (.iconst 1, 1) := by decide +kernel
theorem d_Mod_row_78 : decode b_Mod_row 78 = .ok (.isub, 1) := by decide +kernel
theorem d_Mod_row_79 : decode b_Mod_row 79 = .ok (.laload, 1) := by decide +kernel
theorem d_Mod_row_80 : decode b_Mod_row 80 = .ok (.lcmp, 1) := by decide +kernel
theorem d_Mod_row_81 : decode b_Mod_row 81 = .ok (.ifCond .gt 5, 3) := by decide +kernel
theorem d_Mod_row_84 : decode b_Mod_row 84 = .ok (.iconst 0, 1) := by decide +kernel
theorem d_Mod_row_85 : decode b_Mod_row 85 = .ok (.ireturn, 1) := by decide +kernel
theorem d_Mod_row_86 : decode b_Mod_row 86 = .ok (.aload_n 0, 1) := by decide +kernel
theorem d_Mod_row_87 : decode b_Mod_row 87 = .ok (.iconst 0, 1) := by decide +kernel
theorem d_Mod_row_88 : decode b_Mod_row 88 = .ok (.iload_n 1, 1) := by decide +kernel
theorem d_Mod_row_89 : decode b_Mod_row 89 = .ok (.iload 4, 2) := by decide +kernel
theorem d_Mod_row_91 : decode b_Mod_row 91 = .ok (.lload_n 2, 1) := by decide +kernel
theorem d_Mod_row_92 : decode b_Mod_row 92 = .ok (.lconst 0, 1) := by decide +kernel
theorem d_Mod_row_93 : decode b_Mod_row 93 = .ok (.invokevirtual 136, 3) := by decide +kernel
theorem d_Mod_row_96 : decode b_Mod_row 96 = .ok (.iconst 1, 1) := by decide +kernel
theorem d_Mod_row_97 : decode b_Mod_row 97 = .ok (.ireturn, 1) := by decide +kernel
theorem d_Mod_layer_0 : decode b_Mod_layer 0 = .ok (.aload_n 0, 1) := by decide +kernel
theorem d_Mod_layer_1 : decode b_Mod_layer 1 = .ok (.getfield 115, 3) := by decide +kernel
theorem d_Mod_layer_4 : decode b_Mod_layer 4 = .ok (.sipush 200, 3) := by decide +kernel
theorem d_Mod_layer_7 : decode b_Mod_layer 7 = .ok (.if_icmp .eq 40, 3) := by decide +kernel
theorem d_Mod_layer_10 : decode b_Mod_layer 10 = .ok (.aload_n 0, 1) := by decide +kernel
theorem d_Mod_layer_11 : decode b_Mod_layer 11 = .ok (.iload_n 1, 1) := by decide +kernel
theorem d_Mod_layer_12 : decode b_Mod_layer 12 = .ok (.invokevirtual 140, 3) := by decide +kernel
theorem d_Mod_layer_15 : decode b_Mod_layer 15 = .ok (.ifCond .eq 32, 3) := by decide +kernel
theorem d_Mod_layer_18 : decode b_Mod_layer 18 = .ok (.iload_n 2, 1) := by decide +kernel
theorem d_Mod_layer_19 : decode b_Mod_layer 19 = .ok (.invokestatic 124, 3) := by decide +kernel
theorem d_Mod_layer_22 : decode b_Mod_layer 22 = .ok (.ifCond .eq 25, 3) := by decide +kernel
theorem d_Mod_layer_25 : decode b_Mod_layer 25 = .ok (.lload_n 3, 1) := by decide +kernel
theorem d_Mod_layer_26 : decode b_Mod_layer 26 = .ok (.lconst 1, 1) := by decide +kernel
theorem d_Mod_layer_27 : decode b_Mod_layer 27 = .ok (.ldc2_w 88, 3) := by decide +kernel
theorem d_Mod_layer_30 : decode b_Mod_layer 30 = .ok (.invokestatic 84, 3) := by decide +kernel
theorem d_Mod_layer_33 : decode b_Mod_layer 33 = .ok (.ifCond .eq 14, 3) := by decide +kernel
theorem d_Mod_layer_36 : decode b_Mod_layer 36 = .ok (.aload_n 0, 1) := by decide +kernel
theorem d_Mod_layer_37 : decode b_Mod_layer 37 = .ok (.getfield 32, 3) := by decide +kernel
theorem d_Mod_layer_40 : decode b_Mod_layer 40 = .ok (.iload_n 1, 1) := by decide +kernel
theorem d_Mod_layer_41 : decode b_Mod_layer 41 = .ok (.iaload, 1) := by decide +kernel
theorem d_Mod_layer_42 : decode b_Mod_layer 42 = .ok (.bipush 10, 2) := by decide +kernel
theorem d_Mod_layer_44 : decode b_Mod_layer 44 = .ok (.if_icmp .ne 5, 3) := by decide +kernel
theorem d_Mod_layer_47 : decode b_Mod_layer 47 = .ok (.iconst (-1), 1) := by decide +kernel
theorem d_Mod_layer_48 : decode b_Mod_layer 48 = .ok (.ireturn, 1) := by decide +kernel
theorem d_Mod_layer_49 : decode b_Mod_layer 49 = .ok (.aload_n 0, 1) := by decide +kernel
theorem d_Mod_layer_50 : decode b_Mod_layer 50 = .ok (.iconst 1, 1) := by decide +kernel
theorem d_Mod_layer_51 : decode b_Mod_layer 51 = .ok (.iload_n 1, 1) := by decide +kernel
theorem d_Mod_layer_52 : decode b_Mod_layer 52 = .ok (.iload_n 2, 1) := by decide +kernel
theorem d_Mod_layer_53 : decode b_Mod_layer 53 = .ok (.lload_n 3, 1) := by decide +kernel
theorem d_Mod_layer_54 : decode b_Mod_layer 54 = .ok (.lload_n 3, 1) := by decide +kernel
theorem d_Mod_layer_55 : decode b_Mod_layer 55 = .ok (.ldc2_w 88, 3) := by decide +kernel
theorem d_Mod_layer_58 : decode b_Mod_layer 58 = .ok (.lmul, 1) := by decide +kernel
theorem d_Mod_layer_59 : decode b_Mod_layer 59 = .ok (.aload_n 0, 1) := by decide +kernel
theorem d_Mod_layer_60 : decode b_Mod_layer 60 = .ok (.getfield 7, 3) := by decide +kernel
theorem d_Mod_layer_63 : decode b_Mod_layer 63 = .ok (.iload_n 2, 1) := by decide +kernel
theorem d_Mod_layer_64 : decode b_Mod_layer 64 = .ok (.iaload, 1) := by decide +kernel
theorem d_Mod_layer_65 : decode b_Mod_layer 65 = .ok (.i2l, 1) := by decide +kernel
theorem d_Mod_layer_66 : decode b_Mod_layer 66 = .ok (.aload_n 0, 1) := by decide +kernel
theorem d_Mod_layer_67 : decode b_Mod_layer 67 = .ok (.getfield 79, 3) := by decide +kernel
theorem d_Mod_layer_70 : decode b_Mod_layer 70 = .ok (.i2l, 1) := by decide +kernel
theorem d_Mod_layer_71 : decode b_Mod_layer 71 = .ok (.lmul, 1) := by decide +kernel
theorem d_Mod_layer_72 : decode b_Mod_layer 72 = .ok (.aload_n 0, 1) := by decide +kernel
theorem d_Mod_layer_73 : decode b_Mod_layer 73 = .ok (.getfield 79, 3) := by decide +kernel
theorem d_Mod_layer_76 : decode b_Mod_layer 76 = .ok (.i2l, 1) := by decide +kernel
theorem d_Mod_layer_77 : decode b_Mod_layer 77 = .ok (.lmul, 1) := by decide +kernel
theorem d_Mod_layer_78 : decode b_Mod_layer 78 = .ok (.ldiv, 1) := by decide +kernel
theorem d_Mod_layer_79 : decode b_Mod_layer 79 = .ok (.invokevirtual 136, 3) := by decide +kernel
theorem d_Mod_layer_82 : decode b_Mod_layer 82 = .ok (.aload_n 0, 1) := by decide +kernel
theorem d_Mod_layer_83 : decode b_Mod_layer 83 = .ok (.getfield 32, 3) := by decide +kernel
theorem d_Mod_layer_86 : decode b_Mod_layer 86 = .ok (.iload_n 1, 1) := by decide +kernel
theorem d_Mod_layer_87 : decode b_Mod_layer 87 = .ok (.iaload, 1) := by decide +kernel
theorem d_Mod_layer_88 : decode b_Mod_layer 88 = .ok (.iconst 1, 1) := by decide +kernel
theorem d_Mod_layer_89 : decode b_Mod_layer 89 = .ok (.isub, 1) := by decide +kernel
theorem d_Mod_layer_90 : decode b_Mod_layer 90 = .ok (.ireturn, 1) := by decide +kernel
theorem d_Mod_roll_0 : decode b_Mod_roll 0 = .ok (.aload_n 0, 1) := by decide +kernel
theorem d_Mod_roll_1 : decode b_Mod_roll 1 = .ok (.getfield 115, 3) := by decide +kernel
theorem d_Mod_roll_4 : decode b_Mod_roll 4 = .ok (.sipush 200, 3) := by decide +kernel
theorem d_Mod_roll_7 : decode b_Mod_roll 7 = .ok (.if_icmp .eq 32, 3) := by decide +kernel
theorem d_Mod_roll_10 : decode b_Mod_roll 10 = .ok (.aload_n 0, 1) := by decide +kernel
theorem d_Mod_roll_11 : decode b_Mod_roll 11 = .ok (.iload_n 1, 1) := by decide +kernel
theorem d_Mod_roll_12 : decode b_Mod_roll 12 = .ok (.invokevirtual 140, 3) := by decide +kernel
theorem d_Mod_roll_15 : decode b_Mod_roll 15 = .ok (.ifCond .eq 24, 3) := by decide +kernel
theorem d_Mod_roll_18 : decode b_Mod_roll 18 = .ok (.iload_n 2, 1) := by decide +kernel
theorem d_Mod_roll_19 : decode b_Mod_roll 19 = .ok (.i2l, 1) := by decide +kernel
theorem d_Mod_roll_20 : decode b_Mod_roll 20 = .ok (.lconst 1, 1) := by decide +kernel
theorem d_Mod_roll_21 : decode b_Mod_roll 21 = .ok (.ldc2_w 143, 3) := by decide +kernel
theorem d_Mod_roll_24 : decode b_Mod_roll 24 = .ok (.invokestatic 84, 3) := by decide +kernel
theorem d_Mod_roll_27 : decode b_Mod_roll 27 = .ok (.ifCond .eq 12, 3) := by decide +kernel
theorem d_Mod_roll_30 : decode b_Mod_roll 30 = .ok (.aload_n 0, 1) := by decide +kernel
theorem d_Mod_roll_31 : decode b_Mod_roll 31 = .ok (.getfield 32, 3) := by decide +kernel
theorem d_Mod_roll_34 : decode b_Mod_roll 34 = .ok (.iload_n 1, 1) := by decide +kernel
theorem d_Mod_roll_35 : decode b_Mod_roll 35 = .ok (.iaload, 1) := by decide +kernel
theorem d_Mod_roll_36 : decode b_Mod_roll 36 = .ok (.ifCond .ne 5, 3) := by decide +kernel
theorem d_Mod_roll_39 : decode b_Mod_roll 39 = .ok (.iconst 0, 1) := by decide +kernel
theorem d_Mod_roll_40 : decode b_Mod_roll 40 = .ok (.ireturn, 1) := by decide +kernel
theorem d_Mod_roll_41 : decode b_Mod_roll 41 = .ok (.aload_n 0, 1) := by decide +kernel
theorem d_Mod_roll_42 : decode b_Mod_roll 42 = .ok (.iconst 2, 1) := by decide +kernel
theorem d_Mod_roll_43 : decode b_Mod_roll 43 = .ok (.iload_n 1, 1) := by decide +kernel
theorem d_Mod_roll_44 : decode b_Mod_roll 44 = .ok (.iload_n 2, 1) := by decide +kernel
theorem d_Mod_roll_45 : decode b_Mod_roll 45 = .ok (.lconst 0, 1) := by decide +kernel
theorem d_Mod_roll_46 : decode b_Mod_roll 46 = .ok (.lconst 0, 1) := by decide +kernel
theorem d_Mod_roll_47 : decode b_Mod_roll 47 = .ok (.invokevirtual 136, 3) := by decide +kernel
theorem d_Mod_roll_50 : decode b_Mod_roll 50 = .ok (.iconst 1, 1) := by decide +kernel
theorem d_Mod_roll_51 : decode b_Mod_roll 51 = .ok (.ireturn, 1) := by decide +kernel
theorem d_Mod_run_0 : decode b_Mod_run 0 = .ok (.aload_n 0, 1) := by decide +kernel
theorem d_Mod_run_1 : decode b_Mod_run 1 = .ok (.getfield 115, 3) := by decide +kernel
theorem d_Mod_run_4 : decode b_Mod_run 4 = .ok (.sipush 200, 3) := by decide +kernel
theorem d_Mod_run_7 : decode b_Mod_run 7 = .ok (.if_icmp .eq 26, 3) := by decide +kernel
theorem d_Mod_run_10 : decode b_Mod_run 10 = .ok (.iload_n 1, 1) := by decide +kernel
theorem d_Mod_run_11 : decode b_Mod_run 11 = .ok (.i2l, 1) := by decide +kernel
theorem d_Mod_run_12 : decode b_Mod_run 12 = .ok (.lconst 1, 1) := by decide +kernel
theorem d_Mod_run_13 : decode b_Mod_run 13 = .ok (.ldc2_w 145, 3) := by decide +kernel
theorem d_Mod_run_16 : decode b_Mod_run 16 = .ok (.invokestatic 84, 3) := by decide +kernel
theorem d_Mod_run_19 : decode b_Mod_run 19 = .ok (.ifCond .eq 14, 3) := by decide +kernel
theorem d_Mod_run_22 : decode b_Mod_run 22 = .ok (.aload_n 0, 1) := by decide +kernel
theorem d_Mod_run_23 : decode b_Mod_run 23 = .ok (.getfield 90, 3) := by decide +kernel
theorem d_Mod_run_26 : decode b_Mod_run 26 = .ok (.iload_n 1, 1) := by decide +kernel
theorem d_Mod_run_27 : decode b_Mod_run 27 = .ok (.iadd, 1) := by decide +kernel
theorem d_Mod_run_28 : decode b_Mod_run 28 = .ok (.bipush 100, 2) := by decide +kernel
theorem d_Mod_run_30 : decode b_Mod_run 30 = .ok (.if_icmp .le 5, 3) := by decide +kernel
theorem d_Mod_run_33 : decode b_Mod_run 33 = .ok (.iconst (-1), 1) := by decide +kernel
theorem d_Mod_run_34 : decode b_Mod_run 34 = .ok (.ireturn, 1) := by decide +kernel
theorem d_Mod_run_35 : decode b_Mod_run 35 = .ok (.aload_n 0, 1) := by decide +kernel
theorem d_Mod_run_36 : decode b_Mod_run 36 = .ok (.iconst 3, 1) := by decide +kernel
theorem d_Mod_run_37 : decode b_Mod_run 37 = .ok (.iconst 0, 1) := by decide +kernel
theorem d_Mod_run_38 : decode b_Mod_run 38 = .ok (.iload_n 1, 1) := by decide +kernel
theorem d_Mod_run_39 : decode b_Mod_run 39 = .ok (.lconst 0, 1) := by decide +kernel
theorem d_Mod_run_40 : decode b_Mod_run 40 = .ok (.lconst 0, 1) := by decide +kernel
theorem d_Mod_run_41 : decode b_Mod_run 41 = .ok (.invokevirtual 136, 3) := by decide +kernel
theorem d_Mod_run_44 : decode b_Mod_run 44 = .ok (.aload_n 0, 1) := by decide +kernel
theorem d_Mod_run_45 : decode b_Mod_run 45 = .ok (.getfield 90, 3) := by decide +kernel
theorem d_Mod_run_48 : decode b_Mod_run 48 = .ok (.ireturn, 1) := by decide +kernel
theorem d_Mod_cover_0 : decode b_Mod_cover 0 = .ok (.aload_n 0, 1) := by decide +kernel
theorem d_Mod_cover_1 : decode b_Mod_cover 1 = .ok (.getfield 115, 3) := by decide +kernel
theorem d_Mod_cover_4 : decode b_Mod_cover 4 = .ok (.sipush 200, 3) := by decide +kernel
theorem d_Mod_cover_7 : decode b_Mod_cover 7 = .ok (.if_icmp .eq 23, 3) := by decide +kernel
theorem d_Mod_cover_10 : decode b_Mod_cover 10 = .ok (.aload_n 0, 1) := by decide +kernel
theorem d_Mod_cover_11 : decode b_Mod_cover 11 = .ok (.iload_n 1, 1) := by decide +kernel
theorem d_Mod_cover_12 : decode b_Mod_cover 12 = .ok (.invokevirtual 140, 3) := by decide +kernel
theorem d_Mod_cover_15 : decode b_Mod_cover 15 = .ok (.ifCond .eq 15, 3) := by decide +kernel
theorem d_Mod_cover_18 : decode b_Mod_cover 18 = .ok (.iload_n 2, 1) := by decide +kernel
theorem d_Mod_cover_19 : decode b_Mod_cover 19 = .ok (.i2l, 1) := by decide +kernel
theorem d_Mod_cover_20 : decode b_Mod_cover 20 = .ok (.lconst 1, 1) := by decide +kernel
theorem d_Mod_cover_21 : decode b_Mod_cover 21 = .ok (.ldc2_w 147, 3) := by decide +kernel
theorem d_Mod_cover_24 : decode b_Mod_cover 24 = .ok (.invokestatic 84, 3) := by decide +kernel
theorem d_Mod_cover_27 : decode b_Mod_cover 27 = .ok (.ifCond .ne 5, 3) := by decide +kernel
theorem d_Mod_cover_30 : decode b_Mod_cover 30 = .ok (.iconst 0, 1) := by decide +kernel
theorem d_Mod_cover_31 : decode b_Mod_cover 31 = .ok (.ireturn, 1) := by decide +kernel
theorem d_Mod_cover_32 : decode b_Mod_cover 32 = .ok (.aload_n 0, 1) := by decide +kernel
theorem d_Mod_cover_33 : decode b_Mod_cover 33 = .ok (.iconst 4, 1) := by decide +kernel
theorem d_Mod_cover_34 : decode b_Mod_cover 34 = .ok (.iload_n 1, 1) := by decide +kernel
theorem d_Mod_cover_35 : decode b_Mod_cover 35 = .ok (.iload_n 2, 1) := by decide +kernel
theorem d_Mod_cover_36 : decode b_Mod_cover 36 = .ok (.lconst 0, 1) := by decide +kernel
theorem d_Mod_cover_37 : decode b_Mod_cover 37 = .ok (.lconst 0, 1) := by decide +kernel
theorem d_Mod_cover_38 : decode b_Mod_cover 38 = .ok (.invokevirtual 136, 3) := by decide +kernel
theorem d_Mod_cover_41 : decode b_Mod_cover 41 = .ok (.iconst 1, 1) := by decide +kernel
theorem d_Mod_cover_42 : decode b_Mod_cover 42 = .ok (.ireturn, 1) := by decide +kernel
theorem d_Mod_survey_0 : decode b_Mod_survey 0 = .ok (.aload_n 0, 1) := by decide +kernel
theorem d_Mod_survey_1 : decode b_Mod_survey 1 = .ok (.getfield 115, 3) := by decide +kernel
theorem d_Mod_survey_4 : decode b_Mod_survey 4 = .ok (.sipush 200, 3) := by decide +kernel
theorem d_Mod_survey_7 : decode b_Mod_survey 7 = .ok (.if_icmp .eq 31, 3) := by decide +kernel
theorem d_Mod_survey_10 : decode b_Mod_survey 10 = .ok (.aload_n 0, 1) := by decide +kernel
theorem d_Mod_survey_11 : decode b_Mod_survey 11 = .ok (.getfield 112, 3) := by decide +kernel
theorem d_Mod_survey_14 : decode b_Mod_survey 14 = .ok (.bipush 12, 2) := by decide +kernel
theorem d_Mod_survey_16 : decode b_Mod_survey 16 = .ok (.if_icmp .eq 22, 3) := by decide +kernel
theorem d_Mod_survey_19 : decode b_Mod_survey 19 = .ok (.aload_n 0, 1) := by decide +kernel
theorem d_Mod_survey_20 : decode b_Mod_survey 20 = .ok (.iload_n 1, 1) := by decide +kernel
theorem d_Mod_survey_21 : decode b_Mod_survey 21 = .ok (.invokevirtual 140, 3) := by decide +kernel
theorem d_Mod_survey_24 : decode b_Mod_survey 24 = .ok (.ifCond .eq 14, 3) := by decide +kernel
theorem d_Mod_survey_27 : decode b_Mod_survey 27 = .ok (.lload_n 2, 1) := by decide +kernel
theorem d_Mod_survey_28 : decode b_Mod_survey 28 = .ok (.lconst 0, 1) := by decide +kernel
theorem d_Mod_survey_29 : decode b_Mod_survey 29 = .ok (.ldc2_w 149, 3) := by decide +kernel
theorem d_Mod_survey_32 : decode b_Mod_survey 32 = .ok (.invokestatic 84, 3) := by decide +kernel
theorem d_Mod_survey_35 : decode b_Mod_survey 35 = .ok (.ifCond .ne 5, 3) := by decide +kernel
theorem d_Mod_survey_38 : decode b_Mod_survey 38 = .ok (.iconst (-1), 1) := by decide +kernel
theorem d_Mod_survey_39 : decode b_Mod_survey 39 = .ok (.ireturn, 1) := by decide +kernel
theorem d_Mod_survey_40 : decode b_Mod_survey 40 = .ok (.aload_n 0, 1) := by decide +kernel
theorem d_Mod_survey_41 : decode b_Mod_survey 41 = .ok (.iconst 5, 1) := by decide +kernel
theorem d_Mod_survey_42 : decode b_Mod_survey 42 = .ok (.iload_n 1, 1) := by decide +kernel
theorem d_Mod_survey_43 : decode b_Mod_survey 43 = .ok (.iconst 0, 1) := by decide +kernel
theorem d_Mod_survey_44 : decode b_Mod_survey 44 = .ok (.lload_n 2, 1) := by decide +kernel
theorem d_Mod_survey_45 : decode b_Mod_survey 45 = .ok (.lconst 0, 1) := by decide +kernel
theorem d_Mod_survey_46 : decode b_Mod_survey 46 = .ok (.invokevirtual 136, 3) := by decide +kernel
theorem d_Mod_survey_49 : decode b_Mod_survey 49 = .ok (.aload_n 0, 1) := by decide +kernel
theorem d_Mod_survey_50 : decode b_Mod_survey 50 = .ok (.getfield 112, 3) := by decide +kernel
theorem d_Mod_survey_53 : decode b_Mod_survey 53 = .ok (.iconst 1, 1) := by decide +kernel
theorem d_Mod_survey_54 : decode b_Mod_survey 54 = .ok (.isub, 1) := by decide +kernel
theorem d_Mod_survey_55 : decode b_Mod_survey 55 = .ok (.ireturn, 1) := by decide +kernel
theorem d_Mod_height_0 : decode b_Mod_height 0 = .ok (.aload_n 0, 1) := by decide +kernel
theorem d_Mod_height_1 : decode b_Mod_height 1 = .ok (.iload_n 1, 1) := by decide +kernel
theorem d_Mod_height_2 : decode b_Mod_height 2 = .ok (.invokevirtual 140, 3) := by decide +kernel
theorem d_Mod_height_5 : decode b_Mod_height 5 = .ok (.ifCond .eq 11, 3) := by decide +kernel
theorem d_Mod_height_8 : decode b_Mod_height 8 = .ok (.aload_n 0, 1) := by decide +kernel
theorem d_Mod_height_9 : decode b_Mod_height 9 = .ok (.iload_n 1, 1) := by decide +kernel
theorem d_Mod_height_10 : decode b_Mod_height 10 = .ok (.invokevirtual 102, 3) := by decide +kernel
theorem d_Mod_height_13 : decode b_Mod_height 13 = .ok (.goto 6, 3) := by decide +kernel
theorem d_Mod_height_16 : decode b_Mod_height 16 = .ok (.ldc2_w 151, 3) := by decide +kernel
theorem d_Mod_height_19 : decode b_Mod_height 19 = .ok (.lreturn, 1) := by decide +kernel
theorem d_Mod_thickness_0 : decode b_Mod_thickness 0 = .ok (.aload_n 0, 1) := by decide +kernel
theorem d_Mod_thickness_1 : decode b_Mod_thickness 1 = .ok (.iload_n 1, 1) := by decide +kernel
theorem d_Mod_thickness_2 : decode b_Mod_thickness 2 = .ok (.invokevirtual 140, 3) := by decide +kernel
theorem d_Mod_thickness_5 : decode b_Mod_thickness 5 = .ok (.ifCond .eq 35, 3) := by decide +kernel
theorem d_Mod_thickness_8 : decode b_Mod_thickness 8 = .ok (.iload_n 2, 1) := by decide +kernel
theorem d_Mod_thickness_9 : decode b_Mod_thickness 9 = .ok (.i2l, 1) := by decide +kernel
theorem d_Mod_thickness_10 : decode b_Mod_thickness 10 = .ok (.lconst 0, 1) := by decide +kernel
theorem d_Mod_thickness_11 : decode b_Mod_thickness 11 = .ok (.aload_n 0, 1) := by decide +kernel
theorem d_Mod_thickness_12 : decode b_Mod_thickness 12 = .ok (.getfield 32, 3) := by decide +kernel
theorem d_Mod_thickness_15 : decode b_Mod_thickness 15 = .ok (.iload_n 1, 1) := by decide +kernel
theorem d_Mod_thickness_16 : decode b_Mod_thickness 16 = .ok (.iaload, 1) := by decide +kernel
theorem d_Mod_thickness_17 : decode b_Mod_thickness 17 = .ok (.i2l, 1) := by decide +kernel
theorem d_Mod_thickness_18 : decode b_Mod_thickness 18 = .ok (.lconst 1, 1) := by decide +kernel
theorem d_Mod_thickness_19 : decode b_Mod_thickness 19 = .ok (.lsub, 1) := by decide +kernel
theorem d_Mod_thickness_20 : decode b_Mod_thickness 20 = .ok (.invokestatic 84, 3) := by decide +kernel
theorem d_Mod_thickness_23 : decode b_Mod_thickness 23 = .ok (.ifCond .eq 17, 3) := by decide +kernel
theorem d_Mod_thickness_26 : decode b_Mod_thickness 26 = .ok (.aload_n 0, 1) := by decide +kernel
theorem d_Mod_thickness_27 : decode b_Mod_thickness 27 = .ok (.getfield 41, 3) := by decide +kernel
theorem d_Mod_thickness_30 : decode b_Mod_thickness 30 = .ok (.bipush 10, 2) := by decide +kernel
theorem d_Mod_thickness_32 : decode b_Mod_thickness 32 = .ok (.iload_n 1, 1) := by decide +kernel
theorem d_Mod_thickness_33 : decode b_Mod_thickness 33 = .ok (.imul, 1) := by decide +kernel
theorem d_Mod_thickness_34 : decode b_Mod_thickness 34 = .ok (.iload_n 2, 1) := by decide +kernel
theorem d_Mod_thickness_35 : decode b_Mod_thickness 35 = .ok (.iadd, 1) := by decide +kernel
theorem d_Mod_thickness_36 : decode b_Mod_thickness 36 = .ok (.laload, 1) := by decide +kernel
theorem d_Mod_thickness_37 : decode b_Mod_thickness 37 = .ok (.goto 6, 3) := by decide +kernel
theorem d_Mod_thickness_40 : decode b_Mod_thickness 40 = .ok (.ldc2_w 151, 3) := by decide +kernel
theorem d_Mod_thickness_43 : decode b_Mod_thickness 43 = .ok (.lreturn, 1) := by decide +kernel
theorem d_Mod_mass_0 : decode b_Mod_mass 0 = .ok (.aload_n 0, 1) := by decide +kernel
theorem d_Mod_mass_1 : decode b_Mod_mass 1 = .ok (.iload_n 1, 1) := by decide +kernel
theorem d_Mod_mass_2 : decode b_Mod_mass 2 = .ok (.invokevirtual 140, 3) := by decide +kernel
theorem d_Mod_mass_5 : decode b_Mod_mass 5 = .ok (.ifCond .eq 10, 3) := by decide +kernel
theorem d_Mod_mass_8 : decode b_Mod_mass 8 = .ok (.iload_n 2, 1) := by decide +kernel
theorem d_Mod_mass_9 : decode b_Mod_mass 9 = .ok (.invokestatic 124, 3) := by decide +kernel
theorem d_Mod_mass_12 : decode b_Mod_mass 12 = .ok (.ifCond .ne 7, 3) := by decide +kernel
theorem d_Mod_mass_15 : decode b_Mod_mass 15 = .ok (.ldc2_w 151, 3) := by decide +kernel
theorem d_Mod_mass_18 : decode b_Mod_mass 18 = .ok (.lreturn, 1) := by decide +kernel
theorem d_Mod_mass_19 : decode b_Mod_mass 19 = .ok (.lconst 0, 1) := by decide +kernel
theorem d_Mod_mass_20 : decode b_Mod_mass 20 = .ok (.lstore_n 3, 1) := by decide +kernel
theorem d_Mod_mass_21 : decode b_Mod_mass 21 = .ok (.iconst 0, 1) := by decide +kernel
theorem d_Mod_mass_22 : decode b_Mod_mass 22 = .ok (.istore 5, 2) := by decide +kernel
theorem d_Mod_mass_24 : decode b_Mod_mass 24 = .ok (.iload 5, 2) := by decide +kernel
theorem d_Mod_mass_26 : decode b_Mod_mass 26 = .ok (.aload_n 0, 1) := by decide +kernel
theorem d_Mod_mass_27 : decode b_Mod_mass 27 = .ok (.getfield 32, 3) := by decide +kernel
theorem d_Mod_mass_30 : decode b_Mod_mass 30 = .ok (.iload_n 1, 1) := by decide +kernel
theorem d_Mod_mass_31 : decode b_Mod_mass 31 = .ok (.iaload, 1) := by decide +kernel
theorem d_Mod_mass_32 : decode b_Mod_mass 32 = .ok (.if_icmp .ge 44, 3) := by decide +kernel
theorem d_Mod_mass_35 : decode b_Mod_mass 35 = .ok (.lload_n 3, 1) := by decide +kernel
theorem d_Mod_mass_36 : decode b_Mod_mass 36 = .ok (.aload_n 0, 1) := by decide +kernel
theorem d_Mod_mass_37 : decode b_Mod_mass 37 = .ok (.getfield 35, 3) := by decide +kernel
theorem d_Mod_mass_40 : decode b_Mod_mass 40 = .ok (.bipush 10, 2) := by decide +kernel
theorem d_Mod_mass_42 : decode b_Mod_mass 42 = .ok (.iload_n 1, 1) := by decide +kernel
theorem d_Mod_mass_43 : decode b_Mod_mass 43 = .ok (.imul, 1) := by decide +kernel
theorem d_Mod_mass_44 : decode b_Mod_mass 44 = .ok (.iload 5, 2) := by decide +kernel
theorem d_Mod_mass_46 : decode b_Mod_mass 46 = .ok (.iadd, 1) := by decide +kernel
theorem d_Mod_mass_47 : decode b_Mod_mass 47 = .ok (.iaload, 1) := by decide +kernel
theorem d_Mod_mass_48 : decode b_Mod_mass 48 = .ok (.iload_n 2, 1) := by decide +kernel
theorem d_Mod_mass_49 : decode b_Mod_mass 49 = .ok (.if_icmp .ne 18, 3) := by decide +kernel
theorem d_Mod_mass_52 : decode b_Mod_mass 52 = .ok (.aload_n 0, 1) := by decide +kernel
theorem d_Mod_mass_53 : decode b_Mod_mass 53 = .ok (.getfield 38, 3) := by decide +kernel
theorem d_Mod_mass_56 : decode b_Mod_mass 56 = .ok (.bipush 10, 2) := by decide +kernel
theorem d_Mod_mass_58 : decode b_Mod_mass 58 = .ok (.iload_n 1, 1) := by decide +kernel
theorem d_Mod_mass_59 : decode b_Mod_mass 59 = .ok (.imul, 1) := by decide +kernel
theorem d_Mod_mass_60 : decode b_Mod_mass 60 = .ok (.iload 5, 2) := by decide +kernel
theorem d_Mod_mass_62 : decode b_Mod_mass 62 = .ok (.iadd, 1) := by decide +kernel
theorem d_Mod_mass_63 : decode b_Mod_mass 63 = .ok (.laload, 1) := by decide +kernel
theorem d_Mod_mass_64 : decode b_Mod_mass 64 = .ok (.goto 4, 3) := by decide +kernel
theorem d_Mod_mass_67 : decode b_Mod_mass 67 = .ok (.lconst 0, 1) := by decide +kernel
theorem d_Mod_mass_68 : decode b_Mod_mass 68 = .ok (.ladd, 1) := by decide +kernel
theorem d_Mod_mass_69 : decode b_Mod_mass 69 = .ok (.lstore_n 3, 1) := by decide +kernel
theorem d_Mod_mass_70 : decode b_Mod_mass 70 = .ok (.iinc 5 1, 3) := by decide +kernel
theorem d_Mod_mass_73 : decode b_Mod_mass 73 = .ok (.goto (-49), 3) := by decide +kernel
theorem d_Mod_mass_76 : decode b_Mod_mass 76 = .ok (.lload_n 3, 1) := by decide +kernel
theorem d_Mod_mass_77 : decode b_Mod_mass 77 = .ok (.lreturn, 1) := by decide +kernel
theorem d_Mod_covered_0 : decode b_Mod_covered 0 = .ok (.aload_n 0, 1) := by decide +kernel
theorem d_Mod_covered_1 : decode b_Mod_covered 1 = .ok (.iload_n 1, 1) := by decide +kernel
theorem d_Mod_covered_2 : decode b_Mod_covered 2 = .ok (.invokevirtual 140, 3) := by decide +kernel
theorem d_Mod_covered_5 : decode b_Mod_covered 5 = .ok (.ifCond .eq 12, 3) := by decide +kernel
theorem d_Mod_covered_8 : decode b_Mod_covered 8 = .ok (.aload_n 0, 1) := by decide +kernel
theorem d_Mod_covered_9 : decode b_Mod_covered 9 = .ok (.getfield 47, 3) := by decide +kernel
theorem d_Mod_covered_12 : decode b_Mod_covered 12 = .ok (.iload_n 1, 1) := by decide +kernel
theorem d_Mod_covered_13 : decode b_Mod_covered 13 = .ok (.iaload, 1) := by decide +kernel
theorem d_Mod_covered_14 : decode b_Mod_covered 14 = .ok (.goto 4, 3) := by decide +kernel
theorem d_Mod_covered_17 : decode b_Mod_covered 17 = .ok (.iconst (-1), 1) := by decide +kernel
theorem d_Mod_covered_18 : decode b_Mod_covered 18 = .ok (.ireturn, 1) := by decide +kernel
theorem d_Mod_surface_0 : decode b_Mod_surface 0 = .ok (.aload_n 0, 1) := by decide +kernel
theorem d_Mod_surface_1 : decode b_Mod_surface 1 = .ok (.getfield 153, 3) := by decide +kernel
theorem d_Mod_surface_4 : decode b_Mod_surface 4 = .ok (.iconst 4, 1) := by decide +kernel
theorem d_Mod_surface_5 : decode b_Mod_surface 5 = .ok (.if_icmp .ne 5, 3) := by decide +kernel
theorem d_Mod_surface_8 : decode b_Mod_surface 8 = .ok (.iconst (-1), 1) := by decide +kernel
theorem d_Mod_surface_9 : decode b_Mod_surface 9 = .ok (.ireturn, 1) := by decide +kernel
theorem d_Mod_surface_10 : decode b_Mod_surface 10 = .ok (.aload_n 0, 1) := by decide +kernel
theorem d_Mod_surface_11 : decode b_Mod_surface 11 = .ok (.dup, 1) := by decide +kernel
theorem d_Mod_surface_12 : decode b_Mod_surface 12 = .ok (.getfield 153, 3) := by decide +kernel
theorem d_Mod_surface_15 : decode b_Mod_surface 15 = .ok (.iconst 1, 1) := by decide +kernel
theorem d_Mod_surface_16 : decode b_Mod_surface 16 = .ok (.iadd, 1) := by decide +kernel
theorem d_Mod_surface_17 : decode b_Mod_surface 17 = .ok (.putfield 153, 3) := by decide +kernel
theorem d_Mod_surface_20 : decode b_Mod_surface 20 = .ok (.aload_n 0, 1) := by decide +kernel
theorem d_Mod_surface_21 : decode b_Mod_surface 21 = .ok (.getfield 153, 3) := by decide +kernel
theorem d_Mod_surface_24 : decode b_Mod_surface 24 = .ok (.iconst 1, 1) := by decide +kernel
theorem d_Mod_surface_25 : decode b_Mod_surface 25 = .ok (.isub, 1) := by decide +kernel
theorem d_Mod_surface_26 : decode b_Mod_surface 26 = .ok (.ireturn, 1) := by decide +kernel
theorem d_Mod_isSurface_0 : decode b_Mod_isSurface 0 = .ok (.iload_n 1, 1) := by decide +kernel
theorem d_Mod_isSurface_1 : decode b_Mod_isSurface 1 = .ok (.ifCond .lt 15, 3) := by decide +kernel
theorem d_Mod_isSurface_4 : decode b_Mod_isSurface 4 = .ok (.iload_n 1, 1) := by decide +kernel
theorem d_Mod_isSurface_5 : decode b_Mod_isSurface 5 = .ok (.aload_n 0, 1) := by decide +kernel
theorem d_Mod_isSurface_6 : decode b_Mod_isSurface 6 = .ok (.getfield 153, 3) := by decide +kernel
theorem d_Mod_isSurface_9 : decode b_Mod_isSurface 9 = .ok (.if_icmp .ge 7, 3) := by decide +kernel
theorem d_Mod_isSurface_12 : decode b_Mod_isSurface 12 = .ok (.iconst 1, 1) := by decide +kernel
theorem d_Mod_isSurface_13 : decode b_Mod_isSurface 13 = .ok (.goto 4, 3) := by decide +kernel
theorem d_Mod_isSurface_16 : decode b_Mod_isSurface 16 = .ok (.iconst 0, 1) := by decide +kernel
theorem d_Mod_isSurface_17 : decode b_Mod_isSurface 17 = .ok (.ireturn, 1) := by decide +kernel
theorem d_Mod_point_0 : decode b_Mod_point 0 = .ok (.aload_n 0, 1) := by decide +kernel
theorem d_Mod_point_1 : decode b_Mod_point 1 = .ok (.iload_n 1, 1) := by decide +kernel
theorem d_Mod_point_2 : decode b_Mod_point 2 = .ok (.invokevirtual 156, 3) := by decide +kernel
theorem d_Mod_point_5 : decode b_Mod_point 5 = .ok (.ifCond .eq 42, 3) := by decide +kernel
theorem d_Mod_point_8 : decode b_Mod_point 8 = .ok (.iload_n 2, 1) := by decide +kernel
theorem d_Mod_point_9 : decode b_Mod_point 9 = .ok (.i2l, 1) := by decide +kernel
theorem d_Mod_point_10 : decode b_Mod_point 10 = .ok (.lconst 0, 1) := by decide +kernel
theorem d_Mod_point_11 : decode b_Mod_point 11 = .ok (.ldc2_w 159, 3) := by decide +kernel
theorem d_Mod_point_14 : decode b_Mod_point 14 = .ok (.invokestatic 84, 3) := by decide +kernel
theorem d_Mod_point_17 : decode b_Mod_point 17 = .ok (.ifCond .eq 30, 3) := by decide +kernel
theorem d_Mod_point_20 : decode b_Mod_point 20 = .ok (.iload_n 3, 1) := by decide +kernel
theorem d_Mod_point_21 : decode b_Mod_point 21 = .ok (.i2l, 1) := by decide +kernel
theorem d_Mod_point_22 : decode b_Mod_point 22 = .ok (.lconst 0, 1) := by decide +kernel
theorem d_Mod_point_23 : decode b_Mod_point 23 = .ok (.ldc2_w 159, 3) := by decide +kernel
theorem d_Mod_point_26 : decode b_Mod_point 26 = .ok (.invokestatic 84, 3) := by decide +kernel
theorem d_Mod_point_29 : decode b_Mod_point 29 = .ok (.ifCond .eq 18, 3) := by decide +kernel
theorem d_Mod_point_32 : decode b_Mod_point 32 = .ok (.iload 4, 2) := by decide +kernel
theorem d_Mod_point_34 : decode b_Mod_point 34 = .ok (.i2l, 1) := by decide +kernel
theorem d_Mod_point_35 : decode b_Mod_point 35 = .ok (.ldc2_w 161, 3) := by decide +kernel
theorem d_Mod_point_38 : decode b_Mod_point 38 = .ok (.ldc2_w 163, 3) := by decide +kernel
theorem d_Mod_point_41 : decode b_Mod_point 41 = .ok (.invokestatic 84, 3) := by decide +kernel
theorem d_Mod_point_44 : decode b_Mod_point 44 = .ok (.ifCond .ne 5, 3) := by decide +kernel
theorem d_Mod_point_47 : decode b_Mod_point 47 = .ok (.iconst 0, 1) := by decide +kernel
theorem d_Mod_point_48 : decode b_Mod_point 48 = .ok (.ireturn, 1) := by decide +kernel
theorem d_Mod_point_49 : decode b_Mod_point 49 = .ok (.aload_n 0, 1) := by decide +kernel
theorem d_Mod_point_50 : decode b_Mod_point 50 = .ok (.getfield 59, 3) := by decide +kernel
theorem d_Mod_point_53 : decode b_Mod_point 53 = .ok (.bipush 25, 2) := by decide +kernel
theorem d_Mod_point_55 : decode b_Mod_point 55 = .ok (.iload_n 1, 1) := by decide +kernel
theorem d_Mod_point_56 : decode b_Mod_point 56 = .ok (.imul, 1) := by decide +kernel
theorem d_Mod_point_57 : decode b_Mod_point 57 = .ok (.iconst 5, 1) := by decide +kernel
theorem d_Mod_point_58 : decode b_Mod_point 58 = .ok (.iload_n 3, 1) := by decide +kernel
theorem d_Mod_point_59 : decode b_Mod_point 59 = .ok (.imul, 1) := by decide +kernel
theorem d_Mod_point_60 : decode b_Mod_point 60 = .ok (.iadd, 1) := by decide +kernel
theorem d_Mod_point_61 : decode b_Mod_point 61 = .ok (.iload_n 2, 1) := by decide +kernel
theorem d_Mod_point_62 : decode b_Mod_point 62 = .ok (.iadd, 1) := by decide +kernel
theorem d_Mod_point_63 : decode b_Mod_point 63 = .ok (.iload 4, 2) := by decide +kernel
theorem d_Mod_point_65 : decode b_Mod_point 65 = .ok (.iastore, 1) := by decide +kernel
theorem d_Mod_point_66 : decode b_Mod_point 66 = .ok (.aload_n 0, 1) := by decide +kernel
theorem d_Mod_point_67 : decode b_Mod_point 67 = .ok (.getfield 62, 3) := by decide +kernel
theorem d_Mod_point_70 : decode b_Mod_point 70 = .ok (.bipush 25, 2) := by decide +kernel
theorem d_Mod_point_72 : decode b_Mod_point 72 = .ok (.iload_n 1, 1) := by decide +kernel
theorem d_Mod_point_73 : decode b_Mod_point 73 = .ok (.imul, 1) := by decide +kernel
theorem d_Mod_point_74 : decode b_Mod_point 74 = .ok (.iconst 5, 1) := by decide +kernel
theorem d_Mod_point_75 : decode b_Mod_point 75 = .ok (.iload_n 3, 1) := by decide +kernel
theorem d_Mod_point_76 : decode b_Mod_point 76 = .ok (.imul, 1) := by decide +kernel
theorem d_Mod_point_77 : decode b_Mod_point 77 = .ok (.iadd, 1) := by decide +kernel
theorem d_Mod_point_78 : decode b_Mod_point 78 = .ok (.iload_n 2, 1) := by decide +kernel
theorem d_Mod_point_79 : decode b_Mod_point 79 = .ok (.iadd, 1) := by decide +kernel
theorem d_Mod_point_80 : decode b_Mod_point 80 = .ok (.iconst 1, 1) := by decide +kernel
theorem d_Mod_point_81 : decode b_Mod_point 81 = .ok (.bastore, 1) := by decide +kernel
theorem d_Mod_point_82 : decode b_Mod_point 82 = .ok (.iconst 1, 1) := by decide +kernel
theorem d_Mod_point_83 : decode b_Mod_point 83 = .ok (.ireturn, 1) := by decide +kernel
theorem d_Mod_apart_0 : decode b_Mod_apart 0 = .ok (.aload_n 0, 1) := by decide +kernel
theorem d_Mod_apart_1 : decode b_Mod_apart 1 = .ok (.getfield 59, 3) := by decide +kernel
theorem d_Mod_apart_4 : decode b_Mod_apart 4 = .ok (.bipush 25, 2) := by decide +kernel
theorem d_Mod_apart_6 : decode b_Mod_apart 6 = .ok (.iload_n 2, 1) := by decide +kernel
theorem d_Mod_apart_7 : decode b_Mod_apart 7 = .ok (.imul, 1) := by decide +kernel
theorem d_Mod_apart_8 : decode b_Mod_apart 8 = .ok (.iload_n 3, 1) := by decide +kernel
theorem d_Mod_apart_9 : decode b_Mod_apart 9 = .ok (.iadd, 1) := by decide +kernel
theorem d_Mod_apart_10 : decode b_Mod_apart 10 = .ok (.iaload, 1) := by decide +kernel
theorem d_Mod_apart_11 : decode b_Mod_apart 11 = .ok (.aload_n 0, 1) := by decide +kernel
theorem d_Mod_apart_12 : decode b_Mod_apart 12 = .ok (.getfield 59, 3) := by decide +kernel
theorem d_Mod_apart_15 : decode b_Mod_apart 15 = .ok (.bipush 25, 2) := by decide +kernel
theorem d_Mod_apart_17 : decode b_Mod_apart 17 = .ok (.iload_n 1, 1) := by decide +kernel
theorem d_Mod_apart_18 : decode b_Mod_apart 18 = .ok (.imul, 1) := by decide +kernel
theorem d_Mod_apart_19 : decode b_Mod_apart 19 = .ok (.iload_n 3, 1) := by decide +kernel
theorem d_Mod_apart_20 : decode b_Mod_apart 20 = .ok (.iadd, 1) := by decide +kernel
theorem d_Mod_apart_21 : decode b_Mod_apart 21 = .ok (.iaload, 1) := by decide +kernel
theorem d_Mod_apart_22 : decode b_Mod_apart 22 = .ok (.isub, 1) := by decide +kernel
theorem d_Mod_apart_23 : decode b_Mod_apart 23 = .ok (.i2l, 1) := by decide +kernel
theorem d_Mod_apart_24 : decode b_Mod_apart 24 = .ok (.lreturn, 1) := by decide +kernel
theorem d_Mod_isTold_0 : decode b_Mod_isTold 0 = .ok (.aload_n 0, 1) := by decide +kernel
theorem d_Mod_isTold_1 : decode b_Mod_isTold 1 = .ok (.getfield 62, 3) := by decide +kernel
theorem d_Mod_isTold_4 : decode b_Mod_isTold 4 = .ok (.bipush 25, 2) := by decide +kernel
theorem d_Mod_isTold_6 : decode b_Mod_isTold 6 = .ok (.iload_n 1, 1) := by decide +kernel
theorem d_Mod_isTold_7 : decode b_Mod_isTold 7 = .ok (.imul, 1) := by decide +kernel
theorem d_Mod_isTold_8 : decode b_Mod_isTold 8 = .ok (.iload_n 3, 1) := by decide +kernel
theorem d_Mod_isTold_9 : decode b_Mod_isTold 9 = .ok (.iadd, 1) := by decide +kernel
theorem d_Mod_isTold_10 : decode b_Mod_isTold 10 = .ok (.baload, 1) := by decide +kernel
theorem d_Mod_isTold_11 : decode b_Mod_isTold 11 = .ok (.ifCond .eq 21, 3) := by decide +kernel
theorem d_Mod_isTold_14 : decode b_Mod_isTold 14 = .ok (.aload_n 0, 1) := by decide +kernel
theorem d_Mod_isTold_15 : decode b_Mod_isTold 15 = .ok (.getfield 62, 3) := by decide +kernel
theorem d_Mod_isTold_18 : decode b_Mod_isTold 18 = .ok (.bipush 25, 2) := by decide +kernel
theorem d_Mod_isTold_20 : decode b_Mod_isTold 20 = .ok (.iload_n 2, 1) := by decide +kernel
theorem d_Mod_isTold_21 : decode b_Mod_isTold 21 = .ok (.imul, 1) := by decide +kernel
theorem d_Mod_isTold_22 : decode b_Mod_isTold 22 = .ok (.iload_n 3, 1) := by decide +kernel
theorem d_Mod_isTold_23 : decode b_Mod_isTold 23 = .ok (.iadd, 1) := by decide +kernel
theorem d_Mod_isTold_24 : decode b_Mod_isTold 24 = .ok (.baload, 1) := by decide +kernel
theorem d_Mod_isTold_25 : decode b_Mod_isTold 25 = .ok (.ifCond .eq 7, 3) := by decide +kernel
theorem d_Mod_isTold_28 : decode b_Mod_isTold 28 = .ok (.iconst 1, 1) := by decide +kernel
theorem d_Mod_isTold_29 : decode b_Mod_isTold 29 = .ok (.goto 4, 3) := by decide +kernel
theorem d_Mod_isTold_32 : decode b_Mod_isTold 32 = .ok (.iconst 0, 1) := by decide +kernel
theorem d_Mod_isTold_33 : decode b_Mod_isTold 33 = .ok (.ireturn, 1) := by decide +kernel
theorem d_Mod_common_0 : decode b_Mod_common 0 = .ok (.lload_n 0, 1) := by decide +kernel
theorem d_Mod_common_1 : decode b_Mod_common 1 = .ok (.lconst 0, 1) := by decide +kernel
theorem d_Mod_common_2 : decode b_Mod_common 2 = .ok (.lcmp, 1) := by decide +kernel
theorem d_Mod_common_3 : decode b_Mod_common 3 = .ok (.ifCond .ge 8, 3) := by decide +kernel
theorem d_Mod_common_6 : decode b_Mod_common 6 = .ok (.lload_n 0, 1) := by decide +kernel
theorem d_Mod_common_7 : decode b_Mod_common 7 = .ok (.lneg, 1) := by decide +kernel
theorem d_Mod_common_8 : decode b_Mod_common 8 = .ok (.goto 4, 3) := by decide +kernel
theorem d_Mod_common_11 : decode b_Mod_common 11 = .ok (.lload_n 0, 1) := by decide +kernel
theorem d_Mod_common_12 : decode b_Mod_common 12 = .ok (.lstore 4, 2) := by decide +kernel
theorem d_Mod_common_14 : decode b_Mod_common 14 = .ok (.lload_n 2, 1) := by decide +kernel
theorem d_Mod_common_15 : decode b_Mod_common 15 = .ok (.lstore 6, 2) := by decide +kernel
theorem d_Mod_common_17 : decode b_Mod_common 17 = .ok (.lload 4, 2) := by decide +kernel
theorem d_Mod_common_19 : decode b_Mod_common 19 = .ok (.lconst 0, 1) := by decide +kernel
theorem d_Mod_common_20 : decode b_Mod_common 20 = .ok (.lcmp, 1) := by decide +kernel
theorem d_Mod_common_21 : decode b_Mod_common 21 = .ok (.ifCond .eq 21, 3) := by decide +kernel
theorem d_Mod_common_24 : decode b_Mod_common 24 = .ok (.lload 6, 2) := by decide +kernel
theorem d_Mod_common_26 : decode b_Mod_common 26 = .ok (.lload 4, 2) := by decide +kernel
theorem d_Mod_common_28 : decode b_Mod_common 28 = .ok (.lrem, 1) := by decide +kernel
theorem d_Mod_common_29 : decode b_Mod_common 29 = .ok (.lstore 8, 2) := by decide +kernel
theorem d_Mod_common_31 : decode b_Mod_common 31 = .ok (.lload 4, 2) := by decide +kernel
theorem d_Mod_common_33 : decode b_Mod_common 33 = .ok (.lstore 6, 2) := by decide +kernel
theorem d_Mod_common_35 : decode b_Mod_common 35 = .ok (.lload 8, 2) := by decide +kernel
theorem d_Mod_common_37 : decode b_Mod_common 37 = .ok (.lstore 4, 2) := by decide +kernel
theorem d_Mod_common_39 : decode b_Mod_common 39 = .ok (.goto (-22), 3) := by decide +kernel
theorem d_Mod_common_42 : decode b_Mod_common 42 = .ok (.lload 6, 2) := by decide +kernel
theorem d_Mod_common_44 : decode b_Mod_common 44 = .ok (.lreturn, 1) := by decide +kernel
theorem d_Mod_room_0 : decode b_Mod_room 0 = .ok (.aload_n 0, 1) := by decide +kernel
theorem d_Mod_room_1 : decode b_Mod_room 1 = .ok (.iload_n 1, 1) := by decide +kernel
theorem d_Mod_room_2 : decode b_Mod_room 2 = .ok (.invokevirtual 156, 3) := by decide +kernel
theorem d_Mod_room_5 : decode b_Mod_room 5 = .ok (.ifCond .eq 21, 3) := by decide +kernel
theorem d_Mod_room_8 : decode b_Mod_room 8 = .ok (.aload_n 0, 1) := by decide +kernel
theorem d_Mod_room_9 : decode b_Mod_room 9 = .ok (.iload_n 2, 1) := by decide +kernel
theorem d_Mod_room_10 : decode b_Mod_room 10 = .ok (.invokevirtual 156, 3) := by decide +kernel
theorem d_Mod_room_13 : decode b_Mod_room 13 = .ok (.ifCond .eq 13, 3) := by decide +kernel
theorem d_Mod_room_16 : decode b_Mod_room 16 = .ok (.iload_n 3, 1) := by decide +kernel
theorem d_Mod_room_17 : decode b_Mod_room 17 = .ok (.i2l, 1) := by decide +kernel
theorem d_Mod_room_18 : decode b_Mod_room 18 = .ok (.lconst 0, 1) := by decide +kernel
theorem d_Mod_room_19 : decode b_Mod_room 19 = .ok (.lconst 1, 1) := by decide +kernel
theorem d_Mod_room_20 : decode b_Mod_room 20 = .ok (.invokestatic 84, 3) := by decide +kernel
theorem d_Mod_room_23 : decode b_Mod_room 23 = .ok (.ifCond .ne 7, 3) := by decide +kernel
theorem d_Mod_room_26 : decode b_Mod_room 26 = .ok (.ldc2_w 165, 3) := by decide +kernel
theorem d_Mod_room_29 : decode b_Mod_room 29 = .ok (.lreturn, 1) := by decide +kernel
theorem d_Mod_room_30 : decode b_Mod_room 30 = .ok (.lconst 0, 1) := by decide +kernel
theorem d_Mod_room_31 : decode b_Mod_room 31 = .ok (.lstore 4, 2) := by decide +kernel
theorem d_Mod_room_33 : decode b_Mod_room 33 = .ok (.iconst 0, 1) := by decide +kernel
theorem d_Mod_room_34 : decode b_Mod_room 34 = .ok (.istore 6, 2) := by decide +kernel
theorem d_Mod_room_36 : decode b_Mod_room 36 = .ok (.iload 6, 2) := by decide +kernel
theorem d_Mod_room_38 : decode b_Mod_room 38 = .ok (.iconst 4, 1) := by decide +kernel
theorem d_Mod_room_39 : decode b_Mod_room 39 = .ok (.if_icmp .ge 139, 3) := by decide +kernel
theorem d_Mod_room_42 : decode b_Mod_room 42 = .ok (.iconst 0, 1) := by decide +kernel
theorem d_Mod_room_43 : decode b_Mod_room 43 = .ok (.istore 7, 2) := by decide +kernel
theorem d_Mod_room_45 : decode b_Mod_room 45 = .ok (.iload 7, 2) := by decide +kernel
theorem d_Mod_room_47 : decode b_Mod_room 47 = .ok (.iconst 4, 1) := by decide +kernel
theorem d_Mod_room_48 : decode b_Mod_room 48 = .ok (.if_icmp .ge 124, 3) := by decide +kernel
theorem d_Mod_room_51 : decode b_Mod_room 51 = .ok (.iconst 5, 1) := by decide +kernel
theorem d_Mod_room_52 : decode b_Mod_room 52 = .ok (.iload 6, 2) := by decide +kernel
theorem d_Mod_room_54 : decode b_Mod_room 54 = .ok (.imul, 1) := by decide +kernel
theorem d_Mod_room_55 : decode b_Mod_room 55 = .ok (.iload 7, 2) := by decide +kernel
theorem d_Mod_room_57 : decode b_Mod_room 57 = .ok (.iadd, 1) := by decide +kernel
theorem d_Mod_room_58 : decode b_Mod_room 58 = .ok (.istore 8, 2) := by decide +kernel
theorem d_Mod_room_60 : decode b_Mod_room 60 = .ok (.aload_n 0, 1) := by decide +kernel
theorem d_Mod_room_61 : decode b_Mod_room 61 = .ok (.iload_n 1, 1) := by decide +kernel
theorem d_Mod_room_62 : decode b_Mod_room 62 = .ok (.iload_n 2, 1) := by decide +kernel
theorem d_Mod_room_63 : decode b_Mod_room 63 = .ok (.iload 8, 2) := by decide +kernel
theorem d_Mod_room_65 : decode b_Mod_room 65 = .ok (.invokevirtual 167, 3) := by decide +kernel
theorem d_Mod_room_68 : decode b_Mod_room 68 = .ok (.ifCond .eq 98, 3) := by decide +kernel
theorem d_Mod_room_71 : decode b_Mod_room 71 = .ok (.aload_n 0, 1) := by decide +kernel
theorem d_Mod_room_72 : decode b_Mod_room 72 = .ok (.iload_n 1, 1) := by decide +kernel
theorem d_Mod_room_73 : decode b_Mod_room 73 = .ok (.iload_n 2, 1) := by decide +kernel
theorem d_Mod_room_74 : decode b_Mod_room 74 = .ok (.iload 8, 2) := by decide +kernel
theorem d_Mod_room_76 : decode b_Mod_room 76 = .ok (.iconst 1, 1) := by decide +kernel
theorem d_Mod_room_77 : decode b_Mod_room 77 = .ok (.iadd, 1) := by decide +kernel
theorem d_Mod_room_78 : decode b_Mod_room 78 = .ok (.invokevirtual 167, 3) := by decide +kernel
theorem d_Mod_room_81 : decode b_Mod_room 81 = .ok (.ifCond .eq 85, 3) := by decide +kernel
theorem d_Mod_room_84 : decode b_Mod_room 84 = .ok (.aload_n 0, 1) := by decide +kernel
theorem d_Mod_room_85 : decode b_Mod_room 85 = .ok (.iload_n 1, 1) := by decide +kernel
theorem d_Mod_room_86 : decode b_Mod_room 86 = .ok (.iload_n 2, 1) := by decide +kernel
theorem d_Mod_room_87 : decode b_Mod_room 87 = .ok (.iload 8, 2) := by decide +kernel
theorem d_Mod_room_89 : decode b_Mod_room 89 = .ok (.iconst 5, 1) := by decide +kernel
theorem d_Mod_room_90 : decode b_Mod_room 90 = .ok (.iadd, 1) := by decide +kernel
theorem d_Mod_room_91 : decode b_Mod_room 91 = .ok (.invokevirtual 167, 3) := by decide +kernel
theorem d_Mod_room_94 : decode b_Mod_room 94 = .ok (.ifCond .eq 72, 3) := by decide +kernel
theorem d_Mod_room_97 : decode b_Mod_room 97 = .ok (.aload_n 0, 1) := by decide +kernel
theorem d_Mod_room_98 : decode b_Mod_room 98 = .ok (.iload_n 1, 1) := by decide +kernel
theorem d_Mod_room_99 : decode b_Mod_room 99 = .ok (.iload_n 2, 1) := by decide +kernel
theorem d_Mod_room_100 : decode b_Mod_room 100 = .ok (.iload 8, 2) := by decide +kernel
theorem d_Mod_room_102 : decode b_Mod_room 102 = .ok (.bipush 6, 2) := by decide +kernel
theorem d_Mod_room_104 : decode b_Mod_room 104 = .ok (.iadd, 1) := by decide +kernel
theorem d_Mod_room_105 : decode b_Mod_room 105 = .ok (.invokevirtual 167, 3) := by decide +kernel
theorem d_Mod_room_108 : decode b_Mod_room 108 = .ok (.ifCond .eq 58, 3) := by decide +kernel
theorem d_Mod_room_111 : decode b_Mod_room 111 = .ok (.lload 4, 2) := by decide +kernel
theorem d_Mod_room_113 : decode b_Mod_room 113 = .ok (.ldc2_w 171, 3) := by decide +kernel
theorem d_Mod_room_116 : decode b_Mod_room 116 = .ok (.aload_n 0, 1) := by decide +kernel
theorem d_Mod_room_117 : decode b_Mod_room 117 = .ok (.iload_n 1, 1) := by decide +kernel
theorem d_Mod_room_118 : decode b_Mod_room 118 = .ok (.iload_n 2, 1) := by decide +kernel
theorem d_Mod_room_119 : decode b_Mod_room 119 = .ok (.iload 8, 2) := by decide +kernel
theorem d_Mod_room_121 : decode b_Mod_room 121 = .ok (.invokevirtual 173, 3) := by decide +kernel
theorem d_Mod_room_124 : decode b_Mod_room 124 = .ok (.lmul, 1) := by decide +kernel
theorem d_Mod_room_125 : decode b_Mod_room 125 = .ok (.aload_n 0, 1) := by decide +kernel
theorem d_Mod_room_126 : decode b_Mod_room 126 = .ok (.iload_n 1, 1) := by decide +kernel
theorem d_Mod_room_127 : decode b_Mod_room 127 = .ok (.iload_n 2, 1) := by decide +kernel
theorem d_Mod_room_128 : decode b_Mod_room 128 = .ok (.iload 8, 2) := by decide +kernel
theorem d_Mod_room_130 : decode b_Mod_room 130 = .ok (.iconst 1, 1) := by decide +kernel
theorem d_Mod_room_131 : decode b_Mod_room 131 = .ok (.iadd, 1) := by decide +kernel
theorem d_Mod_room_132 : decode b_Mod_room 132 = .ok (.invokevirtual 173, 3) := by decide +kernel
theorem d_Mod_room_135 : decode b_Mod_room 135 = .ok (.ladd, 1) := by decide +kernel
theorem d_Mod_room_136 : decode b_Mod_room 136 = .ok (.aload_n 0, 1) := by decide +kernel
theorem d_Mod_room_137 : decode b_Mod_room 137 = .ok (.iload_n 1, 1) := by decide +kernel
theorem d_Mod_room_138 : decode b_Mod_room 138 = .ok (.iload_n 2, 1) := by decide +kernel
theorem d_Mod_room_139 : decode b_Mod_room 139 = .ok (.iload 8, 2) := by decide +kernel
theorem d_Mod_room_141 : decode b_Mod_room 141 = .ok (.iconst 5, 1) := by decide +kernel
theorem d_Mod_room_142 : decode b_Mod_room 142 = .ok (.iadd, 1) := by decide +kernel
theorem d_Mod_room_143 : decode b_Mod_room 143 = .ok (.invokevirtual 173, 3) := by decide +kernel
theorem d_Mod_room_146 : decode b_Mod_room 146 = .ok (.ladd, 1) := by decide +kernel
theorem d_Mod_room_147 : decode b_Mod_room 147 = .ok (.ldc2_w 171, 3) := by decide +kernel
theorem d_Mod_room_150 : decode b_Mod_room 150 = .ok (.aload_n 0, 1) := by decide +kernel
theorem d_Mod_room_151 : decode b_Mod_room 151 = .ok (.iload_n 1, 1) := by decide +kernel
theorem d_Mod_room_152 : decode b_Mod_room 152 = .ok (.iload_n 2, 1) := by decide +kernel
theorem d_Mod_room_153 : decode b_Mod_room 153 = .ok (.iload 8, 2) := by decide +kernel
theorem d_Mod_room_155 : decode b_Mod_room 155 = .ok (.bipush 6, 2) := by decide +kernel
theorem d_Mod_room_157 : decode b_Mod_room 157 = .ok (.iadd, 1) := by decide +kernel
theorem d_Mod_room_158 : decode b_Mod_room 158 = .ok (.invokevirtual 173, 3) := by decide +kernel
theorem d_Mod_room_161 : decode b_Mod_room 161 = .ok (.lmul, 1) := by decide +kernel
theorem d_Mod_room_162 : decode b_Mod_room 162 = .ok (.ladd, 1) := by decide +kernel
theorem d_Mod_room_163 : decode b_Mod_room 163 = .ok (.ladd, 1) := by decide +kernel
theorem d_Mod_room_164 : decode b_Mod_room 164 = .ok (.lstore 4, 2) := by decide +kernel
theorem d_Mod_room_166 : decode b_Mod_room 166 = .ok (.iinc 7 1, 3) := by decide +kernel
theorem d_Mod_room_169 : decode b_Mod_room 169 = .ok (.goto (-124), 3) := by decide +kernel
theorem d_Mod_room_172 : decode b_Mod_room 172 = .ok (.iinc 6 1, 3) := by decide +kernel
theorem d_Mod_room_175 : decode b_Mod_room 175 = .ok (.goto (-139), 3) := by decide +kernel
theorem d_Mod_room_178 : decode b_Mod_room 178 = .ok (.lload 4, 2) := by decide +kernel
theorem d_Mod_room_180 : decode b_Mod_room 180 = .ok (.aload_n 0, 1) := by decide +kernel
theorem d_Mod_room_181 : decode b_Mod_room 181 = .ok (.getfield 79, 3) := by decide +kernel
theorem d_Mod_room_184 : decode b_Mod_room 184 = .ok (.i2l, 1) := by decide +kernel
theorem d_Mod_room_185 : decode b_Mod_room 185 = .ok (.lmul, 1) := by decide +kernel
theorem d_Mod_room_186 : decode b_Mod_room 186 = .ok (.aload_n 0, 1) := by decide +kernel
theorem d_Mod_room_187 : decode b_Mod_room 187 = .ok (.getfield 79, 3) := by decide +kernel
theorem d_Mod_room_190 : decode b_Mod_room 190 = .ok (.i2l, 1) := by decide +kernel
theorem d_Mod_room_191 : decode b_Mod_room 191 = .ok (.lmul, 1) := by decide +kernel
theorem d_Mod_room_192 : decode b_Mod_room 192 = .ok (.lstore 6, 2) := by decide +kernel
theorem d_Mod_room_194 : decode b_Mod_room 194 = .ok (.lload 6, 2) := by decide +kernel
theorem d_Mod_room_196 : decode b_Mod_room 196 = .ok (.ldc2_w 177, 3) := by decide +kernel
theorem d_Mod_room_199 : decode b_Mod_room 199 = .ok (.invokestatic 179, 3) := by decide +kernel
theorem d_Mod_room_202 : decode b_Mod_room 202 = .ok (.lstore 8, 2) := by decide +kernel
theorem d_Mod_room_204 : decode b_Mod_room 204 = .ok (.iload_n 3, 1) := by decide +kernel
theorem d_Mod_room_205 : decode b_Mod_room 205 = .ok (.ifCond .ne 11, 3) := by decide +kernel
theorem d_Mod_room_208 : decode b_Mod_room 208 = .ok (.lload 6, 2) := by decide +kernel
theorem d_Mod_room_210 : decode b_Mod_room 210 = .ok (.lload 8, 2) := by decide +kernel
theorem d_Mod_room_212 : decode b_Mod_room 212 = .ok (.ldiv, 1) := by decide +kernel
theorem d_Mod_room_213 : decode b_Mod_room 213 = .ok (.goto 9, 3) := by decide +kernel
theorem d_Mod_room_216 : decode b_Mod_room 216 = .ok (.ldc2_w 177, 3) := by decide +kernel
theorem d_Mod_room_219 : decode b_Mod_room 219 = .ok (.lload 8, 2) := by decide +kernel
theorem d_Mod_room_221 : decode b_Mod_room 221 = .ok (.ldiv, 1) := by decide +kernel
theorem d_Mod_room_222 : decode b_Mod_room 222 = .ok (.lreturn, 1) := by decide +kernel
theorem d_Mod_phase_0 : decode b_Mod_phase 0 = .ok (.aload_n 0, 1) := by decide +kernel
theorem d_Mod_phase_1 : decode b_Mod_phase 1 = .ok (.getfield 183, 3) := by decide +kernel
theorem d_Mod_phase_4 : decode b_Mod_phase 4 = .ok (.iconst 4, 1) := by decide +kernel
theorem d_Mod_phase_5 : decode b_Mod_phase 5 = .ok (.if_icmp .eq 35, 3) := by decide +kernel
theorem d_Mod_phase_8 : decode b_Mod_phase 8 = .ok (.aload_n 0, 1) := by decide +kernel
theorem d_Mod_phase_9 : decode b_Mod_phase 9 = .ok (.iload_n 1, 1) := by decide +kernel
theorem d_Mod_phase_10 : decode b_Mod_phase 10 = .ok (.invokevirtual 140, 3) := by decide +kernel
theorem d_Mod_phase_13 : decode b_Mod_phase 13 = .ok (.ifCond .eq 27, 3) := by decide +kernel
theorem d_Mod_phase_16 : decode b_Mod_phase 16 = .ok (.aload_n 0, 1) := by decide +kernel
theorem d_Mod_phase_17 : decode b_Mod_phase 17 = .ok (.iload_n 2, 1) := by decide +kernel
theorem d_Mod_phase_18 : decode b_Mod_phase 18 = .ok (.invokevirtual 140, 3) := by decide +kernel
theorem d_Mod_phase_21 : decode b_Mod_phase 21 = .ok (.ifCond .eq 19, 3) := by decide +kernel
theorem d_Mod_phase_24 : decode b_Mod_phase 24 = .ok (.iload_n 1, 1) := by decide +kernel
theorem d_Mod_phase_25 : decode b_Mod_phase 25 = .ok (.iload_n 2, 1) := by decide +kernel
theorem d_Mod_phase_26 : decode b_Mod_phase 26 = .ok (.if_icmp .gt 14, 3) := by decide +kernel
theorem d_Mod_phase_29 : decode b_Mod_phase 29 = .ok (.lload_n 3, 1) := by decide +kernel
theorem d_Mod_phase_30 : decode b_Mod_phase 30 = .ok (.lconst 0, 1) := by decide +kernel
theorem d_Mod_phase_31 : decode b_Mod_phase 31 = .ok (.ldc2_w 149, 3) := by decide +kernel
theorem d_Mod_phase_34 : decode b_Mod_phase 34 = .ok (.invokestatic 84, 3) := by decide +kernel
theorem d_Mod_phase_37 : decode b_Mod_phase 37 = .ok (.ifCond .ne 5, 3) := by decide +kernel
theorem d_Mod_phase_40 : decode b_Mod_phase 40 = .ok (.iconst (-1), 1) := by decide +kernel
theorem d_Mod_phase_41 : decode b_Mod_phase 41 = .ok (.ireturn, 1) := by decide +kernel
theorem d_Mod_phase_42 : decode b_Mod_phase 42 = .ok (.aload_n 0, 1) := by decide +kernel
theorem d_Mod_phase_43 : decode b_Mod_phase 43 = .ok (.getfield 66, 3) := by decide +kernel
theorem d_Mod_phase_46 : decode b_Mod_phase 46 = .ok (.aload_n 0, 1) := by decide +kernel
theorem d_Mod_phase_47 : decode b_Mod_phase 47 = .ok (.getfield 183, 3) := by decide +kernel
theorem d_Mod_phase_50 : decode b_Mod_phase 50 = .ok (.iload_n 1, 1) := by decide +kernel
theorem d_Mod_phase_51 : decode b_Mod_phase 51 = .ok (.iastore, 1) := by decide +kernel
theorem d_Mod_phase_52 : decode b_Mod_phase 52 = .ok (.aload_n 0, 1) := by decide +kernel
theorem d_Mod_phase_53 : decode b_Mod_phase 53 = .ok (.getfield 69, 3) := by decide +kernel
theorem d_Mod_phase_56 : decode b_Mod_phase 56 = .ok (.aload_n 0, 1) := by decide +kernel
theorem d_Mod_phase_57 : decode b_Mod_phase 57 = .ok (.getfield 183, 3) := by decide +kernel
theorem d_Mod_phase_60 : decode b_Mod_phase 60 = .ok (.iload_n 2, 1) := by decide +kernel
theorem d_Mod_phase_61 : decode b_Mod_phase 61 = .ok (.iastore, 1) := by decide +kernel
theorem d_Mod_phase_62 : decode b_Mod_phase 62 = .ok (.aload_n 0, 1) := by decide +kernel
theorem d_Mod_phase_63 : decode b_Mod_phase 63 = .ok (.getfield 72, 3) := by decide +kernel
theorem d_Mod_phase_66 : decode b_Mod_phase 66 = .ok (.aload_n 0, 1) := by decide +kernel
theorem d_Mod_phase_67 : decode b_Mod_phase 67 = .ok (.getfield 183, 3) := by decide +kernel
theorem d_Mod_phase_70 : decode b_Mod_phase 70 = .ok (.lload_n 3, 1) := by decide +kernel
theorem d_Mod_phase_71 : decode b_Mod_phase 71 = .ok (.lastore, 1) := by decide +kernel
theorem d_Mod_phase_72 : decode b_Mod_phase 72 = .ok (.aload_n 0, 1) := by decide +kernel
theorem d_Mod_phase_73 : decode b_Mod_phase 73 = .ok (.dup, 1) := by decide +kernel
theorem d_Mod_phase_74 : decode b_Mod_phase 74 = .ok (.getfield 183, 3) := by decide +kernel
theorem d_Mod_phase_77 : decode b_Mod_phase 77 = .ok (.iconst 1, 1) := by decide +kernel
theorem d_Mod_phase_78 : decode b_Mod_phase 78 = .ok (.iadd, 1) := by decide +kernel
theorem d_Mod_phase_79 : decode b_Mod_phase 79 = .ok (.putfield 183, 3) := by decide +kernel
theorem d_Mod_phase_82 : decode b_Mod_phase 82 = .ok (.aload_n 0, 1) := by decide +kernel
theorem d_Mod_phase_83 : decode b_Mod_phase 83 = .ok (.getfield 183, 3) := by decide +kernel
theorem d_Mod_phase_86 : decode b_Mod_phase 86 = .ok (.iconst 1, 1) := by decide +kernel
theorem d_Mod_phase_87 : decode b_Mod_phase 87 = .ok (.isub, 1) := by decide +kernel
theorem d_Mod_phase_88 : decode b_Mod_phase 88 = .ok (.ireturn, 1) := by decide +kernel
theorem d_Mod_step_0 : decode b_Mod_step 0 = .ok (.aload_n 0, 1) := by decide +kernel
theorem d_Mod_step_1 : decode b_Mod_step 1 = .ok (.iload_n 1, 1) := by decide +kernel
theorem d_Mod_step_2 : decode b_Mod_step 2 = .ok (.invokevirtual 102, 3) := by decide +kernel
theorem d_Mod_step_5 : decode b_Mod_step 5 = .ok (.aload_n 0, 1) := by decide +kernel
theorem d_Mod_step_6 : decode b_Mod_step 6 = .ok (.iload_n 1, 1) := by decide +kernel
theorem d_Mod_step_7 : decode b_Mod_step 7 = .ok (.iconst 1, 1) := by decide +kernel
theorem d_Mod_step_8 : decode b_Mod_step 8 = .ok (.iadd, 1) := by decide +kernel
theorem d_Mod_step_9 : decode b_Mod_step 9 = .ok (.invokevirtual 102, 3) := by decide +kernel
theorem d_Mod_step_12 : decode b_Mod_step 12 = .ok (.lsub, 1) := by decide +kernel
theorem d_Mod_step_13 : decode b_Mod_step 13 = .ok (.lstore_n 2, 1) := by decide +kernel
theorem d_Mod_step_14 : decode b_Mod_step 14 = .ok (.lload_n 2, 1) := by decide +kernel
theorem d_Mod_step_15 : decode b_Mod_step 15 = .ok (.lconst 0, 1) := by decide +kernel
theorem d_Mod_step_16 : decode b_Mod_step 16 = .ok (.lcmp, 1) := by decide +kernel
theorem d_Mod_step_17 : decode b_Mod_step 17 = .ok (.ifCond .ge 8, 3) := by decide +kernel
theorem d_Mod_step_20 : decode b_Mod_step 20 = .ok (.lload_n 2, 1) := by decide +kernel
theorem d_Mod_step_21 : decode b_Mod_step 21 = .ok (.lneg, 1) := by decide +kernel
theorem d_Mod_step_22 : decode b_Mod_step 22 = .ok (.goto 4, 3) := by decide +kernel
theorem d_Mod_step_25 : decode b_Mod_step 25 = .ok (.lload_n 2, 1) := by decide +kernel
theorem d_Mod_step_26 : decode b_Mod_step 26 = .ok (.lreturn, 1) := by decide +kernel
theorem d_Mod_kept_0 : decode b_Mod_kept 0 = .ok (.iload_n 1, 1) := by decide +kernel
theorem d_Mod_kept_1 : decode b_Mod_kept 1 = .ok (.ifCond .lt 11, 3) := by decide +kernel
theorem d_Mod_kept_4 : decode b_Mod_kept 4 = .ok (.iload_n 1, 1) := by decide +kernel
theorem d_Mod_kept_5 : decode b_Mod_kept 5 = .ok (.aload_n 0, 1) := by decide +kernel
theorem d_Mod_kept_6 : decode b_Mod_kept 6 = .ok (.getfield 183, 3) := by decide +kernel
theorem d_Mod_kept_9 : decode b_Mod_kept 9 = .ok (.if_icmp .lt 5, 3) := by decide +kernel
theorem d_Mod_kept_12 : decode b_Mod_kept 12 = .ok (.iconst 0, 1) := by decide +kernel
theorem d_Mod_kept_13 : decode b_Mod_kept 13 = .ok (.ireturn, 1) := by decide +kernel
theorem d_Mod_kept_14 : decode b_Mod_kept 14 = .ok (.iconst 1, 1) := by decide +kernel
theorem d_Mod_kept_15 : decode b_Mod_kept 15 = .ok (.istore_n 2, 1) := by decide +kernel
theorem d_Mod_kept_16 : decode b_Mod_kept 16 = .ok (.aload_n 0, 1) := by decide +kernel
theorem d_Mod_kept_17 : decode b_Mod_kept 17 = .ok (.getfield 66, 3) := by decide +kernel
theorem d_Mod_kept_20 : decode b_Mod_kept 20 = .ok (.iload_n 1, 1) := by decide +kernel
theorem d_Mod_kept_21 : decode b_Mod_kept 21 = .ok (.iaload, 1) := by decide +kernel
theorem d_Mod_kept_22 : decode b_Mod_kept 22 = .ok (.istore_n 3, 1) := by decide +kernel
theorem d_Mod_kept_23 : decode b_Mod_kept 23 = .ok (.iload_n 3, 1) := by decide +kernel
theorem d_Mod_kept_24 : decode b_Mod_kept 24 = .ok (.aload_n 0, 1) := by decide +kernel
theorem d_Mod_kept_25 : decode b_Mod_kept 25 = .ok (.getfield 69, 3) := by decide +kernel
theorem d_Mod_kept_28 : decode b_Mod_kept 28 = .ok (.iload_n 1, 1) := by decide +kernel
theorem d_Mod_kept_29 : decode b_Mod_kept 29 = .ok (.iaload, 1) := by decide +kernel
theorem d_Mod_kept_30 : decode b_Mod_kept 30 = .ok (.if_icmp .ge 34, 3) := by decide +kernel
theorem d_Mod_kept_33 : decode b_Mod_kept 33 = .ok (.iload_n 2, 1) := by decide +kernel
theorem d_Mod_kept_34 : decode b_Mod_kept 34 = .ok (.ifCond .eq 22, 3) := by decide +kernel
theorem d_Mod_kept_37 : decode b_Mod_kept 37 = .ok (.aload_n 0, 1) := by decide +kernel
theorem d_Mod_kept_38 : decode b_Mod_kept 38 = .ok (.iload_n 3, 1) := by decide +kernel
theorem d_Mod_kept_39 : decode b_Mod_kept 39 = .ok (.invokevirtual 186, 3) := by decide +kernel
theorem d_Mod_kept_42 : decode b_Mod_kept 42 = .ok (.aload_n 0, 1) := by decide +kernel
theorem d_Mod_kept_43 : decode b_Mod_kept 43 = .ok (.getfield 72, 3) := by decide +kernel
theorem d_Mod_kept_46 : decode b_Mod_kept 46 = .ok (.iload_n 1, 1) := by decide +kernel
theorem d_Mod_kept_47 : decode b_Mod_kept 47 = .ok (.laload, 1) := by decide +kernel
theorem d_Mod_kept_48 : decode b_Mod_kept 48 = .ok (.lcmp, 1) := by decide +kernel
theorem d_Mod_kept_49 : decode b_Mod_kept 49 = .ok (.ifCond .gt 7, 3) := by decide +kernel
theorem d_Mod_kept_52 : decode b_Mod_kept 52 = .ok (.iconst 1, 1) := by decide +kernel
theorem d_Mod_kept_53 : decode b_Mod_kept 53 = .ok (.goto 4, 3) := by decide +kernel
theorem d_Mod_kept_56 : decode b_Mod_kept 56 = .ok (.iconst 0, 1) := by decide +kernel
theorem d_Mod_kept_57 : decode b_Mod_kept 57 = .ok (.istore_n 2, 1) := by decide +kernel
theorem d_Mod_kept_58 : decode b_Mod_kept 58 = .ok (.iinc 3 1, 3) := by decide +kernel
theorem d_Mod_kept_61 : decode b_Mod_kept 61 = .ok (.goto (-38), 3) := by decide +kernel
theorem d_Mod_kept_64 : decode b_Mod_kept 64 = .ok (.iload_n 2, 1) := by decide +kernel
theorem d_Mod_kept_65 : decode b_Mod_kept 65 = .ok (.ireturn, 1) := by decide +kernel
theorem d_Mod_crack_0 : decode b_Mod_crack 0 = .ok (.iconst 0, 1) := by decide +kernel
theorem d_Mod_crack_1 : decode b_Mod_crack 1 = .ok (.istore 4, 2) := by decide +kernel
theorem d_Mod_crack_3 : decode b_Mod_crack 3 = .ok (.iconst 0, 1) := by decide +kernel
theorem d_Mod_crack_4 : decode b_Mod_crack 4 = .ok (.istore 5, 2) := by decide +kernel
theorem d_Mod_crack_6 : decode b_Mod_crack 6 = .ok (.iload 5, 2) := by decide +kernel
theorem d_Mod_crack_8 : decode b_Mod_crack 8 = .ok (.iconst 1, 1) := by decide +kernel
theorem d_Mod_crack_9 : decode b_Mod_crack 9 = .ok (.iadd, 1) := by decide +kernel
theorem d_Mod_crack_10 : decode b_Mod_crack 10 = .ok (.aload_n 0, 1) := by decide +kernel
theorem d_Mod_crack_11 : decode b_Mod_crack 11 = .ok (.getfield 75, 3) := by decide +kernel
theorem d_Mod_crack_14 : decode b_Mod_crack 14 = .ok (.if_icmp .ge 38, 3) := by decide +kernel
theorem d_Mod_crack_17 : decode b_Mod_crack 17 = .ok (.lload_n 2, 1) := by decide +kernel
theorem d_Mod_crack_18 : decode b_Mod_crack 18 = .ok (.lconst 0, 1) := by decide +kernel
theorem d_Mod_crack_19 : decode b_Mod_crack 19 = .ok (.lcmp, 1) := by decide +kernel
theorem d_Mod_crack_20 : decode b_Mod_crack 20 = .ok (.ifCond .lt 32, 3) := by decide +kernel
theorem d_Mod_crack_23 : decode b_Mod_crack 23 = .ok (.aload_n 0, 1) := by decide +kernel
theorem d_Mod_crack_24 : decode b_Mod_crack 24 = .ok (.iload 5, 2) := by decide +kernel
theorem d_Mod_crack_26 : decode b_Mod_crack 26 = .ok (.invokevirtual 186, 3) := by decide +kernel
theorem d_Mod_crack_29 : decode b_Mod_crack 29 = .ok (.lload_n 2, 1) := by decide +kernel
theorem d_Mod_crack_30 : decode b_Mod_crack 30 = .ok (.lcmp, 1) := by decide +kernel
theorem d_Mod_crack_31 : decode b_Mod_crack 31 = .ok (.ifCond .le 15, 3) := by decide +kernel
theorem d_Mod_crack_34 : decode b_Mod_crack 34 = .ok (.iload 4, 2) := by decide +kernel
theorem d_Mod_crack_36 : decode b_Mod_crack 36 = .ok (.iload_n 1, 1) := by decide +kernel
theorem d_Mod_crack_37 : decode b_Mod_crack 37 = .ok (.if_icmp .ne 6, 3) := by decide +kernel
theorem d_Mod_crack_40 : decode b_Mod_crack 40 = .ok (.iload 5, 2) := by decide +kernel
theorem d_Mod_crack_42 : decode b_Mod_crack 42 = .ok (.ireturn, 1) := by decide +kernel
theorem d_Mod_crack_43 : decode b_Mod_crack 43 = .ok (.iinc 4 1, 3) := by decide +kernel
theorem d_Mod_crack_46 : decode b_Mod_crack 46 = .ok (.iinc 5 1, 3) := by decide +kernel
theorem d_Mod_crack_49 : decode b_Mod_crack 49 = .ok (.goto (-43), 3) := by decide +kernel
theorem d_Mod_crack_52 : decode b_Mod_crack 52 = .ok (.iconst (-1), 1) := by decide +kernel
theorem d_Mod_crack_53 : decode b_Mod_crack 53 = .ok (.ireturn, 1) := by decide +kernel
theorem d_Mod_factor_0 : decode b_Mod_factor 0 = .ok (.iload_n 1, 1) := by decide +kernel
theorem d_Mod_factor_1 : decode b_Mod_factor 1 = .ok (.invokestatic 124, 3) := by decide +kernel
theorem d_Mod_factor_4 : decode b_Mod_factor 4 = .ok (.ifCond .eq 12, 3) := by decide +kernel
theorem d_Mod_factor_7 : decode b_Mod_factor 7 = .ok (.aload_n 0, 1) := by decide +kernel
theorem d_Mod_factor_8 : decode b_Mod_factor 8 = .ok (.getfield 13, 3) := by decide +kernel
theorem d_Mod_factor_11 : decode b_Mod_factor 11 = .ok (.iload_n 1, 1) := by decide +kernel
theorem d_Mod_factor_12 : decode b_Mod_factor 12 = .ok (.iaload, 1) := by decide +kernel
theorem d_Mod_factor_13 : decode b_Mod_factor 13 = .ok (.goto 4, 3) := by decide +kernel
theorem d_Mod_factor_16 : decode b_Mod_factor 16 = .ok (.iconst (-1), 1) := by decide +kernel
theorem d_Mod_factor_17 : decode b_Mod_factor 17 = .ok (.ireturn, 1) := by decide +kernel
theorem d_Mod_sum_0 : decode b_Mod_sum 0 = .ok (.aload_n 0, 1) := by decide +kernel
theorem d_Mod_sum_1 : decode b_Mod_sum 1 = .ok (.getfield 108, 3) := by decide +kernel
theorem d_Mod_sum_4 : decode b_Mod_sum 4 = .ok (.lreturn, 1) := by decide +kernel
theorem d_Mod_isBetter_0 : decode b_Mod_isBetter 0 = .ok (.aload_n 0, 1) := by decide +kernel
theorem d_Mod_isBetter_1 : decode b_Mod_isBetter 1 = .ok (.getfield 13, 3) := by decide +kernel
theorem d_Mod_isBetter_4 : decode b_Mod_isBetter 4 = .ok (.iload_n 1, 1) := by decide +kernel
theorem d_Mod_isBetter_5 : decode b_Mod_isBetter 5 = .ok (.iaload, 1) := by decide +kernel
theorem d_Mod_isBetter_6 : decode b_Mod_isBetter 6 = .ok (.istore_n 3, 1) := by decide +kernel
theorem d_Mod_isBetter_7 : decode b_Mod_isBetter 7 = .ok (.aload_n 0, 1) := by decide +kernel
theorem d_Mod_isBetter_8 : decode b_Mod_isBetter 8 = .ok (.getfield 108, 3) := by decide +kernel
theorem d_Mod_isBetter_11 : decode b_Mod_isBetter 11 = .ok (.lstore 4, 2) := by decide +kernel
theorem d_Mod_isBetter_13 : decode b_Mod_isBetter 13 = .ok (.iload_n 3, 1) := by decide +kernel
theorem d_Mod_isBetter_14 : decode b_Mod_isBetter 14 = .ok (.iload_n 2, 1) := by decide +kernel
theorem d_Mod_isBetter_15 : decode b_Mod_isBetter 15 = .ok (.iadd, 1) := by decide +kernel
theorem d_Mod_isBetter_16 : decode b_Mod_isBetter 16 = .ok (.ifCond .lt 12, 3) := by decide +kernel
theorem d_Mod_isBetter_19 : decode b_Mod_isBetter 19 = .ok (.iload_n 3, 1) := by decide +kernel
theorem d_Mod_isBetter_20 : decode b_Mod_isBetter 20 = .ok (.iload_n 2, 1) := by decide +kernel
theorem d_Mod_isBetter_21 : decode b_Mod_isBetter 21 = .ok (.iadd, 1) := by decide +kernel
theorem d_Mod_isBetter_22 : decode b_Mod_isBetter 22 = .ok (.sipush 3000, 3) := by decide +kernel
theorem d_Mod_isBetter_25 : decode b_Mod_isBetter 25 = .ok (.if_icmp .le 5, 3) := by decide +kernel
theorem d_Mod_isBetter_28 : decode b_Mod_isBetter 28 = .ok (.iconst 0, 1) := by decide +kernel
theorem d_Mod_isBetter_29 : decode b_Mod_isBetter 29 = .ok (.ireturn, 1) := by decide +kernel
theorem d_Mod_isBetter_30 : decode b_Mod_isBetter 30 = .ok (.aload_n 0, 1) := by decide +kernel
theorem d_Mod_isBetter_31 : decode b_Mod_isBetter 31 = .ok (.getfield 13, 3) := by decide +kernel
theorem d_Mod_isBetter_34 : decode b_Mod_isBetter 34 = .ok (.iload_n 1, 1) := by decide +kernel
theorem d_Mod_isBetter_35 : decode b_Mod_isBetter 35 = .ok (.iload_n 3, 1) := by decide +kernel
theorem d_Mod_isBetter_36 : decode b_Mod_isBetter 36 = .ok (.iload_n 2, 1) := by decide +kernel
theorem d_Mod_isBetter_37 : decode b_Mod_isBetter 37 = .ok (.iadd, 1) := by decide +kernel
theorem d_Mod_isBetter_38 : decode b_Mod_isBetter 38 = .ok (.iastore, 1) := by decide +kernel
theorem d_Mod_isBetter_39 : decode b_Mod_isBetter 39 = .ok (.aload_n 0, 1) := by decide +kernel
theorem d_Mod_isBetter_40 : decode b_Mod_isBetter 40 = .ok (.invokevirtual 121, 3) := by decide +kernel
theorem d_Mod_isBetter_43 : decode b_Mod_isBetter 43 = .ok (.aload_n 0, 1) := by decide +kernel
theorem d_Mod_isBetter_44 : decode b_Mod_isBetter 44 = .ok (.getfield 108, 3) := by decide +kernel
theorem d_Mod_isBetter_47 : decode b_Mod_isBetter 47 = .ok (.lload 4, 2) := by decide +kernel
theorem d_Mod_isBetter_49 : decode b_Mod_isBetter 49 = .ok (.lcmp, 1) := by decide +kernel
theorem d_Mod_isBetter_50 : decode b_Mod_isBetter 50 = .ok (.ifCond .ge 5, 3) := by decide +kernel
theorem d_Mod_isBetter_53 : decode b_Mod_isBetter 53 = .ok (.iconst 1, 1) := by decide +kernel
theorem d_Mod_isBetter_54 : decode b_Mod_isBetter 54 = .ok (.ireturn, 1) := by decide +kernel
theorem d_Mod_isBetter_55 : decode b_Mod_isBetter 55 = .ok (.aload_n 0, 1) := by decide +kernel
theorem d_Mod_isBetter_56 : decode b_Mod_isBetter 56 = .ok (.getfield 13, 3) := by decide +kernel
theorem d_Mod_isBetter_59 : decode b_Mod_isBetter 59 = .ok (.iload_n 1, 1) := by decide +kernel
theorem d_Mod_isBetter_60 : decode b_Mod_isBetter 60 = .ok (.iload_n 3, 1) := by decide +kernel
theorem d_Mod_isBetter_61 : decode b_Mod_isBetter 61 = .ok (.iastore, 1) := by decide +kernel
theorem d_Mod_isBetter_62 : decode b_Mod_isBetter 62 = .ok (.aload_n 0, 1) := by decide +kernel
theorem d_Mod_isBetter_63 : decode b_Mod_isBetter 63 = .ok (.invokevirtual 121, 3) := by decide +kernel
theorem d_Mod_isBetter_66 : decode b_Mod_isBetter 66 = .ok (.iconst 0, 1) := by decide +kernel
theorem d_Mod_isBetter_67 : decode b_Mod_isBetter 67 = .ok (.ireturn, 1) := by decide +kernel
theorem d_Mod_fit_0 : decode b_Mod_fit 0 = .ok (.iload_n 1, 1) := by decide +kernel
theorem d_Mod_fit_1 : decode b_Mod_fit 1 = .ok (.i2l, 1) := by decide +kernel
theorem d_Mod_fit_2 : decode b_Mod_fit 2 = .ok (.lconst 1, 1) := by decide +kernel
theorem d_Mod_fit_3 : decode b_Mod_fit 3 = .ok (.ldc2_w 189, 3) := by decide +kernel
theorem d_Mod_fit_6 : decode b_Mod_fit 6 = .ok (.invokestatic 84, 3) := by decide +kernel
theorem d_Mod_fit_9 : decode b_Mod_fit 9 = .ok (.ifCond .ne 5, 3) := by decide +kernel
theorem d_Mod_fit_12 : decode b_Mod_fit 12 = .ok (.iconst (-1), 1) := by decide +kernel
theorem d_Mod_fit_13 : decode b_Mod_fit 13 = .ok (.ireturn, 1) := by decide +kernel
theorem d_Mod_fit_14 : decode b_Mod_fit 14 = .ok (.iconst 0, 1) := by decide +kernel
theorem d_Mod_fit_15 : decode b_Mod_fit 15 = .ok (.istore_n 2, 1) := by decide +kernel
theorem d_Mod_fit_16 : decode b_Mod_fit 16 = .ok (.iconst 1, 1) := by decide +kernel
theorem d_Mod_fit_17 : decode b_Mod_fit 17 = .ok (.istore_n 3, 1) := by decide +kernel
theorem d_Mod_fit_18 : decode b_Mod_fit 18 = .ok (.iconst 0, 1) := by decide +kernel
theorem d_Mod_fit_19 : decode b_Mod_fit 19 = .ok (.istore 4, 2) := by decide +kernel
theorem d_Mod_fit_21 : decode b_Mod_fit 21 = .ok (.iload 4, 2) := by decide +kernel
theorem d_Mod_fit_23 : decode b_Mod_fit 23 = .ok (.iload_n 1, 1) := by decide +kernel
theorem d_Mod_fit_24 : decode b_Mod_fit 24 = .ok (.if_icmp .ge 74, 3) := by decide +kernel
theorem d_Mod_fit_27 : decode b_Mod_fit 27 = .ok (.iload_n 3, 1) := by decide +kernel
theorem d_Mod_fit_28 : decode b_Mod_fit 28 = .ok (.ifCond .eq 70, 3) := by decide +kernel
theorem d_Mod_fit_31 : decode b_Mod_fit 31 = .ok (.iconst 0, 1) := by decide +kernel
theorem d_Mod_fit_32 : decode b_Mod_fit 32 = .ok (.istore_n 3, 1) := by decide +kernel
theorem d_Mod_fit_33 : decode b_Mod_fit 33 = .ok (.iconst 0, 1) := by decide +kernel
theorem d_Mod_fit_34 : decode b_Mod_fit 34 = .ok (.istore 5, 2) := by decide +kernel
theorem d_Mod_fit_36 : decode b_Mod_fit 36 = .ok (.iload 5, 2) := by decide +kernel
theorem d_Mod_fit_38 : decode b_Mod_fit 38 = .ok (.iconst 4, 1) := by decide +kernel
theorem d_Mod_fit_39 : decode b_Mod_fit 39 = .ok (.if_icmp .ge 41, 3) := by decide +kernel
theorem d_Mod_fit_42 : decode b_Mod_fit 42 = .ok (.aload_n 0, 1) := by decide +kernel
theorem d_Mod_fit_43 : decode b_Mod_fit 43 = .ok (.iload 5, 2) := by decide +kernel
theorem d_Mod_fit_45 : decode b_Mod_fit 45 = .ok (.bipush 50, 2) := by decide +kernel
theorem d_Mod_fit_47 : decode b_Mod_fit 47 = .ok (.invokevirtual 191, 3) := by decide +kernel
theorem d_Mod_fit_50 : decode b_Mod_fit 50 = .ok (.ifCond .ne 18, 3) := by decide +kernel
theorem d_Mod_fit_53 : decode b_Mod_fit 53 = .ok (.aload_n 0, 1) := by decide +kernel
theorem d_Mod_fit_54 : decode b_Mod_fit 54 = .ok (.iload 5, 2) := by decide +kernel
theorem d_Mod_fit_56 : decode b_Mod_fit 56 = .ok (.bipush (-50), 2) := by decide +kernel
theorem d_Mod_fit_58 : decode b_Mod_fit 58 = .ok (.invokevirtual 191, 3) := by decide +kernel
theorem d_Mod_fit_61 : decode b_Mod_fit 61 = .ok (.ifCond .ne 7, 3) := by decide +kernel
theorem d_Mod_fit_64 : decode b_Mod_fit 64 = .ok (.iload_n 3, 1) := by decide +kernel
theorem d_Mod_fit_65 : decode b_Mod_fit 65 = .ok (.ifCond .eq 7, 3) := by decide +kernel
theorem d_Mod_fit_68 : decode b_Mod_fit 68 = .ok (.iconst 1, 1) := by decide +kernel
theorem d_Mod_fit_69 : decode b_Mod_fit 69 = .ok (.goto 4, 3) := by decide +kernel
theorem d_Mod_fit_72 : decode b_Mod_fit 72 = .ok (.iconst 0, 1) := by decide +kernel
theorem d_Mod_fit_73 : decode b_Mod_fit 73 = .ok (.istore_n 3, 1) := by decide +kernel
theorem d_Mod_fit_74 : decode b_Mod_fit 74 = .ok (.iinc 5 1, 3) := by decide +kernel
theorem d_Mod_fit_77 : decode b_Mod_fit 77 = .ok (.goto (-41), 3) := by decide +kernel
theorem d_Mod_fit_80 : decode b_Mod_fit 80 = .ok (.iload_n 2, 1) := by decide +kernel
theorem d_Mod_fit_81 : decode b_Mod_fit 81 = .ok (.iload_n 3, 1) := by decide +kernel
theorem d_Mod_fit_82 : decode b_Mod_fit 82 = .ok (.ifCond .eq 7, 3) := by decide +kernel
theorem d_Mod_fit_85 : decode b_Mod_fit 85 = .ok (.iconst 1, 1) := by decide +kernel
theorem d_Mod_fit_86 : decode b_Mod_fit 86 = .ok (.goto 4, 3) := by decide +kernel
theorem d_Mod_fit_89 : decode b_Mod_fit 89 = .ok (.iconst 0, 1) := by decide +kernel
theorem d_Mod_fit_90 : decode b_Mod_fit 90 = .ok (.iadd, 1) := by decide +kernel
theorem d_Mod_fit_91 : decode b_Mod_fit 91 = .ok (.istore_n 2, 1) := by decide +kernel
theorem d_Mod_fit_92 : decode b_Mod_fit 92 = .ok (.iinc 4 1, 3) := by decide +kernel
theorem d_Mod_fit_95 : decode b_Mod_fit 95 = .ok (.goto (-74), 3) := by decide +kernel
theorem d_Mod_fit_98 : decode b_Mod_fit 98 = .ok (.iload_n 2, 1) := by decide +kernel
theorem d_Mod_fit_99 : decode b_Mod_fit 99 = .ok (.ireturn, 1) := by decide +kernel
