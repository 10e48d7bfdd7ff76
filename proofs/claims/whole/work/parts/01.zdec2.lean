/-! decode rows, written by wip/whole/gennames.py -/
theorem d_M_init_0 : decode b_M_init 0 = .ok (.aload_n 0, 1) := by decide +kernel
theorem d_M_init_1 : decode b_M_init 1 = .ok (.invokespecial 1, 3) := by decide +kernel
theorem d_M_init_4 : decode b_M_init 4 = .ok (.aload_n 0, 1) := by decide +kernel
theorem d_M_init_5 : decode b_M_init 5 = .ok (.bipush 61, 2) := by decide +kernel
theorem d_M_init_7 : decode b_M_init 7 = .ok (.newarray .int, 2) := by decide +kernel
theorem d_M_init_9 : decode b_M_init 9 = .ok (.putfield 7, 3) := by decide +kernel
theorem d_M_init_12 : decode b_M_init 12 = .ok (.aload_n 0, 1) := by decide +kernel
theorem d_M_init_13 : decode b_M_init 13 = .ok (.bipush 61, 2) := by decide +kernel
theorem d_M_init_15 : decode b_M_init 15 = .ok (.newarray .int, 2) := by decide +kernel
theorem d_M_init_17 : decode b_M_init 17 = .ok (.putfield 13, 3) := by decide +kernel
theorem d_M_init_20 : decode b_M_init 20 = .ok (.aload_n 0, 1) := by decide +kernel
theorem d_M_init_21 : decode b_M_init 21 = .ok (.bipush 61, 2) := by decide +kernel
theorem d_M_init_23 : decode b_M_init 23 = .ok (.newarray .long, 2) := by decide +kernel
theorem d_M_init_25 : decode b_M_init 25 = .ok (.putfield 16, 3) := by decide +kernel
theorem d_M_init_28 : decode b_M_init 28 = .ok (.aload_n 0, 1) := by decide +kernel
theorem d_M_init_29 : decode b_M_init 29 = .ok (.bipush 61, 2) := by decide +kernel
theorem d_M_init_31 : decode b_M_init 31 = .ok (.newarray .int, 2) := by decide +kernel
theorem d_M_init_33 : decode b_M_init 33 = .ok (.putfield 20, 3) := by decide +kernel
theorem d_M_init_36 : decode b_M_init 36 = .ok (.aload_n 0, 1) := by decide +kernel
theorem d_M_init_37 : decode b_M_init 37 = .ok (.bipush 61, 2) := by decide +kernel
theorem d_M_init_39 : decode b_M_init 39 = .ok (.newarray .boolean, 2) := by decide +kernel
theorem d_M_init_41 : decode b_M_init 41 = .ok (.putfield 23, 3) := by decide +kernel
theorem d_M_init_44 : decode b_M_init 44 = .ok (.aload_n 0, 1) := by decide +kernel
theorem d_M_init_45 : decode b_M_init 45 = .ok (.bipush 61, 2) := by decide +kernel
theorem d_M_init_47 : decode b_M_init 47 = .ok (.newarray .boolean, 2) := by decide +kernel
theorem d_M_init_49 : decode b_M_init 49 = .ok (.putfield 27, 3) := by decide +kernel
theorem d_M_init_52 : decode b_M_init 52 = .ok (.aload_n 0, 1) := by decide +kernel
theorem d_M_init_53 : decode b_M_init 53 = .ok (.sipush 549, 3) := by decide +kernel
theorem d_M_init_56 : decode b_M_init 56 = .ok (.newarray .int, 2) := by decide +kernel
theorem d_M_init_58 : decode b_M_init 58 = .ok (.putfield 30, 3) := by decide +kernel
theorem d_M_init_61 : decode b_M_init 61 = .ok (.aload_n 0, 1) := by decide +kernel
theorem d_M_init_62 : decode b_M_init 62 = .ok (.sipush 549, 3) := by decide +kernel
theorem d_M_init_65 : decode b_M_init 65 = .ok (.newarray .int, 2) := by decide +kernel
theorem d_M_init_67 : decode b_M_init 67 = .ok (.putfield 33, 3) := by decide +kernel
theorem d_M_init_70 : decode b_M_init 70 = .ok (.aload_n 0, 1) := by decide +kernel
theorem d_M_init_71 : decode b_M_init 71 = .ok (.sipush 549, 3) := by decide +kernel
theorem d_M_init_74 : decode b_M_init 74 = .ok (.newarray .long, 2) := by decide +kernel
theorem d_M_init_76 : decode b_M_init 76 = .ok (.putfield 36, 3) := by decide +kernel
theorem d_M_init_79 : decode b_M_init 79 = .ok (.aload_n 0, 1) := by decide +kernel
theorem d_M_init_80 : decode b_M_init 80 = .ok (.sipush 549, 3) := by decide +kernel
theorem d_M_init_83 : decode b_M_init 83 = .ok (.newarray .long, 2) := by decide +kernel
theorem d_M_init_85 : decode b_M_init 85 = .ok (.putfield 39, 3) := by decide +kernel
theorem d_M_init_88 : decode b_M_init 88 = .ok (.aload_n 0, 1) := by decide +kernel
theorem d_M_init_89 : decode b_M_init 89 = .ok (.sipush 549, 3) := by decide +kernel
theorem d_M_init_92 : decode b_M_init 92 = .ok (.newarray .int, 2) := by decide +kernel
theorem d_M_init_94 : decode b_M_init 94 = .ok (.putfield 42, 3) := by decide +kernel
theorem d_M_init_97 : decode b_M_init 97 = .ok (.aload_n 0, 1) := by decide +kernel
theorem d_M_init_98 : decode b_M_init 98 = .ok (.sipush 549, 3) := by decide +kernel
theorem d_M_init_101 : decode b_M_init 101 = .ok (.newarray .int, 2) := by decide +kernel
theorem d_M_init_103 : decode b_M_init 103 = .ok (.putfield 45, 3) := by decide +kernel
theorem d_M_init_106 : decode b_M_init 106 = .ok (.aload_n 0, 1) := by decide +kernel
theorem d_M_init_107 : decode b_M_init 107 = .ok (.sipush 549, 3) := by decide +kernel
theorem d_M_init_110 : decode b_M_init 110 = .ok (.newarray .long, 2) := by decide +kernel
theorem d_M_init_112 : decode b_M_init 112 = .ok (.putfield 48, 3) := by decide +kernel
theorem d_M_init_115 : decode b_M_init 115 = .ok (.aload_n 0, 1) := by decide +kernel
theorem d_M_init_116 : decode b_M_init 116 = .ok (.sipush 549, 3) := by decide +kernel
theorem d_M_init_119 : decode b_M_init 119 = .ok (.newarray .int, 2) := by decide +kernel
theorem d_M_init_121 : decode b_M_init 121 = .ok (.putfield 51, 3) := by decide +kernel
theorem d_M_init_124 : decode b_M_init 124 = .ok (.aload_n 0, 1) := by decide +kernel
theorem d_M_init_125 : decode b_M_init 125 = .ok (.sipush 549, 3) := by decide +kernel
theorem d_M_init_128 : decode b_M_init 128 = .ok (.newarray .boolean, 2) := by decide +kernel
theorem d_M_init_130 : decode b_M_init 130 = .ok (.putfield 54, 3) := by decide +kernel
theorem d_M_init_133 : decode b_M_init 133 = .ok (.aload_n 0, 1) := by decide +kernel
theorem d_M_init_134 : decode b_M_init 134 = .ok (.bipush 100, 2) := by decide +kernel
theorem d_M_init_136 : decode b_M_init 136 = .ok (.newarray .int, 2) := by decide +kernel
theorem d_M_init_138 : decode b_M_init 138 = .ok (.putfield 57, 3) := by decide +kernel
theorem d_M_init_141 : decode b_M_init 141 = .ok (.aload_n 0, 1) := by decide +kernel
theorem d_M_init_142 : decode b_M_init 142 = .ok (.bipush 100, 2) := by decide +kernel
theorem d_M_init_144 : decode b_M_init 144 = .ok (.newarray .int, 2) := by decide +kernel
theorem d_M_init_146 : decode b_M_init 146 = .ok (.putfield 60, 3) := by decide +kernel
theorem d_M_init_149 : decode b_M_init 149 = .ok (.aload_n 0, 1) := by decide +kernel
theorem d_M_init_150 : decode b_M_init 150 = .ok (.bipush 100, 2) := by decide +kernel
theorem d_M_init_152 : decode b_M_init 152 = .ok (.newarray .int, 2) := by decide +kernel
theorem d_M_init_154 : decode b_M_init 154 = .ok (.putfield 63, 3) := by decide +kernel
theorem d_M_init_157 : decode b_M_init 157 = .ok (.aload_n 0, 1) := by decide +kernel
theorem d_M_init_158 : decode b_M_init 158 = .ok (.bipush 8, 2) := by decide +kernel
theorem d_M_init_160 : decode b_M_init 160 = .ok (.newarray .boolean, 2) := by decide +kernel
theorem d_M_init_162 : decode b_M_init 162 = .ok (.putfield 66, 3) := by decide +kernel
theorem d_M_init_165 : decode b_M_init 165 = .ok (.aload_n 0, 1) := by decide +kernel
theorem d_M_init_166 : decode b_M_init 166 = .ok (.bipush 8, 2) := by decide +kernel
theorem d_M_init_168 : decode b_M_init 168 = .ok (.newarray .int, 2) := by decide +kernel
theorem d_M_init_170 : decode b_M_init 170 = .ok (.putfield 69, 3) := by decide +kernel
theorem d_M_init_173 : decode b_M_init 173 = .ok (.aload_n 0, 1) := by decide +kernel
theorem d_M_init_174 : decode b_M_init 174 = .ok (.bipush 8, 2) := by decide +kernel
theorem d_M_init_176 : decode b_M_init 176 = .ok (.newarray .long, 2) := by decide +kernel
theorem d_M_init_178 : decode b_M_init 178 = .ok (.putfield 72, 3) := by decide +kernel
theorem d_M_init_181 : decode b_M_init 181 = .ok (.aload_n 0, 1) := by decide +kernel
theorem d_M_init_182 : decode b_M_init 182 = .ok (.bipush 8, 2) := by decide +kernel
theorem d_M_init_184 : decode b_M_init 184 = .ok (.newarray .int, 2) := by decide +kernel
theorem d_M_init_186 : decode b_M_init 186 = .ok (.putfield 75, 3) := by decide +kernel
theorem d_M_init_189 : decode b_M_init 189 = .ok (.aload_n 0, 1) := by decide +kernel
theorem d_M_init_190 : decode b_M_init 190 = .ok (.sipush 240, 3) := by decide +kernel
theorem d_M_init_193 : decode b_M_init 193 = .ok (.newarray .int, 2) := by decide +kernel
theorem d_M_init_195 : decode b_M_init 195 = .ok (.putfield 78, 3) := by decide +kernel
theorem d_M_init_198 : decode b_M_init 198 = .ok (.aload_n 0, 1) := by decide +kernel
theorem d_M_init_199 : decode b_M_init 199 = .ok (.sipush 240, 3) := by decide +kernel
theorem d_M_init_202 : decode b_M_init 202 = .ok (.newarray .int, 2) := by decide +kernel
theorem d_M_init_204 : decode b_M_init 204 = .ok (.putfield 81, 3) := by decide +kernel
theorem d_M_init_207 : decode b_M_init 207 = .ok (.aload_n 0, 1) := by decide +kernel
theorem d_M_init_208 : decode b_M_init 208 = .ok (.sipush 240, 3) := by decide +kernel
theorem d_M_init_211 : decode b_M_init 211 = .ok (.newarray .int, 2) := by decide +kernel
theorem d_M_init_213 : decode b_M_init 213 = .ok (.putfield 84, 3) := by decide +kernel
theorem d_M_init_216 : decode b_M_init 216 = .ok (.aload_n 0, 1) := by decide +kernel
theorem d_M_init_217 : decode b_M_init 217 = .ok (.sipush 240, 3) := by decide +kernel
theorem d_M_init_220 : decode b_M_init 220 = .ok (.newarray .int, 2) := by decide +kernel
theorem d_M_init_222 : decode b_M_init 222 = .ok (.putfield 87, 3) := by decide +kernel
theorem d_M_init_225 : decode b_M_init 225 = .ok (.aload_n 0, 1) := by decide +kernel
theorem d_M_init_226 : decode b_M_init 226 = .ok (.sipush 240, 3) := by decide +kernel
theorem d_M_init_229 : decode b_M_init 229 = .ok (.newarray .long, 2) := by decide +kernel
theorem d_M_init_231 : decode b_M_init 231 = .ok (.putfield 90, 3) := by decide +kernel
theorem d_M_init_234 : decode b_M_init 234 = .ok (.aload_n 0, 1) := by decide +kernel
theorem d_M_init_235 : decode b_M_init 235 = .ok (.sipush 4200, 3) := by decide +kernel
theorem d_M_init_238 : decode b_M_init 238 = .ok (.newarray .int, 2) := by decide +kernel
theorem d_M_init_240 : decode b_M_init 240 = .ok (.putfield 93, 3) := by decide +kernel
theorem d_M_init_243 : decode b_M_init 243 = .ok (.aload_n 0, 1) := by decide +kernel
theorem d_M_init_244 : decode b_M_init 244 = .ok (.sipush 4200, 3) := by decide +kernel
theorem d_M_init_247 : decode b_M_init 247 = .ok (.newarray .int, 2) := by decide +kernel
theorem d_M_init_249 : decode b_M_init 249 = .ok (.putfield 96, 3) := by decide +kernel
theorem d_M_init_252 : decode b_M_init 252 = .ok (.aload_n 0, 1) := by decide +kernel
theorem d_M_init_253 : decode b_M_init 253 = .ok (.sipush 4200, 3) := by decide +kernel
theorem d_M_init_256 : decode b_M_init 256 = .ok (.newarray .int, 2) := by decide +kernel
theorem d_M_init_258 : decode b_M_init 258 = .ok (.putfield 99, 3) := by decide +kernel
theorem d_M_init_261 : decode b_M_init 261 = .ok (.return_, 1) := by decide +kernel
theorem d_M_item_0 : decode b_M_item 0 = .ok (.iload_n 1, 1) := by decide +kernel
theorem d_M_item_1 : decode b_M_item 1 = .ok (.i2l, 1) := by decide +kernel
theorem d_M_item_2 : decode b_M_item 2 = .ok (.lconst 0, 1) := by decide +kernel
theorem d_M_item_3 : decode b_M_item 3 = .ok (.ldc2_w 106, 3) := by decide +kernel
theorem d_M_item_6 : decode b_M_item 6 = .ok (.invokestatic 108, 3) := by decide +kernel
theorem d_M_item_9 : decode b_M_item 9 = .ok (.ifCond .eq 15, 3) := by decide +kernel
theorem d_M_item_12 : decode b_M_item 12 = .ok (.iload_n 2, 1) := by decide +kernel
theorem d_M_item_13 : decode b_M_item 13 = .ok (.i2l, 1) := by decide +kernel
theorem d_M_item_14 : decode b_M_item 14 = .ok (.lconst 0, 1) := by decide +kernel
theorem d_M_item_15 : decode b_M_item 15 = .ok (.ldc2_w 112, 3) := by decide +kernel
theorem d_M_item_18 : decode b_M_item 18 = .ok (.invokestatic 108, 3) := by decide +kernel
theorem d_M_item_21 : decode b_M_item 21 = .ok (.ifCond .ne 6, 3) := by decide +kernel
theorem d_M_item_24 : decode b_M_item 24 = .ok (.bipush (-12), 2) := by decide +kernel
theorem d_M_item_26 : decode b_M_item 26 = .ok (.ireturn, 1) := by decide +kernel
theorem d_M_item_27 : decode b_M_item 27 = .ok (.aload_n 0, 1) := by decide +kernel
theorem d_M_item_28 : decode b_M_item 28 = .ok (.getfield 102, 3) := by decide +kernel
theorem d_M_item_31 : decode b_M_item 31 = .ok (.bipush 60, 2) := by decide +kernel
theorem d_M_item_33 : decode b_M_item 33 = .ok (.if_icmp .ne 6, 3) := by decide +kernel
theorem d_M_item_36 : decode b_M_item 36 = .ok (.bipush (-14), 2) := by decide +kernel
theorem d_M_item_38 : decode b_M_item 38 = .ok (.ireturn, 1) := by decide +kernel
theorem d_M_item_39 : decode b_M_item 39 = .ok (.aload_n 0, 1) := by decide +kernel
theorem d_M_item_40 : decode b_M_item 40 = .ok (.dup, 1) := by decide +kernel
theorem d_M_item_41 : decode b_M_item 41 = .ok (.getfield 102, 3) := by decide +kernel
theorem d_M_item_44 : decode b_M_item 44 = .ok (.iconst 1, 1) := by decide +kernel
theorem d_M_item_45 : decode b_M_item 45 = .ok (.iadd, 1) := by decide +kernel
theorem d_M_item_46 : decode b_M_item 46 = .ok (.putfield 102, 3) := by decide +kernel
theorem d_M_item_49 : decode b_M_item 49 = .ok (.aload_n 0, 1) := by decide +kernel
theorem d_M_item_50 : decode b_M_item 50 = .ok (.getfield 7, 3) := by decide +kernel
theorem d_M_item_53 : decode b_M_item 53 = .ok (.aload_n 0, 1) := by decide +kernel
theorem d_M_item_54 : decode b_M_item 54 = .ok (.getfield 102, 3) := by decide +kernel
theorem d_M_item_57 : decode b_M_item 57 = .ok (.iload_n 1, 1) := by decide +kernel
theorem d_M_item_58 : decode b_M_item 58 = .ok (.iastore, 1) := by decide +kernel
theorem d_M_item_59 : decode b_M_item 59 = .ok (.aload_n 0, 1) := by decide +kernel
theorem d_M_item_60 : decode b_M_item 60 = .ok (.getfield 13, 3) := by decide +kernel
theorem d_M_item_63 : decode b_M_item 63 = .ok (.aload_n 0, 1) := by decide +kernel
theorem d_M_item_64 : decode b_M_item 64 = .ok (.getfield 102, 3) := by decide +kernel
theorem d_M_item_67 : decode b_M_item 67 = .ok (.iload_n 2, 1) := by decide +kernel
theorem d_M_item_68 : decode b_M_item 68 = .ok (.iastore, 1) := by decide +kernel
theorem d_M_item_69 : decode b_M_item 69 = .ok (.aload_n 0, 1) := by decide +kernel
theorem d_M_item_70 : decode b_M_item 70 = .ok (.getfield 20, 3) := by decide +kernel
theorem d_M_item_73 : decode b_M_item 73 = .ok (.aload_n 0, 1) := by decide +kernel
theorem d_M_item_74 : decode b_M_item 74 = .ok (.getfield 102, 3) := by decide +kernel
theorem d_M_item_77 : decode b_M_item 77 = .ok (.iconst (-1), 1) := by decide +kernel
theorem d_M_item_78 : decode b_M_item 78 = .ok (.iastore, 1) := by decide +kernel
theorem d_M_item_79 : decode b_M_item 79 = .ok (.sipush 488, 3) := by decide +kernel
theorem d_M_item_82 : decode b_M_item 82 = .ok (.aload_n 0, 1) := by decide +kernel
theorem d_M_item_83 : decode b_M_item 83 = .ok (.getfield 102, 3) := by decide +kernel
theorem d_M_item_86 : decode b_M_item 86 = .ok (.iadd, 1) := by decide +kernel
theorem d_M_item_87 : decode b_M_item 87 = .ok (.istore_n 3, 1) := by decide +kernel
theorem d_M_item_88 : decode b_M_item 88 = .ok (.aload_n 0, 1) := by decide +kernel
theorem d_M_item_89 : decode b_M_item 89 = .ok (.getfield 30, 3) := by decide +kernel
theorem d_M_item_92 : decode b_M_item 92 = .ok (.iload_n 3, 1) := by decide +kernel
theorem d_M_item_93 : decode b_M_item 93 = .ok (.iconst 0, 1) := by decide +kernel
theorem d_M_item_94 : decode b_M_item 94 = .ok (.iastore, 1) := by decide +kernel
theorem d_M_item_95 : decode b_M_item 95 = .ok (.aload_n 0, 1) := by decide +kernel
theorem d_M_item_96 : decode b_M_item 96 = .ok (.getfield 42, 3) := by decide +kernel
theorem d_M_item_99 : decode b_M_item 99 = .ok (.iload_n 3, 1) := by decide +kernel
theorem d_M_item_100 : decode b_M_item 100 = .ok (.iconst (-1), 1) := by decide +kernel
theorem d_M_item_101 : decode b_M_item 101 = .ok (.iastore, 1) := by decide +kernel
theorem d_M_item_102 : decode b_M_item 102 = .ok (.aload_n 0, 1) := by decide +kernel
theorem d_M_item_103 : decode b_M_item 103 = .ok (.getfield 45, 3) := by decide +kernel
theorem d_M_item_106 : decode b_M_item 106 = .ok (.iload_n 3, 1) := by decide +kernel
theorem d_M_item_107 : decode b_M_item 107 = .ok (.iconst (-1), 1) := by decide +kernel
theorem d_M_item_108 : decode b_M_item 108 = .ok (.iastore, 1) := by decide +kernel
theorem d_M_item_109 : decode b_M_item 109 = .ok (.aload_n 0, 1) := by decide +kernel
theorem d_M_item_110 : decode b_M_item 110 = .ok (.getfield 102, 3) := by decide +kernel
theorem d_M_item_113 : decode b_M_item 113 = .ok (.ireturn, 1) := by decide +kernel
theorem d_M_isIn_0 : decode b_M_isIn 0 = .ok (.lload_n 0, 1) := by decide +kernel
theorem d_M_isIn_1 : decode b_M_isIn 1 = .ok (.lload_n 2, 1) := by decide +kernel
theorem d_M_isIn_2 : decode b_M_isIn 2 = .ok (.lcmp, 1) := by decide +kernel
theorem d_M_isIn_3 : decode b_M_isIn 3 = .ok (.ifCond .lt 14, 3) := by decide +kernel
theorem d_M_isIn_6 : decode b_M_isIn 6 = .ok (.lload_n 0, 1) := by decide +kernel
theorem d_M_isIn_7 : decode b_M_isIn 7 = .ok (.lload 4, 2) := by decide +kernel
theorem d_M_isIn_9 : decode b_M_isIn 9 = .ok (.lcmp, 1) := by decide +kernel
theorem d_M_isIn_10 : decode b_M_isIn 10 = .ok (.ifCond .gt 7, 3) := by decide +kernel
theorem d_M_isIn_13 : decode b_M_isIn 13 = .ok (.iconst 1, 1) := by decide +kernel
theorem d_M_isIn_14 : decode b_M_isIn 14 = .ok (.goto 4, 3) := by decide +kernel
theorem d_M_isIn_17 : decode b_M_isIn 17 = .ok (.iconst 0, 1) := by decide +kernel
theorem d_M_isIn_18 : decode b_M_isIn 18 = .ok (.ireturn, 1) := by decide +kernel
theorem d_M_consent_0 : decode b_M_consent 0 = .ok (.iload_n 1, 1) := by decide +kernel
theorem d_M_consent_1 : decode b_M_consent 1 = .ok (.i2l, 1) := by decide +kernel
theorem d_M_consent_2 : decode b_M_consent 2 = .ok (.lconst 0, 1) := by decide +kernel
theorem d_M_consent_3 : decode b_M_consent 3 = .ok (.ldc2_w 112, 3) := by decide +kernel
theorem d_M_consent_6 : decode b_M_consent 6 = .ok (.invokestatic 108, 3) := by decide +kernel
theorem d_M_consent_9 : decode b_M_consent 9 = .ok (.ifCond .eq 32, 3) := by decide +kernel
theorem d_M_consent_12 : decode b_M_consent 12 = .ok (.iload_n 2, 1) := by decide +kernel
theorem d_M_consent_13 : decode b_M_consent 13 = .ok (.i2l, 1) := by decide +kernel
theorem d_M_consent_14 : decode b_M_consent 14 = .ok (.lconst 0, 1) := by decide +kernel
theorem d_M_consent_15 : decode b_M_consent 15 = .ok (.ldc2_w 117, 3) := by decide +kernel
theorem d_M_consent_18 : decode b_M_consent 18 = .ok (.invokestatic 108, 3) := by decide +kernel
theorem d_M_consent_21 : decode b_M_consent 21 = .ok (.ifCond .eq 20, 3) := by decide +kernel
theorem d_M_consent_24 : decode b_M_consent 24 = .ok (.iload_n 2, 1) := by decide +kernel
theorem d_M_consent_25 : decode b_M_consent 25 = .ok (.iconst 2, 1) := by decide +kernel
theorem d_M_consent_26 : decode b_M_consent 26 = .ok (.if_icmp .ge 18, 3) := by decide +kernel
theorem d_M_consent_29 : decode b_M_consent 29 = .ok (.iload_n 3, 1) := by decide +kernel
theorem d_M_consent_30 : decode b_M_consent 30 = .ok (.i2l, 1) := by decide +kernel
theorem d_M_consent_31 : decode b_M_consent 31 = .ok (.lconst 0, 1) := by decide +kernel
theorem d_M_consent_32 : decode b_M_consent 32 = .ok (.ldc2_w 112, 3) := by decide +kernel
theorem d_M_consent_35 : decode b_M_consent 35 = .ok (.invokestatic 108, 3) := by decide +kernel
theorem d_M_consent_38 : decode b_M_consent 38 = .ok (.ifCond .ne 6, 3) := by decide +kernel
theorem d_M_consent_41 : decode b_M_consent 41 = .ok (.bipush (-12), 2) := by decide +kernel
theorem d_M_consent_43 : decode b_M_consent 43 = .ok (.ireturn, 1) := by decide +kernel
theorem d_M_consent_44 : decode b_M_consent 44 = .ok (.iload_n 2, 1) := by decide +kernel
theorem d_M_consent_45 : decode b_M_consent 45 = .ok (.iconst 2, 1) := by decide +kernel
theorem d_M_consent_46 : decode b_M_consent 46 = .ok (.if_icmp .ge 11, 3) := by decide +kernel
theorem d_M_consent_49 : decode b_M_consent 49 = .ok (.iload_n 3, 1) := by decide +kernel
theorem d_M_consent_50 : decode b_M_consent 50 = .ok (.iload_n 1, 1) := by decide +kernel
theorem d_M_consent_51 : decode b_M_consent 51 = .ok (.if_icmp .ne 6, 3) := by decide +kernel
theorem d_M_consent_54 : decode b_M_consent 54 = .ok (.bipush (-13), 2) := by decide +kernel
theorem d_M_consent_56 : decode b_M_consent 56 = .ok (.ireturn, 1) := by decide +kernel
theorem d_M_consent_57 : decode b_M_consent 57 = .ok (.aload_n 0, 1) := by decide +kernel
theorem d_M_consent_58 : decode b_M_consent 58 = .ok (.iload_n 1, 1) := by decide +kernel
theorem d_M_consent_59 : decode b_M_consent 59 = .ok (.iload_n 2, 1) := by decide +kernel
theorem d_M_consent_60 : decode b_M_consent 60 = .ok (.iload_n 3, 1) := by decide +kernel
theorem d_M_consent_61 : decode b_M_consent 61 = .ok (.invokevirtual 119, 3) := by decide +kernel
theorem d_M_consent_64 : decode b_M_consent 64 = .ok (.istore 4, 2) := by decide +kernel
theorem d_M_consent_66 : decode b_M_consent 66 = .ok (.iload 4, 2) := by decide +kernel
theorem d_M_consent_68 : decode b_M_consent 68 = .ok (.iconst (-1), 1) := by decide +kernel
theorem d_M_consent_69 : decode b_M_consent 69 = .ok (.if_icmp .ne 15, 3) := by decide +kernel
theorem d_M_consent_72 : decode b_M_consent 72 = .ok (.aload_n 0, 1) := by decide +kernel
theorem d_M_consent_73 : decode b_M_consent 73 = .ok (.getfield 114, 3) := by decide +kernel
theorem d_M_consent_76 : decode b_M_consent 76 = .ok (.bipush 100, 2) := by decide +kernel
theorem d_M_consent_78 : decode b_M_consent 78 = .ok (.if_icmp .ne 6, 3) := by decide +kernel
theorem d_M_consent_81 : decode b_M_consent 81 = .ok (.bipush (-14), 2) := by decide +kernel
theorem d_M_consent_83 : decode b_M_consent 83 = .ok (.ireturn, 1) := by decide +kernel
theorem d_M_consent_84 : decode b_M_consent 84 = .ok (.iload 4, 2) := by decide +kernel
theorem d_M_consent_86 : decode b_M_consent 86 = .ok (.iconst (-1), 1) := by decide +kernel
theorem d_M_consent_87 : decode b_M_consent 87 = .ok (.if_icmp .ne 45, 3) := by decide +kernel
theorem d_M_consent_90 : decode b_M_consent 90 = .ok (.aload_n 0, 1) := by decide +kernel
theorem d_M_consent_91 : decode b_M_consent 91 = .ok (.getfield 57, 3) := by decide +kernel
theorem d_M_consent_94 : decode b_M_consent 94 = .ok (.aload_n 0, 1) := by decide +kernel
theorem d_M_consent_95 : decode b_M_consent 95 = .ok (.getfield 114, 3) := by decide +kernel
theorem d_M_consent_98 : decode b_M_consent 98 = .ok (.iload_n 1, 1) := by decide +kernel
theorem d_M_consent_99 : decode b_M_consent 99 = .ok (.iastore, 1) := by decide +kernel
theorem d_M_consent_100 : decode b_M_consent 100 = .ok (.aload_n 0, 1) := by decide +kernel
theorem d_M_consent_101 : decode b_M_consent 101 = .ok (.getfield 60, 3) := by decide +kernel
theorem d_M_consent_104 : decode b_M_consent 104 = .ok (.aload_n 0, 1) := by decide +kernel
theorem d_M_consent_105 : decode b_M_consent 105 = .ok (.getfield 114, 3) := by decide +kernel
theorem d_M_consent_108 : decode b_M_consent 108 = .ok (.iload_n 2, 1) := by decide +kernel
theorem d_M_consent_109 : decode b_M_consent 109 = .ok (.iastore, 1) := by decide +kernel
theorem d_M_consent_110 : decode b_M_consent 110 = .ok (.aload_n 0, 1) := by decide +kernel
theorem d_M_consent_111 : decode b_M_consent 111 = .ok (.getfield 63, 3) := by decide +kernel
theorem d_M_consent_114 : decode b_M_consent 114 = .ok (.aload_n 0, 1) := by decide +kernel
theorem d_M_consent_115 : decode b_M_consent 115 = .ok (.getfield 114, 3) := by decide +kernel
theorem d_M_consent_118 : decode b_M_consent 118 = .ok (.iload_n 3, 1) := by decide +kernel
theorem d_M_consent_119 : decode b_M_consent 119 = .ok (.iastore, 1) := by decide +kernel
theorem d_M_consent_120 : decode b_M_consent 120 = .ok (.aload_n 0, 1) := by decide +kernel
theorem d_M_consent_121 : decode b_M_consent 121 = .ok (.dup, 1) := by decide +kernel
theorem d_M_consent_122 : decode b_M_consent 122 = .ok (.getfield 114, 3) := by decide +kernel
theorem d_M_consent_125 : decode b_M_consent 125 = .ok (.iconst 1, 1) := by decide +kernel
theorem d_M_consent_126 : decode b_M_consent 126 = .ok (.iadd, 1) := by decide +kernel
theorem d_M_consent_127 : decode b_M_consent 127 = .ok (.putfield 114, 3) := by decide +kernel
theorem d_M_consent_130 : decode b_M_consent 130 = .ok (.iconst 1, 1) := by decide +kernel
theorem d_M_consent_131 : decode b_M_consent 131 = .ok (.ireturn, 1) := by decide +kernel
theorem d_M_consent_132 : decode b_M_consent 132 = .ok (.aload_n 0, 1) := by decide +kernel
theorem d_M_consent_133 : decode b_M_consent 133 = .ok (.dup, 1) := by decide +kernel
theorem d_M_consent_134 : decode b_M_consent 134 = .ok (.getfield 114, 3) := by decide +kernel
theorem d_M_consent_137 : decode b_M_consent 137 = .ok (.iconst 1, 1) := by decide +kernel
theorem d_M_consent_138 : decode b_M_consent 138 = .ok (.isub, 1) := by decide +kernel
theorem d_M_consent_139 : decode b_M_consent 139 = .ok (.putfield 114, 3) := by decide +kernel
theorem d_M_consent_142 : decode b_M_consent 142 = .ok (.aload_n 0, 1) := by decide +kernel
theorem d_M_consent_143 : decode b_M_consent 143 = .ok (.getfield 57, 3) := by decide +kernel
theorem d_M_consent_146 : decode b_M_consent 146 = .ok (.iload 4, 2) := by decide +kernel
theorem d_M_consent_148 : decode b_M_consent 148 = .ok (.aload_n 0, 1) := by decide +kernel
theorem d_M_consent_149 : decode b_M_consent 149 = .ok (.getfield 57, 3) := by decide +kernel
theorem d_M_consent_152 : decode b_M_consent 152 = .ok (.aload_n 0, 1) := by decide +kernel
theorem d_M_consent_153 : decode b_M_consent 153 = .ok (.getfield 114, 3) := by decide +kernel
theorem d_M_consent_156 : decode b_M_consent 156 = .ok (.iaload, 1) := by decide +kernel
theorem d_M_consent_157 : decode b_M_consent 157 = .ok (.iastore, 1) := by decide +kernel
theorem d_M_consent_158 : decode b_M_consent 158 = .ok (.aload_n 0, 1) := by decide +kernel
theorem d_M_consent_159 : decode b_M_consent 159 = .ok (.getfield 60, 3) := by decide +kernel
theorem d_M_consent_162 : decode b_M_consent 162 = .ok (.iload 4, 2) := by decide +kernel
theorem d_M_consent_164 : decode b_M_consent 164 = .ok (.aload_n 0, 1) := by decide +kernel
theorem d_M_consent_165 : decode b_M_consent 165 = .ok (.getfield 60, 3) := by decide +kernel
theorem d_M_consent_168 : decode b_M_consent 168 = .ok (.aload_n 0, 1) := by decide +kernel
theorem d_M_consent_169 : decode b_M_consent 169 = .ok (.getfield 114, 3) := by decide +kernel
theorem d_M_consent_172 : decode b_M_consent 172 = .ok (.iaload, 1) := by decide +kernel
theorem d_M_consent_173 : decode b_M_consent 173 = .ok (.iastore, 1) := by decide +kernel
theorem d_M_consent_174 : decode b_M_consent 174 = .ok (.aload_n 0, 1) := by decide +kernel
theorem d_M_consent_175 : decode b_M_consent 175 = .ok (.getfield 63, 3) := by decide +kernel
theorem d_M_consent_178 : decode b_M_consent 178 = .ok (.iload 4, 2) := by decide +kernel
theorem d_M_consent_180 : decode b_M_consent 180 = .ok (.aload_n 0, 1) := by decide +kernel
theorem d_M_consent_181 : decode b_M_consent 181 = .ok (.getfield 63, 3) := by decide +kernel
theorem d_M_consent_184 : decode b_M_consent 184 = .ok (.aload_n 0, 1) := by decide +kernel
theorem d_M_consent_185 : decode b_M_consent 185 = .ok (.getfield 114, 3) := by decide +kernel
theorem d_M_consent_188 : decode b_M_consent 188 = .ok (.iaload, 1) := by decide +kernel
theorem d_M_consent_189 : decode b_M_consent 189 = .ok (.iastore, 1) := by decide +kernel
theorem d_M_consent_190 : decode b_M_consent 190 = .ok (.iconst 0, 1) := by decide +kernel
theorem d_M_consent_191 : decode b_M_consent 191 = .ok (.ireturn, 1) := by decide +kernel
theorem d_M_findConsent_0 : decode b_M_findConsent 0 = .ok (.iconst (-1), 1) := by decide +kernel
theorem d_M_findConsent_1 : decode b_M_findConsent 1 = .ok (.istore 4, 2) := by decide +kernel
theorem d_M_findConsent_3 : decode b_M_findConsent 3 = .ok (.iconst 0, 1) := by decide +kernel
theorem d_M_findConsent_4 : decode b_M_findConsent 4 = .ok (.istore 5, 2) := by decide +kernel
theorem d_M_findConsent_6 : decode b_M_findConsent 6 = .ok (.iload 5, 2) := by decide +kernel
theorem d_M_findConsent_8 : decode b_M_findConsent 8 = .ok (.aload_n 0, 1) := by decide +kernel
theorem d_M_findConsent_9 : decode b_M_findConsent 9 = .ok (.getfield 114, 3) := by decide +kernel
theorem d_M_findConsent_12 : decode b_M_findConsent 12 = .ok (.if_icmp .ge 68, 3) := by decide +kernel
theorem d_M_findConsent_15 : decode b_M_findConsent 15 = .ok (.aload_n 0, 1) := by decide +kernel
theorem d_M_findConsent_16 : decode b_M_findConsent 16 = .ok (.getfield 57, 3) := by decide +kernel
theorem d_M_findConsent_19 : decode b_M_findConsent 19 = .ok (.iload 5, 2) := by decide +kernel
theorem d_M_findConsent_21 : decode b_M_findConsent 21 = .ok (.iaload, 1) := by decide +kernel
theorem d_M_findConsent_22 : decode b_M_findConsent 22 = .ok (.iload_n 1, 1) := by decide +kernel
theorem d_M_findConsent_23 : decode b_M_findConsent 23 = .ok (.if_icmp .ne 34, 3) := by decide +kernel
theorem d_M_findConsent_26 : decode b_M_findConsent 26 = .ok (.aload_n 0, 1) := by decide +kernel
theorem d_M_findConsent_27 : decode b_M_findConsent 27 = .ok (.getfield 60, 3) := by decide +kernel
theorem d_M_findConsent_30 : decode b_M_findConsent 30 = .ok (.iload 5, 2) := by decide +kernel
theorem d_M_findConsent_32 : decode b_M_findConsent 32 = .ok (.iaload, 1) := by decide +kernel
theorem d_M_findConsent_33 : decode b_M_findConsent 33 = .ok (.iload_n 2, 1) := by decide +kernel
theorem d_M_findConsent_34 : decode b_M_findConsent 34 = .ok (.if_icmp .ne 23, 3) := by decide +kernel
theorem d_M_findConsent_37 : decode b_M_findConsent 37 = .ok (.iload_n 2, 1) := by decide +kernel
theorem d_M_findConsent_38 : decode b_M_findConsent 38 = .ok (.iconst 2, 1) := by decide +kernel
theorem d_M_findConsent_39 : decode b_M_findConsent 39 = .ok (.if_icmp .eq 14, 3) := by decide +kernel
theorem d_M_findConsent_42 : decode b_M_findConsent 42 = .ok (.aload_n 0, 1) := by decide +kernel
theorem d_M_findConsent_43 : decode b_M_findConsent 43 = .ok (.getfield 63, 3) := by decide +kernel
theorem d_M_findConsent_46 : decode b_M_findConsent 46 = .ok (.iload 5, 2) := by decide +kernel
theorem d_M_findConsent_48 : decode b_M_findConsent 48 = .ok (.iaload, 1) := by decide +kernel
theorem d_M_findConsent_49 : decode b_M_findConsent 49 = .ok (.iload_n 3, 1) := by decide +kernel
theorem d_M_findConsent_50 : decode b_M_findConsent 50 = .ok (.if_icmp .ne 7, 3) := by decide +kernel
theorem d_M_findConsent_53 : decode b_M_findConsent 53 = .ok (.iconst 1, 1) := by decide +kernel
theorem d_M_findConsent_54 : decode b_M_findConsent 54 = .ok (.goto 4, 3) := by decide +kernel
theorem d_M_findConsent_57 : decode b_M_findConsent 57 = .ok (.iconst 0, 1) := by decide +kernel
theorem d_M_findConsent_58 : decode b_M_findConsent 58 = .ok (.istore 6, 2) := by decide +kernel
theorem d_M_findConsent_60 : decode b_M_findConsent 60 = .ok (.iload 6, 2) := by decide +kernel
theorem d_M_findConsent_62 : decode b_M_findConsent 62 = .ok (.ifCond .eq 8, 3) := by decide +kernel
theorem d_M_findConsent_65 : decode b_M_findConsent 65 = .ok (.iload 5, 2) := by decide +kernel
theorem d_M_findConsent_67 : decode b_M_findConsent 67 = .ok (.goto 5, 3) := by decide +kernel
theorem d_M_findConsent_70 : decode b_M_findConsent 70 = .ok (.iload 4, 2) := by decide +kernel
theorem d_M_findConsent_72 : decode b_M_findConsent 72 = .ok (.istore 4, 2) := by decide +kernel
theorem d_M_findConsent_74 : decode b_M_findConsent 74 = .ok (.iinc 5 1, 3) := by decide +kernel
theorem d_M_findConsent_77 : decode b_M_findConsent 77 = .ok (.goto (-71), 3) := by decide +kernel
theorem d_M_findConsent_80 : decode b_M_findConsent 80 = .ok (.iload 4, 2) := by decide +kernel
theorem d_M_findConsent_82 : decode b_M_findConsent 82 = .ok (.ireturn, 1) := by decide +kernel
theorem d_M_act_0 : decode b_M_act 0 = .ok (.aload_n 0, 1) := by decide +kernel
theorem d_M_act_1 : decode b_M_act 1 = .ok (.iload_n 2, 1) := by decide +kernel
theorem d_M_act_2 : decode b_M_act 2 = .ok (.invokevirtual 143, 3) := by decide +kernel
theorem d_M_act_5 : decode b_M_act 5 = .ok (.ifCond .eq 29, 3) := by decide +kernel
theorem d_M_act_8 : decode b_M_act 8 = .ok (.iload_n 1, 1) := by decide +kernel
theorem d_M_act_9 : decode b_M_act 9 = .ok (.invokestatic 147, 3) := by decide +kernel
theorem d_M_act_12 : decode b_M_act 12 = .ok (.ifCond .eq 25, 3) := by decide +kernel
theorem d_M_act_15 : decode b_M_act 15 = .ok (.aload_n 0, 1) := by decide +kernel
theorem d_M_act_16 : decode b_M_act 16 = .ok (.getfield 66, 3) := by decide +kernel
theorem d_M_act_19 : decode b_M_act 19 = .ok (.iload_n 1, 1) := by decide +kernel
theorem d_M_act_20 : decode b_M_act 20 = .ok (.baload, 1) := by decide +kernel
theorem d_M_act_21 : decode b_M_act 21 = .ok (.ifCond .eq 16, 3) := by decide +kernel
theorem d_M_act_24 : decode b_M_act 24 = .ok (.iload_n 2, 1) := by decide +kernel
theorem d_M_act_25 : decode b_M_act 25 = .ok (.aload_n 0, 1) := by decide +kernel
theorem d_M_act_26 : decode b_M_act 26 = .ok (.getfield 69, 3) := by decide +kernel
theorem d_M_act_29 : decode b_M_act 29 = .ok (.iload_n 1, 1) := by decide +kernel
theorem d_M_act_30 : decode b_M_act 30 = .ok (.iaload, 1) := by decide +kernel
theorem d_M_act_31 : decode b_M_act 31 = .ok (.if_icmp .le 6, 3) := by decide +kernel
theorem d_M_act_34 : decode b_M_act 34 = .ok (.bipush (-11), 2) := by decide +kernel
theorem d_M_act_36 : decode b_M_act 36 = .ok (.ireturn, 1) := by decide +kernel
theorem d_M_act_37 : decode b_M_act 37 = .ok (.iload_n 3, 1) := by decide +kernel
theorem d_M_act_38 : decode b_M_act 38 = .ok (.ifCond .eq 8, 3) := by decide +kernel
theorem d_M_act_41 : decode b_M_act 41 = .ok (.iload_n 3, 1) := by decide +kernel
theorem d_M_act_42 : decode b_M_act 42 = .ok (.iconst 2, 1) := by decide +kernel
theorem d_M_act_43 : decode b_M_act 43 = .ok (.if_icmp .ne 7, 3) := by decide +kernel
theorem d_M_act_46 : decode b_M_act 46 = .ok (.iconst 1, 1) := by decide +kernel
theorem d_M_act_47 : decode b_M_act 47 = .ok (.goto 4, 3) := by decide +kernel
theorem d_M_act_50 : decode b_M_act 50 = .ok (.iconst 0, 1) := by decide +kernel
theorem d_M_act_51 : decode b_M_act 51 = .ok (.istore 8, 2) := by decide +kernel
theorem d_M_act_53 : decode b_M_act 53 = .ok (.iload_n 1, 1) := by decide +kernel
theorem d_M_act_54 : decode b_M_act 54 = .ok (.invokestatic 147, 3) := by decide +kernel
theorem d_M_act_57 : decode b_M_act 57 = .ok (.ifCond .eq 78, 3) := by decide +kernel
theorem d_M_act_60 : decode b_M_act 60 = .ok (.iload_n 3, 1) := by decide +kernel
theorem d_M_act_61 : decode b_M_act 61 = .ok (.i2l, 1) := by decide +kernel
theorem d_M_act_62 : decode b_M_act 62 = .ok (.lconst 0, 1) := by decide +kernel
theorem d_M_act_63 : decode b_M_act 63 = .ok (.ldc2_w 106, 3) := by decide +kernel
theorem d_M_act_66 : decode b_M_act 66 = .ok (.invokestatic 108, 3) := by decide +kernel
theorem d_M_act_69 : decode b_M_act 69 = .ok (.ifCond .eq 66, 3) := by decide +kernel
theorem d_M_act_72 : decode b_M_act 72 = .ok (.iload 4, 2) := by decide +kernel
theorem d_M_act_74 : decode b_M_act 74 = .ok (.i2l, 1) := by decide +kernel
theorem d_M_act_75 : decode b_M_act 75 = .ok (.iload 8, 2) := by decide +kernel
theorem d_M_act_77 : decode b_M_act 77 = .ok (.ifCond .eq 7, 3) := by decide +kernel
theorem d_M_act_80 : decode b_M_act 80 = .ok (.lconst 0, 1) := by decide +kernel
theorem d_M_act_81 : decode b_M_act 81 = .ok (.goto 6, 3) := by decide +kernel
theorem d_M_act_84 : decode b_M_act 84 = .ok (.ldc2_w 150, 3) := by decide +kernel
theorem d_M_act_87 : decode b_M_act 87 = .ok (.ldc2_w 112, 3) := by decide +kernel
theorem d_M_act_90 : decode b_M_act 90 = .ok (.invokestatic 108, 3) := by decide +kernel
theorem d_M_act_93 : decode b_M_act 93 = .ok (.ifCond .eq 42, 3) := by decide +kernel
theorem d_M_act_96 : decode b_M_act 96 = .ok (.iload 5, 2) := by decide +kernel
theorem d_M_act_98 : decode b_M_act 98 = .ok (.i2l, 1) := by decide +kernel
theorem d_M_act_99 : decode b_M_act 99 = .ok (.ldc2_w 150, 3) := by decide +kernel
theorem d_M_act_102 : decode b_M_act 102 = .ok (.ldc2_w 152, 3) := by decide +kernel
theorem d_M_act_105 : decode b_M_act 105 = .ok (.invokestatic 108, 3) := by decide +kernel
theorem d_M_act_108 : decode b_M_act 108 = .ok (.ifCond .eq 27, 3) := by decide +kernel
theorem d_M_act_111 : decode b_M_act 111 = .ok (.lload 6, 2) := by decide +kernel
theorem d_M_act_113 : decode b_M_act 113 = .ok (.lconst 0, 1) := by decide +kernel
theorem d_M_act_114 : decode b_M_act 114 = .ok (.ldc2_w 154, 3) := by decide +kernel
theorem d_M_act_117 : decode b_M_act 117 = .ok (.invokestatic 108, 3) := by decide +kernel
theorem d_M_act_120 : decode b_M_act 120 = .ok (.ifCond .eq 15, 3) := by decide +kernel
theorem d_M_act_123 : decode b_M_act 123 = .ok (.lload 6, 2) := by decide +kernel
theorem d_M_act_125 : decode b_M_act 125 = .ok (.aload_n 0, 1) := by decide +kernel
theorem d_M_act_126 : decode b_M_act 126 = .ok (.getfield 72, 3) := by decide +kernel
theorem d_M_act_129 : decode b_M_act 129 = .ok (.iload_n 1, 1) := by decide +kernel
theorem d_M_act_130 : decode b_M_act 130 = .ok (.laload, 1) := by decide +kernel
theorem d_M_act_131 : decode b_M_act 131 = .ok (.lcmp, 1) := by decide +kernel
theorem d_M_act_132 : decode b_M_act 132 = .ok (.ifCond .ge 6, 3) := by decide +kernel
theorem d_M_act_135 : decode b_M_act 135 = .ok (.bipush (-12), 2) := by decide +kernel
theorem d_M_act_137 : decode b_M_act 137 = .ok (.ireturn, 1) := by decide +kernel
theorem d_M_act_138 : decode b_M_act 138 = .ok (.aload_n 0, 1) := by decide +kernel
theorem d_M_act_139 : decode b_M_act 139 = .ok (.getfield 66, 3) := by decide +kernel
theorem d_M_act_142 : decode b_M_act 142 = .ok (.iload_n 1, 1) := by decide +kernel
theorem d_M_act_143 : decode b_M_act 143 = .ok (.baload, 1) := by decide +kernel
theorem d_M_act_144 : decode b_M_act 144 = .ok (.ifCond .eq 7, 3) := by decide +kernel
theorem d_M_act_147 : decode b_M_act 147 = .ok (.iload_n 1, 1) := by decide +kernel
theorem d_M_act_148 : decode b_M_act 148 = .ok (.goto 5, 3) := by decide +kernel
theorem d_M_act_151 : decode b_M_act 151 = .ok (.bipush 8, 2) := by decide +kernel
theorem d_M_act_153 : decode b_M_act 153 = .ok (.istore 9, 2) := by decide +kernel
theorem d_M_act_155 : decode b_M_act 155 = .ok (.lload 6, 2) := by decide +kernel
theorem d_M_act_157 : decode b_M_act 157 = .ok (.ldc2_w 156, 3) := by decide +kernel
theorem d_M_act_160 : decode b_M_act 160 = .ok (.ldiv, 1) := by decide +kernel
theorem d_M_act_161 : decode b_M_act 161 = .ok (.lstore 10, 2) := by decide +kernel
theorem d_M_act_163 : decode b_M_act 163 = .ok (.aload_n 0, 1) := by decide +kernel
theorem d_M_act_164 : decode b_M_act 164 = .ok (.iload 9, 2) := by decide +kernel
theorem d_M_act_166 : decode b_M_act 166 = .ok (.iload_n 2, 1) := by decide +kernel
theorem d_M_act_167 : decode b_M_act 167 = .ok (.iload_n 3, 1) := by decide +kernel
theorem d_M_act_168 : decode b_M_act 168 = .ok (.iload_n 1, 1) := by decide +kernel
theorem d_M_act_169 : decode b_M_act 169 = .ok (.lload 10, 2) := by decide +kernel
theorem d_M_act_171 : decode b_M_act 171 = .ok (.invokevirtual 158, 3) := by decide +kernel
theorem d_M_act_174 : decode b_M_act 174 = .ok (.ifCond .ne 6, 3) := by decide +kernel
theorem d_M_act_177 : decode b_M_act 177 = .ok (.bipush (-13), 2) := by decide +kernel
theorem d_M_act_179 : decode b_M_act 179 = .ok (.ireturn, 1) := by decide +kernel
theorem d_M_act_180 : decode b_M_act 180 = .ok (.aload_n 0, 1) := by decide +kernel
theorem d_M_act_181 : decode b_M_act 181 = .ok (.getfield 66, 3) := by decide +kernel
theorem d_M_act_184 : decode b_M_act 184 = .ok (.iload_n 1, 1) := by decide +kernel
theorem d_M_act_185 : decode b_M_act 185 = .ok (.baload, 1) := by decide +kernel
theorem d_M_act_186 : decode b_M_act 186 = .ok (.ifCond .eq 17, 3) := by decide +kernel
theorem d_M_act_189 : decode b_M_act 189 = .ok (.aload_n 0, 1) := by decide +kernel
theorem d_M_act_190 : decode b_M_act 190 = .ok (.getfield 75, 3) := by decide +kernel
theorem d_M_act_193 : decode b_M_act 193 = .ok (.iload_n 1, 1) := by decide +kernel
theorem d_M_act_194 : decode b_M_act 194 = .ok (.iaload, 1) := by decide +kernel
theorem d_M_act_195 : decode b_M_act 195 = .ok (.bipush 30, 2) := by decide +kernel
theorem d_M_act_197 : decode b_M_act 197 = .ok (.if_icmp .ne 6, 3) := by decide +kernel
theorem d_M_act_200 : decode b_M_act 200 = .ok (.bipush (-14), 2) := by decide +kernel
theorem d_M_act_202 : decode b_M_act 202 = .ok (.ireturn, 1) := by decide +kernel
theorem d_M_act_203 : decode b_M_act 203 = .ok (.aload_n 0, 1) := by decide +kernel
theorem d_M_act_204 : decode b_M_act 204 = .ok (.iload 9, 2) := by decide +kernel
theorem d_M_act_206 : decode b_M_act 206 = .ok (.iload_n 2, 1) := by decide +kernel
theorem d_M_act_207 : decode b_M_act 207 = .ok (.iload_n 3, 1) := by decide +kernel
theorem d_M_act_208 : decode b_M_act 208 = .ok (.iload 4, 2) := by decide +kernel
theorem d_M_act_210 : decode b_M_act 210 = .ok (.iload 5, 2) := by decide +kernel
theorem d_M_act_212 : decode b_M_act 212 = .ok (.invokevirtual 162, 3) := by decide +kernel
theorem d_M_act_215 : decode b_M_act 215 = .ok (.istore 12, 2) := by decide +kernel
theorem d_M_act_217 : decode b_M_act 217 = .ok (.iload 12, 2) := by decide +kernel
theorem d_M_act_219 : decode b_M_act 219 = .ok (.ifCond .ge 6, 3) := by decide +kernel
theorem d_M_act_222 : decode b_M_act 222 = .ok (.iload 12, 2) := by decide +kernel
theorem d_M_act_224 : decode b_M_act 224 = .ok (.ireturn, 1) := by decide +kernel
theorem d_M_act_225 : decode b_M_act 225 = .ok (.aload_n 0, 1) := by decide +kernel
theorem d_M_act_226 : decode b_M_act 226 = .ok (.iload 9, 2) := by decide +kernel
theorem d_M_act_228 : decode b_M_act 228 = .ok (.iload_n 2, 1) := by decide +kernel
theorem d_M_act_229 : decode b_M_act 229 = .ok (.iload_n 3, 1) := by decide +kernel
theorem d_M_act_230 : decode b_M_act 230 = .ok (.iload 12, 2) := by decide +kernel
theorem d_M_act_232 : decode b_M_act 232 = .ok (.iload_n 1, 1) := by decide +kernel
theorem d_M_act_233 : decode b_M_act 233 = .ok (.iload 4, 2) := by decide +kernel
theorem d_M_act_235 : decode b_M_act 235 = .ok (.lload 10, 2) := by decide +kernel
theorem d_M_act_237 : decode b_M_act 237 = .ok (.invokevirtual 166, 3) := by decide +kernel
theorem d_M_act_240 : decode b_M_act 240 = .ok (.aload_n 0, 1) := by decide +kernel
theorem d_M_act_241 : decode b_M_act 241 = .ok (.getfield 72, 3) := by decide +kernel
theorem d_M_act_244 : decode b_M_act 244 = .ok (.iload_n 1, 1) := by decide +kernel
theorem d_M_act_245 : decode b_M_act 245 = .ok (.lload 6, 2) := by decide +kernel
theorem d_M_act_247 : decode b_M_act 247 = .ok (.lastore, 1) := by decide +kernel
theorem d_M_act_248 : decode b_M_act 248 = .ok (.aload_n 0, 1) := by decide +kernel
theorem d_M_act_249 : decode b_M_act 249 = .ok (.getfield 66, 3) := by decide +kernel
theorem d_M_act_252 : decode b_M_act 252 = .ok (.iload_n 1, 1) := by decide +kernel
theorem d_M_act_253 : decode b_M_act 253 = .ok (.baload, 1) := by decide +kernel
theorem d_M_act_254 : decode b_M_act 254 = .ok (.ifCond .eq 69, 3) := by decide +kernel
theorem d_M_act_257 : decode b_M_act 257 = .ok (.bipush 30, 2) := by decide +kernel
theorem d_M_act_259 : decode b_M_act 259 = .ok (.iload_n 1, 1) := by decide +kernel
theorem d_M_act_260 : decode b_M_act 260 = .ok (.imul, 1) := by decide +kernel
theorem d_M_act_261 : decode b_M_act 261 = .ok (.aload_n 0, 1) := by decide +kernel
theorem d_M_act_262 : decode b_M_act 262 = .ok (.getfield 75, 3) := by decide +kernel
theorem d_M_act_265 : decode b_M_act 265 = .ok (.iload_n 1, 1) := by decide +kernel
theorem d_M_act_266 : decode b_M_act 266 = .ok (.iaload, 1) := by decide +kernel
theorem d_M_act_267 : decode b_M_act 267 = .ok (.iadd, 1) := by decide +kernel
theorem d_M_act_268 : decode b_M_act 268 = .ok (.istore 13, 2) := by decide +kernel
theorem d_M_act_270 : decode b_M_act 270 = .ok (.aload_n 0, 1) := by decide +kernel
theorem d_M_act_271 : decode b_M_act 271 = .ok (.getfield 78, 3) := by decide +kernel
theorem d_M_act_274 : decode b_M_act 274 = .ok (.iload 13, 2) := by decide +kernel
theorem d_M_act_276 : decode b_M_act 276 = .ok (.iload_n 2, 1) := by decide +kernel
theorem d_M_act_277 : decode b_M_act 277 = .ok (.iastore, 1) := by decide +kernel
theorem d_M_act_278 : decode b_M_act 278 = .ok (.aload_n 0, 1) := by decide +kernel
theorem d_M_act_279 : decode b_M_act 279 = .ok (.getfield 81, 3) := by decide +kernel
theorem d_M_act_282 : decode b_M_act 282 = .ok (.iload 13, 2) := by decide +kernel
theorem d_M_act_284 : decode b_M_act 284 = .ok (.iload_n 3, 1) := by decide +kernel
theorem d_M_act_285 : decode b_M_act 285 = .ok (.iastore, 1) := by decide +kernel
theorem d_M_act_286 : decode b_M_act 286 = .ok (.aload_n 0, 1) := by decide +kernel
theorem d_M_act_287 : decode b_M_act 287 = .ok (.getfield 84, 3) := by decide +kernel
theorem d_M_act_290 : decode b_M_act 290 = .ok (.iload 13, 2) := by decide +kernel
theorem d_M_act_292 : decode b_M_act 292 = .ok (.iload 12, 2) := by decide +kernel
theorem d_M_act_294 : decode b_M_act 294 = .ok (.iastore, 1) := by decide +kernel
theorem d_M_act_295 : decode b_M_act 295 = .ok (.aload_n 0, 1) := by decide +kernel
theorem d_M_act_296 : decode b_M_act 296 = .ok (.getfield 87, 3) := by decide +kernel
theorem d_M_act_299 : decode b_M_act 299 = .ok (.iload 13, 2) := by decide +kernel
theorem d_M_act_301 : decode b_M_act 301 = .ok (.iload 4, 2) := by decide +kernel
theorem d_M_act_303 : decode b_M_act 303 = .ok (.iastore, 1) := by decide +kernel
theorem d_M_act_304 : decode b_M_act 304 = .ok (.aload_n 0, 1) := by decide +kernel
theorem d_M_act_305 : decode b_M_act 305 = .ok (.getfield 90, 3) := by decide +kernel
theorem d_M_act_308 : decode b_M_act 308 = .ok (.iload 13, 2) := by decide +kernel
theorem d_M_act_310 : decode b_M_act 310 = .ok (.lload 10, 2) := by decide +kernel
theorem d_M_act_312 : decode b_M_act 312 = .ok (.lastore, 1) := by decide +kernel
theorem d_M_act_313 : decode b_M_act 313 = .ok (.aload_n 0, 1) := by decide +kernel
theorem d_M_act_314 : decode b_M_act 314 = .ok (.getfield 75, 3) := by decide +kernel
theorem d_M_act_317 : decode b_M_act 317 = .ok (.iload_n 1, 1) := by decide +kernel
theorem d_M_act_318 : decode b_M_act 318 = .ok (.dup2, 1) := by decide +kernel
theorem d_M_act_319 : decode b_M_act 319 = .ok (.iaload, 1) := by decide +kernel
theorem d_M_act_320 : decode b_M_act 320 = .ok (.iconst 1, 1) := by decide +kernel
theorem d_M_act_321 : decode b_M_act 321 = .ok (.iadd, 1) := by decide +kernel
theorem d_M_act_322 : decode b_M_act 322 = .ok (.iastore, 1) := by decide +kernel
theorem d_M_act_323 : decode b_M_act 323 = .ok (.iload 12, 2) := by decide +kernel
theorem d_M_act_325 : decode b_M_act 325 = .ok (.ireturn, 1) := by decide +kernel
theorem d_M_isItem_0 : decode b_M_isItem 0 = .ok (.iload_n 1, 1) := by decide +kernel
theorem d_M_isItem_1 : decode b_M_isItem 1 = .ok (.iconst 1, 1) := by decide +kernel
theorem d_M_isItem_2 : decode b_M_isItem 2 = .ok (.if_icmp .lt 15, 3) := by decide +kernel
theorem d_M_isItem_5 : decode b_M_isItem 5 = .ok (.iload_n 1, 1) := by decide +kernel
theorem d_M_isItem_6 : decode b_M_isItem 6 = .ok (.aload_n 0, 1) := by decide +kernel
theorem d_M_isItem_7 : decode b_M_isItem 7 = .ok (.getfield 102, 3) := by decide +kernel
theorem d_M_isItem_10 : decode b_M_isItem 10 = .ok (.if_icmp .gt 7, 3) := by decide +kernel
theorem d_M_isItem_13 : decode b_M_isItem 13 = .ok (.iconst 1, 1) := by decide +kernel
theorem d_M_isItem_14 : decode b_M_isItem 14 = .ok (.goto 4, 3) := by decide +kernel
theorem d_M_isItem_17 : decode b_M_isItem 17 = .ok (.iconst 0, 1) := by decide +kernel
theorem d_M_isItem_18 : decode b_M_isItem 18 = .ok (.ireturn, 1) := by decide +kernel
theorem d_M_isDevice_0 : decode b_M_isDevice 0 = .ok (.iload_n 0, 1) := by decide +kernel
theorem d_M_isDevice_1 : decode b_M_isDevice 1 = .ok (.ifCond .lt 13, 3) := by decide +kernel
theorem d_M_isDevice_4 : decode b_M_isDevice 4 = .ok (.iload_n 0, 1) := by decide +kernel
theorem d_M_isDevice_5 : decode b_M_isDevice 5 = .ok (.bipush 8, 2) := by decide +kernel
theorem d_M_isDevice_7 : decode b_M_isDevice 7 = .ok (.if_icmp .ge 7, 3) := by decide +kernel
theorem d_M_isDevice_10 : decode b_M_isDevice 10 = .ok (.iconst 1, 1) := by decide +kernel
theorem d_M_isDevice_11 : decode b_M_isDevice 11 = .ok (.goto 4, 3) := by decide +kernel
theorem d_M_isDevice_14 : decode b_M_isDevice 14 = .ok (.iconst 0, 1) := by decide +kernel
theorem d_M_isDevice_15 : decode b_M_isDevice 15 = .ok (.ireturn, 1) := by decide +kernel
theorem d_M_canBe_0 : decode b_M_canBe 0 = .ok (.bipush 61, 2) := by decide +kernel
theorem d_M_canBe_2 : decode b_M_canBe 2 = .ok (.iload_n 1, 1) := by decide +kernel
theorem d_M_canBe_3 : decode b_M_canBe 3 = .ok (.imul, 1) := by decide +kernel
theorem d_M_canBe_4 : decode b_M_canBe 4 = .ok (.iload_n 2, 1) := by decide +kernel
theorem d_M_canBe_5 : decode b_M_canBe 5 = .ok (.iadd, 1) := by decide +kernel
theorem d_M_canBe_6 : decode b_M_canBe 6 = .ok (.istore 7, 2) := by decide +kernel
theorem d_M_canBe_8 : decode b_M_canBe 8 = .ok (.aload_n 0, 1) := by decide +kernel
theorem d_M_canBe_9 : decode b_M_canBe 9 = .ok (.getfield 30, 3) := by decide +kernel
theorem d_M_canBe_12 : decode b_M_canBe 12 = .ok (.iload 7, 2) := by decide +kernel
theorem d_M_canBe_14 : decode b_M_canBe 14 = .ok (.iaload, 1) := by decide +kernel
theorem d_M_canBe_15 : decode b_M_canBe 15 = .ok (.istore 8, 2) := by decide +kernel
theorem d_M_canBe_17 : decode b_M_canBe 17 = .ok (.iload_n 3, 1) := by decide +kernel
theorem d_M_canBe_18 : decode b_M_canBe 18 = .ok (.tableswitch 143 0 4 #[34, 46, 34, 76, 99], 34) := by decide +kernel
theorem d_M_canBe_52 : decode b_M_canBe 52 = .ok (.iload 8, 2) := by decide +kernel
theorem d_M_canBe_54 : decode b_M_canBe 54 = .ok (.iconst 3, 1) := by decide +kernel
theorem d_M_canBe_55 : decode b_M_canBe 55 = .ok (.if_icmp .ge 7, 3) := by decide +kernel
theorem d_M_canBe_58 : decode b_M_canBe 58 = .ok (.iconst 1, 1) := by decide +kernel
theorem d_M_canBe_59 : decode b_M_canBe 59 = .ok (.goto 4, 3) := by decide +kernel
theorem d_M_canBe_62 : decode b_M_canBe 62 = .ok (.iconst 0, 1) := by decide +kernel
theorem d_M_canBe_63 : decode b_M_canBe 63 = .ok (.ireturn, 1) := by decide +kernel
theorem d_M_canBe_64 : decode b_M_canBe 64 = .ok (.iload 8, 2) := by decide +kernel
theorem d_M_canBe_66 : decode b_M_canBe 66 = .ok (.ifCond .eq 22, 3) := by decide +kernel
theorem d_M_canBe_69 : decode b_M_canBe 69 = .ok (.iload 8, 2) := by decide +kernel
theorem d_M_canBe_71 : decode b_M_canBe 71 = .ok (.iconst 1, 1) := by decide +kernel
theorem d_M_canBe_72 : decode b_M_canBe 72 = .ok (.if_icmp .ne 20, 3) := by decide +kernel
theorem d_M_canBe_75 : decode b_M_canBe 75 = .ok (.lload 5, 2) := by decide +kernel
theorem d_M_canBe_77 : decode b_M_canBe 77 = .ok (.aload_n 0, 1) := by decide +kernel
theorem d_M_canBe_78 : decode b_M_canBe 78 = .ok (.getfield 36, 3) := by decide +kernel
theorem d_M_canBe_81 : decode b_M_canBe 81 = .ok (.iload 7, 2) := by decide +kernel
theorem d_M_canBe_83 : decode b_M_canBe 83 = .ok (.laload, 1) := by decide +kernel
theorem d_M_canBe_84 : decode b_M_canBe 84 = .ok (.lcmp, 1) := by decide +kernel
theorem d_M_canBe_85 : decode b_M_canBe 85 = .ok (.ifCond .le 7, 3) := by decide +kernel
theorem d_M_canBe_88 : decode b_M_canBe 88 = .ok (.iconst 1, 1) := by decide +kernel
theorem d_M_canBe_89 : decode b_M_canBe 89 = .ok (.goto 4, 3) := by decide +kernel
theorem d_M_canBe_92 : decode b_M_canBe 92 = .ok (.iconst 0, 1) := by decide +kernel
theorem d_M_canBe_93 : decode b_M_canBe 93 = .ok (.ireturn, 1) := by decide +kernel
theorem d_M_canBe_94 : decode b_M_canBe 94 = .ok (.iload 8, 2) := by decide +kernel
theorem d_M_canBe_96 : decode b_M_canBe 96 = .ok (.bipush 7, 2) := by decide +kernel
theorem d_M_canBe_98 : decode b_M_canBe 98 = .ok (.if_icmp .ge 17, 3) := by decide +kernel
theorem d_M_canBe_101 : decode b_M_canBe 101 = .ok (.aload_n 0, 1) := by decide +kernel
theorem d_M_canBe_102 : decode b_M_canBe 102 = .ok (.getfield 54, 3) := by decide +kernel
theorem d_M_canBe_105 : decode b_M_canBe 105 = .ok (.iload 7, 2) := by decide +kernel
theorem d_M_canBe_107 : decode b_M_canBe 107 = .ok (.baload, 1) := by decide +kernel
theorem d_M_canBe_108 : decode b_M_canBe 108 = .ok (.ifCond .ne 7, 3) := by decide +kernel
theorem d_M_canBe_111 : decode b_M_canBe 111 = .ok (.iconst 1, 1) := by decide +kernel
theorem d_M_canBe_112 : decode b_M_canBe 112 = .ok (.goto 4, 3) := by decide +kernel
theorem d_M_canBe_115 : decode b_M_canBe 115 = .ok (.iconst 0, 1) := by decide +kernel
theorem d_M_canBe_116 : decode b_M_canBe 116 = .ok (.ireturn, 1) := by decide +kernel
theorem d_M_canBe_117 : decode b_M_canBe 117 = .ok (.iload 8, 2) := by decide +kernel
theorem d_M_canBe_119 : decode b_M_canBe 119 = .ok (.iconst 3, 1) := by decide +kernel
theorem d_M_canBe_120 : decode b_M_canBe 120 = .ok (.if_icmp .lt 39, 3) := by decide +kernel
theorem d_M_canBe_123 : decode b_M_canBe 123 = .ok (.iload 8, 2) := by decide +kernel
theorem d_M_canBe_125 : decode b_M_canBe 125 = .ok (.bipush 6, 2) := by decide +kernel
theorem d_M_canBe_127 : decode b_M_canBe 127 = .ok (.if_icmp .gt 32, 3) := by decide +kernel
theorem d_M_canBe_130 : decode b_M_canBe 130 = .ok (.aload_n 0, 1) := by decide +kernel
theorem d_M_canBe_131 : decode b_M_canBe 131 = .ok (.getfield 45, 3) := by decide +kernel
theorem d_M_canBe_134 : decode b_M_canBe 134 = .ok (.iload 7, 2) := by decide +kernel
theorem d_M_canBe_136 : decode b_M_canBe 136 = .ok (.iaload, 1) := by decide +kernel
theorem d_M_canBe_137 : decode b_M_canBe 137 = .ok (.iload 4, 2) := by decide +kernel
theorem d_M_canBe_139 : decode b_M_canBe 139 = .ok (.if_icmp .ne 20, 3) := by decide +kernel
theorem d_M_canBe_142 : decode b_M_canBe 142 = .ok (.aload_n 0, 1) := by decide +kernel
theorem d_M_canBe_143 : decode b_M_canBe 143 = .ok (.getfield 48, 3) := by decide +kernel
theorem d_M_canBe_146 : decode b_M_canBe 146 = .ok (.iload 7, 2) := by decide +kernel
theorem d_M_canBe_148 : decode b_M_canBe 148 = .ok (.laload, 1) := by decide +kernel
theorem d_M_canBe_149 : decode b_M_canBe 149 = .ok (.lload 5, 2) := by decide +kernel
theorem d_M_canBe_151 : decode b_M_canBe 151 = .ok (.lcmp, 1) := by decide +kernel
theorem d_M_canBe_152 : decode b_M_canBe 152 = .ok (.ifCond .ne 7, 3) := by decide +kernel
theorem d_M_canBe_155 : decode b_M_canBe 155 = .ok (.iconst 1, 1) := by decide +kernel
theorem d_M_canBe_156 : decode b_M_canBe 156 = .ok (.goto 4, 3) := by decide +kernel
theorem d_M_canBe_159 : decode b_M_canBe 159 = .ok (.iconst 0, 1) := by decide +kernel
theorem d_M_canBe_160 : decode b_M_canBe 160 = .ok (.ireturn, 1) := by decide +kernel
theorem d_M_canBe_161 : decode b_M_canBe 161 = .ok (.iload 8, 2) := by decide +kernel
theorem d_M_canBe_163 : decode b_M_canBe 163 = .ok (.iconst 2, 1) := by decide +kernel
theorem d_M_canBe_164 : decode b_M_canBe 164 = .ok (.if_icmp .ge 7, 3) := by decide +kernel
theorem d_M_canBe_167 : decode b_M_canBe 167 = .ok (.iconst 1, 1) := by decide +kernel
theorem d_M_canBe_168 : decode b_M_canBe 168 = .ok (.goto 4, 3) := by decide +kernel
theorem d_M_canBe_171 : decode b_M_canBe 171 = .ok (.iconst 0, 1) := by decide +kernel
theorem d_M_canBe_172 : decode b_M_canBe 172 = .ok (.ireturn, 1) := by decide +kernel
theorem d_M_outcome_0 : decode b_M_outcome 0 = .ok (.bipush 61, 2) := by decide +kernel
theorem d_M_outcome_2 : decode b_M_outcome 2 = .ok (.iload_n 1, 1) := by decide +kernel
theorem d_M_outcome_3 : decode b_M_outcome 3 = .ok (.imul, 1) := by decide +kernel
theorem d_M_outcome_4 : decode b_M_outcome 4 = .ok (.iload_n 2, 1) := by decide +kernel
theorem d_M_outcome_5 : decode b_M_outcome 5 = .ok (.iadd, 1) := by decide +kernel
theorem d_M_outcome_6 : decode b_M_outcome 6 = .ok (.istore 6, 2) := by decide +kernel
theorem d_M_outcome_8 : decode b_M_outcome 8 = .ok (.aload_n 0, 1) := by decide +kernel
theorem d_M_outcome_9 : decode b_M_outcome 9 = .ok (.getfield 30, 3) := by decide +kernel
theorem d_M_outcome_12 : decode b_M_outcome 12 = .ok (.iload 6, 2) := by decide +kernel
theorem d_M_outcome_14 : decode b_M_outcome 14 = .ok (.iaload, 1) := by decide +kernel
theorem d_M_outcome_15 : decode b_M_outcome 15 = .ok (.iconst 2, 1) := by decide +kernel
theorem d_M_outcome_16 : decode b_M_outcome 16 = .ok (.if_icmp .ne 7, 3) := by decide +kernel
theorem d_M_outcome_19 : decode b_M_outcome 19 = .ok (.iconst 1, 1) := by decide +kernel
theorem d_M_outcome_20 : decode b_M_outcome 20 = .ok (.goto 4, 3) := by decide +kernel
theorem d_M_outcome_23 : decode b_M_outcome 23 = .ok (.iconst 0, 1) := by decide +kernel
theorem d_M_outcome_24 : decode b_M_outcome 24 = .ok (.istore 7, 2) := by decide +kernel
theorem d_M_outcome_26 : decode b_M_outcome 26 = .ok (.iload_n 3, 1) := by decide +kernel
theorem d_M_outcome_27 : decode b_M_outcome 27 = .ok (.tableswitch 178 0 4 #[33, 97, 114, 172, 175], 33) := by decide +kernel
theorem d_M_outcome_60 : decode b_M_outcome 60 = .ok (.aload_n 0, 1) := by decide +kernel
theorem d_M_outcome_61 : decode b_M_outcome 61 = .ok (.iload_n 2, 1) := by decide +kernel
theorem d_M_outcome_62 : decode b_M_outcome 62 = .ok (.iload 4, 2) := by decide +kernel
theorem d_M_outcome_64 : decode b_M_outcome 64 = .ok (.iload 7, 2) := by decide +kernel
theorem d_M_outcome_66 : decode b_M_outcome 66 = .ok (.invokevirtual 125, 3) := by decide +kernel
theorem d_M_outcome_69 : decode b_M_outcome 69 = .ok (.istore 8, 2) := by decide +kernel
theorem d_M_outcome_71 : decode b_M_outcome 71 = .ok (.iload 8, 2) := by decide +kernel
theorem d_M_outcome_73 : decode b_M_outcome 73 = .ok (.ifCond .ge 6, 3) := by decide +kernel
theorem d_M_outcome_76 : decode b_M_outcome 76 = .ok (.bipush (-21), 2) := by decide +kernel
theorem d_M_outcome_78 : decode b_M_outcome 78 = .ok (.ireturn, 1) := by decide +kernel
theorem d_M_outcome_79 : decode b_M_outcome 79 = .ok (.aload_n 0, 1) := by decide +kernel
theorem d_M_outcome_80 : decode b_M_outcome 80 = .ok (.iload_n 2, 1) := by decide +kernel
theorem d_M_outcome_81 : decode b_M_outcome 81 = .ok (.iload 4, 2) := by decide +kernel
theorem d_M_outcome_83 : decode b_M_outcome 83 = .ok (.iload 5, 2) := by decide +kernel
theorem d_M_outcome_85 : decode b_M_outcome 85 = .ok (.iload 7, 2) := by decide +kernel
theorem d_M_outcome_87 : decode b_M_outcome 87 = .ok (.invokevirtual 129, 3) := by decide +kernel
theorem d_M_outcome_90 : decode b_M_outcome 90 = .ok (.ifCond .ne 6, 3) := by decide +kernel
theorem d_M_outcome_93 : decode b_M_outcome 93 = .ok (.bipush (-22), 2) := by decide +kernel
theorem d_M_outcome_95 : decode b_M_outcome 95 = .ok (.ireturn, 1) := by decide +kernel
theorem d_M_outcome_96 : decode b_M_outcome 96 = .ok (.aload_n 0, 1) := by decide +kernel
theorem d_M_outcome_97 : decode b_M_outcome 97 = .ok (.getfield 7, 3) := by decide +kernel
theorem d_M_outcome_100 : decode b_M_outcome 100 = .ok (.iload_n 2, 1) := by decide +kernel
theorem d_M_outcome_101 : decode b_M_outcome 101 = .ok (.iaload, 1) := by decide +kernel
theorem d_M_outcome_102 : decode b_M_outcome 102 = .ok (.iconst 5, 1) := by decide +kernel
theorem d_M_outcome_103 : decode b_M_outcome 103 = .ok (.if_icmp .ne 18, 3) := by decide +kernel
theorem d_M_outcome_106 : decode b_M_outcome 106 = .ok (.aload_n 0, 1) := by decide +kernel
theorem d_M_outcome_107 : decode b_M_outcome 107 = .ok (.iload_n 2, 1) := by decide +kernel
theorem d_M_outcome_108 : decode b_M_outcome 108 = .ok (.invokevirtual 133, 3) := by decide +kernel
theorem d_M_outcome_111 : decode b_M_outcome 111 = .ok (.lconst 0, 1) := by decide +kernel
theorem d_M_outcome_112 : decode b_M_outcome 112 = .ok (.lcmp, 1) := by decide +kernel
theorem d_M_outcome_113 : decode b_M_outcome 113 = .ok (.ifCond .le 8, 3) := by decide +kernel
theorem d_M_outcome_116 : decode b_M_outcome 116 = .ok (.bipush (-23), 2) := by decide +kernel
theorem d_M_outcome_118 : decode b_M_outcome 118 = .ok (.goto 5, 3) := by decide +kernel
theorem d_M_outcome_121 : decode b_M_outcome 121 = .ok (.iload 8, 2) := by decide +kernel
theorem d_M_outcome_123 : decode b_M_outcome 123 = .ok (.ireturn, 1) := by decide +kernel
theorem d_M_outcome_124 : decode b_M_outcome 124 = .ok (.aload_n 0, 1) := by decide +kernel
theorem d_M_outcome_125 : decode b_M_outcome 125 = .ok (.getfield 30, 3) := by decide +kernel
theorem d_M_outcome_128 : decode b_M_outcome 128 = .ok (.iload 6, 2) := by decide +kernel
theorem d_M_outcome_130 : decode b_M_outcome 130 = .ok (.iaload, 1) := by decide +kernel
theorem d_M_outcome_131 : decode b_M_outcome 131 = .ok (.ifCond .ne 7, 3) := by decide +kernel
theorem d_M_outcome_134 : decode b_M_outcome 134 = .ok (.iconst 5, 1) := by decide +kernel
theorem d_M_outcome_135 : decode b_M_outcome 135 = .ok (.goto 5, 3) := by decide +kernel
theorem d_M_outcome_138 : decode b_M_outcome 138 = .ok (.bipush 6, 2) := by decide +kernel
theorem d_M_outcome_140 : decode b_M_outcome 140 = .ok (.ireturn, 1) := by decide +kernel
theorem d_M_outcome_141 : decode b_M_outcome 141 = .ok (.iload 4, 2) := by decide +kernel
theorem d_M_outcome_143 : decode b_M_outcome 143 = .ok (.aload_n 0, 1) := by decide +kernel
theorem d_M_outcome_144 : decode b_M_outcome 144 = .ok (.getfield 13, 3) := by decide +kernel
theorem d_M_outcome_147 : decode b_M_outcome 147 = .ok (.iload_n 2, 1) := by decide +kernel
theorem d_M_outcome_148 : decode b_M_outcome 148 = .ok (.iaload, 1) := by decide +kernel
theorem d_M_outcome_149 : decode b_M_outcome 149 = .ok (.if_icmp .eq 30, 3) := by decide +kernel
theorem d_M_outcome_152 : decode b_M_outcome 152 = .ok (.aload_n 0, 1) := by decide +kernel
theorem d_M_outcome_153 : decode b_M_outcome 153 = .ok (.getfield 7, 3) := by decide +kernel
theorem d_M_outcome_156 : decode b_M_outcome 156 = .ok (.iload_n 2, 1) := by decide +kernel
theorem d_M_outcome_157 : decode b_M_outcome 157 = .ok (.iaload, 1) := by decide +kernel
theorem d_M_outcome_158 : decode b_M_outcome 158 = .ok (.iconst 2, 1) := by decide +kernel
theorem d_M_outcome_159 : decode b_M_outcome 159 = .ok (.if_icmp .eq 24, 3) := by decide +kernel
theorem d_M_outcome_162 : decode b_M_outcome 162 = .ok (.aload_n 0, 1) := by decide +kernel
theorem d_M_outcome_163 : decode b_M_outcome 163 = .ok (.aload_n 0, 1) := by decide +kernel
theorem d_M_outcome_164 : decode b_M_outcome 164 = .ok (.getfield 13, 3) := by decide +kernel
theorem d_M_outcome_167 : decode b_M_outcome 167 = .ok (.iload_n 2, 1) := by decide +kernel
theorem d_M_outcome_168 : decode b_M_outcome 168 = .ok (.iaload, 1) := by decide +kernel
theorem d_M_outcome_169 : decode b_M_outcome 169 = .ok (.iconst 1, 1) := by decide +kernel
theorem d_M_outcome_170 : decode b_M_outcome 170 = .ok (.iload 4, 2) := by decide +kernel
theorem d_M_outcome_172 : decode b_M_outcome 172 = .ok (.invokevirtual 119, 3) := by decide +kernel
theorem d_M_outcome_175 : decode b_M_outcome 175 = .ok (.iconst (-1), 1) := by decide +kernel
theorem d_M_outcome_176 : decode b_M_outcome 176 = .ok (.if_icmp .eq 7, 3) := by decide +kernel
theorem d_M_outcome_179 : decode b_M_outcome 179 = .ok (.iconst 1, 1) := by decide +kernel
theorem d_M_outcome_180 : decode b_M_outcome 180 = .ok (.goto 4, 3) := by decide +kernel
theorem d_M_outcome_183 : decode b_M_outcome 183 = .ok (.iconst 0, 1) := by decide +kernel
theorem d_M_outcome_184 : decode b_M_outcome 184 = .ok (.istore 9, 2) := by decide +kernel
theorem d_M_outcome_186 : decode b_M_outcome 186 = .ok (.iload 9, 2) := by decide +kernel
theorem d_M_outcome_188 : decode b_M_outcome 188 = .ok (.ifCond .eq 8, 3) := by decide +kernel
theorem d_M_outcome_191 : decode b_M_outcome 191 = .ok (.bipush 7, 2) := by decide +kernel
theorem d_M_outcome_193 : decode b_M_outcome 193 = .ok (.goto 5, 3) := by decide +kernel
theorem d_M_outcome_196 : decode b_M_outcome 196 = .ok (.bipush (-21), 2) := by decide +kernel
theorem d_M_outcome_198 : decode b_M_outcome 198 = .ok (.ireturn, 1) := by decide +kernel
theorem d_M_outcome_199 : decode b_M_outcome 199 = .ok (.bipush 8, 2) := by decide +kernel
theorem d_M_outcome_201 : decode b_M_outcome 201 = .ok (.ireturn, 1) := by decide +kernel
theorem d_M_outcome_202 : decode b_M_outcome 202 = .ok (.bipush 9, 2) := by decide +kernel
theorem d_M_outcome_204 : decode b_M_outcome 204 = .ok (.ireturn, 1) := by decide +kernel
theorem d_M_outcome_205 : decode b_M_outcome 205 = .ok (.aload_n 0, 1) := by decide +kernel
theorem d_M_outcome_206 : decode b_M_outcome 206 = .ok (.getfield 7, 3) := by decide +kernel
theorem d_M_outcome_209 : decode b_M_outcome 209 = .ok (.iload_n 2, 1) := by decide +kernel
theorem d_M_outcome_210 : decode b_M_outcome 210 = .ok (.iaload, 1) := by decide +kernel
theorem d_M_outcome_211 : decode b_M_outcome 211 = .ok (.ifCond .ne 23, 3) := by decide +kernel
theorem d_M_outcome_214 : decode b_M_outcome 214 = .ok (.aload_n 0, 1) := by decide +kernel
theorem d_M_outcome_215 : decode b_M_outcome 215 = .ok (.aload_n 0, 1) := by decide +kernel
theorem d_M_outcome_216 : decode b_M_outcome 216 = .ok (.getfield 13, 3) := by decide +kernel
theorem d_M_outcome_219 : decode b_M_outcome 219 = .ok (.iload_n 2, 1) := by decide +kernel
theorem d_M_outcome_220 : decode b_M_outcome 220 = .ok (.iaload, 1) := by decide +kernel
theorem d_M_outcome_221 : decode b_M_outcome 221 = .ok (.iconst 2, 1) := by decide +kernel
theorem d_M_outcome_222 : decode b_M_outcome 222 = .ok (.iconst 0, 1) := by decide +kernel
theorem d_M_outcome_223 : decode b_M_outcome 223 = .ok (.invokevirtual 119, 3) := by decide +kernel
theorem d_M_outcome_226 : decode b_M_outcome 226 = .ok (.iconst (-1), 1) := by decide +kernel
theorem d_M_outcome_227 : decode b_M_outcome 227 = .ok (.if_icmp .eq 7, 3) := by decide +kernel
theorem d_M_outcome_230 : decode b_M_outcome 230 = .ok (.iconst 4, 1) := by decide +kernel
theorem d_M_outcome_231 : decode b_M_outcome 231 = .ok (.goto 5, 3) := by decide +kernel
theorem d_M_outcome_234 : decode b_M_outcome 234 = .ok (.bipush (-21), 2) := by decide +kernel
theorem d_M_outcome_236 : decode b_M_outcome 236 = .ok (.ireturn, 1) := by decide +kernel
theorem d_M_whoTakes_0 : decode b_M_whoTakes 0 = .ok (.aload_n 0, 1) := by decide +kernel
theorem d_M_whoTakes_1 : decode b_M_whoTakes 1 = .ok (.getfield 7, 3) := by decide +kernel
theorem d_M_whoTakes_4 : decode b_M_whoTakes 4 = .ok (.iload_n 1, 1) := by decide +kernel
theorem d_M_whoTakes_5 : decode b_M_whoTakes 5 = .ok (.iaload, 1) := by decide +kernel
theorem d_M_whoTakes_6 : decode b_M_whoTakes 6 = .ok (.istore 4, 2) := by decide +kernel
theorem d_M_whoTakes_8 : decode b_M_whoTakes 8 = .ok (.aload_n 0, 1) := by decide +kernel
theorem d_M_whoTakes_9 : decode b_M_whoTakes 9 = .ok (.getfield 13, 3) := by decide +kernel
theorem d_M_whoTakes_12 : decode b_M_whoTakes 12 = .ok (.iload_n 1, 1) := by decide +kernel
theorem d_M_whoTakes_13 : decode b_M_whoTakes 13 = .ok (.iaload, 1) := by decide +kernel
theorem d_M_whoTakes_14 : decode b_M_whoTakes 14 = .ok (.istore 5, 2) := by decide +kernel
theorem d_M_whoTakes_16 : decode b_M_whoTakes 16 = .ok (.iload_n 2, 1) := by decide +kernel
theorem d_M_whoTakes_17 : decode b_M_whoTakes 17 = .ok (.iload 5, 2) := by decide +kernel
theorem d_M_whoTakes_19 : decode b_M_whoTakes 19 = .ok (.if_icmp .ne 5, 3) := by decide +kernel
theorem d_M_whoTakes_22 : decode b_M_whoTakes 22 = .ok (.iconst 1, 1) := by decide +kernel
theorem d_M_whoTakes_23 : decode b_M_whoTakes 23 = .ok (.ireturn, 1) := by decide +kernel
theorem d_M_whoTakes_24 : decode b_M_whoTakes 24 = .ok (.iload 4, 2) := by decide +kernel
theorem d_M_whoTakes_26 : decode b_M_whoTakes 26 = .ok (.iconst 2, 1) := by decide +kernel
theorem d_M_whoTakes_27 : decode b_M_whoTakes 27 = .ok (.if_icmp .eq 17, 3) := by decide +kernel
theorem d_M_whoTakes_30 : decode b_M_whoTakes 30 = .ok (.aload_n 0, 1) := by decide +kernel
theorem d_M_whoTakes_31 : decode b_M_whoTakes 31 = .ok (.iload 5, 2) := by decide +kernel
theorem d_M_whoTakes_33 : decode b_M_whoTakes 33 = .ok (.iconst 1, 1) := by decide +kernel
theorem d_M_whoTakes_34 : decode b_M_whoTakes 34 = .ok (.iload_n 2, 1) := by decide +kernel
theorem d_M_whoTakes_35 : decode b_M_whoTakes 35 = .ok (.invokevirtual 119, 3) := by decide +kernel
theorem d_M_whoTakes_38 : decode b_M_whoTakes 38 = .ok (.iconst (-1), 1) := by decide +kernel
theorem d_M_whoTakes_39 : decode b_M_whoTakes 39 = .ok (.if_icmp .eq 5, 3) := by decide +kernel
theorem d_M_whoTakes_42 : decode b_M_whoTakes 42 = .ok (.iconst 2, 1) := by decide +kernel
theorem d_M_whoTakes_43 : decode b_M_whoTakes 43 = .ok (.ireturn, 1) := by decide +kernel
theorem d_M_whoTakes_44 : decode b_M_whoTakes 44 = .ok (.iload 4, 2) := by decide +kernel
theorem d_M_whoTakes_46 : decode b_M_whoTakes 46 = .ok (.iconst 2, 1) := by decide +kernel
theorem d_M_whoTakes_47 : decode b_M_whoTakes 47 = .ok (.if_icmp .ge 23, 3) := by decide +kernel
theorem d_M_whoTakes_50 : decode b_M_whoTakes 50 = .ok (.iload_n 3, 1) := by decide +kernel
theorem d_M_whoTakes_51 : decode b_M_whoTakes 51 = .ok (.ifCond .ne 19, 3) := by decide +kernel
theorem d_M_whoTakes_54 : decode b_M_whoTakes 54 = .ok (.aload_n 0, 1) := by decide +kernel
theorem d_M_whoTakes_55 : decode b_M_whoTakes 55 = .ok (.iload 5, 2) := by decide +kernel
theorem d_M_whoTakes_57 : decode b_M_whoTakes 57 = .ok (.iconst 0, 1) := by decide +kernel
theorem d_M_whoTakes_58 : decode b_M_whoTakes 58 = .ok (.iload_n 2, 1) := by decide +kernel
theorem d_M_whoTakes_59 : decode b_M_whoTakes 59 = .ok (.invokevirtual 119, 3) := by decide +kernel
theorem d_M_whoTakes_62 : decode b_M_whoTakes 62 = .ok (.iconst (-1), 1) := by decide +kernel
theorem d_M_whoTakes_63 : decode b_M_whoTakes 63 = .ok (.if_icmp .eq 7, 3) := by decide +kernel
theorem d_M_whoTakes_66 : decode b_M_whoTakes 66 = .ok (.iconst 3, 1) := by decide +kernel
theorem d_M_whoTakes_67 : decode b_M_whoTakes 67 = .ok (.goto 5, 3) := by decide +kernel
theorem d_M_whoTakes_70 : decode b_M_whoTakes 70 = .ok (.bipush (-21), 2) := by decide +kernel
theorem d_M_whoTakes_72 : decode b_M_whoTakes 72 = .ok (.ireturn, 1) := by decide +kernel
theorem d_M_isProven_0 : decode b_M_isProven 0 = .ok (.iload_n 3, 1) := by decide +kernel
theorem d_M_isProven_1 : decode b_M_isProven 1 = .ok (.ifCond .lt 12, 3) := by decide +kernel
theorem d_M_isProven_4 : decode b_M_isProven 4 = .ok (.iload_n 3, 1) := by decide +kernel
theorem d_M_isProven_5 : decode b_M_isProven 5 = .ok (.iconst 4, 1) := by decide +kernel
theorem d_M_isProven_6 : decode b_M_isProven 6 = .ok (.idiv, 1) := by decide +kernel
theorem d_M_isProven_7 : decode b_M_isProven 7 = .ok (.iload_n 2, 1) := by decide +kernel
theorem d_M_isProven_8 : decode b_M_isProven 8 = .ok (.if_icmp .eq 5, 3) := by decide +kernel
theorem d_M_isProven_11 : decode b_M_isProven 11 = .ok (.iconst 0, 1) := by decide +kernel
theorem d_M_isProven_12 : decode b_M_isProven 12 = .ok (.ireturn, 1) := by decide +kernel
theorem d_M_isProven_13 : decode b_M_isProven 13 = .ok (.aload_n 0, 1) := by decide +kernel
theorem d_M_isProven_14 : decode b_M_isProven 14 = .ok (.getfield 7, 3) := by decide +kernel
theorem d_M_isProven_17 : decode b_M_isProven 17 = .ok (.iload_n 1, 1) := by decide +kernel
theorem d_M_isProven_18 : decode b_M_isProven 18 = .ok (.iaload, 1) := by decide +kernel
theorem d_M_isProven_19 : decode b_M_isProven 19 = .ok (.istore 5, 2) := by decide +kernel
theorem d_M_isProven_21 : decode b_M_isProven 21 = .ok (.iload_n 3, 1) := by decide +kernel
theorem d_M_isProven_22 : decode b_M_isProven 22 = .ok (.ifCond .ge 7, 3) := by decide +kernel
theorem d_M_isProven_25 : decode b_M_isProven 25 = .ok (.iconst (-1), 1) := by decide +kernel
theorem d_M_isProven_26 : decode b_M_isProven 26 = .ok (.goto 6, 3) := by decide +kernel
theorem d_M_isProven_29 : decode b_M_isProven 29 = .ok (.iload_n 3, 1) := by decide +kernel
theorem d_M_isProven_30 : decode b_M_isProven 30 = .ok (.iconst 4, 1) := by decide +kernel
theorem d_M_isProven_31 : decode b_M_isProven 31 = .ok (.irem, 1) := by decide +kernel
theorem d_M_isProven_32 : decode b_M_isProven 32 = .ok (.istore 6, 2) := by decide +kernel
theorem d_M_isProven_34 : decode b_M_isProven 34 = .ok (.iload 5, 2) := by decide +kernel
theorem d_M_isProven_36 : decode b_M_isProven 36 = .ok (.iconst 1, 1) := by decide +kernel
theorem d_M_isProven_37 : decode b_M_isProven 37 = .ok (.if_icmp .eq 14, 3) := by decide +kernel
theorem d_M_isProven_40 : decode b_M_isProven 40 = .ok (.iload 5, 2) := by decide +kernel
theorem d_M_isProven_42 : decode b_M_isProven 42 = .ok (.iconst 4, 1) := by decide +kernel
theorem d_M_isProven_43 : decode b_M_isProven 43 = .ok (.if_icmp .eq 8, 3) := by decide +kernel
theorem d_M_isProven_46 : decode b_M_isProven 46 = .ok (.iload 4, 2) := by decide +kernel
theorem d_M_isProven_48 : decode b_M_isProven 48 = .ok (.ifCond .eq 7, 3) := by decide +kernel
theorem d_M_isProven_51 : decode b_M_isProven 51 = .ok (.iconst 1, 1) := by decide +kernel
theorem d_M_isProven_52 : decode b_M_isProven 52 = .ok (.goto 4, 3) := by decide +kernel
theorem d_M_isProven_55 : decode b_M_isProven 55 = .ok (.iconst 0, 1) := by decide +kernel
theorem d_M_isProven_56 : decode b_M_isProven 56 = .ok (.istore 7, 2) := by decide +kernel
theorem d_M_isProven_58 : decode b_M_isProven 58 = .ok (.iload 7, 2) := by decide +kernel
theorem d_M_isProven_60 : decode b_M_isProven 60 = .ok (.ifCond .eq 9, 3) := by decide +kernel
theorem d_M_isProven_63 : decode b_M_isProven 63 = .ok (.iload_n 3, 1) := by decide +kernel
theorem d_M_isProven_64 : decode b_M_isProven 64 = .ok (.ifCond .ge 5, 3) := by decide +kernel
theorem d_M_isProven_67 : decode b_M_isProven 67 = .ok (.iconst 0, 1) := by decide +kernel
theorem d_M_isProven_68 : decode b_M_isProven 68 = .ok (.ireturn, 1) := by decide +kernel
theorem d_M_isProven_69 : decode b_M_isProven 69 = .ok (.iload 5, 2) := by decide +kernel
theorem d_M_isProven_71 : decode b_M_isProven 71 = .ok (.iconst 2, 1) := by decide +kernel
theorem d_M_isProven_72 : decode b_M_isProven 72 = .ok (.if_icmp .ne 21, 3) := by decide +kernel
theorem d_M_isProven_75 : decode b_M_isProven 75 = .ok (.iload 6, 2) := by decide +kernel
theorem d_M_isProven_77 : decode b_M_isProven 77 = .ok (.iconst 1, 1) := by decide +kernel
theorem d_M_isProven_78 : decode b_M_isProven 78 = .ok (.if_icmp .eq 9, 3) := by decide +kernel
theorem d_M_isProven_81 : decode b_M_isProven 81 = .ok (.iload 6, 2) := by decide +kernel
theorem d_M_isProven_83 : decode b_M_isProven 83 = .ok (.iconst 2, 1) := by decide +kernel
theorem d_M_isProven_84 : decode b_M_isProven 84 = .ok (.if_icmp .ne 7, 3) := by decide +kernel
theorem d_M_isProven_87 : decode b_M_isProven 87 = .ok (.iconst 1, 1) := by decide +kernel
theorem d_M_isProven_88 : decode b_M_isProven 88 = .ok (.goto 4, 3) := by decide +kernel
theorem d_M_isProven_91 : decode b_M_isProven 91 = .ok (.iconst 0, 1) := by decide +kernel
theorem d_M_isProven_92 : decode b_M_isProven 92 = .ok (.ireturn, 1) := by decide +kernel
theorem d_M_isProven_93 : decode b_M_isProven 93 = .ok (.iload 5, 2) := by decide +kernel
theorem d_M_isProven_95 : decode b_M_isProven 95 = .ok (.iconst 3, 1) := by decide +kernel
theorem d_M_isProven_96 : decode b_M_isProven 96 = .ok (.if_icmp .ne 9, 3) := by decide +kernel
theorem d_M_isProven_99 : decode b_M_isProven 99 = .ok (.iload 6, 2) := by decide +kernel
theorem d_M_isProven_101 : decode b_M_isProven 101 = .ok (.iconst 2, 1) := by decide +kernel
theorem d_M_isProven_102 : decode b_M_isProven 102 = .ok (.if_icmp .ne 7, 3) := by decide +kernel
theorem d_M_isProven_105 : decode b_M_isProven 105 = .ok (.iconst 1, 1) := by decide +kernel
theorem d_M_isProven_106 : decode b_M_isProven 106 = .ok (.goto 4, 3) := by decide +kernel
theorem d_M_isProven_109 : decode b_M_isProven 109 = .ok (.iconst 0, 1) := by decide +kernel
theorem d_M_isProven_110 : decode b_M_isProven 110 = .ok (.ireturn, 1) := by decide +kernel
theorem d_M_due_0 : decode b_M_due 0 = .ok (.ldc2_w 123, 3) := by decide +kernel
theorem d_M_due_3 : decode b_M_due 3 = .ok (.iconst 1, 1) := by decide +kernel
theorem d_M_due_4 : decode b_M_due 4 = .ok (.iload_n 1, 1) := by decide +kernel
theorem d_M_due_5 : decode b_M_due 5 = .ok (.bipush 7, 2) := by decide +kernel
theorem d_M_due_7 : decode b_M_due 7 = .ok (.irem, 1) := by decide +kernel
theorem d_M_due_8 : decode b_M_due 8 = .ok (.iadd, 1) := by decide +kernel
theorem d_M_due_9 : decode b_M_due 9 = .ok (.i2l, 1) := by decide +kernel
theorem d_M_due_10 : decode b_M_due 10 = .ok (.lmul, 1) := by decide +kernel
theorem d_M_due_11 : decode b_M_due 11 = .ok (.aload_n 0, 1) := by decide +kernel
theorem d_M_due_12 : decode b_M_due 12 = .ok (.getfield 16, 3) := by decide +kernel
theorem d_M_due_15 : decode b_M_due 15 = .ok (.iload_n 1, 1) := by decide +kernel
theorem d_M_due_16 : decode b_M_due 16 = .ok (.laload, 1) := by decide +kernel
theorem d_M_due_17 : decode b_M_due 17 = .ok (.lsub, 1) := by decide +kernel
theorem d_M_due_18 : decode b_M_due 18 = .ok (.lreturn, 1) := by decide +kernel
theorem d_M_make_0 : decode b_M_make 0 = .ok (.bipush 61, 2) := by decide +kernel
theorem d_M_make_2 : decode b_M_make 2 = .ok (.iload_n 1, 1) := by decide +kernel
theorem d_M_make_3 : decode b_M_make 3 = .ok (.imul, 1) := by decide +kernel
theorem d_M_make_4 : decode b_M_make 4 = .ok (.iload_n 2, 1) := by decide +kernel
theorem d_M_make_5 : decode b_M_make 5 = .ok (.iadd, 1) := by decide +kernel
theorem d_M_make_6 : decode b_M_make 6 = .ok (.istore 9, 2) := by decide +kernel
theorem d_M_make_8 : decode b_M_make 8 = .ok (.iload_n 3, 1) := by decide +kernel
theorem d_M_make_9 : decode b_M_make 9 = .ok (.tableswitch 191 0 4 #[35, 54, 115, 127, 138], 35) := by decide +kernel
theorem d_M_make_44 : decode b_M_make 44 = .ok (.aload_n 0, 1) := by decide +kernel
theorem d_M_make_45 : decode b_M_make 45 = .ok (.iload 9, 2) := by decide +kernel
theorem d_M_make_47 : decode b_M_make 47 = .ok (.iconst 2, 1) := by decide +kernel
theorem d_M_make_48 : decode b_M_make 48 = .ok (.iload 4, 2) := by decide +kernel
theorem d_M_make_50 : decode b_M_make 50 = .ok (.iadd, 1) := by decide +kernel
theorem d_M_make_51 : decode b_M_make 51 = .ok (.iload 5, 2) := by decide +kernel
theorem d_M_make_53 : decode b_M_make 53 = .ok (.iload 6, 2) := by decide +kernel
theorem d_M_make_55 : decode b_M_make 55 = .ok (.lload 7, 2) := by decide +kernel
theorem d_M_make_57 : decode b_M_make 57 = .ok (.invokevirtual 137, 3) := by decide +kernel
theorem d_M_make_60 : decode b_M_make 60 = .ok (.goto 153, 3) := by decide +kernel
theorem d_M_make_63 : decode b_M_make 63 = .ok (.aload_n 0, 1) := by decide +kernel
theorem d_M_make_64 : decode b_M_make 64 = .ok (.getfield 30, 3) := by decide +kernel
theorem d_M_make_67 : decode b_M_make 67 = .ok (.iload 9, 2) := by decide +kernel
theorem d_M_make_69 : decode b_M_make 69 = .ok (.dup2, 1) := by decide +kernel
theorem d_M_make_70 : decode b_M_make 70 = .ok (.iaload, 1) := by decide +kernel
theorem d_M_make_71 : decode b_M_make 71 = .ok (.iconst 1, 1) := by decide +kernel
theorem d_M_make_72 : decode b_M_make 72 = .ok (.iadd, 1) := by decide +kernel
theorem d_M_make_73 : decode b_M_make 73 = .ok (.iastore, 1) := by decide +kernel
theorem d_M_make_74 : decode b_M_make 74 = .ok (.aload_n 0, 1) := by decide +kernel
theorem d_M_make_75 : decode b_M_make 75 = .ok (.getfield 33, 3) := by decide +kernel
theorem d_M_make_78 : decode b_M_make 78 = .ok (.iload 9, 2) := by decide +kernel
theorem d_M_make_80 : decode b_M_make 80 = .ok (.dup2, 1) := by decide +kernel
theorem d_M_make_81 : decode b_M_make 81 = .ok (.iaload, 1) := by decide +kernel
theorem d_M_make_82 : decode b_M_make 82 = .ok (.iconst 1, 1) := by decide +kernel
theorem d_M_make_83 : decode b_M_make 83 = .ok (.iadd, 1) := by decide +kernel
theorem d_M_make_84 : decode b_M_make 84 = .ok (.iastore, 1) := by decide +kernel
theorem d_M_make_85 : decode b_M_make 85 = .ok (.aload_n 0, 1) := by decide +kernel
theorem d_M_make_86 : decode b_M_make 86 = .ok (.getfield 30, 3) := by decide +kernel
theorem d_M_make_89 : decode b_M_make 89 = .ok (.iload 9, 2) := by decide +kernel
theorem d_M_make_91 : decode b_M_make 91 = .ok (.iaload, 1) := by decide +kernel
theorem d_M_make_92 : decode b_M_make 92 = .ok (.iconst 2, 1) := by decide +kernel
theorem d_M_make_93 : decode b_M_make 93 = .ok (.if_icmp .ne 19, 3) := by decide +kernel
theorem d_M_make_96 : decode b_M_make 96 = .ok (.aload_n 0, 1) := by decide +kernel
theorem d_M_make_97 : decode b_M_make 97 = .ok (.getfield 39, 3) := by decide +kernel
theorem d_M_make_100 : decode b_M_make 100 = .ok (.iload 9, 2) := by decide +kernel
theorem d_M_make_102 : decode b_M_make 102 = .ok (.lload 7, 2) := by decide +kernel
theorem d_M_make_104 : decode b_M_make 104 = .ok (.ldc2_w 141, 3) := by decide +kernel
theorem d_M_make_107 : decode b_M_make 107 = .ok (.ladd, 1) := by decide +kernel
theorem d_M_make_108 : decode b_M_make 108 = .ok (.lastore, 1) := by decide +kernel
theorem d_M_make_109 : decode b_M_make 109 = .ok (.goto 104, 3) := by decide +kernel
theorem d_M_make_112 : decode b_M_make 112 = .ok (.aload_n 0, 1) := by decide +kernel
theorem d_M_make_113 : decode b_M_make 113 = .ok (.getfield 36, 3) := by decide +kernel
theorem d_M_make_116 : decode b_M_make 116 = .ok (.iload 9, 2) := by decide +kernel
theorem d_M_make_118 : decode b_M_make 118 = .ok (.lload 7, 2) := by decide +kernel
theorem d_M_make_120 : decode b_M_make 120 = .ok (.lastore, 1) := by decide +kernel
theorem d_M_make_121 : decode b_M_make 121 = .ok (.goto 92, 3) := by decide +kernel
theorem d_M_make_124 : decode b_M_make 124 = .ok (.aload_n 0, 1) := by decide +kernel
theorem d_M_make_125 : decode b_M_make 125 = .ok (.getfield 30, 3) := by decide +kernel
theorem d_M_make_128 : decode b_M_make 128 = .ok (.iload 9, 2) := by decide +kernel
theorem d_M_make_130 : decode b_M_make 130 = .ok (.bipush 7, 2) := by decide +kernel
theorem d_M_make_132 : decode b_M_make 132 = .ok (.iastore, 1) := by decide +kernel
theorem d_M_make_133 : decode b_M_make 133 = .ok (.goto 80, 3) := by decide +kernel
theorem d_M_make_136 : decode b_M_make 136 = .ok (.aload_n 0, 1) := by decide +kernel
theorem d_M_make_137 : decode b_M_make 137 = .ok (.getfield 54, 3) := by decide +kernel
theorem d_M_make_140 : decode b_M_make 140 = .ok (.iload 9, 2) := by decide +kernel
theorem d_M_make_142 : decode b_M_make 142 = .ok (.iconst 1, 1) := by decide +kernel
theorem d_M_make_143 : decode b_M_make 143 = .ok (.bastore, 1) := by decide +kernel
theorem d_M_make_144 : decode b_M_make 144 = .ok (.goto 69, 3) := by decide +kernel
theorem d_M_make_147 : decode b_M_make 147 = .ok (.aload_n 0, 1) := by decide +kernel
theorem d_M_make_148 : decode b_M_make 148 = .ok (.getfield 30, 3) := by decide +kernel
theorem d_M_make_151 : decode b_M_make 151 = .ok (.iload 9, 2) := by decide +kernel
theorem d_M_make_153 : decode b_M_make 153 = .ok (.aload_n 0, 1) := by decide +kernel
theorem d_M_make_154 : decode b_M_make 154 = .ok (.getfield 51, 3) := by decide +kernel
theorem d_M_make_157 : decode b_M_make 157 = .ok (.iload 9, 2) := by decide +kernel
theorem d_M_make_159 : decode b_M_make 159 = .ok (.iaload, 1) := by decide +kernel
theorem d_M_make_160 : decode b_M_make 160 = .ok (.iastore, 1) := by decide +kernel
theorem d_M_make_161 : decode b_M_make 161 = .ok (.aload_n 0, 1) := by decide +kernel
theorem d_M_make_162 : decode b_M_make 162 = .ok (.getfield 42, 3) := by decide +kernel
theorem d_M_make_165 : decode b_M_make 165 = .ok (.iload 9, 2) := by decide +kernel
theorem d_M_make_167 : decode b_M_make 167 = .ok (.iconst (-1), 1) := by decide +kernel
theorem d_M_make_168 : decode b_M_make 168 = .ok (.iastore, 1) := by decide +kernel
theorem d_M_make_169 : decode b_M_make 169 = .ok (.aload_n 0, 1) := by decide +kernel
theorem d_M_make_170 : decode b_M_make 170 = .ok (.getfield 45, 3) := by decide +kernel
theorem d_M_make_173 : decode b_M_make 173 = .ok (.iload 9, 2) := by decide +kernel
theorem d_M_make_175 : decode b_M_make 175 = .ok (.iconst (-1), 1) := by decide +kernel
theorem d_M_make_176 : decode b_M_make 176 = .ok (.iastore, 1) := by decide +kernel
theorem d_M_make_177 : decode b_M_make 177 = .ok (.iload_n 1, 1) := by decide +kernel
theorem d_M_make_178 : decode b_M_make 178 = .ok (.bipush 8, 2) := by decide +kernel
theorem d_M_make_180 : decode b_M_make 180 = .ok (.if_icmp .ne 33, 3) := by decide +kernel
theorem d_M_make_183 : decode b_M_make 183 = .ok (.aload_n 0, 1) := by decide +kernel
theorem d_M_make_184 : decode b_M_make 184 = .ok (.getfield 23, 3) := by decide +kernel
theorem d_M_make_187 : decode b_M_make 187 = .ok (.iload_n 2, 1) := by decide +kernel
theorem d_M_make_188 : decode b_M_make 188 = .ok (.iconst 0, 1) := by decide +kernel
theorem d_M_make_189 : decode b_M_make 189 = .ok (.bastore, 1) := by decide +kernel
theorem d_M_make_190 : decode b_M_make 190 = .ok (.aload_n 0, 1) := by decide +kernel
theorem d_M_make_191 : decode b_M_make 191 = .ok (.getfield 27, 3) := by decide +kernel
theorem d_M_make_194 : decode b_M_make 194 = .ok (.iload_n 2, 1) := by decide +kernel
theorem d_M_make_195 : decode b_M_make 195 = .ok (.iconst 0, 1) := by decide +kernel
theorem d_M_make_196 : decode b_M_make 196 = .ok (.bastore, 1) := by decide +kernel
theorem d_M_make_197 : decode b_M_make 197 = .ok (.goto 16, 3) := by decide +kernel
theorem d_M_make_200 : decode b_M_make 200 = .ok (.aload_n 0, 1) := by decide +kernel
theorem d_M_make_201 : decode b_M_make 201 = .ok (.iload 9, 2) := by decide +kernel
theorem d_M_make_203 : decode b_M_make 203 = .ok (.bipush 6, 2) := by decide +kernel
theorem d_M_make_205 : decode b_M_make 205 = .ok (.iload 5, 2) := by decide +kernel
theorem d_M_make_207 : decode b_M_make 207 = .ok (.iconst (-1), 1) := by decide +kernel
theorem d_M_make_208 : decode b_M_make 208 = .ok (.lload 7, 2) := by decide +kernel
theorem d_M_make_210 : decode b_M_make 210 = .ok (.invokevirtual 137, 3) := by decide +kernel
theorem d_M_make_213 : decode b_M_make 213 = .ok (.iload_n 1, 1) := by decide +kernel
theorem d_M_make_214 : decode b_M_make 214 = .ok (.bipush 8, 2) := by decide +kernel
theorem d_M_make_216 : decode b_M_make 216 = .ok (.if_icmp .ne 11, 3) := by decide +kernel
theorem d_M_make_219 : decode b_M_make 219 = .ok (.aload_n 0, 1) := by decide +kernel
theorem d_M_make_220 : decode b_M_make 220 = .ok (.getfield 20, 3) := by decide +kernel
theorem d_M_make_223 : decode b_M_make 223 = .ok (.iload_n 2, 1) := by decide +kernel
theorem d_M_make_224 : decode b_M_make 224 = .ok (.iload 5, 2) := by decide +kernel
theorem d_M_make_226 : decode b_M_make 226 = .ok (.iastore, 1) := by decide +kernel
theorem d_M_make_227 : decode b_M_make 227 = .ok (.return_, 1) := by decide +kernel
theorem d_M_hand_0 : decode b_M_hand 0 = .ok (.aload_n 0, 1) := by decide +kernel
theorem d_M_hand_1 : decode b_M_hand 1 = .ok (.getfield 51, 3) := by decide +kernel
theorem d_M_hand_4 : decode b_M_hand 4 = .ok (.iload_n 1, 1) := by decide +kernel
theorem d_M_hand_5 : decode b_M_hand 5 = .ok (.aload_n 0, 1) := by decide +kernel
theorem d_M_hand_6 : decode b_M_hand 6 = .ok (.getfield 30, 3) := by decide +kernel
theorem d_M_hand_9 : decode b_M_hand 9 = .ok (.iload_n 1, 1) := by decide +kernel
theorem d_M_hand_10 : decode b_M_hand 10 = .ok (.iaload, 1) := by decide +kernel
theorem d_M_hand_11 : decode b_M_hand 11 = .ok (.iastore, 1) := by decide +kernel
theorem d_M_hand_12 : decode b_M_hand 12 = .ok (.aload_n 0, 1) := by decide +kernel
theorem d_M_hand_13 : decode b_M_hand 13 = .ok (.getfield 30, 3) := by decide +kernel
theorem d_M_hand_16 : decode b_M_hand 16 = .ok (.iload_n 1, 1) := by decide +kernel
theorem d_M_hand_17 : decode b_M_hand 17 = .ok (.iload_n 2, 1) := by decide +kernel
theorem d_M_hand_18 : decode b_M_hand 18 = .ok (.iastore, 1) := by decide +kernel
theorem d_M_hand_19 : decode b_M_hand 19 = .ok (.aload_n 0, 1) := by decide +kernel
theorem d_M_hand_20 : decode b_M_hand 20 = .ok (.getfield 42, 3) := by decide +kernel
theorem d_M_hand_23 : decode b_M_hand 23 = .ok (.iload_n 1, 1) := by decide +kernel
theorem d_M_hand_24 : decode b_M_hand 24 = .ok (.iload 4, 2) := by decide +kernel
theorem d_M_hand_26 : decode b_M_hand 26 = .ok (.iastore, 1) := by decide +kernel
theorem d_M_hand_27 : decode b_M_hand 27 = .ok (.aload_n 0, 1) := by decide +kernel
theorem d_M_hand_28 : decode b_M_hand 28 = .ok (.getfield 45, 3) := by decide +kernel
theorem d_M_hand_31 : decode b_M_hand 31 = .ok (.iload_n 1, 1) := by decide +kernel
theorem d_M_hand_32 : decode b_M_hand 32 = .ok (.iload_n 3, 1) := by decide +kernel
theorem d_M_hand_33 : decode b_M_hand 33 = .ok (.iastore, 1) := by decide +kernel
theorem d_M_hand_34 : decode b_M_hand 34 = .ok (.aload_n 0, 1) := by decide +kernel
theorem d_M_hand_35 : decode b_M_hand 35 = .ok (.getfield 48, 3) := by decide +kernel
theorem d_M_hand_38 : decode b_M_hand 38 = .ok (.iload_n 1, 1) := by decide +kernel
theorem d_M_hand_39 : decode b_M_hand 39 = .ok (.lload 5, 2) := by decide +kernel
theorem d_M_hand_41 : decode b_M_hand 41 = .ok (.lastore, 1) := by decide +kernel
theorem d_M_hand_42 : decode b_M_hand 42 = .ok (.return_, 1) := by decide +kernel
theorem d_M_cut_0 : decode b_M_cut 0 = .ok (.iload_n 1, 1) := by decide +kernel
theorem d_M_cut_1 : decode b_M_cut 1 = .ok (.invokestatic 147, 3) := by decide +kernel
theorem d_M_cut_4 : decode b_M_cut 4 = .ok (.ifCond .eq 13, 3) := by decide +kernel
theorem d_M_cut_7 : decode b_M_cut 7 = .ok (.aload_n 0, 1) := by decide +kernel
theorem d_M_cut_8 : decode b_M_cut 8 = .ok (.getfield 66, 3) := by decide +kernel
theorem d_M_cut_11 : decode b_M_cut 11 = .ok (.iload_n 1, 1) := by decide +kernel
theorem d_M_cut_12 : decode b_M_cut 12 = .ok (.baload, 1) := by decide +kernel
theorem d_M_cut_13 : decode b_M_cut 13 = .ok (.iload_n 2, 1) := by decide +kernel
theorem d_M_cut_14 : decode b_M_cut 14 = .ok (.if_icmp .ne 5, 3) := by decide +kernel
theorem d_M_cut_17 : decode b_M_cut 17 = .ok (.iconst 0, 1) := by decide +kernel
theorem d_M_cut_18 : decode b_M_cut 18 = .ok (.ireturn, 1) := by decide +kernel
theorem d_M_cut_19 : decode b_M_cut 19 = .ok (.aload_n 0, 1) := by decide +kernel
theorem d_M_cut_20 : decode b_M_cut 20 = .ok (.getfield 66, 3) := by decide +kernel
theorem d_M_cut_23 : decode b_M_cut 23 = .ok (.iload_n 1, 1) := by decide +kernel
theorem d_M_cut_24 : decode b_M_cut 24 = .ok (.iload_n 2, 1) := by decide +kernel
theorem d_M_cut_25 : decode b_M_cut 25 = .ok (.bastore, 1) := by decide +kernel
theorem d_M_cut_26 : decode b_M_cut 26 = .ok (.aload_n 0, 1) := by decide +kernel
theorem d_M_cut_27 : decode b_M_cut 27 = .ok (.getfield 75, 3) := by decide +kernel
theorem d_M_cut_30 : decode b_M_cut 30 = .ok (.iload_n 1, 1) := by decide +kernel
theorem d_M_cut_31 : decode b_M_cut 31 = .ok (.iconst 0, 1) := by decide +kernel
theorem d_M_cut_32 : decode b_M_cut 32 = .ok (.iastore, 1) := by decide +kernel
theorem d_M_cut_33 : decode b_M_cut 33 = .ok (.aload_n 0, 1) := by decide +kernel
theorem d_M_cut_34 : decode b_M_cut 34 = .ok (.getfield 69, 3) := by decide +kernel
theorem d_M_cut_37 : decode b_M_cut 37 = .ok (.iload_n 1, 1) := by decide +kernel
theorem d_M_cut_38 : decode b_M_cut 38 = .ok (.aload_n 0, 1) := by decide +kernel
theorem d_M_cut_39 : decode b_M_cut 39 = .ok (.getfield 102, 3) := by decide +kernel
theorem d_M_cut_42 : decode b_M_cut 42 = .ok (.iastore, 1) := by decide +kernel
theorem d_M_cut_43 : decode b_M_cut 43 = .ok (.iconst 0, 1) := by decide +kernel
theorem d_M_cut_44 : decode b_M_cut 44 = .ok (.istore_n 3, 1) := by decide +kernel
theorem d_M_cut_45 : decode b_M_cut 45 = .ok (.iload_n 3, 1) := by decide +kernel
theorem d_M_cut_46 : decode b_M_cut 46 = .ok (.bipush 61, 2) := by decide +kernel
theorem d_M_cut_48 : decode b_M_cut 48 = .ok (.if_icmp .ge 154, 3) := by decide +kernel
theorem d_M_cut_51 : decode b_M_cut 51 = .ok (.iload_n 2, 1) := by decide +kernel
theorem d_M_cut_52 : decode b_M_cut 52 = .ok (.ifCond .eq 150, 3) := by decide +kernel
theorem d_M_cut_55 : decode b_M_cut 55 = .ok (.bipush 61, 2) := by decide +kernel
theorem d_M_cut_57 : decode b_M_cut 57 = .ok (.iload_n 1, 1) := by decide +kernel
theorem d_M_cut_58 : decode b_M_cut 58 = .ok (.imul, 1) := by decide +kernel
theorem d_M_cut_59 : decode b_M_cut 59 = .ok (.iload_n 3, 1) := by decide +kernel
theorem d_M_cut_60 : decode b_M_cut 60 = .ok (.iadd, 1) := by decide +kernel
theorem d_M_cut_61 : decode b_M_cut 61 = .ok (.istore 4, 2) := by decide +kernel
theorem d_M_cut_63 : decode b_M_cut 63 = .ok (.sipush 488, 3) := by decide +kernel
theorem d_M_cut_66 : decode b_M_cut 66 = .ok (.iload_n 3, 1) := by decide +kernel
theorem d_M_cut_67 : decode b_M_cut 67 = .ok (.iadd, 1) := by decide +kernel
theorem d_M_cut_68 : decode b_M_cut 68 = .ok (.istore 5, 2) := by decide +kernel
theorem d_M_cut_70 : decode b_M_cut 70 = .ok (.aload_n 0, 1) := by decide +kernel
theorem d_M_cut_71 : decode b_M_cut 71 = .ok (.getfield 30, 3) := by decide +kernel
theorem d_M_cut_74 : decode b_M_cut 74 = .ok (.iload 4, 2) := by decide +kernel
theorem d_M_cut_76 : decode b_M_cut 76 = .ok (.aload_n 0, 1) := by decide +kernel
theorem d_M_cut_77 : decode b_M_cut 77 = .ok (.getfield 30, 3) := by decide +kernel
theorem d_M_cut_80 : decode b_M_cut 80 = .ok (.iload 5, 2) := by decide +kernel
theorem d_M_cut_82 : decode b_M_cut 82 = .ok (.iaload, 1) := by decide +kernel
theorem d_M_cut_83 : decode b_M_cut 83 = .ok (.iastore, 1) := by decide +kernel
theorem d_M_cut_84 : decode b_M_cut 84 = .ok (.aload_n 0, 1) := by decide +kernel
theorem d_M_cut_85 : decode b_M_cut 85 = .ok (.getfield 33, 3) := by decide +kernel
theorem d_M_cut_88 : decode b_M_cut 88 = .ok (.iload 4, 2) := by decide +kernel
theorem d_M_cut_90 : decode b_M_cut 90 = .ok (.aload_n 0, 1) := by decide +kernel
theorem d_M_cut_91 : decode b_M_cut 91 = .ok (.getfield 33, 3) := by decide +kernel
theorem d_M_cut_94 : decode b_M_cut 94 = .ok (.iload 5, 2) := by decide +kernel
theorem d_M_cut_96 : decode b_M_cut 96 = .ok (.iaload, 1) := by decide +kernel
theorem d_M_cut_97 : decode b_M_cut 97 = .ok (.iastore, 1) := by decide +kernel
theorem d_M_cut_98 : decode b_M_cut 98 = .ok (.aload_n 0, 1) := by decide +kernel
theorem d_M_cut_99 : decode b_M_cut 99 = .ok (.getfield 36, 3) := by decide +kernel
theorem d_M_cut_102 : decode b_M_cut 102 = .ok (.iload 4, 2) := by decide +kernel
theorem d_M_cut_104 : decode b_M_cut 104 = .ok (.aload_n 0, 1) := by decide +kernel
theorem d_M_cut_105 : decode b_M_cut 105 = .ok (.getfield 36, 3) := by decide +kernel
theorem d_M_cut_108 : decode b_M_cut 108 = .ok (.iload 5, 2) := by decide +kernel
theorem d_M_cut_110 : decode b_M_cut 110 = .ok (.laload, 1) := by decide +kernel
theorem d_M_cut_111 : decode b_M_cut 111 = .ok (.lastore, 1) := by decide +kernel
theorem d_M_cut_112 : decode b_M_cut 112 = .ok (.aload_n 0, 1) := by decide +kernel
theorem d_M_cut_113 : decode b_M_cut 113 = .ok (.getfield 39, 3) := by decide +kernel
theorem d_M_cut_116 : decode b_M_cut 116 = .ok (.iload 4, 2) := by decide +kernel
theorem d_M_cut_118 : decode b_M_cut 118 = .ok (.aload_n 0, 1) := by decide +kernel
theorem d_M_cut_119 : decode b_M_cut 119 = .ok (.getfield 39, 3) := by decide +kernel
theorem d_M_cut_122 : decode b_M_cut 122 = .ok (.iload 5, 2) := by decide +kernel
theorem d_M_cut_124 : decode b_M_cut 124 = .ok (.laload, 1) := by decide +kernel
theorem d_M_cut_125 : decode b_M_cut 125 = .ok (.lastore, 1) := by decide +kernel
theorem d_M_cut_126 : decode b_M_cut 126 = .ok (.aload_n 0, 1) := by decide +kernel
theorem d_M_cut_127 : decode b_M_cut 127 = .ok (.getfield 42, 3) := by decide +kernel
theorem d_M_cut_130 : decode b_M_cut 130 = .ok (.iload 4, 2) := by decide +kernel
theorem d_M_cut_132 : decode b_M_cut 132 = .ok (.aload_n 0, 1) := by decide +kernel
theorem d_M_cut_133 : decode b_M_cut 133 = .ok (.getfield 42, 3) := by decide +kernel
theorem d_M_cut_136 : decode b_M_cut 136 = .ok (.iload 5, 2) := by decide +kernel
theorem d_M_cut_138 : decode b_M_cut 138 = .ok (.iaload, 1) := by decide +kernel
theorem d_M_cut_139 : decode b_M_cut 139 = .ok (.iastore, 1) := by decide +kernel
theorem d_M_cut_140 : decode b_M_cut 140 = .ok (.aload_n 0, 1) := by decide +kernel
theorem d_M_cut_141 : decode b_M_cut 141 = .ok (.getfield 45, 3) := by decide +kernel
theorem d_M_cut_144 : decode b_M_cut 144 = .ok (.iload 4, 2) := by decide +kernel
theorem d_M_cut_146 : decode b_M_cut 146 = .ok (.aload_n 0, 1) := by decide +kernel
theorem d_M_cut_147 : decode b_M_cut 147 = .ok (.getfield 45, 3) := by decide +kernel
theorem d_M_cut_150 : decode b_M_cut 150 = .ok (.iload 5, 2) := by decide +kernel
theorem d_M_cut_152 : decode b_M_cut 152 = .ok (.iaload, 1) := by decide +kernel
theorem d_M_cut_153 : decode b_M_cut 153 = .ok (.iastore, 1) := by decide +kernel
theorem d_M_cut_154 : decode b_M_cut 154 = .ok (.aload_n 0, 1) := by decide +kernel
theorem d_M_cut_155 : decode b_M_cut 155 = .ok (.getfield 48, 3) := by decide +kernel
theorem d_M_cut_158 : decode b_M_cut 158 = .ok (.iload 4, 2) := by decide +kernel
theorem d_M_cut_160 : decode b_M_cut 160 = .ok (.aload_n 0, 1) := by decide +kernel
theorem d_M_cut_161 : decode b_M_cut 161 = .ok (.getfield 48, 3) := by decide +kernel
theorem d_M_cut_164 : decode b_M_cut 164 = .ok (.iload 5, 2) := by decide +kernel
theorem d_M_cut_166 : decode b_M_cut 166 = .ok (.laload, 1) := by decide +kernel
theorem d_M_cut_167 : decode b_M_cut 167 = .ok (.lastore, 1) := by decide +kernel
theorem d_M_cut_168 : decode b_M_cut 168 = .ok (.aload_n 0, 1) := by decide +kernel
theorem d_M_cut_169 : decode b_M_cut 169 = .ok (.getfield 51, 3) := by decide +kernel
theorem d_M_cut_172 : decode b_M_cut 172 = .ok (.iload 4, 2) := by decide +kernel
theorem d_M_cut_174 : decode b_M_cut 174 = .ok (.aload_n 0, 1) := by decide +kernel
theorem d_M_cut_175 : decode b_M_cut 175 = .ok (.getfield 51, 3) := by decide +kernel
theorem d_M_cut_178 : decode b_M_cut 178 = .ok (.iload 5, 2) := by decide +kernel
theorem d_M_cut_180 : decode b_M_cut 180 = .ok (.iaload, 1) := by decide +kernel
theorem d_M_cut_181 : decode b_M_cut 181 = .ok (.iastore, 1) := by decide +kernel
theorem d_M_cut_182 : decode b_M_cut 182 = .ok (.aload_n 0, 1) := by decide +kernel
theorem d_M_cut_183 : decode b_M_cut 183 = .ok (.getfield 54, 3) := by decide +kernel
theorem d_M_cut_186 : decode b_M_cut 186 = .ok (.iload 4, 2) := by decide +kernel
theorem d_M_cut_188 : decode b_M_cut 188 = .ok (.aload_n 0, 1) := by decide +kernel
theorem d_M_cut_189 : decode b_M_cut 189 = .ok (.getfield 54, 3) := by decide +kernel
theorem d_M_cut_192 : decode b_M_cut 192 = .ok (.iload 5, 2) := by decide +kernel
theorem d_M_cut_194 : decode b_M_cut 194 = .ok (.baload, 1) := by decide +kernel
theorem d_M_cut_195 : decode b_M_cut 195 = .ok (.bastore, 1) := by decide +kernel
theorem d_M_cut_196 : decode b_M_cut 196 = .ok (.iinc 3 1, 3) := by decide +kernel
theorem d_M_cut_199 : decode b_M_cut 199 = .ok (.goto (-154), 3) := by decide +kernel
theorem d_M_cut_202 : decode b_M_cut 202 = .ok (.iconst 1, 1) := by decide +kernel
theorem d_M_cut_203 : decode b_M_cut 203 = .ok (.ireturn, 1) := by decide +kernel
theorem d_M_join_0 : decode b_M_join 0 = .ok (.iload_n 1, 1) := by decide +kernel
theorem d_M_join_1 : decode b_M_join 1 = .ok (.invokestatic 147, 3) := by decide +kernel
theorem d_M_join_4 : decode b_M_join 4 = .ok (.ifCond .ne 6, 3) := by decide +kernel
theorem d_M_join_7 : decode b_M_join 7 = .ok (.bipush (-12), 2) := by decide +kernel
theorem d_M_join_9 : decode b_M_join 9 = .ok (.ireturn, 1) := by decide +kernel
theorem d_M_join_10 : decode b_M_join 10 = .ok (.aload_n 0, 1) := by decide +kernel
theorem d_M_join_11 : decode b_M_join 11 = .ok (.getfield 66, 3) := by decide +kernel
theorem d_M_join_14 : decode b_M_join 14 = .ok (.iload_n 1, 1) := by decide +kernel
theorem d_M_join_15 : decode b_M_join 15 = .ok (.baload, 1) := by decide +kernel
theorem d_M_join_16 : decode b_M_join 16 = .ok (.ifCond .ne 6, 3) := by decide +kernel
theorem d_M_join_19 : decode b_M_join 19 = .ok (.bipush (-13), 2) := by decide +kernel
theorem d_M_join_21 : decode b_M_join 21 = .ok (.ireturn, 1) := by decide +kernel
theorem d_M_join_22 : decode b_M_join 22 = .ok (.aload_n 0, 1) := by decide +kernel
theorem d_M_join_23 : decode b_M_join 23 = .ok (.getfield 170, 3) := by decide +kernel
theorem d_M_join_26 : decode b_M_join 26 = .ok (.istore_n 2, 1) := by decide +kernel
theorem d_M_join_27 : decode b_M_join 27 = .ok (.iconst 0, 1) := by decide +kernel
theorem d_M_join_28 : decode b_M_join 28 = .ok (.istore_n 3, 1) := by decide +kernel
theorem d_M_join_29 : decode b_M_join 29 = .ok (.iload_n 3, 1) := by decide +kernel
theorem d_M_join_30 : decode b_M_join 30 = .ok (.aload_n 0, 1) := by decide +kernel
theorem d_M_join_31 : decode b_M_join 31 = .ok (.getfield 75, 3) := by decide +kernel
theorem d_M_join_34 : decode b_M_join 34 = .ok (.iload_n 1, 1) := by decide +kernel
theorem d_M_join_35 : decode b_M_join 35 = .ok (.iaload, 1) := by decide +kernel
theorem d_M_join_36 : decode b_M_join 36 = .ok (.if_icmp .ge 139, 3) := by decide +kernel
theorem d_M_join_39 : decode b_M_join 39 = .ok (.bipush 30, 2) := by decide +kernel
theorem d_M_join_41 : decode b_M_join 41 = .ok (.iload_n 1, 1) := by decide +kernel
theorem d_M_join_42 : decode b_M_join 42 = .ok (.imul, 1) := by decide +kernel
theorem d_M_join_43 : decode b_M_join 43 = .ok (.iload_n 3, 1) := by decide +kernel
theorem d_M_join_44 : decode b_M_join 44 = .ok (.iadd, 1) := by decide +kernel
theorem d_M_join_45 : decode b_M_join 45 = .ok (.istore 4, 2) := by decide +kernel
theorem d_M_join_47 : decode b_M_join 47 = .ok (.aload_n 0, 1) := by decide +kernel
theorem d_M_join_48 : decode b_M_join 48 = .ok (.getfield 78, 3) := by decide +kernel
theorem d_M_join_51 : decode b_M_join 51 = .ok (.iload 4, 2) := by decide +kernel
theorem d_M_join_53 : decode b_M_join 53 = .ok (.iaload, 1) := by decide +kernel
theorem d_M_join_54 : decode b_M_join 54 = .ok (.istore 5, 2) := by decide +kernel
theorem d_M_join_56 : decode b_M_join 56 = .ok (.aload_n 0, 1) := by decide +kernel
theorem d_M_join_57 : decode b_M_join 57 = .ok (.bipush 8, 2) := by decide +kernel
theorem d_M_join_59 : decode b_M_join 59 = .ok (.iload 5, 2) := by decide +kernel
theorem d_M_join_61 : decode b_M_join 61 = .ok (.aload_n 0, 1) := by decide +kernel
theorem d_M_join_62 : decode b_M_join 62 = .ok (.getfield 81, 3) := by decide +kernel
theorem d_M_join_65 : decode b_M_join 65 = .ok (.iload 4, 2) := by decide +kernel
theorem d_M_join_67 : decode b_M_join 67 = .ok (.iaload, 1) := by decide +kernel
theorem d_M_join_68 : decode b_M_join 68 = .ok (.iload_n 1, 1) := by decide +kernel
theorem d_M_join_69 : decode b_M_join 69 = .ok (.aload_n 0, 1) := by decide +kernel
theorem d_M_join_70 : decode b_M_join 70 = .ok (.getfield 90, 3) := by decide +kernel
theorem d_M_join_73 : decode b_M_join 73 = .ok (.iload 4, 2) := by decide +kernel
theorem d_M_join_75 : decode b_M_join 75 = .ok (.laload, 1) := by decide +kernel
theorem d_M_join_76 : decode b_M_join 76 = .ok (.invokevirtual 158, 3) := by decide +kernel
theorem d_M_join_79 : decode b_M_join 79 = .ok (.ifCond .eq 43, 3) := by decide +kernel
theorem d_M_join_82 : decode b_M_join 82 = .ok (.aload_n 0, 1) := by decide +kernel
theorem d_M_join_83 : decode b_M_join 83 = .ok (.bipush 8, 2) := by decide +kernel
theorem d_M_join_85 : decode b_M_join 85 = .ok (.iload 5, 2) := by decide +kernel
theorem d_M_join_87 : decode b_M_join 87 = .ok (.aload_n 0, 1) := by decide +kernel
theorem d_M_join_88 : decode b_M_join 88 = .ok (.getfield 81, 3) := by decide +kernel
theorem d_M_join_91 : decode b_M_join 91 = .ok (.iload 4, 2) := by decide +kernel
theorem d_M_join_93 : decode b_M_join 93 = .ok (.iaload, 1) := by decide +kernel
theorem d_M_join_94 : decode b_M_join 94 = .ok (.aload_n 0, 1) := by decide +kernel
theorem d_M_join_95 : decode b_M_join 95 = .ok (.getfield 84, 3) := by decide +kernel
theorem d_M_join_98 : decode b_M_join 98 = .ok (.iload 4, 2) := by decide +kernel
theorem d_M_join_100 : decode b_M_join 100 = .ok (.iaload, 1) := by decide +kernel
theorem d_M_join_101 : decode b_M_join 101 = .ok (.iload_n 1, 1) := by decide +kernel
theorem d_M_join_102 : decode b_M_join 102 = .ok (.aload_n 0, 1) := by decide +kernel
theorem d_M_join_103 : decode b_M_join 103 = .ok (.getfield 87, 3) := by decide +kernel
theorem d_M_join_106 : decode b_M_join 106 = .ok (.iload 4, 2) := by decide +kernel
theorem d_M_join_108 : decode b_M_join 108 = .ok (.iaload, 1) := by decide +kernel
theorem d_M_join_109 : decode b_M_join 109 = .ok (.aload_n 0, 1) := by decide +kernel
theorem d_M_join_110 : decode b_M_join 110 = .ok (.getfield 90, 3) := by decide +kernel
theorem d_M_join_113 : decode b_M_join 113 = .ok (.iload 4, 2) := by decide +kernel
theorem d_M_join_115 : decode b_M_join 115 = .ok (.laload, 1) := by decide +kernel
theorem d_M_join_116 : decode b_M_join 116 = .ok (.invokevirtual 166, 3) := by decide +kernel
theorem d_M_join_119 : decode b_M_join 119 = .ok (.goto 50, 3) := by decide +kernel
theorem d_M_join_122 : decode b_M_join 122 = .ok (.aload_n 0, 1) := by decide +kernel
theorem d_M_join_123 : decode b_M_join 123 = .ok (.getfield 93, 3) := by decide +kernel
theorem d_M_join_126 : decode b_M_join 126 = .ok (.aload_n 0, 1) := by decide +kernel
theorem d_M_join_127 : decode b_M_join 127 = .ok (.getfield 170, 3) := by decide +kernel
theorem d_M_join_130 : decode b_M_join 130 = .ok (.iload 5, 2) := by decide +kernel
theorem d_M_join_132 : decode b_M_join 132 = .ok (.iastore, 1) := by decide +kernel
theorem d_M_join_133 : decode b_M_join 133 = .ok (.aload_n 0, 1) := by decide +kernel
theorem d_M_join_134 : decode b_M_join 134 = .ok (.getfield 96, 3) := by decide +kernel
theorem d_M_join_137 : decode b_M_join 137 = .ok (.aload_n 0, 1) := by decide +kernel
theorem d_M_join_138 : decode b_M_join 138 = .ok (.getfield 170, 3) := by decide +kernel
theorem d_M_join_141 : decode b_M_join 141 = .ok (.aload_n 0, 1) := by decide +kernel
theorem d_M_join_142 : decode b_M_join 142 = .ok (.getfield 20, 3) := by decide +kernel
theorem d_M_join_145 : decode b_M_join 145 = .ok (.iload 5, 2) := by decide +kernel
theorem d_M_join_147 : decode b_M_join 147 = .ok (.iaload, 1) := by decide +kernel
theorem d_M_join_148 : decode b_M_join 148 = .ok (.iastore, 1) := by decide +kernel
theorem d_M_join_149 : decode b_M_join 149 = .ok (.aload_n 0, 1) := by decide +kernel
theorem d_M_join_150 : decode b_M_join 150 = .ok (.getfield 99, 3) := by decide +kernel
theorem d_M_join_153 : decode b_M_join 153 = .ok (.aload_n 0, 1) := by decide +kernel
theorem d_M_join_154 : decode b_M_join 154 = .ok (.getfield 170, 3) := by decide +kernel
theorem d_M_join_157 : decode b_M_join 157 = .ok (.iload_n 1, 1) := by decide +kernel
theorem d_M_join_158 : decode b_M_join 158 = .ok (.iastore, 1) := by decide +kernel
theorem d_M_join_159 : decode b_M_join 159 = .ok (.aload_n 0, 1) := by decide +kernel
theorem d_M_join_160 : decode b_M_join 160 = .ok (.dup, 1) := by decide +kernel
theorem d_M_join_161 : decode b_M_join 161 = .ok (.getfield 170, 3) := by decide +kernel
theorem d_M_join_164 : decode b_M_join 164 = .ok (.iconst 1, 1) := by decide +kernel
theorem d_M_join_165 : decode b_M_join 165 = .ok (.iadd, 1) := by decide +kernel
theorem d_M_join_166 : decode b_M_join 166 = .ok (.putfield 170, 3) := by decide +kernel
theorem d_M_join_169 : decode b_M_join 169 = .ok (.iinc 3 1, 3) := by decide +kernel
theorem d_M_join_172 : decode b_M_join 172 = .ok (.goto (-143), 3) := by decide +kernel
theorem d_M_join_175 : decode b_M_join 175 = .ok (.aload_n 0, 1) := by decide +kernel
theorem d_M_join_176 : decode b_M_join 176 = .ok (.getfield 75, 3) := by decide +kernel
theorem d_M_join_179 : decode b_M_join 179 = .ok (.iload_n 1, 1) := by decide +kernel
theorem d_M_join_180 : decode b_M_join 180 = .ok (.iaload, 1) := by decide +kernel
theorem d_M_join_181 : decode b_M_join 181 = .ok (.istore_n 3, 1) := by decide +kernel
theorem d_M_join_182 : decode b_M_join 182 = .ok (.aload_n 0, 1) := by decide +kernel
theorem d_M_join_183 : decode b_M_join 183 = .ok (.getfield 75, 3) := by decide +kernel
theorem d_M_join_186 : decode b_M_join 186 = .ok (.iload_n 1, 1) := by decide +kernel
theorem d_M_join_187 : decode b_M_join 187 = .ok (.iconst 0, 1) := by decide +kernel
theorem d_M_join_188 : decode b_M_join 188 = .ok (.iastore, 1) := by decide +kernel
theorem d_M_join_189 : decode b_M_join 189 = .ok (.aload_n 0, 1) := by decide +kernel
theorem d_M_join_190 : decode b_M_join 190 = .ok (.getfield 66, 3) := by decide +kernel
theorem d_M_join_193 : decode b_M_join 193 = .ok (.iload_n 1, 1) := by decide +kernel
theorem d_M_join_194 : decode b_M_join 194 = .ok (.iconst 0, 1) := by decide +kernel
theorem d_M_join_195 : decode b_M_join 195 = .ok (.bastore, 1) := by decide +kernel
theorem d_M_join_196 : decode b_M_join 196 = .ok (.aload_n 0, 1) := by decide +kernel
theorem d_M_join_197 : decode b_M_join 197 = .ok (.getfield 170, 3) := by decide +kernel
theorem d_M_join_200 : decode b_M_join 200 = .ok (.iload_n 2, 1) := by decide +kernel
theorem d_M_join_201 : decode b_M_join 201 = .ok (.if_icmp .ne 7, 3) := by decide +kernel
theorem d_M_join_204 : decode b_M_join 204 = .ok (.iload_n 3, 1) := by decide +kernel
theorem d_M_join_205 : decode b_M_join 205 = .ok (.goto 6, 3) := by decide +kernel
theorem d_M_join_208 : decode b_M_join 208 = .ok (.iconst (-1), 1) := by decide +kernel
theorem d_M_join_209 : decode b_M_join 209 = .ok (.iload_n 2, 1) := by decide +kernel
theorem d_M_join_210 : decode b_M_join 210 = .ok (.isub, 1) := by decide +kernel
theorem d_M_join_211 : decode b_M_join 211 = .ok (.ireturn, 1) := by decide +kernel
theorem d_M_clash_0 : decode b_M_clash 0 = .ok (.iload_n 2, 1) := by decide +kernel
theorem d_M_clash_1 : decode b_M_clash 1 = .ok (.i2l, 1) := by decide +kernel
theorem d_M_clash_2 : decode b_M_clash 2 = .ok (.lconst 0, 1) := by decide +kernel
theorem d_M_clash_3 : decode b_M_clash 3 = .ok (.ldc2_w 117, 3) := by decide +kernel
theorem d_M_clash_6 : decode b_M_clash 6 = .ok (.invokestatic 108, 3) := by decide +kernel
theorem d_M_clash_9 : decode b_M_clash 9 = .ok (.ifCond .ne 6, 3) := by decide +kernel
theorem d_M_clash_12 : decode b_M_clash 12 = .ok (.bipush (-12), 2) := by decide +kernel
theorem d_M_clash_14 : decode b_M_clash 14 = .ok (.ireturn, 1) := by decide +kernel
theorem d_M_clash_15 : decode b_M_clash 15 = .ok (.iload_n 1, 1) := by decide +kernel
theorem d_M_clash_16 : decode b_M_clash 16 = .ok (.ifCond .lt 11, 3) := by decide +kernel
theorem d_M_clash_19 : decode b_M_clash 19 = .ok (.iload_n 1, 1) := by decide +kernel
theorem d_M_clash_20 : decode b_M_clash 20 = .ok (.aload_n 0, 1) := by decide +kernel
theorem d_M_clash_21 : decode b_M_clash 21 = .ok (.getfield 170, 3) := by decide +kernel
theorem d_M_clash_24 : decode b_M_clash 24 = .ok (.if_icmp .lt 5, 3) := by decide +kernel
theorem d_M_clash_27 : decode b_M_clash 27 = .ok (.iconst (-1), 1) := by decide +kernel
theorem d_M_clash_28 : decode b_M_clash 28 = .ok (.ireturn, 1) := by decide +kernel
theorem d_M_clash_29 : decode b_M_clash 29 = .ok (.iload_n 2, 1) := by decide +kernel
theorem d_M_clash_30 : decode b_M_clash 30 = .ok (.ifCond .ne 12, 3) := by decide +kernel
theorem d_M_clash_33 : decode b_M_clash 33 = .ok (.aload_n 0, 1) := by decide +kernel
theorem d_M_clash_34 : decode b_M_clash 34 = .ok (.getfield 93, 3) := by decide +kernel
theorem d_M_clash_37 : decode b_M_clash 37 = .ok (.iload_n 1, 1) := by decide +kernel
theorem d_M_clash_38 : decode b_M_clash 38 = .ok (.iaload, 1) := by decide +kernel
theorem d_M_clash_39 : decode b_M_clash 39 = .ok (.goto 23, 3) := by decide +kernel
theorem d_M_clash_42 : decode b_M_clash 42 = .ok (.iload_n 2, 1) := by decide +kernel
theorem d_M_clash_43 : decode b_M_clash 43 = .ok (.iconst 1, 1) := by decide +kernel
theorem d_M_clash_44 : decode b_M_clash 44 = .ok (.if_icmp .ne 12, 3) := by decide +kernel
theorem d_M_clash_47 : decode b_M_clash 47 = .ok (.aload_n 0, 1) := by decide +kernel
theorem d_M_clash_48 : decode b_M_clash 48 = .ok (.getfield 96, 3) := by decide +kernel
theorem d_M_clash_51 : decode b_M_clash 51 = .ok (.iload_n 1, 1) := by decide +kernel
theorem d_M_clash_52 : decode b_M_clash 52 = .ok (.iaload, 1) := by decide +kernel
theorem d_M_clash_53 : decode b_M_clash 53 = .ok (.goto 9, 3) := by decide +kernel
theorem d_M_clash_56 : decode b_M_clash 56 = .ok (.aload_n 0, 1) := by decide +kernel
theorem d_M_clash_57 : decode b_M_clash 57 = .ok (.getfield 99, 3) := by decide +kernel
theorem d_M_clash_60 : decode b_M_clash 60 = .ok (.iload_n 1, 1) := by decide +kernel
theorem d_M_clash_61 : decode b_M_clash 61 = .ok (.iaload, 1) := by decide +kernel
theorem d_M_clash_62 : decode b_M_clash 62 = .ok (.ireturn, 1) := by decide +kernel
theorem d_M_tries_0 : decode b_M_tries 0 = .ok (.aload_n 0, 1) := by decide +kernel
theorem d_M_tries_1 : decode b_M_tries 1 = .ok (.iload_n 1, 1) := by decide +kernel
theorem d_M_tries_2 : decode b_M_tries 2 = .ok (.invokevirtual 143, 3) := by decide +kernel
theorem d_M_tries_5 : decode b_M_tries 5 = .ok (.ifCond .eq 16, 3) := by decide +kernel
theorem d_M_tries_8 : decode b_M_tries 8 = .ok (.aload_n 0, 1) := by decide +kernel
theorem d_M_tries_9 : decode b_M_tries 9 = .ok (.getfield 33, 3) := by decide +kernel
theorem d_M_tries_12 : decode b_M_tries 12 = .ok (.sipush 488, 3) := by decide +kernel
theorem d_M_tries_15 : decode b_M_tries 15 = .ok (.iload_n 1, 1) := by decide +kernel
theorem d_M_tries_16 : decode b_M_tries 16 = .ok (.iadd, 1) := by decide +kernel
theorem d_M_tries_17 : decode b_M_tries 17 = .ok (.iaload, 1) := by decide +kernel
theorem d_M_tries_18 : decode b_M_tries 18 = .ok (.goto 5, 3) := by decide +kernel
theorem d_M_tries_21 : decode b_M_tries 21 = .ok (.bipush (-11), 2) := by decide +kernel
theorem d_M_tries_23 : decode b_M_tries 23 = .ok (.ireturn, 1) := by decide +kernel
theorem d_M_tick_0 : decode b_M_tick 0 = .ok (.lload_n 1, 1) := by decide +kernel
theorem d_M_tick_1 : decode b_M_tick 1 = .ok (.aload_n 0, 1) := by decide +kernel
theorem d_M_tick_2 : decode b_M_tick 2 = .ok (.getfield 173, 3) := by decide +kernel
theorem d_M_tick_5 : decode b_M_tick 5 = .ok (.ldc2_w 177, 3) := by decide +kernel
theorem d_M_tick_8 : decode b_M_tick 8 = .ok (.invokestatic 108, 3) := by decide +kernel
theorem d_M_tick_11 : decode b_M_tick 11 = .ok (.ifCond .ne 6, 3) := by decide +kernel
theorem d_M_tick_14 : decode b_M_tick 14 = .ok (.bipush (-12), 2) := by decide +kernel
theorem d_M_tick_16 : decode b_M_tick 16 = .ok (.ireturn, 1) := by decide +kernel
theorem d_M_tick_17 : decode b_M_tick 17 = .ok (.aload_n 0, 1) := by decide +kernel
theorem d_M_tick_18 : decode b_M_tick 18 = .ok (.lload_n 1, 1) := by decide +kernel
theorem d_M_tick_19 : decode b_M_tick 19 = .ok (.putfield 173, 3) := by decide +kernel
theorem d_M_tick_22 : decode b_M_tick 22 = .ok (.iconst 0, 1) := by decide +kernel
theorem d_M_tick_23 : decode b_M_tick 23 = .ok (.istore_n 3, 1) := by decide +kernel
theorem d_M_tick_24 : decode b_M_tick 24 = .ok (.iconst 1, 1) := by decide +kernel
theorem d_M_tick_25 : decode b_M_tick 25 = .ok (.istore 4, 2) := by decide +kernel
theorem d_M_tick_27 : decode b_M_tick 27 = .ok (.iload 4, 2) := by decide +kernel
theorem d_M_tick_29 : decode b_M_tick 29 = .ok (.aload_n 0, 1) := by decide +kernel
theorem d_M_tick_30 : decode b_M_tick 30 = .ok (.getfield 102, 3) := by decide +kernel
theorem d_M_tick_33 : decode b_M_tick 33 = .ok (.if_icmp .gt 60, 3) := by decide +kernel
theorem d_M_tick_36 : decode b_M_tick 36 = .ok (.sipush 488, 3) := by decide +kernel
theorem d_M_tick_39 : decode b_M_tick 39 = .ok (.iload 4, 2) := by decide +kernel
theorem d_M_tick_41 : decode b_M_tick 41 = .ok (.iadd, 1) := by decide +kernel
theorem d_M_tick_42 : decode b_M_tick 42 = .ok (.istore 5, 2) := by decide +kernel
theorem d_M_tick_44 : decode b_M_tick 44 = .ok (.aload_n 0, 1) := by decide +kernel
theorem d_M_tick_45 : decode b_M_tick 45 = .ok (.getfield 30, 3) := by decide +kernel
theorem d_M_tick_48 : decode b_M_tick 48 = .ok (.iload 5, 2) := by decide +kernel
theorem d_M_tick_50 : decode b_M_tick 50 = .ok (.iaload, 1) := by decide +kernel
theorem d_M_tick_51 : decode b_M_tick 51 = .ok (.iconst 2, 1) := by decide +kernel
theorem d_M_tick_52 : decode b_M_tick 52 = .ok (.if_icmp .ne 35, 3) := by decide +kernel
theorem d_M_tick_55 : decode b_M_tick 55 = .ok (.aload_n 0, 1) := by decide +kernel
theorem d_M_tick_56 : decode b_M_tick 56 = .ok (.getfield 39, 3) := by decide +kernel
theorem d_M_tick_59 : decode b_M_tick 59 = .ok (.iload 5, 2) := by decide +kernel
theorem d_M_tick_61 : decode b_M_tick 61 = .ok (.laload, 1) := by decide +kernel
theorem d_M_tick_62 : decode b_M_tick 62 = .ok (.lload_n 1, 1) := by decide +kernel
theorem d_M_tick_63 : decode b_M_tick 63 = .ok (.lcmp, 1) := by decide +kernel
theorem d_M_tick_64 : decode b_M_tick 64 = .ok (.ifCond .ge 23, 3) := by decide +kernel
theorem d_M_tick_67 : decode b_M_tick 67 = .ok (.aload_n 0, 1) := by decide +kernel
theorem d_M_tick_68 : decode b_M_tick 68 = .ok (.getfield 30, 3) := by decide +kernel
theorem d_M_tick_71 : decode b_M_tick 71 = .ok (.iload 5, 2) := by decide +kernel
theorem d_M_tick_73 : decode b_M_tick 73 = .ok (.bipush 8, 2) := by decide +kernel
theorem d_M_tick_75 : decode b_M_tick 75 = .ok (.iastore, 1) := by decide +kernel
theorem d_M_tick_76 : decode b_M_tick 76 = .ok (.aload_n 0, 1) := by decide +kernel
theorem d_M_tick_77 : decode b_M_tick 77 = .ok (.getfield 20, 3) := by decide +kernel
theorem d_M_tick_80 : decode b_M_tick 80 = .ok (.iload 4, 2) := by decide +kernel
theorem d_M_tick_82 : decode b_M_tick 82 = .ok (.iconst (-1), 1) := by decide +kernel
theorem d_M_tick_83 : decode b_M_tick 83 = .ok (.iastore, 1) := by decide +kernel
theorem d_M_tick_84 : decode b_M_tick 84 = .ok (.iinc 3 1, 3) := by decide +kernel
theorem d_M_tick_87 : decode b_M_tick 87 = .ok (.iinc 4 1, 3) := by decide +kernel
theorem d_M_tick_90 : decode b_M_tick 90 = .ok (.goto (-63), 3) := by decide +kernel
theorem d_M_tick_93 : decode b_M_tick 93 = .ok (.iload_n 3, 1) := by decide +kernel
theorem d_M_tick_94 : decode b_M_tick 94 = .ok (.ireturn, 1) := by decide +kernel
theorem d_M_slip_0 : decode b_M_slip 0 = .ok (.aload_n 0, 1) := by decide +kernel
theorem d_M_slip_1 : decode b_M_slip 1 = .ok (.iload_n 1, 1) := by decide +kernel
theorem d_M_slip_2 : decode b_M_slip 2 = .ok (.invokevirtual 143, 3) := by decide +kernel
theorem d_M_slip_5 : decode b_M_slip 5 = .ok (.ifCond .ne 6, 3) := by decide +kernel
theorem d_M_slip_8 : decode b_M_slip 8 = .ok (.bipush (-11), 2) := by decide +kernel
theorem d_M_slip_10 : decode b_M_slip 10 = .ok (.ireturn, 1) := by decide +kernel
theorem d_M_slip_11 : decode b_M_slip 11 = .ok (.iload_n 2, 1) := by decide +kernel
theorem d_M_slip_12 : decode b_M_slip 12 = .ok (.i2l, 1) := by decide +kernel
theorem d_M_slip_13 : decode b_M_slip 13 = .ok (.ldc2_w 150, 3) := by decide +kernel
theorem d_M_slip_16 : decode b_M_slip 16 = .ok (.ldc2_w 112, 3) := by decide +kernel
theorem d_M_slip_19 : decode b_M_slip 19 = .ok (.invokestatic 108, 3) := by decide +kernel
theorem d_M_slip_22 : decode b_M_slip 22 = .ok (.ifCond .ne 6, 3) := by decide +kernel
theorem d_M_slip_25 : decode b_M_slip 25 = .ok (.bipush (-12), 2) := by decide +kernel
theorem d_M_slip_27 : decode b_M_slip 27 = .ok (.ireturn, 1) := by decide +kernel
theorem d_M_slip_28 : decode b_M_slip 28 = .ok (.sipush 488, 3) := by decide +kernel
theorem d_M_slip_31 : decode b_M_slip 31 = .ok (.iload_n 1, 1) := by decide +kernel
theorem d_M_slip_32 : decode b_M_slip 32 = .ok (.iadd, 1) := by decide +kernel
theorem d_M_slip_33 : decode b_M_slip 33 = .ok (.istore_n 3, 1) := by decide +kernel
theorem d_M_slip_34 : decode b_M_slip 34 = .ok (.aload_n 0, 1) := by decide +kernel
theorem d_M_slip_35 : decode b_M_slip 35 = .ok (.getfield 7, 3) := by decide +kernel
theorem d_M_slip_38 : decode b_M_slip 38 = .ok (.iload_n 1, 1) := by decide +kernel
theorem d_M_slip_39 : decode b_M_slip 39 = .ok (.iaload, 1) := by decide +kernel
theorem d_M_slip_40 : decode b_M_slip 40 = .ok (.iconst 4, 1) := by decide +kernel
theorem d_M_slip_41 : decode b_M_slip 41 = .ok (.if_icmp .ne 28, 3) := by decide +kernel
theorem d_M_slip_44 : decode b_M_slip 44 = .ok (.aload_n 0, 1) := by decide +kernel
theorem d_M_slip_45 : decode b_M_slip 45 = .ok (.getfield 30, 3) := by decide +kernel
theorem d_M_slip_48 : decode b_M_slip 48 = .ok (.iload_n 3, 1) := by decide +kernel
theorem d_M_slip_49 : decode b_M_slip 49 = .ok (.iaload, 1) := by decide +kernel
theorem d_M_slip_50 : decode b_M_slip 50 = .ok (.iconst 3, 1) := by decide +kernel
theorem d_M_slip_51 : decode b_M_slip 51 = .ok (.if_icmp .lt 18, 3) := by decide +kernel
theorem d_M_slip_54 : decode b_M_slip 54 = .ok (.aload_n 0, 1) := by decide +kernel
theorem d_M_slip_55 : decode b_M_slip 55 = .ok (.getfield 30, 3) := by decide +kernel
theorem d_M_slip_58 : decode b_M_slip 58 = .ok (.iload_n 3, 1) := by decide +kernel
theorem d_M_slip_59 : decode b_M_slip 59 = .ok (.iaload, 1) := by decide +kernel
theorem d_M_slip_60 : decode b_M_slip 60 = .ok (.bipush 6, 2) := by decide +kernel
theorem d_M_slip_62 : decode b_M_slip 62 = .ok (.if_icmp .gt 7, 3) := by decide +kernel
theorem d_M_slip_65 : decode b_M_slip 65 = .ok (.iconst 1, 1) := by decide +kernel
theorem d_M_slip_66 : decode b_M_slip 66 = .ok (.goto 4, 3) := by decide +kernel
theorem d_M_slip_69 : decode b_M_slip 69 = .ok (.iconst 0, 1) := by decide +kernel
theorem d_M_slip_70 : decode b_M_slip 70 = .ok (.istore 4, 2) := by decide +kernel
theorem d_M_slip_72 : decode b_M_slip 72 = .ok (.iload 4, 2) := by decide +kernel
theorem d_M_slip_74 : decode b_M_slip 74 = .ok (.ifCond .eq 30, 3) := by decide +kernel
theorem d_M_slip_77 : decode b_M_slip 77 = .ok (.aload_n 0, 1) := by decide +kernel
theorem d_M_slip_78 : decode b_M_slip 78 = .ok (.getfield 23, 3) := by decide +kernel
theorem d_M_slip_81 : decode b_M_slip 81 = .ok (.iload_n 1, 1) := by decide +kernel
theorem d_M_slip_82 : decode b_M_slip 82 = .ok (.baload, 1) := by decide +kernel
theorem d_M_slip_83 : decode b_M_slip 83 = .ok (.iload_n 2, 1) := by decide +kernel
theorem d_M_slip_84 : decode b_M_slip 84 = .ok (.ifCond .lt 7, 3) := by decide +kernel
theorem d_M_slip_87 : decode b_M_slip 87 = .ok (.iconst 1, 1) := by decide +kernel
theorem d_M_slip_88 : decode b_M_slip 88 = .ok (.goto 4, 3) := by decide +kernel
theorem d_M_slip_91 : decode b_M_slip 91 = .ok (.iconst 0, 1) := by decide +kernel
theorem d_M_slip_92 : decode b_M_slip 92 = .ok (.if_icmp .eq 12, 3) := by decide +kernel
theorem d_M_slip_95 : decode b_M_slip 95 = .ok (.aload_n 0, 1) := by decide +kernel
theorem d_M_slip_96 : decode b_M_slip 96 = .ok (.getfield 27, 3) := by decide +kernel
theorem d_M_slip_99 : decode b_M_slip 99 = .ok (.iload_n 1, 1) := by decide +kernel
theorem d_M_slip_100 : decode b_M_slip 100 = .ok (.baload, 1) := by decide +kernel
theorem d_M_slip_101 : decode b_M_slip 101 = .ok (.ifCond .eq 6, 3) := by decide +kernel
theorem d_M_slip_104 : decode b_M_slip 104 = .ok (.bipush (-13), 2) := by decide +kernel
theorem d_M_slip_106 : decode b_M_slip 106 = .ok (.ireturn, 1) := by decide +kernel
theorem d_M_slip_107 : decode b_M_slip 107 = .ok (.iload_n 2, 1) := by decide +kernel
theorem d_M_slip_108 : decode b_M_slip 108 = .ok (.ifCond .ge 12, 3) := by decide +kernel
theorem d_M_slip_111 : decode b_M_slip 111 = .ok (.aload_n 0, 1) := by decide +kernel
theorem d_M_slip_112 : decode b_M_slip 112 = .ok (.getfield 27, 3) := by decide +kernel
theorem d_M_slip_115 : decode b_M_slip 115 = .ok (.iload_n 1, 1) := by decide +kernel
theorem d_M_slip_116 : decode b_M_slip 116 = .ok (.iconst 1, 1) := by decide +kernel
theorem d_M_slip_117 : decode b_M_slip 117 = .ok (.bastore, 1) := by decide +kernel
theorem d_M_slip_118 : decode b_M_slip 118 = .ok (.iconst 2, 1) := by decide +kernel
theorem d_M_slip_119 : decode b_M_slip 119 = .ok (.ireturn, 1) := by decide +kernel
theorem d_M_slip_120 : decode b_M_slip 120 = .ok (.aload_n 0, 1) := by decide +kernel
theorem d_M_slip_121 : decode b_M_slip 121 = .ok (.getfield 42, 3) := by decide +kernel
theorem d_M_slip_124 : decode b_M_slip 124 = .ok (.iload_n 3, 1) := by decide +kernel
theorem d_M_slip_125 : decode b_M_slip 125 = .ok (.iaload, 1) := by decide +kernel
theorem d_M_slip_126 : decode b_M_slip 126 = .ok (.iload_n 2, 1) := by decide +kernel
theorem d_M_slip_127 : decode b_M_slip 127 = .ok (.if_icmp .eq 6, 3) := by decide +kernel
theorem d_M_slip_130 : decode b_M_slip 130 = .ok (.bipush (-21), 2) := by decide +kernel
theorem d_M_slip_132 : decode b_M_slip 132 = .ok (.ireturn, 1) := by decide +kernel
theorem d_M_slip_133 : decode b_M_slip 133 = .ok (.aload_n 0, 1) := by decide +kernel
theorem d_M_slip_134 : decode b_M_slip 134 = .ok (.getfield 23, 3) := by decide +kernel
theorem d_M_slip_137 : decode b_M_slip 137 = .ok (.iload_n 1, 1) := by decide +kernel
theorem d_M_slip_138 : decode b_M_slip 138 = .ok (.iconst 1, 1) := by decide +kernel
theorem d_M_slip_139 : decode b_M_slip 139 = .ok (.bastore, 1) := by decide +kernel
theorem d_M_slip_140 : decode b_M_slip 140 = .ok (.iconst 1, 1) := by decide +kernel
theorem d_M_slip_141 : decode b_M_slip 141 = .ok (.ireturn, 1) := by decide +kernel
theorem d_M_cash_0 : decode b_M_cash 0 = .ok (.aload_n 0, 1) := by decide +kernel
theorem d_M_cash_1 : decode b_M_cash 1 = .ok (.iload_n 1, 1) := by decide +kernel
theorem d_M_cash_2 : decode b_M_cash 2 = .ok (.invokevirtual 143, 3) := by decide +kernel
theorem d_M_cash_5 : decode b_M_cash 5 = .ok (.ifCond .ne 6, 3) := by decide +kernel
theorem d_M_cash_8 : decode b_M_cash 8 = .ok (.bipush (-11), 2) := by decide +kernel
theorem d_M_cash_10 : decode b_M_cash 10 = .ok (.ireturn, 1) := by decide +kernel
theorem d_M_cash_11 : decode b_M_cash 11 = .ok (.lload_n 2, 1) := by decide +kernel
theorem d_M_cash_12 : decode b_M_cash 12 = .ok (.lconst 1, 1) := by decide +kernel
theorem d_M_cash_13 : decode b_M_cash 13 = .ok (.ldc2_w 177, 3) := by decide +kernel
theorem d_M_cash_16 : decode b_M_cash 16 = .ok (.invokestatic 108, 3) := by decide +kernel
theorem d_M_cash_19 : decode b_M_cash 19 = .ok (.ifCond .ne 6, 3) := by decide +kernel
theorem d_M_cash_22 : decode b_M_cash 22 = .ok (.bipush (-12), 2) := by decide +kernel
theorem d_M_cash_24 : decode b_M_cash 24 = .ok (.ireturn, 1) := by decide +kernel
theorem d_M_cash_25 : decode b_M_cash 25 = .ok (.aload_n 0, 1) := by decide +kernel
theorem d_M_cash_26 : decode b_M_cash 26 = .ok (.getfield 7, 3) := by decide +kernel
theorem d_M_cash_29 : decode b_M_cash 29 = .ok (.iload_n 1, 1) := by decide +kernel
theorem d_M_cash_30 : decode b_M_cash 30 = .ok (.iaload, 1) := by decide +kernel
theorem d_M_cash_31 : decode b_M_cash 31 = .ok (.iconst 5, 1) := by decide +kernel
theorem d_M_cash_32 : decode b_M_cash 32 = .ok (.if_icmp .ne 27, 3) := by decide +kernel
theorem d_M_cash_35 : decode b_M_cash 35 = .ok (.aload_n 0, 1) := by decide +kernel
theorem d_M_cash_36 : decode b_M_cash 36 = .ok (.getfield 30, 3) := by decide +kernel
theorem d_M_cash_39 : decode b_M_cash 39 = .ok (.sipush 488, 3) := by decide +kernel
theorem d_M_cash_42 : decode b_M_cash 42 = .ok (.iload_n 1, 1) := by decide +kernel
theorem d_M_cash_43 : decode b_M_cash 43 = .ok (.iadd, 1) := by decide +kernel
theorem d_M_cash_44 : decode b_M_cash 44 = .ok (.iaload, 1) := by decide +kernel
theorem d_M_cash_45 : decode b_M_cash 45 = .ok (.iconst 2, 1) := by decide +kernel
theorem d_M_cash_46 : decode b_M_cash 46 = .ok (.if_icmp .gt 13, 3) := by decide +kernel
theorem d_M_cash_49 : decode b_M_cash 49 = .ok (.lload_n 2, 1) := by decide +kernel
theorem d_M_cash_50 : decode b_M_cash 50 = .ok (.aload_n 0, 1) := by decide +kernel
theorem d_M_cash_51 : decode b_M_cash 51 = .ok (.iload_n 1, 1) := by decide +kernel
theorem d_M_cash_52 : decode b_M_cash 52 = .ok (.invokevirtual 133, 3) := by decide +kernel
theorem d_M_cash_55 : decode b_M_cash 55 = .ok (.lcmp, 1) := by decide +kernel
theorem d_M_cash_56 : decode b_M_cash 56 = .ok (.ifCond .le 6, 3) := by decide +kernel
theorem d_M_cash_59 : decode b_M_cash 59 = .ok (.bipush (-13), 2) := by decide +kernel
theorem d_M_cash_61 : decode b_M_cash 61 = .ok (.ireturn, 1) := by decide +kernel
theorem d_M_cash_62 : decode b_M_cash 62 = .ok (.aload_n 0, 1) := by decide +kernel
theorem d_M_cash_63 : decode b_M_cash 63 = .ok (.getfield 16, 3) := by decide +kernel
theorem d_M_cash_66 : decode b_M_cash 66 = .ok (.iload_n 1, 1) := by decide +kernel
theorem d_M_cash_67 : decode b_M_cash 67 = .ok (.dup2, 1) := by decide +kernel
theorem d_M_cash_68 : decode b_M_cash 68 = .ok (.laload, 1) := by decide +kernel
theorem d_M_cash_69 : decode b_M_cash 69 = .ok (.lload_n 2, 1) := by decide +kernel
theorem d_M_cash_70 : decode b_M_cash 70 = .ok (.ladd, 1) := by decide +kernel
theorem d_M_cash_71 : decode b_M_cash 71 = .ok (.lastore, 1) := by decide +kernel
theorem d_M_cash_72 : decode b_M_cash 72 = .ok (.aload_n 0, 1) := by decide +kernel
theorem d_M_cash_73 : decode b_M_cash 73 = .ok (.iload_n 1, 1) := by decide +kernel
theorem d_M_cash_74 : decode b_M_cash 74 = .ok (.invokevirtual 133, 3) := by decide +kernel
theorem d_M_cash_77 : decode b_M_cash 77 = .ok (.l2i, 1) := by decide +kernel
theorem d_M_cash_78 : decode b_M_cash 78 = .ok (.ireturn, 1) := by decide +kernel
theorem d_M_state_0 : decode b_M_state 0 = .ok (.aload_n 0, 1) := by decide +kernel
theorem d_M_state_1 : decode b_M_state 1 = .ok (.iload_n 1, 1) := by decide +kernel
theorem d_M_state_2 : decode b_M_state 2 = .ok (.invokevirtual 143, 3) := by decide +kernel
theorem d_M_state_5 : decode b_M_state 5 = .ok (.ifCond .eq 36, 3) := by decide +kernel
theorem d_M_state_8 : decode b_M_state 8 = .ok (.aload_n 0, 1) := by decide +kernel
theorem d_M_state_9 : decode b_M_state 9 = .ok (.getfield 30, 3) := by decide +kernel
theorem d_M_state_12 : decode b_M_state 12 = .ok (.sipush 488, 3) := by decide +kernel
theorem d_M_state_15 : decode b_M_state 15 = .ok (.iload_n 1, 1) := by decide +kernel
theorem d_M_state_16 : decode b_M_state 16 = .ok (.iadd, 1) := by decide +kernel
theorem d_M_state_17 : decode b_M_state 17 = .ok (.iaload, 1) := by decide +kernel
theorem d_M_state_18 : decode b_M_state 18 = .ok (.aload_n 0, 1) := by decide +kernel
theorem d_M_state_19 : decode b_M_state 19 = .ok (.getfield 54, 3) := by decide +kernel
theorem d_M_state_22 : decode b_M_state 22 = .ok (.sipush 488, 3) := by decide +kernel
theorem d_M_state_25 : decode b_M_state 25 = .ok (.iload_n 1, 1) := by decide +kernel
theorem d_M_state_26 : decode b_M_state 26 = .ok (.iadd, 1) := by decide +kernel
theorem d_M_state_27 : decode b_M_state 27 = .ok (.baload, 1) := by decide +kernel
theorem d_M_state_28 : decode b_M_state 28 = .ok (.ifCond .eq 8, 3) := by decide +kernel
theorem d_M_state_31 : decode b_M_state 31 = .ok (.bipush 10, 2) := by decide +kernel
theorem d_M_state_33 : decode b_M_state 33 = .ok (.goto 4, 3) := by decide +kernel
theorem d_M_state_36 : decode b_M_state 36 = .ok (.iconst 0, 1) := by decide +kernel
theorem d_M_state_37 : decode b_M_state 37 = .ok (.iadd, 1) := by decide +kernel
theorem d_M_state_38 : decode b_M_state 38 = .ok (.goto 5, 3) := by decide +kernel
theorem d_M_state_41 : decode b_M_state 41 = .ok (.bipush (-11), 2) := by decide +kernel
theorem d_M_state_43 : decode b_M_state 43 = .ok (.ireturn, 1) := by decide +kernel
