theorem d_Model_dropProperty_20 : decode b_Model_dropProperty 20 = .ok (.getfield 32, 3) := by decide +kernel
theorem d_Model_dropProperty_23 : decode b_Model_dropProperty 23 = .ok (.iload_n 3, 1) := by decide +kernel
theorem d_Model_dropProperty_24 : decode b_Model_dropProperty 24 = .ok (.aload_n 0, 1) := by decide +kernel
theorem d_Model_dropProperty_25 : decode b_Model_dropProperty 25 = .ok (.getfield 32, 3) := by decide +kernel
theorem d_Model_dropProperty_28 : decode b_Model_dropProperty 28 = .ok (.iload_n 3, 1) := by decide +kernel
theorem d_Model_dropProperty_29 : decode b_Model_dropProperty 29 = .ok (.iconst 1, 1) := by decide +kernel
theorem d_Model_dropProperty_30 : decode b_Model_dropProperty 30 = .ok (.iadd, 1) := by decide +kernel
theorem d_Model_dropProperty_31 : decode b_Model_dropProperty 31 = .ok (.iaload, 1) := by decide +kernel
theorem d_Model_dropProperty_32 : decode b_Model_dropProperty 32 = .ok (.iastore, 1) := by decide +kernel
theorem d_Model_dropProperty_33 : decode b_Model_dropProperty 33 = .ok (.aload_n 0, 1) := by decide +kernel
theorem d_Model_dropProperty_34 : decode b_Model_dropProperty 34 = .ok (.getfield 35, 3) := by decide +kernel
theorem d_Model_dropProperty_37 : decode b_Model_dropProperty 37 = .ok (.iload_n 3, 1) := by decide +kernel
theorem d_Model_dropProperty_38 : decode b_Model_dropProperty 38 = .ok (.aload_n 0, 1) := by decide +kernel
theorem d_Model_dropProperty_39 : decode b_Model_dropProperty 39 = .ok (.getfield 35, 3) := by decide +kernel
theorem d_Model_dropProperty_42 : decode b_Model_dropProperty 42 = .ok (.iload_n 3, 1) := by decide +kernel
theorem d_Model_dropProperty_43 : decode b_Model_dropProperty 43 = .ok (.iconst 1, 1) := by decide +kernel
theorem d_Model_dropProperty_44 : decode b_Model_dropProperty 44 = .ok (.iadd, 1) := by decide +kernel
theorem d_Model_dropProperty_45 : decode b_Model_dropProperty 45 = .ok (.iaload, 1) := by decide +kernel
theorem d_Model_dropProperty_46 : decode b_Model_dropProperty 46 = .ok (.iastore, 1) := by decide +kernel
theorem d_Model_dropProperty_47 : decode b_Model_dropProperty 47 = .ok (.aload_n 0, 1) := by decide +kernel
theorem d_Model_dropProperty_48 : decode b_Model_dropProperty 48 = .ok (.getfield 38, 3) := by decide +kernel
theorem d_Model_dropProperty_51 : decode b_Model_dropProperty 51 = .ok (.iload_n 3, 1) := by decide +kernel
theorem d_Model_dropProperty_52 : decode b_Model_dropProperty 52 = .ok (.aload_n 0, 1) := by decide +kernel
theorem d_Model_dropProperty_53 : decode b_Model_dropProperty 53 = .ok (.getfield 38, 3) := by decide +kernel
theorem d_Model_dropProperty_56 : decode b_Model_dropProperty 56 = .ok (.iload_n 3, 1) := by decide +kernel
theorem d_Model_dropProperty_57 : decode b_Model_dropProperty 57 = .ok (.iconst 1, 1) := by decide +kernel
theorem d_Model_dropProperty_58 : decode b_Model_dropProperty 58 = .ok (.iadd, 1) := by decide +kernel
theorem d_Model_dropProperty_59 : decode b_Model_dropProperty 59 = .ok (.laload, 1) := by decide +kernel
theorem d_Model_dropProperty_60 : decode b_Model_dropProperty 60 = .ok (.lastore, 1) := by decide +kernel
theorem d_Model_dropProperty_61 : decode b_Model_dropProperty 61 = .ok (.iconst 0, 1) := by decide +kernel
theorem d_Model_dropProperty_62 : decode b_Model_dropProperty 62 = .ok (.istore 4, 2) := by decide +kernel
theorem d_Model_dropProperty_64 : decode b_Model_dropProperty 64 = .ok (.iload 4, 2) := by decide +kernel
theorem d_Model_dropProperty_66 : decode b_Model_dropProperty 66 = .ok (.iconst 3, 1) := by decide +kernel
theorem d_Model_dropProperty_67 : decode b_Model_dropProperty 67 = .ok (.if_icmp .ge 33, 3) := by decide +kernel
theorem d_Model_dropProperty_70 : decode b_Model_dropProperty 70 = .ok (.aload_n 0, 1) := by decide +kernel
theorem d_Model_dropProperty_71 : decode b_Model_dropProperty 71 = .ok (.getfield 42, 3) := by decide +kernel
theorem d_Model_dropProperty_74 : decode b_Model_dropProperty 74 = .ok (.iconst 3, 1) := by decide +kernel
theorem d_Model_dropProperty_75 : decode b_Model_dropProperty 75 = .ok (.iload_n 3, 1) := by decide +kernel
theorem d_Model_dropProperty_76 : decode b_Model_dropProperty 76 = .ok (.imul, 1) := by decide +kernel
theorem d_Model_dropProperty_77 : decode b_Model_dropProperty 77 = .ok (.iload 4, 2) := by decide +kernel
theorem d_Model_dropProperty_79 : decode b_Model_dropProperty 79 = .ok (.iadd, 1) := by decide +kernel
theorem d_Model_dropProperty_80 : decode b_Model_dropProperty 80 = .ok (.aload_n 0, 1) := by decide +kernel
theorem d_Model_dropProperty_81 : decode b_Model_dropProperty 81 = .ok (.getfield 42, 3) := by decide +kernel
theorem d_Model_dropProperty_84 : decode b_Model_dropProperty 84 = .ok (.iconst 3, 1) := by decide +kernel
theorem d_Model_dropProperty_85 : decode b_Model_dropProperty 85 = .ok (.iload_n 3, 1) := by decide +kernel
theorem d_Model_dropProperty_86 : decode b_Model_dropProperty 86 = .ok (.imul, 1) := by decide +kernel
theorem d_Model_dropProperty_87 : decode b_Model_dropProperty 87 = .ok (.iconst 3, 1) := by decide +kernel
theorem d_Model_dropProperty_88 : decode b_Model_dropProperty 88 = .ok (.iadd, 1) := by decide +kernel
theorem d_Model_dropProperty_89 : decode b_Model_dropProperty 89 = .ok (.iload 4, 2) := by decide +kernel
theorem d_Model_dropProperty_91 : decode b_Model_dropProperty 91 = .ok (.iadd, 1) := by decide +kernel
theorem d_Model_dropProperty_92 : decode b_Model_dropProperty 92 = .ok (.laload, 1) := by decide +kernel
theorem d_Model_dropProperty_93 : decode b_Model_dropProperty 93 = .ok (.lastore, 1) := by decide +kernel
theorem d_Model_dropProperty_94 : decode b_Model_dropProperty 94 = .ok (.iinc 4 1, 3) := by decide +kernel
theorem d_Model_dropProperty_97 : decode b_Model_dropProperty 97 = .ok (.goto (-33), 3) := by decide +kernel
theorem d_Model_dropProperty_100 : decode b_Model_dropProperty 100 = .ok (.iinc 3 1, 3) := by decide +kernel
theorem d_Model_dropProperty_103 : decode b_Model_dropProperty 103 = .ok (.goto (-101), 3) := by decide +kernel
theorem d_Model_dropProperty_106 : decode b_Model_dropProperty 106 = .ok (.aload_n 0, 1) := by decide +kernel
theorem d_Model_dropProperty_107 : decode b_Model_dropProperty 107 = .ok (.getfield 29, 3) := by decide +kernel
theorem d_Model_dropProperty_110 : decode b_Model_dropProperty 110 = .ok (.iload_n 1, 1) := by decide +kernel
theorem d_Model_dropProperty_111 : decode b_Model_dropProperty 111 = .ok (.dup2, 1) := by decide +kernel
theorem d_Model_dropProperty_112 : decode b_Model_dropProperty 112 = .ok (.iaload, 1) := by decide +kernel
theorem d_Model_dropProperty_113 : decode b_Model_dropProperty 113 = .ok (.iconst 1, 1) := by decide +kernel
theorem d_Model_dropProperty_114 : decode b_Model_dropProperty 114 = .ok (.isub, 1) := by decide +kernel
theorem d_Model_dropProperty_115 : decode b_Model_dropProperty 115 = .ok (.iastore, 1) := by decide +kernel
theorem d_Model_dropProperty_116 : decode b_Model_dropProperty 116 = .ok (.return_, 1) := by decide +kernel
theorem d_Model_property_0 : decode b_Model_property 0 = .ok (.aload_n 0, 1) := by decide +kernel
theorem d_Model_property_1 : decode b_Model_property 1 = .ok (.getfield 62, 3) := by decide +kernel
theorem d_Model_property_4 : decode b_Model_property 4 = .ok (.ifCond .eq 7, 3) := by decide +kernel
theorem d_Model_property_7 : decode b_Model_property 7 = .ok (.iconst (-1), 1) := by decide +kernel
theorem d_Model_property_8 : decode b_Model_property 8 = .ok (.goto 9, 3) := by decide +kernel
theorem d_Model_property_11 : decode b_Model_property 11 = .ok (.aload_n 0, 1) := by decide +kernel
theorem d_Model_property_12 : decode b_Model_property 12 = .ok (.iload_n 1, 1) := by decide +kernel
theorem d_Model_property_13 : decode b_Model_property 13 = .ok (.iload_n 2, 1) := by decide +kernel
theorem d_Model_property_14 : decode b_Model_property 14 = .ok (.invokevirtual 123, 3) := by decide +kernel
theorem d_Model_property_17 : decode b_Model_property 17 = .ok (.istore 7, 2) := by decide +kernel
theorem d_Model_property_19 : decode b_Model_property 19 = .ok (.iload 4, 2) := by decide +kernel
theorem d_Model_property_21 : decode b_Model_property 21 = .ok (.ifCond .lt 29, 3) := by decide +kernel
theorem d_Model_property_24 : decode b_Model_property 24 = .ok (.iload 4, 2) := by decide +kernel
theorem d_Model_property_26 : decode b_Model_property 26 = .ok (.iconst 3, 1) := by decide +kernel
theorem d_Model_property_27 : decode b_Model_property 27 = .ok (.if_icmp .gt 23, 3) := by decide +kernel
theorem d_Model_property_30 : decode b_Model_property 30 = .ok (.iload 4, 2) := by decide +kernel
theorem d_Model_property_32 : decode b_Model_property 32 = .ok (.iconst 2, 1) := by decide +kernel
theorem d_Model_property_33 : decode b_Model_property 33 = .ok (.if_icmp .ne 21, 3) := by decide +kernel
theorem d_Model_property_36 : decode b_Model_property 36 = .ok (.lload 5, 2) := by decide +kernel
theorem d_Model_property_38 : decode b_Model_property 38 = .ok (.lconst 0, 1) := by decide +kernel
theorem d_Model_property_39 : decode b_Model_property 39 = .ok (.lcmp, 1) := by decide +kernel
theorem d_Model_property_40 : decode b_Model_property 40 = .ok (.ifCond .eq 14, 3) := by decide +kernel
theorem d_Model_property_43 : decode b_Model_property 43 = .ok (.lload 5, 2) := by decide +kernel
theorem d_Model_property_45 : decode b_Model_property 45 = .ok (.lconst 1, 1) := by decide +kernel
theorem d_Model_property_46 : decode b_Model_property 46 = .ok (.lcmp, 1) := by decide +kernel
theorem d_Model_property_47 : decode b_Model_property 47 = .ok (.ifCond .eq 7, 3) := by decide +kernel
theorem d_Model_property_50 : decode b_Model_property 50 = .ok (.iconst 1, 1) := by decide +kernel
theorem d_Model_property_51 : decode b_Model_property 51 = .ok (.goto 4, 3) := by decide +kernel
theorem d_Model_property_54 : decode b_Model_property 54 = .ok (.iconst 0, 1) := by decide +kernel
theorem d_Model_property_55 : decode b_Model_property 55 = .ok (.istore 8, 2) := by decide +kernel
theorem d_Model_property_57 : decode b_Model_property 57 = .ok (.iload 7, 2) := by decide +kernel
theorem d_Model_property_59 : decode b_Model_property 59 = .ok (.ifCond .ge 7, 3) := by decide +kernel
theorem d_Model_property_62 : decode b_Model_property 62 = .ok (.iconst (-1), 1) := by decide +kernel
theorem d_Model_property_63 : decode b_Model_property 63 = .ok (.goto 10, 3) := by decide +kernel
theorem d_Model_property_66 : decode b_Model_property 66 = .ok (.aload_n 0, 1) := by decide +kernel
theorem d_Model_property_67 : decode b_Model_property 67 = .ok (.iload 7, 2) := by decide +kernel
theorem d_Model_property_69 : decode b_Model_property 69 = .ok (.iload_n 3, 1) := by decide +kernel
theorem d_Model_property_70 : decode b_Model_property 70 = .ok (.invokevirtual 130, 3) := by decide +kernel
theorem d_Model_property_73 : decode b_Model_property 73 = .ok (.istore 9, 2) := by decide +kernel
theorem d_Model_property_75 : decode b_Model_property 75 = .ok (.iload 4, 2) := by decide +kernel
theorem d_Model_property_77 : decode b_Model_property 77 = .ok (.iconst 3, 1) := by decide +kernel
theorem d_Model_property_78 : decode b_Model_property 78 = .ok (.if_icmp .ne 11, 3) := by decide +kernel
theorem d_Model_property_81 : decode b_Model_property 81 = .ok (.aload_n 0, 1) := by decide +kernel
theorem d_Model_property_82 : decode b_Model_property 82 = .ok (.getfield 103, 3) := by decide +kernel
theorem d_Model_property_85 : decode b_Model_property 85 = .ok (.i2l, 1) := by decide +kernel
theorem d_Model_property_86 : decode b_Model_property 86 = .ok (.goto 5, 3) := by decide +kernel
theorem d_Model_property_89 : decode b_Model_property 89 = .ok (.lload 5, 2) := by decide +kernel
theorem d_Model_property_91 : decode b_Model_property 91 = .ok (.lstore 10, 2) := by decide +kernel
theorem d_Model_property_93 : decode b_Model_property 93 = .ok (.iload 7, 2) := by decide +kernel
theorem d_Model_property_95 : decode b_Model_property 95 = .ok (.ifCond .lt 43, 3) := by decide +kernel
theorem d_Model_property_98 : decode b_Model_property 98 = .ok (.iload 8, 2) := by decide +kernel
theorem d_Model_property_100 : decode b_Model_property 100 = .ok (.ifCond .ne 38, 3) := by decide +kernel
theorem d_Model_property_103 : decode b_Model_property 103 = .ok (.iload 4, 2) := by decide +kernel
theorem d_Model_property_105 : decode b_Model_property 105 = .ok (.ifCond .ne 11, 3) := by decide +kernel
theorem d_Model_property_108 : decode b_Model_property 108 = .ok (.iload 9, 2) := by decide +kernel
theorem d_Model_property_110 : decode b_Model_property 110 = .ok (.ifCond .lt 28, 3) := by decide +kernel
theorem d_Model_property_113 : decode b_Model_property 113 = .ok (.goto 21, 3) := by decide +kernel
theorem d_Model_property_116 : decode b_Model_property 116 = .ok (.iload 9, 2) := by decide +kernel
theorem d_Model_property_118 : decode b_Model_property 118 = .ok (.ifCond .lt 16, 3) := by decide +kernel
theorem d_Model_property_121 : decode b_Model_property 121 = .ok (.aload_n 0, 1) := by decide +kernel
theorem d_Model_property_122 : decode b_Model_property 122 = .ok (.iload 9, 2) := by decide +kernel
theorem d_Model_property_124 : decode b_Model_property 124 = .ok (.iload 4, 2) := by decide +kernel
theorem d_Model_property_126 : decode b_Model_property 126 = .ok (.lload 10, 2) := by decide +kernel
theorem d_Model_property_128 : decode b_Model_property 128 = .ok (.invokevirtual 133, 3) := by decide +kernel
theorem d_Model_property_131 : decode b_Model_property 131 = .ok (.ifCond .ne 7, 3) := by decide +kernel
theorem d_Model_property_134 : decode b_Model_property 134 = .ok (.iconst 1, 1) := by decide +kernel
theorem d_Model_property_135 : decode b_Model_property 135 = .ok (.goto 4, 3) := by decide +kernel
theorem d_Model_property_138 : decode b_Model_property 138 = .ok (.iconst 0, 1) := by decide +kernel
theorem d_Model_property_139 : decode b_Model_property 139 = .ok (.istore 12, 2) := by decide +kernel
theorem d_Model_property_141 : decode b_Model_property 141 = .ok (.aload_n 0, 1) := by decide +kernel
theorem d_Model_property_142 : decode b_Model_property 142 = .ok (.iload 7, 2) := by decide +kernel
theorem d_Model_property_144 : decode b_Model_property 144 = .ok (.ifCond .ge 7, 3) := by decide +kernel
theorem d_Model_property_147 : decode b_Model_property 147 = .ok (.iconst 1, 1) := by decide +kernel
theorem d_Model_property_148 : decode b_Model_property 148 = .ok (.goto 4, 3) := by decide +kernel
theorem d_Model_property_151 : decode b_Model_property 151 = .ok (.iconst 0, 1) := by decide +kernel
theorem d_Model_property_152 : decode b_Model_property 152 = .ok (.iload 8, 2) := by decide +kernel
theorem d_Model_property_154 : decode b_Model_property 154 = .ok (.iconst 0, 1) := by decide +kernel
theorem d_Model_property_155 : decode b_Model_property 155 = .ok (.iload 12, 2) := by decide +kernel
theorem d_Model_property_157 : decode b_Model_property 157 = .ok (.ifCond .eq 24, 3) := by decide +kernel
theorem d_Model_property_160 : decode b_Model_property 160 = .ok (.iload 9, 2) := by decide +kernel
theorem d_Model_property_162 : decode b_Model_property 162 = .ok (.ifCond .ge 19, 3) := by decide +kernel
theorem d_Model_property_165 : decode b_Model_property 165 = .ok (.aload_n 0, 1) := by decide +kernel
theorem d_Model_property_166 : decode b_Model_property 166 = .ok (.getfield 29, 3) := by decide +kernel
theorem d_Model_property_169 : decode b_Model_property 169 = .ok (.iload 7, 2) := by decide +kernel
theorem d_Model_property_171 : decode b_Model_property 171 = .ok (.iaload, 1) := by decide +kernel
theorem d_Model_property_172 : decode b_Model_property 172 = .ok (.bipush 6, 2) := by decide +kernel
theorem d_Model_property_174 : decode b_Model_property 174 = .ok (.if_icmp .ne 7, 3) := by decide +kernel
theorem d_Model_property_177 : decode b_Model_property 177 = .ok (.iconst 1, 1) := by decide +kernel
theorem d_Model_property_178 : decode b_Model_property 178 = .ok (.goto 4, 3) := by decide +kernel
theorem d_Model_property_181 : decode b_Model_property 181 = .ok (.iconst 0, 1) := by decide +kernel
theorem d_Model_property_182 : decode b_Model_property 182 = .ok (.iload 12, 2) := by decide +kernel
theorem d_Model_property_184 : decode b_Model_property 184 = .ok (.invokevirtual 116, 3) := by decide +kernel
theorem d_Model_property_187 : decode b_Model_property 187 = .ok (.istore 13, 2) := by decide +kernel
theorem d_Model_property_189 : decode b_Model_property 189 = .ok (.iload 13, 2) := by decide +kernel
theorem d_Model_property_191 : decode b_Model_property 191 = .ok (.ifCond .ne 84, 3) := by decide +kernel
theorem d_Model_property_194 : decode b_Model_property 194 = .ok (.iload 12, 2) := by decide +kernel
theorem d_Model_property_196 : decode b_Model_property 196 = .ok (.ifCond .eq 79, 3) := by decide +kernel
theorem d_Model_property_199 : decode b_Model_property 199 = .ok (.aload_n 0, 1) := by decide +kernel
theorem d_Model_property_200 : decode b_Model_property 200 = .ok (.invokevirtual 120, 3) := by decide +kernel
theorem d_Model_property_203 : decode b_Model_property 203 = .ok (.iload 4, 2) := by decide +kernel
theorem d_Model_property_205 : decode b_Model_property 205 = .ok (.ifCond .ne 14, 3) := by decide +kernel
theorem d_Model_property_208 : decode b_Model_property 208 = .ok (.aload_n 0, 1) := by decide +kernel
theorem d_Model_property_209 : decode b_Model_property 209 = .ok (.iload 7, 2) := by decide +kernel
theorem d_Model_property_211 : decode b_Model_property 211 = .ok (.iload 9, 2) := by decide +kernel
theorem d_Model_property_213 : decode b_Model_property 213 = .ok (.invokevirtual 137, 3) := by decide +kernel
theorem d_Model_property_216 : decode b_Model_property 216 = .ok (.goto 59, 3) := by decide +kernel
theorem d_Model_property_219 : decode b_Model_property 219 = .ok (.iload 9, 2) := by decide +kernel
theorem d_Model_property_221 : decode b_Model_property 221 = .ok (.ifCond .ge 19, 3) := by decide +kernel
theorem d_Model_property_224 : decode b_Model_property 224 = .ok (.bipush 6, 2) := by decide +kernel
theorem d_Model_property_226 : decode b_Model_property 226 = .ok (.iload 7, 2) := by decide +kernel
theorem d_Model_property_228 : decode b_Model_property 228 = .ok (.imul, 1) := by decide +kernel
theorem d_Model_property_229 : decode b_Model_property 229 = .ok (.aload_n 0, 1) := by decide +kernel
theorem d_Model_property_230 : decode b_Model_property 230 = .ok (.getfield 29, 3) := by decide +kernel
theorem d_Model_property_233 : decode b_Model_property 233 = .ok (.iload 7, 2) := by decide +kernel
theorem d_Model_property_235 : decode b_Model_property 235 = .ok (.iaload, 1) := by decide +kernel
theorem d_Model_property_236 : decode b_Model_property 236 = .ok (.iadd, 1) := by decide +kernel
theorem d_Model_property_237 : decode b_Model_property 237 = .ok (.goto 5, 3) := by decide +kernel
theorem d_Model_property_240 : decode b_Model_property 240 = .ok (.iload 9, 2) := by decide +kernel
theorem d_Model_property_242 : decode b_Model_property 242 = .ok (.istore 14, 2) := by decide +kernel
theorem d_Model_property_244 : decode b_Model_property 244 = .ok (.aload_n 0, 1) := by decide +kernel
theorem d_Model_property_245 : decode b_Model_property 245 = .ok (.getfield 29, 3) := by decide +kernel
theorem d_Model_property_248 : decode b_Model_property 248 = .ok (.iload 7, 2) := by decide +kernel
theorem d_Model_property_250 : decode b_Model_property 250 = .ok (.dup2, 1) := by decide +kernel
theorem d_Model_property_251 : decode b_Model_property 251 = .ok (.iaload, 1) := by decide +kernel
theorem d_Model_property_252 : decode b_Model_property 252 = .ok (.iload 9, 2) := by decide +kernel
theorem d_Model_property_254 : decode b_Model_property 254 = .ok (.ifCond .ge 7, 3) := by decide +kernel
theorem d_Model_property_257 : decode b_Model_property 257 = .ok (.iconst 1, 1) := by decide +kernel
theorem d_Model_property_258 : decode b_Model_property 258 = .ok (.goto 4, 3) := by decide +kernel
theorem d_Model_property_261 : decode b_Model_property 261 = .ok (.iconst 0, 1) := by decide +kernel
theorem d_Model_property_262 : decode b_Model_property 262 = .ok (.iadd, 1) := by decide +kernel
theorem d_Model_property_263 : decode b_Model_property 263 = .ok (.iastore, 1) := by decide +kernel
theorem d_Model_property_264 : decode b_Model_property 264 = .ok (.aload_n 0, 1) := by decide +kernel
theorem d_Model_property_265 : decode b_Model_property 265 = .ok (.iload 14, 2) := by decide +kernel
theorem d_Model_property_267 : decode b_Model_property 267 = .ok (.iload_n 3, 1) := by decide +kernel
theorem d_Model_property_268 : decode b_Model_property 268 = .ok (.iload 4, 2) := by decide +kernel
theorem d_Model_property_270 : decode b_Model_property 270 = .ok (.lload 10, 2) := by decide +kernel
theorem d_Model_property_272 : decode b_Model_property 272 = .ok (.invokevirtual 140, 3) := by decide +kernel
theorem d_Model_property_275 : decode b_Model_property 275 = .ok (.aload_n 0, 1) := by decide +kernel
theorem d_Model_property_276 : decode b_Model_property 276 = .ok (.iload 4, 2) := by decide +kernel
theorem d_Model_property_278 : decode b_Model_property 278 = .ok (.iconst 3, 1) := by decide +kernel
theorem d_Model_property_279 : decode b_Model_property 279 = .ok (.if_icmp .ne 12, 3) := by decide +kernel
theorem d_Model_property_282 : decode b_Model_property 282 = .ok (.iload 7, 2) := by decide +kernel
theorem d_Model_property_284 : decode b_Model_property 284 = .ok (.ifCond .lt 7, 3) := by decide +kernel
theorem d_Model_property_287 : decode b_Model_property 287 = .ok (.iconst 0, 1) := by decide +kernel
theorem d_Model_property_288 : decode b_Model_property 288 = .ok (.goto 7, 3) := by decide +kernel
theorem d_Model_property_291 : decode b_Model_property 291 = .ok (.aload_n 0, 1) := by decide +kernel
theorem d_Model_property_292 : decode b_Model_property 292 = .ok (.getfield 103, 3) := by decide +kernel
theorem d_Model_property_295 : decode b_Model_property 295 = .ok (.putfield 103, 3) := by decide +kernel
theorem d_Model_property_298 : decode b_Model_property 298 = .ok (.iload 13, 2) := by decide +kernel
theorem d_Model_property_300 : decode b_Model_property 300 = .ok (.ifCond .ne 12, 3) := by decide +kernel
theorem d_Model_property_303 : decode b_Model_property 303 = .ok (.iload 12, 2) := by decide +kernel
theorem d_Model_property_305 : decode b_Model_property 305 = .ok (.ifCond .eq 7, 3) := by decide +kernel
theorem d_Model_property_308 : decode b_Model_property 308 = .ok (.iconst 1, 1) := by decide +kernel
theorem d_Model_property_309 : decode b_Model_property 309 = .ok (.goto 4, 3) := by decide +kernel
theorem d_Model_property_312 : decode b_Model_property 312 = .ok (.iconst 0, 1) := by decide +kernel
theorem d_Model_property_313 : decode b_Model_property 313 = .ok (.ireturn, 1) := by decide +kernel
theorem d_Model_link_0 : decode b_Model_link 0 = .ok (.aload_n 0, 1) := by decide +kernel
theorem d_Model_link_1 : decode b_Model_link 1 = .ok (.getfield 62, 3) := by decide +kernel
theorem d_Model_link_4 : decode b_Model_link 4 = .ok (.ifCond .eq 7, 3) := by decide +kernel
theorem d_Model_link_7 : decode b_Model_link 7 = .ok (.iconst (-1), 1) := by decide +kernel
theorem d_Model_link_8 : decode b_Model_link 8 = .ok (.goto 9, 3) := by decide +kernel
theorem d_Model_link_11 : decode b_Model_link 11 = .ok (.aload_n 0, 1) := by decide +kernel
theorem d_Model_link_12 : decode b_Model_link 12 = .ok (.iconst 4, 1) := by decide +kernel
theorem d_Model_link_13 : decode b_Model_link 13 = .ok (.iload_n 1, 1) := by decide +kernel
theorem d_Model_link_14 : decode b_Model_link 14 = .ok (.invokevirtual 123, 3) := by decide +kernel
theorem d_Model_link_17 : decode b_Model_link 17 = .ok (.istore 4, 2) := by decide +kernel
theorem d_Model_link_19 : decode b_Model_link 19 = .ok (.aload_n 0, 1) := by decide +kernel
theorem d_Model_link_20 : decode b_Model_link 20 = .ok (.getfield 62, 3) := by decide +kernel
theorem d_Model_link_23 : decode b_Model_link 23 = .ok (.ifCond .eq 7, 3) := by decide +kernel
theorem d_Model_link_26 : decode b_Model_link 26 = .ok (.iconst (-1), 1) := by decide +kernel
theorem d_Model_link_27 : decode b_Model_link 27 = .ok (.goto 9, 3) := by decide +kernel
theorem d_Model_link_30 : decode b_Model_link 30 = .ok (.aload_n 0, 1) := by decide +kernel
theorem d_Model_link_31 : decode b_Model_link 31 = .ok (.iconst 4, 1) := by decide +kernel
theorem d_Model_link_32 : decode b_Model_link 32 = .ok (.iload_n 2, 1) := by decide +kernel
theorem d_Model_link_33 : decode b_Model_link 33 = .ok (.invokevirtual 123, 3) := by decide +kernel
theorem d_Model_link_36 : decode b_Model_link 36 = .ok (.istore 5, 2) := by decide +kernel
theorem d_Model_link_38 : decode b_Model_link 38 = .ok (.aload_n 0, 1) := by decide +kernel
theorem d_Model_link_39 : decode b_Model_link 39 = .ok (.bipush 64, 2) := by decide +kernel
theorem d_Model_link_41 : decode b_Model_link 41 = .ok (.sipush 160, 3) := by decide +kernel
theorem d_Model_link_44 : decode b_Model_link 44 = .ok (.invokevirtual 112, 3) := by decide +kernel
theorem d_Model_link_47 : decode b_Model_link 47 = .ok (.istore 6, 2) := by decide +kernel
theorem d_Model_link_49 : decode b_Model_link 49 = .ok (.aload_n 0, 1) := by decide +kernel
theorem d_Model_link_50 : decode b_Model_link 50 = .ok (.iload 4, 2) := by decide +kernel
theorem d_Model_link_52 : decode b_Model_link 52 = .ok (.ifCond .lt 8, 3) := by decide +kernel
theorem d_Model_link_55 : decode b_Model_link 55 = .ok (.iload 5, 2) := by decide +kernel
