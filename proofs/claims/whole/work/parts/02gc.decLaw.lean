theorem d_Law_law_158 : decode b_Law_law 158 = .ok (.lor, 1) := by decide +kernel
theorem d_Law_law_159 : decode b_Law_law 159 = .ok (.aload_n 0, 1) := by decide +kernel
theorem d_Law_law_160 : decode b_Law_law 160 = .ok (.iload 4, 2) := by decide +kernel
theorem d_Law_law_162 : decode b_Law_law 162 = .ok (.iconst 3, 1) := by decide +kernel
theorem d_Law_law_163 : decode b_Law_law 163 = .ok (.iadd, 1) := by decide +kernel
theorem d_Law_law_164 : decode b_Law_law 164 = .ok (.iaload, 1) := by decide +kernel
theorem d_Law_law_165 : decode b_Law_law 165 = .ok (.invokevirtual 54, 3) := by decide +kernel
theorem d_Law_law_168 : decode b_Law_law 168 = .ok (.aload_n 2, 1) := by decide +kernel
theorem d_Law_law_169 : decode b_Law_law 169 = .ok (.aload_n 0, 1) := by decide +kernel
theorem d_Law_law_170 : decode b_Law_law 170 = .ok (.iload 4, 2) := by decide +kernel
theorem d_Law_law_172 : decode b_Law_law 172 = .ok (.iconst 1, 1) := by decide +kernel
theorem d_Law_law_173 : decode b_Law_law 173 = .ok (.iadd, 1) := by decide +kernel
theorem d_Law_law_174 : decode b_Law_law 174 = .ok (.iaload, 1) := by decide +kernel
theorem d_Law_law_175 : decode b_Law_law 175 = .ok (.i2l, 1) := by decide +kernel
theorem d_Law_law_176 : decode b_Law_law 176 = .ok (.bipush 32, 2) := by decide +kernel
theorem d_Law_law_178 : decode b_Law_law 178 = .ok (.lshl, 1) := by decide +kernel
theorem d_Law_law_179 : decode b_Law_law 179 = .ok (.aload_n 0, 1) := by decide +kernel
theorem d_Law_law_180 : decode b_Law_law 180 = .ok (.iload 4, 2) := by decide +kernel
theorem d_Law_law_182 : decode b_Law_law 182 = .ok (.iconst 2, 1) := by decide +kernel
theorem d_Law_law_183 : decode b_Law_law 183 = .ok (.iadd, 1) := by decide +kernel
theorem d_Law_law_184 : decode b_Law_law 184 = .ok (.iaload, 1) := by decide +kernel
theorem d_Law_law_185 : decode b_Law_law 185 = .ok (.i2l, 1) := by decide +kernel
theorem d_Law_law_186 : decode b_Law_law 186 = .ok (.ldc2_w 52, 3) := by decide +kernel
theorem d_Law_law_189 : decode b_Law_law 189 = .ok (.land, 1) := by decide +kernel
theorem d_Law_law_190 : decode b_Law_law 190 = .ok (.lor, 1) := by decide +kernel
theorem d_Law_law_191 : decode b_Law_law 191 = .ok (.aload_n 0, 1) := by decide +kernel
theorem d_Law_law_192 : decode b_Law_law 192 = .ok (.iload 4, 2) := by decide +kernel
theorem d_Law_law_194 : decode b_Law_law 194 = .ok (.iconst 3, 1) := by decide +kernel
theorem d_Law_law_195 : decode b_Law_law 195 = .ok (.iadd, 1) := by decide +kernel
theorem d_Law_law_196 : decode b_Law_law 196 = .ok (.iaload, 1) := by decide +kernel
theorem d_Law_law_197 : decode b_Law_law 197 = .ok (.invokevirtual 58, 3) := by decide +kernel
theorem d_Law_law_200 : decode b_Law_law 200 = .ok (.if_icmp .eq 914, 3) := by decide +kernel
theorem d_Law_law_203 : decode b_Law_law 203 = .ok (.iconst 0, 1) := by decide +kernel
theorem d_Law_law_204 : decode b_Law_law 204 = .ok (.ireturn, 1) := by decide +kernel
theorem d_Law_law_205 : decode b_Law_law 205 = .ok (.aload_n 1, 1) := by decide +kernel
theorem d_Law_law_206 : decode b_Law_law 206 = .ok (.aload_n 3, 1) := by decide +kernel
theorem d_Law_law_207 : decode b_Law_law 207 = .ok (.invokestatic 59, 3) := by decide +kernel
theorem d_Law_law_210 : decode b_Law_law 210 = .ok (.istore 5, 2) := by decide +kernel
theorem d_Law_law_212 : decode b_Law_law 212 = .ok (.aload_n 2, 1) := by decide +kernel
theorem d_Law_law_213 : decode b_Law_law 213 = .ok (.invokevirtual 64, 3) := by decide +kernel
theorem d_Law_law_216 : decode b_Law_law 216 = .ok (.istore 6, 2) := by decide +kernel
theorem d_Law_law_218 : decode b_Law_law 218 = .ok (.aload_n 2, 1) := by decide +kernel
theorem d_Law_law_219 : decode b_Law_law 219 = .ok (.invokevirtual 65, 3) := by decide +kernel
theorem d_Law_law_222 : decode b_Law_law 222 = .ok (.iload 5, 2) := by decide +kernel
theorem d_Law_law_224 : decode b_Law_law 224 = .ok (.if_icmp .eq 5, 3) := by decide +kernel
theorem d_Law_law_227 : decode b_Law_law 227 = .ok (.iconst 0, 1) := by decide +kernel
theorem d_Law_law_228 : decode b_Law_law 228 = .ok (.ireturn, 1) := by decide +kernel
theorem d_Law_law_229 : decode b_Law_law 229 = .ok (.iload 5, 2) := by decide +kernel
theorem d_Law_law_231 : decode b_Law_law 231 = .ok (.ifCond .ne 15, 3) := by decide +kernel
theorem d_Law_law_234 : decode b_Law_law 234 = .ok (.aload_n 3, 1) := by decide +kernel
theorem d_Law_law_235 : decode b_Law_law 235 = .ok (.iconst 0, 1) := by decide +kernel
theorem d_Law_law_236 : decode b_Law_law 236 = .ok (.laload, 1) := by decide +kernel
theorem d_Law_law_237 : decode b_Law_law 237 = .ok (.iload 6, 2) := by decide +kernel
theorem d_Law_law_239 : decode b_Law_law 239 = .ok (.i2l, 1) := by decide +kernel
theorem d_Law_law_240 : decode b_Law_law 240 = .ok (.lcmp, 1) := by decide +kernel
theorem d_Law_law_241 : decode b_Law_law 241 = .ok (.ifCond .eq 5, 3) := by decide +kernel
theorem d_Law_law_244 : decode b_Law_law 244 = .ok (.iconst 0, 1) := by decide +kernel
theorem d_Law_law_245 : decode b_Law_law 245 = .ok (.ireturn, 1) := by decide +kernel
theorem d_Law_law_246 : decode b_Law_law 246 = .ok (.goto 868, 3) := by decide +kernel
theorem d_Law_law_249 : decode b_Law_law 249 = .ok (.aload_n 1, 1) := by decide +kernel
theorem d_Law_law_250 : decode b_Law_law 250 = .ok (.aload_n 0, 1) := by decide +kernel
theorem d_Law_law_251 : decode b_Law_law 251 = .ok (.iload 4, 2) := by decide +kernel
theorem d_Law_law_253 : decode b_Law_law 253 = .ok (.iconst 1, 1) := by decide +kernel
theorem d_Law_law_254 : decode b_Law_law 254 = .ok (.iadd, 1) := by decide +kernel
theorem d_Law_law_255 : decode b_Law_law 255 = .ok (.iaload, 1) := by decide +kernel
theorem d_Law_law_256 : decode b_Law_law 256 = .ok (.aload_n 0, 1) := by decide +kernel
theorem d_Law_law_257 : decode b_Law_law 257 = .ok (.iload 4, 2) := by decide +kernel
theorem d_Law_law_259 : decode b_Law_law 259 = .ok (.iconst 2, 1) := by decide +kernel
theorem d_Law_law_260 : decode b_Law_law 260 = .ok (.iadd, 1) := by decide +kernel
theorem d_Law_law_261 : decode b_Law_law 261 = .ok (.iaload, 1) := by decide +kernel
theorem d_Law_law_262 : decode b_Law_law 262 = .ok (.aload_n 0, 1) := by decide +kernel
theorem d_Law_law_263 : decode b_Law_law 263 = .ok (.iload 4, 2) := by decide +kernel
theorem d_Law_law_265 : decode b_Law_law 265 = .ok (.iconst 3, 1) := by decide +kernel
theorem d_Law_law_266 : decode b_Law_law 266 = .ok (.iadd, 1) := by decide +kernel
theorem d_Law_law_267 : decode b_Law_law 267 = .ok (.iaload, 1) := by decide +kernel
theorem d_Law_law_268 : decode b_Law_law 268 = .ok (.ifCond .eq 7, 3) := by decide +kernel
theorem d_Law_law_271 : decode b_Law_law 271 = .ok (.iconst 1, 1) := by decide +kernel
theorem d_Law_law_272 : decode b_Law_law 272 = .ok (.goto 4, 3) := by decide +kernel
theorem d_Law_law_275 : decode b_Law_law 275 = .ok (.iconst 0, 1) := by decide +kernel
theorem d_Law_law_276 : decode b_Law_law 276 = .ok (.aload_n 3, 1) := by decide +kernel
theorem d_Law_law_277 : decode b_Law_law 277 = .ok (.invokestatic 68, 3) := by decide +kernel
theorem d_Law_law_280 : decode b_Law_law 280 = .ok (.istore 5, 2) := by decide +kernel
theorem d_Law_law_282 : decode b_Law_law 282 = .ok (.aload_n 2, 1) := by decide +kernel
theorem d_Law_law_283 : decode b_Law_law 283 = .ok (.aload_n 0, 1) := by decide +kernel
theorem d_Law_law_284 : decode b_Law_law 284 = .ok (.iload 4, 2) := by decide +kernel
theorem d_Law_law_286 : decode b_Law_law 286 = .ok (.iconst 1, 1) := by decide +kernel
theorem d_Law_law_287 : decode b_Law_law 287 = .ok (.iadd, 1) := by decide +kernel
theorem d_Law_law_288 : decode b_Law_law 288 = .ok (.iaload, 1) := by decide +kernel
theorem d_Law_law_289 : decode b_Law_law 289 = .ok (.aload_n 0, 1) := by decide +kernel
theorem d_Law_law_290 : decode b_Law_law 290 = .ok (.iload 4, 2) := by decide +kernel
theorem d_Law_law_292 : decode b_Law_law 292 = .ok (.iconst 2, 1) := by decide +kernel
theorem d_Law_law_293 : decode b_Law_law 293 = .ok (.iadd, 1) := by decide +kernel
theorem d_Law_law_294 : decode b_Law_law 294 = .ok (.iaload, 1) := by decide +kernel
theorem d_Law_law_295 : decode b_Law_law 295 = .ok (.aload_n 0, 1) := by decide +kernel
theorem d_Law_law_296 : decode b_Law_law 296 = .ok (.iload 4, 2) := by decide +kernel
theorem d_Law_law_298 : decode b_Law_law 298 = .ok (.iconst 3, 1) := by decide +kernel
theorem d_Law_law_299 : decode b_Law_law 299 = .ok (.iadd, 1) := by decide +kernel
theorem d_Law_law_300 : decode b_Law_law 300 = .ok (.iaload, 1) := by decide +kernel
theorem d_Law_law_301 : decode b_Law_law 301 = .ok (.ifCond .eq 7, 3) := by decide +kernel
theorem d_Law_law_304 : decode b_Law_law 304 = .ok (.iconst 1, 1) := by decide +kernel
