theorem dL_act_174 : decode cL_act 174 = .ok (.bipush 7, 2) := by decide +kernel
theorem dL_act_176 : decode cL_act 176 = .ok (.invokevirtual 31, 3) := by decide +kernel
theorem dL_act_179 : decode cL_act 179 = .ok (.iload 8, 2) := by decide +kernel
theorem dL_act_181 : decode cL_act 181 = .ok (.iconst 1, 1) := by decide +kernel
theorem dL_act_182 : decode cL_act 182 = .ok (.iadd, 1) := by decide +kernel
theorem dL_act_183 : decode cL_act 183 = .ok (.if_icmp .ne 19, 3) := by decide +kernel
theorem dL_act_186 : decode cL_act 186 = .ok (.aload_n 0, 1) := by decide +kernel
theorem dL_act_187 : decode cL_act 187 = .ok (.iload 4, 2) := by decide +kernel
theorem dL_act_189 : decode cL_act 189 = .ok (.iload 5, 2) := by decide +kernel
theorem dL_act_191 : decode cL_act 191 = .ok (.iconst 0, 1) := by decide +kernel
theorem dL_act_192 : decode cL_act 192 = .ok (.invokevirtual 10, 3) := by decide +kernel
theorem dL_act_195 : decode cL_act 195 = .ok (.ifCond .ne 7, 3) := by decide +kernel
theorem dL_act_198 : decode cL_act 198 = .ok (.iconst 1, 1) := by decide +kernel
theorem dL_act_199 : decode cL_act 199 = .ok (.goto 4, 3) := by decide +kernel
theorem dL_act_202 : decode cL_act 202 = .ok (.iconst 0, 1) := by decide +kernel
theorem dL_act_203 : decode cL_act 203 = .ok (.ireturn, 1) := by decide +kernel
theorem dL_act_204 : decode cL_act 204 = .ok (.iload 10, 2) := by decide +kernel
theorem dL_act_206 : decode cL_act 206 = .ok (.iconst 1, 1) := by decide +kernel
theorem dL_act_207 : decode cL_act 207 = .ok (.iload 9, 2) := by decide +kernel
theorem dL_act_209 : decode cL_act 209 = .ok (.isub, 1) := by decide +kernel
theorem dL_act_210 : decode cL_act 210 = .ok (.if_icmp .ne 52, 3) := by decide +kernel
theorem dL_act_213 : decode cL_act 213 = .ok (.aload_n 0, 1) := by decide +kernel
theorem dL_act_214 : decode cL_act 214 = .ok (.iload 4, 2) := by decide +kernel
theorem dL_act_216 : decode cL_act 216 = .ok (.iload 5, 2) := by decide +kernel
theorem dL_act_218 : decode cL_act 218 = .ok (.iconst 0, 1) := by decide +kernel
theorem dL_act_219 : decode cL_act 219 = .ok (.invokevirtual 10, 3) := by decide +kernel
theorem dL_act_222 : decode cL_act 222 = .ok (.iload 10, 2) := by decide +kernel
theorem dL_act_224 : decode cL_act 224 = .ok (.if_icmp .ne 38, 3) := by decide +kernel
theorem dL_act_227 : decode cL_act 227 = .ok (.aload_n 0, 1) := by decide +kernel
theorem dL_act_228 : decode cL_act 228 = .ok (.iconst 2, 1) := by decide +kernel
theorem dL_act_229 : decode cL_act 229 = .ok (.invokevirtual 31, 3) := by decide +kernel
theorem dL_act_232 : decode cL_act 232 = .ok (.iload 6, 2) := by decide +kernel
theorem dL_act_234 : decode cL_act 234 = .ok (.if_icmp .ne 28, 3) := by decide +kernel
theorem dL_act_237 : decode cL_act 237 = .ok (.aload_n 0, 1) := by decide +kernel
theorem dL_act_238 : decode cL_act 238 = .ok (.iconst 3, 1) := by decide +kernel
theorem dL_act_239 : decode cL_act 239 = .ok (.invokevirtual 31, 3) := by decide +kernel
theorem dL_act_242 : decode cL_act 242 = .ok (.iload 7, 2) := by decide +kernel
theorem dL_act_244 : decode cL_act 244 = .ok (.if_icmp .gt 18, 3) := by decide +kernel
theorem dL_act_247 : decode cL_act 247 = .ok (.aload_n 0, 1) := by decide +kernel
theorem dL_act_248 : decode cL_act 248 = .ok (.bipush 7, 2) := by decide +kernel
theorem dL_act_250 : decode cL_act 250 = .ok (.invokevirtual 31, 3) := by decide +kernel
theorem dL_act_253 : decode cL_act 253 = .ok (.iload 8, 2) := by decide +kernel
theorem dL_act_255 : decode cL_act 255 = .ok (.if_icmp .ne 7, 3) := by decide +kernel
theorem dL_act_258 : decode cL_act 258 = .ok (.iconst 1, 1) := by decide +kernel
theorem dL_act_259 : decode cL_act 259 = .ok (.goto 4, 3) := by decide +kernel
theorem dL_act_262 : decode cL_act 262 = .ok (.iconst 0, 1) := by decide +kernel
theorem dL_act_263 : decode cL_act 263 = .ok (.istore 11, 2) := by decide +kernel
theorem dL_act_265 : decode cL_act 265 = .ok (.iload 11, 2) := by decide +kernel
theorem dL_act_267 : decode cL_act 267 = .ok (.ifCond .eq 80, 3) := by decide +kernel
theorem dL_act_270 : decode cL_act 270 = .ok (.iload 4, 2) := by decide +kernel
theorem dL_act_272 : decode cL_act 272 = .ok (.iload 6, 2) := by decide +kernel
theorem dL_act_274 : decode cL_act 274 = .ok (.if_icmp .eq 73, 3) := by decide +kernel
theorem dL_act_277 : decode cL_act 277 = .ok (.aload_n 0, 1) := by decide +kernel
theorem dL_act_278 : decode cL_act 278 = .ok (.iconst 1, 1) := by decide +kernel
theorem dL_act_279 : decode cL_act 279 = .ok (.invokevirtual 31, 3) := by decide +kernel
theorem dL_act_282 : decode cL_act 282 = .ok (.istore 12, 2) := by decide +kernel
theorem dL_act_284 : decode cL_act 284 = .ok (.aload_n 0, 1) := by decide +kernel
theorem dL_act_285 : decode cL_act 285 = .ok (.iconst 3, 1) := by decide +kernel
theorem dL_act_286 : decode cL_act 286 = .ok (.invokevirtual 31, 3) := by decide +kernel
theorem dL_act_289 : decode cL_act 289 = .ok (.iload 7, 2) := by decide +kernel
theorem dL_act_291 : decode cL_act 291 = .ok (.if_icmp .ne 53, 3) := by decide +kernel
theorem dL_act_294 : decode cL_act 294 = .ok (.aload_n 0, 1) := by decide +kernel
theorem dL_act_295 : decode cL_act 295 = .ok (.iload 4, 2) := by decide +kernel
theorem dL_act_297 : decode cL_act 297 = .ok (.iload 5, 2) := by decide +kernel
theorem dL_act_299 : decode cL_act 299 = .ok (.invokevirtual 57, 3) := by decide +kernel
theorem dL_act_302 : decode cL_act 302 = .ok (.iload 9, 2) := by decide +kernel
theorem dL_act_304 : decode cL_act 304 = .ok (.if_icmp .ne 40, 3) := by decide +kernel
theorem dL_act_307 : decode cL_act 307 = .ok (.aload_n 0, 1) := by decide +kernel
theorem dL_act_308 : decode cL_act 308 = .ok (.iload 4, 2) := by decide +kernel
theorem dL_act_310 : decode cL_act 310 = .ok (.iload 5, 2) := by decide +kernel
theorem dL_act_312 : decode cL_act 312 = .ok (.invokevirtual 57, 3) := by decide +kernel
theorem dL_act_315 : decode cL_act 315 = .ok (.iload 10, 2) := by decide +kernel
theorem dL_act_317 : decode cL_act 317 = .ok (.if_icmp .ne 27, 3) := by decide +kernel
theorem dL_act_320 : decode cL_act 320 = .ok (.aload_n 0, 1) := by decide +kernel
theorem dL_act_321 : decode cL_act 321 = .ok (.iconst 1, 1) := by decide +kernel
theorem dL_act_322 : decode cL_act 322 = .ok (.invokevirtual 31, 3) := by decide +kernel
theorem dL_act_325 : decode cL_act 325 = .ok (.iload 12, 2) := by decide +kernel
theorem dL_act_327 : decode cL_act 327 = .ok (.if_icmp .ne 17, 3) := by decide +kernel
theorem dL_act_330 : decode cL_act 330 = .ok (.aload_n 0, 1) := by decide +kernel
theorem dL_act_331 : decode cL_act 331 = .ok (.iconst 3, 1) := by decide +kernel
theorem dL_act_332 : decode cL_act 332 = .ok (.invokevirtual 31, 3) := by decide +kernel
theorem dL_act_335 : decode cL_act 335 = .ok (.iload 7, 2) := by decide +kernel
theorem dL_act_337 : decode cL_act 337 = .ok (.if_icmp .ne 7, 3) := by decide +kernel
theorem dL_act_340 : decode cL_act 340 = .ok (.iconst 1, 1) := by decide +kernel
theorem dL_act_341 : decode cL_act 341 = .ok (.goto 4, 3) := by decide +kernel
theorem dL_act_344 : decode cL_act 344 = .ok (.iconst 0, 1) := by decide +kernel
theorem dL_act_345 : decode cL_act 345 = .ok (.istore 11, 2) := by decide +kernel
