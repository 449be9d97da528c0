/-! decode rows of the law -/
theorem dlaw_0 : decode code 0 = .ok (.new 7, 3) := by decide +kernel
theorem dlaw_3 : decode code 3 = .ok (.dup, 1) := by decide +kernel
theorem dlaw_4 : decode code 4 = .ok (.invokespecial 9, 3) := by decide +kernel
theorem dlaw_7 : decode code 7 = .ok (.astore_n 1, 1) := by decide +kernel
theorem dlaw_8 : decode code 8 = .ok (.new 10, 3) := by decide +kernel
theorem dlaw_11 : decode code 11 = .ok (.dup, 1) := by decide +kernel
theorem dlaw_12 : decode code 12 = .ok (.invokespecial 12, 3) := by decide +kernel
theorem dlaw_15 : decode code 15 = .ok (.astore_n 2, 1) := by decide +kernel
theorem dlaw_16 : decode code 16 = .ok (.iconst 0, 1) := by decide +kernel
theorem dlaw_17 : decode code 17 = .ok (.istore_n 3, 1) := by decide +kernel
theorem dlaw_18 : decode code 18 = .ok (.iload_n 3, 1) := by decide +kernel
theorem dlaw_19 : decode code 19 = .ok (.aload_n 0, 1) := by decide +kernel
theorem dlaw_20 : decode code 20 = .ok (.arraylength, 1) := by decide +kernel
theorem dlaw_21 : decode code 21 = .ok (.iconst 5, 1) := by decide +kernel
theorem dlaw_22 : decode code 22 = .ok (.isub, 1) := by decide +kernel
theorem dlaw_23 : decode code 23 = .ok (.if_icmp .gt 1113, 3) := by decide +kernel
theorem dlaw_26 : decode code 26 = .ok (.aload_n 0, 1) := by decide +kernel
theorem dlaw_27 : decode code 27 = .ok (.iload_n 3, 1) := by decide +kernel
theorem dlaw_28 : decode code 28 = .ok (.iaload, 1) := by decide +kernel
theorem dlaw_29 : decode code 29 = .ok (.bipush 63, 2) := by decide +kernel
theorem dlaw_31 : decode code 31 = .ok (.iand, 1) := by decide +kernel
theorem dlaw_32 : decode code 32 = .ok (.tableswitch 1098 0 32 #[148, 191, 224, 257, 290, 313, 326, 359, 382, 395, 418, 441, 474, 507, 530, 563, 596, 629, 652, 705, 718, 741, 764, 797, 830, 903, 937, 990, 1023, 1036, 1049, 1062, 1075], 148) := by decide +kernel
theorem dlaw_180 : decode code 180 = .ok (.aload_n 1, 1) := by decide +kernel
theorem dlaw_181 : decode code 181 = .ok (.aload_n 0, 1) := by decide +kernel
theorem dlaw_182 : decode code 182 = .ok (.iload_n 3, 1) := by decide +kernel
theorem dlaw_183 : decode code 183 = .ok (.iconst 1, 1) := by decide +kernel
theorem dlaw_184 : decode code 184 = .ok (.iadd, 1) := by decide +kernel
theorem dlaw_185 : decode code 185 = .ok (.iaload, 1) := by decide +kernel
theorem dlaw_186 : decode code 186 = .ok (.aload_n 0, 1) := by decide +kernel
theorem dlaw_187 : decode code 187 = .ok (.iload_n 3, 1) := by decide +kernel
theorem dlaw_188 : decode code 188 = .ok (.iconst 2, 1) := by decide +kernel
theorem dlaw_189 : decode code 189 = .ok (.iadd, 1) := by decide +kernel
theorem dlaw_190 : decode code 190 = .ok (.iaload, 1) := by decide +kernel
theorem dlaw_191 : decode code 191 = .ok (.aload_n 0, 1) := by decide +kernel
theorem dlaw_192 : decode code 192 = .ok (.iload_n 3, 1) := by decide +kernel
theorem dlaw_193 : decode code 193 = .ok (.iconst 3, 1) := by decide +kernel
theorem dlaw_194 : decode code 194 = .ok (.iadd, 1) := by decide +kernel
theorem dlaw_195 : decode code 195 = .ok (.iaload, 1) := by decide +kernel
theorem dlaw_196 : decode code 196 = .ok (.invokevirtual 13, 3) := by decide +kernel
theorem dlaw_199 : decode code 199 = .ok (.aload_n 2, 1) := by decide +kernel
theorem dlaw_200 : decode code 200 = .ok (.aload_n 0, 1) := by decide +kernel
theorem dlaw_201 : decode code 201 = .ok (.iload_n 3, 1) := by decide +kernel
theorem dlaw_202 : decode code 202 = .ok (.iconst 1, 1) := by decide +kernel
theorem dlaw_203 : decode code 203 = .ok (.iadd, 1) := by decide +kernel
theorem dlaw_204 : decode code 204 = .ok (.iaload, 1) := by decide +kernel
theorem dlaw_205 : decode code 205 = .ok (.aload_n 0, 1) := by decide +kernel
theorem dlaw_206 : decode code 206 = .ok (.iload_n 3, 1) := by decide +kernel
theorem dlaw_207 : decode code 207 = .ok (.iconst 2, 1) := by decide +kernel
theorem dlaw_208 : decode code 208 = .ok (.iadd, 1) := by decide +kernel
theorem dlaw_209 : decode code 209 = .ok (.iaload, 1) := by decide +kernel
theorem dlaw_210 : decode code 210 = .ok (.aload_n 0, 1) := by decide +kernel
theorem dlaw_211 : decode code 211 = .ok (.iload_n 3, 1) := by decide +kernel
theorem dlaw_212 : decode code 212 = .ok (.iconst 3, 1) := by decide +kernel
theorem dlaw_213 : decode code 213 = .ok (.iadd, 1) := by decide +kernel
theorem dlaw_214 : decode code 214 = .ok (.iaload, 1) := by decide +kernel
theorem dlaw_215 : decode code 215 = .ok (.invokevirtual 17, 3) := by decide +kernel
theorem dlaw_218 : decode code 218 = .ok (.if_icmp .eq 912, 3) := by decide +kernel
theorem dlaw_221 : decode code 221 = .ok (.iconst 0, 1) := by decide +kernel
theorem dlaw_222 : decode code 222 = .ok (.ireturn, 1) := by decide +kernel
theorem dlaw_223 : decode code 223 = .ok (.aload_n 1, 1) := by decide +kernel
theorem dlaw_224 : decode code 224 = .ok (.aload_n 0, 1) := by decide +kernel
theorem dlaw_225 : decode code 225 = .ok (.iload_n 3, 1) := by decide +kernel
theorem dlaw_226 : decode code 226 = .ok (.iconst 1, 1) := by decide +kernel
theorem dlaw_227 : decode code 227 = .ok (.iadd, 1) := by decide +kernel
theorem dlaw_228 : decode code 228 = .ok (.iaload, 1) := by decide +kernel
theorem dlaw_229 : decode code 229 = .ok (.aload_n 0, 1) := by decide +kernel
theorem dlaw_230 : decode code 230 = .ok (.iload_n 3, 1) := by decide +kernel
theorem dlaw_231 : decode code 231 = .ok (.iconst 2, 1) := by decide +kernel
theorem dlaw_232 : decode code 232 = .ok (.iadd, 1) := by decide +kernel
theorem dlaw_233 : decode code 233 = .ok (.iaload, 1) := by decide +kernel
theorem dlaw_234 : decode code 234 = .ok (.invokevirtual 18, 3) := by decide +kernel
theorem dlaw_237 : decode code 237 = .ok (.aload_n 2, 1) := by decide +kernel
theorem dlaw_238 : decode code 238 = .ok (.aload_n 0, 1) := by decide +kernel
theorem dlaw_239 : decode code 239 = .ok (.iload_n 3, 1) := by decide +kernel
theorem dlaw_240 : decode code 240 = .ok (.iconst 1, 1) := by decide +kernel
theorem dlaw_241 : decode code 241 = .ok (.iadd, 1) := by decide +kernel
theorem dlaw_242 : decode code 242 = .ok (.iaload, 1) := by decide +kernel
theorem dlaw_243 : decode code 243 = .ok (.aload_n 0, 1) := by decide +kernel
theorem dlaw_244 : decode code 244 = .ok (.iload_n 3, 1) := by decide +kernel
theorem dlaw_245 : decode code 245 = .ok (.iconst 2, 1) := by decide +kernel
theorem dlaw_246 : decode code 246 = .ok (.iadd, 1) := by decide +kernel
theorem dlaw_247 : decode code 247 = .ok (.iaload, 1) := by decide +kernel
theorem dlaw_248 : decode code 248 = .ok (.invokevirtual 22, 3) := by decide +kernel
theorem dlaw_251 : decode code 251 = .ok (.if_icmp .eq 879, 3) := by decide +kernel
theorem dlaw_254 : decode code 254 = .ok (.iconst 0, 1) := by decide +kernel
theorem dlaw_255 : decode code 255 = .ok (.ireturn, 1) := by decide +kernel
theorem dlaw_256 : decode code 256 = .ok (.aload_n 1, 1) := by decide +kernel
theorem dlaw_257 : decode code 257 = .ok (.aload_n 0, 1) := by decide +kernel
theorem dlaw_258 : decode code 258 = .ok (.iload_n 3, 1) := by decide +kernel
theorem dlaw_259 : decode code 259 = .ok (.iconst 1, 1) := by decide +kernel
theorem dlaw_260 : decode code 260 = .ok (.iadd, 1) := by decide +kernel
theorem dlaw_261 : decode code 261 = .ok (.iaload, 1) := by decide +kernel
theorem dlaw_262 : decode code 262 = .ok (.aload_n 0, 1) := by decide +kernel
theorem dlaw_263 : decode code 263 = .ok (.iload_n 3, 1) := by decide +kernel
theorem dlaw_264 : decode code 264 = .ok (.iconst 2, 1) := by decide +kernel
theorem dlaw_265 : decode code 265 = .ok (.iadd, 1) := by decide +kernel
theorem dlaw_266 : decode code 266 = .ok (.iaload, 1) := by decide +kernel
theorem dlaw_267 : decode code 267 = .ok (.invokevirtual 23, 3) := by decide +kernel
theorem dlaw_270 : decode code 270 = .ok (.aload_n 2, 1) := by decide +kernel
theorem dlaw_271 : decode code 271 = .ok (.aload_n 0, 1) := by decide +kernel
theorem dlaw_272 : decode code 272 = .ok (.iload_n 3, 1) := by decide +kernel
theorem dlaw_273 : decode code 273 = .ok (.iconst 1, 1) := by decide +kernel
theorem dlaw_274 : decode code 274 = .ok (.iadd, 1) := by decide +kernel
theorem dlaw_275 : decode code 275 = .ok (.iaload, 1) := by decide +kernel
theorem dlaw_276 : decode code 276 = .ok (.aload_n 0, 1) := by decide +kernel
theorem dlaw_277 : decode code 277 = .ok (.iload_n 3, 1) := by decide +kernel
theorem dlaw_278 : decode code 278 = .ok (.iconst 2, 1) := by decide +kernel
theorem dlaw_279 : decode code 279 = .ok (.iadd, 1) := by decide +kernel
theorem dlaw_280 : decode code 280 = .ok (.iaload, 1) := by decide +kernel
theorem dlaw_281 : decode code 281 = .ok (.invokevirtual 26, 3) := by decide +kernel
theorem dlaw_284 : decode code 284 = .ok (.if_icmp .eq 846, 3) := by decide +kernel
theorem dlaw_287 : decode code 287 = .ok (.iconst 0, 1) := by decide +kernel
theorem dlaw_288 : decode code 288 = .ok (.ireturn, 1) := by decide +kernel
theorem dlaw_289 : decode code 289 = .ok (.aload_n 1, 1) := by decide +kernel
theorem dlaw_290 : decode code 290 = .ok (.aload_n 0, 1) := by decide +kernel
theorem dlaw_291 : decode code 291 = .ok (.iload_n 3, 1) := by decide +kernel
theorem dlaw_292 : decode code 292 = .ok (.iconst 1, 1) := by decide +kernel
theorem dlaw_293 : decode code 293 = .ok (.iadd, 1) := by decide +kernel
theorem dlaw_294 : decode code 294 = .ok (.iaload, 1) := by decide +kernel
theorem dlaw_295 : decode code 295 = .ok (.aload_n 0, 1) := by decide +kernel
theorem dlaw_296 : decode code 296 = .ok (.iload_n 3, 1) := by decide +kernel
theorem dlaw_297 : decode code 297 = .ok (.iconst 2, 1) := by decide +kernel
theorem dlaw_298 : decode code 298 = .ok (.iadd, 1) := by decide +kernel
theorem dlaw_299 : decode code 299 = .ok (.iaload, 1) := by decide +kernel
theorem dlaw_300 : decode code 300 = .ok (.invokevirtual 27, 3) := by decide +kernel
theorem dlaw_303 : decode code 303 = .ok (.aload_n 2, 1) := by decide +kernel
theorem dlaw_304 : decode code 304 = .ok (.aload_n 0, 1) := by decide +kernel
theorem dlaw_305 : decode code 305 = .ok (.iload_n 3, 1) := by decide +kernel
theorem dlaw_306 : decode code 306 = .ok (.iconst 1, 1) := by decide +kernel
theorem dlaw_307 : decode code 307 = .ok (.iadd, 1) := by decide +kernel
