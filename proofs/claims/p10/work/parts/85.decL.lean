noncomputable def dkL85decL_0 : List (ByteArray × Nat × Instr × Nat) := [(cL_law, 0, (.new 7, 3)), (cL_law, 3, (.dup, 1)), (cL_law, 4, (.invokespecial 9, 3)), (cL_law, 7, (.astore_n 1, 1)), (cL_law, 8, (.new 10, 3)), (cL_law, 11, (.dup, 1)), (cL_law, 12, (.invokespecial 12, 3)), (cL_law, 15, (.astore_n 2, 1)), (cL_law, 16, (.iconst 0, 1)), (cL_law, 17, (.istore_n 3, 1)), (cL_law, 18, (.iload_n 3, 1)), (cL_law, 19, (.aload_n 0, 1)), (cL_law, 20, (.arraylength, 1)), (cL_law, 21, (.bipush 6, 2)), (cL_law, 23, (.isub, 1)), (cL_law, 24, (.if_icmp .gt 1767, 3)), (cL_law, 27, (.aload_n 0, 1)), (cL_law, 28, (.iload_n 3, 1)), (cL_law, 29, (.iaload, 1)), (cL_law, 30, (.bipush 63, 2)), (cL_law, 32, (.iand, 1)), (cL_law, 33, (.tableswitch 1752 0 40 #[179, 222, 285, 318, 341, 364, 427, 440, 463, 526, 549, 582, 625, 658, 701, 734, 797, 860, 893, 916, 939, 982, 1035, 1088, 1151, 1184, 1207, 1250, 1303, 1346, 1369, 1382, 1425, 1458, 1521, 1554, 1607, 1620, 1633, 1676, 1699], 179)), (cL_law, 212, (.aload_n 1, 1)), (cL_law, 213, (.aload_n 0, 1)), (cL_law, 214, (.iload_n 3, 1)), (cL_law, 215, (.iconst 1, 1)), (cL_law, 216, (.iadd, 1)), (cL_law, 217, (.iaload, 1)), (cL_law, 218, (.aload_n 0, 1)), (cL_law, 219, (.iload_n 3, 1)), (cL_law, 220, (.iconst 2, 1)), (cL_law, 221, (.iadd, 1)), (cL_law, 222, (.iaload, 1)), (cL_law, 223, (.aload_n 0, 1)), (cL_law, 224, (.iload_n 3, 1)), (cL_law, 225, (.iconst 3, 1)), (cL_law, 226, (.iadd, 1)), (cL_law, 227, (.iaload, 1)), (cL_law, 228, (.invokevirtual 13, 3)), (cL_law, 231, (.pop, 1)), (cL_law, 232, (.aload_n 2, 1)), (cL_law, 233, (.aload_n 0, 1)), (cL_law, 234, (.iload_n 3, 1)), (cL_law, 235, (.iconst 1, 1)), (cL_law, 236, (.iadd, 1)), (cL_law, 237, (.iaload, 1)), (cL_law, 238, (.aload_n 0, 1)), (cL_law, 239, (.iload_n 3, 1)), (cL_law, 240, (.iconst 2, 1)), (cL_law, 241, (.iadd, 1)), (cL_law, 242, (.iaload, 1)), (cL_law, 243, (.aload_n 0, 1)), (cL_law, 244, (.iload_n 3, 1)), (cL_law, 245, (.iconst 3, 1)), (cL_law, 246, (.iadd, 1)), (cL_law, 247, (.iaload, 1)), (cL_law, 248, (.invokevirtual 17, 3)), (cL_law, 251, (.pop, 1)), (cL_law, 252, (.goto 1533, 3)), (cL_law, 255, (.aload_n 1, 1))]
theorem dkB85decL_0 : dkL85decL_0.all (fun q => decide (decode q.1 q.2.1 = .ok q.2.2)) = true := by decide +kernel
theorem dL_law_0 : decode cL_law 0 = .ok (.new 7, 3) := dk_at dkB85decL_0 0 rfl
theorem dL_law_3 : decode cL_law 3 = .ok (.dup, 1) := dk_at dkB85decL_0 1 rfl
theorem dL_law_4 : decode cL_law 4 = .ok (.invokespecial 9, 3) := dk_at dkB85decL_0 2 rfl
theorem dL_law_7 : decode cL_law 7 = .ok (.astore_n 1, 1) := dk_at dkB85decL_0 3 rfl
theorem dL_law_8 : decode cL_law 8 = .ok (.new 10, 3) := dk_at dkB85decL_0 4 rfl
theorem dL_law_11 : decode cL_law 11 = .ok (.dup, 1) := dk_at dkB85decL_0 5 rfl
theorem dL_law_12 : decode cL_law 12 = .ok (.invokespecial 12, 3) := dk_at dkB85decL_0 6 rfl
theorem dL_law_15 : decode cL_law 15 = .ok (.astore_n 2, 1) := dk_at dkB85decL_0 7 rfl
theorem dL_law_16 : decode cL_law 16 = .ok (.iconst 0, 1) := dk_at dkB85decL_0 8 rfl
theorem dL_law_17 : decode cL_law 17 = .ok (.istore_n 3, 1) := dk_at dkB85decL_0 9 rfl
theorem dL_law_18 : decode cL_law 18 = .ok (.iload_n 3, 1) := dk_at dkB85decL_0 10 rfl
theorem dL_law_19 : decode cL_law 19 = .ok (.aload_n 0, 1) := dk_at dkB85decL_0 11 rfl
theorem dL_law_20 : decode cL_law 20 = .ok (.arraylength, 1) := dk_at dkB85decL_0 12 rfl
theorem dL_law_21 : decode cL_law 21 = .ok (.bipush 6, 2) := dk_at dkB85decL_0 13 rfl
theorem dL_law_23 : decode cL_law 23 = .ok (.isub, 1) := dk_at dkB85decL_0 14 rfl
theorem dL_law_24 : decode cL_law 24 = .ok (.if_icmp .gt 1767, 3) := dk_at dkB85decL_0 15 rfl
theorem dL_law_27 : decode cL_law 27 = .ok (.aload_n 0, 1) := dk_at dkB85decL_0 16 rfl
theorem dL_law_28 : decode cL_law 28 = .ok (.iload_n 3, 1) := dk_at dkB85decL_0 17 rfl
theorem dL_law_29 : decode cL_law 29 = .ok (.iaload, 1) := dk_at dkB85decL_0 18 rfl
theorem dL_law_30 : decode cL_law 30 = .ok (.bipush 63, 2) := dk_at dkB85decL_0 19 rfl
theorem dL_law_32 : decode cL_law 32 = .ok (.iand, 1) := dk_at dkB85decL_0 20 rfl
theorem dL_law_33 : decode cL_law 33 = .ok (.tableswitch 1752 0 40 #[179, 222, 285, 318, 341, 364, 427, 440, 463, 526, 549, 582, 625, 658, 701, 734, 797, 860, 893, 916, 939, 982, 1035, 1088, 1151, 1184, 1207, 1250, 1303, 1346, 1369, 1382, 1425, 1458, 1521, 1554, 1607, 1620, 1633, 1676, 1699], 179) := dk_at dkB85decL_0 21 rfl
theorem dL_law_212 : decode cL_law 212 = .ok (.aload_n 1, 1) := dk_at dkB85decL_0 22 rfl
theorem dL_law_213 : decode cL_law 213 = .ok (.aload_n 0, 1) := dk_at dkB85decL_0 23 rfl
theorem dL_law_214 : decode cL_law 214 = .ok (.iload_n 3, 1) := dk_at dkB85decL_0 24 rfl
theorem dL_law_215 : decode cL_law 215 = .ok (.iconst 1, 1) := dk_at dkB85decL_0 25 rfl
theorem dL_law_216 : decode cL_law 216 = .ok (.iadd, 1) := dk_at dkB85decL_0 26 rfl
theorem dL_law_217 : decode cL_law 217 = .ok (.iaload, 1) := dk_at dkB85decL_0 27 rfl
theorem dL_law_218 : decode cL_law 218 = .ok (.aload_n 0, 1) := dk_at dkB85decL_0 28 rfl
theorem dL_law_219 : decode cL_law 219 = .ok (.iload_n 3, 1) := dk_at dkB85decL_0 29 rfl
theorem dL_law_220 : decode cL_law 220 = .ok (.iconst 2, 1) := dk_at dkB85decL_0 30 rfl
theorem dL_law_221 : decode cL_law 221 = .ok (.iadd, 1) := dk_at dkB85decL_0 31 rfl
theorem dL_law_222 : decode cL_law 222 = .ok (.iaload, 1) := dk_at dkB85decL_0 32 rfl
theorem dL_law_223 : decode cL_law 223 = .ok (.aload_n 0, 1) := dk_at dkB85decL_0 33 rfl
theorem dL_law_224 : decode cL_law 224 = .ok (.iload_n 3, 1) := dk_at dkB85decL_0 34 rfl
theorem dL_law_225 : decode cL_law 225 = .ok (.iconst 3, 1) := dk_at dkB85decL_0 35 rfl
theorem dL_law_226 : decode cL_law 226 = .ok (.iadd, 1) := dk_at dkB85decL_0 36 rfl
theorem dL_law_227 : decode cL_law 227 = .ok (.iaload, 1) := dk_at dkB85decL_0 37 rfl
theorem dL_law_228 : decode cL_law 228 = .ok (.invokevirtual 13, 3) := dk_at dkB85decL_0 38 rfl
theorem dL_law_231 : decode cL_law 231 = .ok (.pop, 1) := dk_at dkB85decL_0 39 rfl
theorem dL_law_232 : decode cL_law 232 = .ok (.aload_n 2, 1) := dk_at dkB85decL_0 40 rfl
theorem dL_law_233 : decode cL_law 233 = .ok (.aload_n 0, 1) := dk_at dkB85decL_0 41 rfl
theorem dL_law_234 : decode cL_law 234 = .ok (.iload_n 3, 1) := dk_at dkB85decL_0 42 rfl
theorem dL_law_235 : decode cL_law 235 = .ok (.iconst 1, 1) := dk_at dkB85decL_0 43 rfl
theorem dL_law_236 : decode cL_law 236 = .ok (.iadd, 1) := dk_at dkB85decL_0 44 rfl
theorem dL_law_237 : decode cL_law 237 = .ok (.iaload, 1) := dk_at dkB85decL_0 45 rfl
theorem dL_law_238 : decode cL_law 238 = .ok (.aload_n 0, 1) := dk_at dkB85decL_0 46 rfl
theorem dL_law_239 : decode cL_law 239 = .ok (.iload_n 3, 1) := dk_at dkB85decL_0 47 rfl
theorem dL_law_240 : decode cL_law 240 = .ok (.iconst 2, 1) := dk_at dkB85decL_0 48 rfl
theorem dL_law_241 : decode cL_law 241 = .ok (.iadd, 1) := dk_at dkB85decL_0 49 rfl
theorem dL_law_242 : decode cL_law 242 = .ok (.iaload, 1) := dk_at dkB85decL_0 50 rfl
theorem dL_law_243 : decode cL_law 243 = .ok (.aload_n 0, 1) := dk_at dkB85decL_0 51 rfl
theorem dL_law_244 : decode cL_law 244 = .ok (.iload_n 3, 1) := dk_at dkB85decL_0 52 rfl
theorem dL_law_245 : decode cL_law 245 = .ok (.iconst 3, 1) := dk_at dkB85decL_0 53 rfl
theorem dL_law_246 : decode cL_law 246 = .ok (.iadd, 1) := dk_at dkB85decL_0 54 rfl
theorem dL_law_247 : decode cL_law 247 = .ok (.iaload, 1) := dk_at dkB85decL_0 55 rfl
theorem dL_law_248 : decode cL_law 248 = .ok (.invokevirtual 17, 3) := dk_at dkB85decL_0 56 rfl
theorem dL_law_251 : decode cL_law 251 = .ok (.pop, 1) := dk_at dkB85decL_0 57 rfl
theorem dL_law_252 : decode cL_law 252 = .ok (.goto 1533, 3) := dk_at dkB85decL_0 58 rfl
theorem dL_law_255 : decode cL_law 255 = .ok (.aload_n 1, 1) := dk_at dkB85decL_0 59 rfl
noncomputable def dkL85decL_1 : List (ByteArray × Nat × Instr × Nat) := [(cL_law, 256, (.aload_n 0, 1)), (cL_law, 257, (.iload_n 3, 1)), (cL_law, 258, (.iconst 1, 1)), (cL_law, 259, (.iadd, 1)), (cL_law, 260, (.iaload, 1)), (cL_law, 261, (.aload_n 0, 1)), (cL_law, 262, (.iload_n 3, 1)), (cL_law, 263, (.iconst 2, 1)), (cL_law, 264, (.iadd, 1)), (cL_law, 265, (.iaload, 1)), (cL_law, 266, (.aload_n 0, 1)), (cL_law, 267, (.iload_n 3, 1)), (cL_law, 268, (.iconst 3, 1)), (cL_law, 269, (.iadd, 1)), (cL_law, 270, (.iaload, 1)), (cL_law, 271, (.aload_n 0, 1)), (cL_law, 272, (.iload_n 3, 1)), (cL_law, 273, (.iconst 4, 1)), (cL_law, 274, (.iadd, 1)), (cL_law, 275, (.iaload, 1)), (cL_law, 276, (.aload_n 0, 1)), (cL_law, 277, (.iload_n 3, 1)), (cL_law, 278, (.iconst 5, 1)), (cL_law, 279, (.iadd, 1)), (cL_law, 280, (.iaload, 1)), (cL_law, 281, (.invokevirtual 18, 3)), (cL_law, 284, (.pop, 1)), (cL_law, 285, (.aload_n 2, 1)), (cL_law, 286, (.aload_n 0, 1)), (cL_law, 287, (.iload_n 3, 1)), (cL_law, 288, (.iconst 1, 1)), (cL_law, 289, (.iadd, 1)), (cL_law, 290, (.iaload, 1)), (cL_law, 291, (.aload_n 0, 1)), (cL_law, 292, (.iload_n 3, 1)), (cL_law, 293, (.iconst 2, 1)), (cL_law, 294, (.iadd, 1)), (cL_law, 295, (.iaload, 1)), (cL_law, 296, (.aload_n 0, 1)), (cL_law, 297, (.iload_n 3, 1)), (cL_law, 298, (.iconst 3, 1)), (cL_law, 299, (.iadd, 1)), (cL_law, 300, (.iaload, 1)), (cL_law, 301, (.aload_n 0, 1)), (cL_law, 302, (.iload_n 3, 1)), (cL_law, 303, (.iconst 4, 1)), (cL_law, 304, (.iadd, 1)), (cL_law, 305, (.iaload, 1)), (cL_law, 306, (.aload_n 0, 1)), (cL_law, 307, (.iload_n 3, 1)), (cL_law, 308, (.iconst 5, 1)), (cL_law, 309, (.iadd, 1)), (cL_law, 310, (.iaload, 1)), (cL_law, 311, (.invokevirtual 22, 3)), (cL_law, 314, (.pop, 1)), (cL_law, 315, (.goto 1470, 3)), (cL_law, 318, (.aload_n 1, 1)), (cL_law, 319, (.aload_n 0, 1)), (cL_law, 320, (.iload_n 3, 1)), (cL_law, 321, (.iconst 1, 1))]
theorem dkB85decL_1 : dkL85decL_1.all (fun q => decide (decode q.1 q.2.1 = .ok q.2.2)) = true := by decide +kernel
theorem dL_law_256 : decode cL_law 256 = .ok (.aload_n 0, 1) := dk_at dkB85decL_1 0 rfl
theorem dL_law_257 : decode cL_law 257 = .ok (.iload_n 3, 1) := dk_at dkB85decL_1 1 rfl
theorem dL_law_258 : decode cL_law 258 = .ok (.iconst 1, 1) := dk_at dkB85decL_1 2 rfl
theorem dL_law_259 : decode cL_law 259 = .ok (.iadd, 1) := dk_at dkB85decL_1 3 rfl
theorem dL_law_260 : decode cL_law 260 = .ok (.iaload, 1) := dk_at dkB85decL_1 4 rfl
theorem dL_law_261 : decode cL_law 261 = .ok (.aload_n 0, 1) := dk_at dkB85decL_1 5 rfl
theorem dL_law_262 : decode cL_law 262 = .ok (.iload_n 3, 1) := dk_at dkB85decL_1 6 rfl
theorem dL_law_263 : decode cL_law 263 = .ok (.iconst 2, 1) := dk_at dkB85decL_1 7 rfl
theorem dL_law_264 : decode cL_law 264 = .ok (.iadd, 1) := dk_at dkB85decL_1 8 rfl
theorem dL_law_265 : decode cL_law 265 = .ok (.iaload, 1) := dk_at dkB85decL_1 9 rfl
theorem dL_law_266 : decode cL_law 266 = .ok (.aload_n 0, 1) := dk_at dkB85decL_1 10 rfl
theorem dL_law_267 : decode cL_law 267 = .ok (.iload_n 3, 1) := dk_at dkB85decL_1 11 rfl
theorem dL_law_268 : decode cL_law 268 = .ok (.iconst 3, 1) := dk_at dkB85decL_1 12 rfl
theorem dL_law_269 : decode cL_law 269 = .ok (.iadd, 1) := dk_at dkB85decL_1 13 rfl
theorem dL_law_270 : decode cL_law 270 = .ok (.iaload, 1) := dk_at dkB85decL_1 14 rfl
theorem dL_law_271 : decode cL_law 271 = .ok (.aload_n 0, 1) := dk_at dkB85decL_1 15 rfl
theorem dL_law_272 : decode cL_law 272 = .ok (.iload_n 3, 1) := dk_at dkB85decL_1 16 rfl
theorem dL_law_273 : decode cL_law 273 = .ok (.iconst 4, 1) := dk_at dkB85decL_1 17 rfl
theorem dL_law_274 : decode cL_law 274 = .ok (.iadd, 1) := dk_at dkB85decL_1 18 rfl
theorem dL_law_275 : decode cL_law 275 = .ok (.iaload, 1) := dk_at dkB85decL_1 19 rfl
theorem dL_law_276 : decode cL_law 276 = .ok (.aload_n 0, 1) := dk_at dkB85decL_1 20 rfl
theorem dL_law_277 : decode cL_law 277 = .ok (.iload_n 3, 1) := dk_at dkB85decL_1 21 rfl
theorem dL_law_278 : decode cL_law 278 = .ok (.iconst 5, 1) := dk_at dkB85decL_1 22 rfl
theorem dL_law_279 : decode cL_law 279 = .ok (.iadd, 1) := dk_at dkB85decL_1 23 rfl
theorem dL_law_280 : decode cL_law 280 = .ok (.iaload, 1) := dk_at dkB85decL_1 24 rfl
theorem dL_law_281 : decode cL_law 281 = .ok (.invokevirtual 18, 3) := dk_at dkB85decL_1 25 rfl
theorem dL_law_284 : decode cL_law 284 = .ok (.pop, 1) := dk_at dkB85decL_1 26 rfl
theorem dL_law_285 : decode cL_law 285 = .ok (.aload_n 2, 1) := dk_at dkB85decL_1 27 rfl
theorem dL_law_286 : decode cL_law 286 = .ok (.aload_n 0, 1) := dk_at dkB85decL_1 28 rfl
theorem dL_law_287 : decode cL_law 287 = .ok (.iload_n 3, 1) := dk_at dkB85decL_1 29 rfl
theorem dL_law_288 : decode cL_law 288 = .ok (.iconst 1, 1) := dk_at dkB85decL_1 30 rfl
theorem dL_law_289 : decode cL_law 289 = .ok (.iadd, 1) := dk_at dkB85decL_1 31 rfl
theorem dL_law_290 : decode cL_law 290 = .ok (.iaload, 1) := dk_at dkB85decL_1 32 rfl
theorem dL_law_291 : decode cL_law 291 = .ok (.aload_n 0, 1) := dk_at dkB85decL_1 33 rfl
theorem dL_law_292 : decode cL_law 292 = .ok (.iload_n 3, 1) := dk_at dkB85decL_1 34 rfl
theorem dL_law_293 : decode cL_law 293 = .ok (.iconst 2, 1) := dk_at dkB85decL_1 35 rfl
theorem dL_law_294 : decode cL_law 294 = .ok (.iadd, 1) := dk_at dkB85decL_1 36 rfl
theorem dL_law_295 : decode cL_law 295 = .ok (.iaload, 1) := dk_at dkB85decL_1 37 rfl
theorem dL_law_296 : decode cL_law 296 = .ok (.aload_n 0, 1) := dk_at dkB85decL_1 38 rfl
theorem dL_law_297 : decode cL_law 297 = .ok (.iload_n 3, 1) := dk_at dkB85decL_1 39 rfl
theorem dL_law_298 : decode cL_law 298 = .ok (.iconst 3, 1) := dk_at dkB85decL_1 40 rfl
theorem dL_law_299 : decode cL_law 299 = .ok (.iadd, 1) := dk_at dkB85decL_1 41 rfl
theorem dL_law_300 : decode cL_law 300 = .ok (.iaload, 1) := dk_at dkB85decL_1 42 rfl
theorem dL_law_301 : decode cL_law 301 = .ok (.aload_n 0, 1) := dk_at dkB85decL_1 43 rfl
theorem dL_law_302 : decode cL_law 302 = .ok (.iload_n 3, 1) := dk_at dkB85decL_1 44 rfl
theorem dL_law_303 : decode cL_law 303 = .ok (.iconst 4, 1) := dk_at dkB85decL_1 45 rfl
theorem dL_law_304 : decode cL_law 304 = .ok (.iadd, 1) := dk_at dkB85decL_1 46 rfl
theorem dL_law_305 : decode cL_law 305 = .ok (.iaload, 1) := dk_at dkB85decL_1 47 rfl
theorem dL_law_306 : decode cL_law 306 = .ok (.aload_n 0, 1) := dk_at dkB85decL_1 48 rfl
theorem dL_law_307 : decode cL_law 307 = .ok (.iload_n 3, 1) := dk_at dkB85decL_1 49 rfl
theorem dL_law_308 : decode cL_law 308 = .ok (.iconst 5, 1) := dk_at dkB85decL_1 50 rfl
theorem dL_law_309 : decode cL_law 309 = .ok (.iadd, 1) := dk_at dkB85decL_1 51 rfl
theorem dL_law_310 : decode cL_law 310 = .ok (.iaload, 1) := dk_at dkB85decL_1 52 rfl
theorem dL_law_311 : decode cL_law 311 = .ok (.invokevirtual 22, 3) := dk_at dkB85decL_1 53 rfl
theorem dL_law_314 : decode cL_law 314 = .ok (.pop, 1) := dk_at dkB85decL_1 54 rfl
theorem dL_law_315 : decode cL_law 315 = .ok (.goto 1470, 3) := dk_at dkB85decL_1 55 rfl
theorem dL_law_318 : decode cL_law 318 = .ok (.aload_n 1, 1) := dk_at dkB85decL_1 56 rfl
theorem dL_law_319 : decode cL_law 319 = .ok (.aload_n 0, 1) := dk_at dkB85decL_1 57 rfl
theorem dL_law_320 : decode cL_law 320 = .ok (.iload_n 3, 1) := dk_at dkB85decL_1 58 rfl
theorem dL_law_321 : decode cL_law 321 = .ok (.iconst 1, 1) := dk_at dkB85decL_1 59 rfl
noncomputable def dkL85decL_2 : List (ByteArray × Nat × Instr × Nat) := [(cL_law, 322, (.iadd, 1)), (cL_law, 323, (.iaload, 1)), (cL_law, 324, (.aload_n 0, 1)), (cL_law, 325, (.iload_n 3, 1)), (cL_law, 326, (.iconst 2, 1)), (cL_law, 327, (.iadd, 1)), (cL_law, 328, (.iaload, 1)), (cL_law, 329, (.invokevirtual 23, 3)), (cL_law, 332, (.pop, 1)), (cL_law, 333, (.aload_n 2, 1)), (cL_law, 334, (.aload_n 0, 1)), (cL_law, 335, (.iload_n 3, 1)), (cL_law, 336, (.iconst 1, 1)), (cL_law, 337, (.iadd, 1)), (cL_law, 338, (.iaload, 1)), (cL_law, 339, (.aload_n 0, 1)), (cL_law, 340, (.iload_n 3, 1)), (cL_law, 341, (.iconst 2, 1)), (cL_law, 342, (.iadd, 1)), (cL_law, 343, (.iaload, 1)), (cL_law, 344, (.invokevirtual 27, 3)), (cL_law, 347, (.pop, 1)), (cL_law, 348, (.goto 1437, 3)), (cL_law, 351, (.aload_n 1, 1)), (cL_law, 352, (.aload_n 0, 1)), (cL_law, 353, (.iload_n 3, 1)), (cL_law, 354, (.iconst 1, 1)), (cL_law, 355, (.iadd, 1)), (cL_law, 356, (.iaload, 1)), (cL_law, 357, (.invokevirtual 28, 3)), (cL_law, 360, (.pop, 1)), (cL_law, 361, (.aload_n 2, 1)), (cL_law, 362, (.aload_n 0, 1)), (cL_law, 363, (.iload_n 3, 1)), (cL_law, 364, (.iconst 1, 1)), (cL_law, 365, (.iadd, 1)), (cL_law, 366, (.iaload, 1)), (cL_law, 367, (.invokevirtual 32, 3)), (cL_law, 370, (.pop, 1)), (cL_law, 371, (.goto 1414, 3)), (cL_law, 374, (.aload_n 1, 1)), (cL_law, 375, (.aload_n 0, 1)), (cL_law, 376, (.iload_n 3, 1)), (cL_law, 377, (.iconst 1, 1)), (cL_law, 378, (.iadd, 1)), (cL_law, 379, (.iaload, 1)), (cL_law, 380, (.invokevirtual 33, 3)), (cL_law, 383, (.pop, 1)), (cL_law, 384, (.aload_n 2, 1)), (cL_law, 385, (.aload_n 0, 1)), (cL_law, 386, (.iload_n 3, 1)), (cL_law, 387, (.iconst 1, 1)), (cL_law, 388, (.iadd, 1)), (cL_law, 389, (.iaload, 1)), (cL_law, 390, (.invokevirtual 36, 3)), (cL_law, 393, (.pop, 1)), (cL_law, 394, (.goto 1391, 3)), (cL_law, 397, (.aload_n 1, 1)), (cL_law, 398, (.aload_n 0, 1)), (cL_law, 399, (.iload_n 3, 1))]
theorem dkB85decL_2 : dkL85decL_2.all (fun q => decide (decode q.1 q.2.1 = .ok q.2.2)) = true := by decide +kernel
theorem dL_law_322 : decode cL_law 322 = .ok (.iadd, 1) := dk_at dkB85decL_2 0 rfl
theorem dL_law_323 : decode cL_law 323 = .ok (.iaload, 1) := dk_at dkB85decL_2 1 rfl
theorem dL_law_324 : decode cL_law 324 = .ok (.aload_n 0, 1) := dk_at dkB85decL_2 2 rfl
theorem dL_law_325 : decode cL_law 325 = .ok (.iload_n 3, 1) := dk_at dkB85decL_2 3 rfl
theorem dL_law_326 : decode cL_law 326 = .ok (.iconst 2, 1) := dk_at dkB85decL_2 4 rfl
theorem dL_law_327 : decode cL_law 327 = .ok (.iadd, 1) := dk_at dkB85decL_2 5 rfl
theorem dL_law_328 : decode cL_law 328 = .ok (.iaload, 1) := dk_at dkB85decL_2 6 rfl
theorem dL_law_329 : decode cL_law 329 = .ok (.invokevirtual 23, 3) := dk_at dkB85decL_2 7 rfl
theorem dL_law_332 : decode cL_law 332 = .ok (.pop, 1) := dk_at dkB85decL_2 8 rfl
theorem dL_law_333 : decode cL_law 333 = .ok (.aload_n 2, 1) := dk_at dkB85decL_2 9 rfl
theorem dL_law_334 : decode cL_law 334 = .ok (.aload_n 0, 1) := dk_at dkB85decL_2 10 rfl
theorem dL_law_335 : decode cL_law 335 = .ok (.iload_n 3, 1) := dk_at dkB85decL_2 11 rfl
theorem dL_law_336 : decode cL_law 336 = .ok (.iconst 1, 1) := dk_at dkB85decL_2 12 rfl
theorem dL_law_337 : decode cL_law 337 = .ok (.iadd, 1) := dk_at dkB85decL_2 13 rfl
theorem dL_law_338 : decode cL_law 338 = .ok (.iaload, 1) := dk_at dkB85decL_2 14 rfl
theorem dL_law_339 : decode cL_law 339 = .ok (.aload_n 0, 1) := dk_at dkB85decL_2 15 rfl
theorem dL_law_340 : decode cL_law 340 = .ok (.iload_n 3, 1) := dk_at dkB85decL_2 16 rfl
theorem dL_law_341 : decode cL_law 341 = .ok (.iconst 2, 1) := dk_at dkB85decL_2 17 rfl
theorem dL_law_342 : decode cL_law 342 = .ok (.iadd, 1) := dk_at dkB85decL_2 18 rfl
theorem dL_law_343 : decode cL_law 343 = .ok (.iaload, 1) := dk_at dkB85decL_2 19 rfl
theorem dL_law_344 : decode cL_law 344 = .ok (.invokevirtual 27, 3) := dk_at dkB85decL_2 20 rfl
theorem dL_law_347 : decode cL_law 347 = .ok (.pop, 1) := dk_at dkB85decL_2 21 rfl
theorem dL_law_348 : decode cL_law 348 = .ok (.goto 1437, 3) := dk_at dkB85decL_2 22 rfl
theorem dL_law_351 : decode cL_law 351 = .ok (.aload_n 1, 1) := dk_at dkB85decL_2 23 rfl
theorem dL_law_352 : decode cL_law 352 = .ok (.aload_n 0, 1) := dk_at dkB85decL_2 24 rfl
theorem dL_law_353 : decode cL_law 353 = .ok (.iload_n 3, 1) := dk_at dkB85decL_2 25 rfl
theorem dL_law_354 : decode cL_law 354 = .ok (.iconst 1, 1) := dk_at dkB85decL_2 26 rfl
theorem dL_law_355 : decode cL_law 355 = .ok (.iadd, 1) := dk_at dkB85decL_2 27 rfl
theorem dL_law_356 : decode cL_law 356 = .ok (.iaload, 1) := dk_at dkB85decL_2 28 rfl
theorem dL_law_357 : decode cL_law 357 = .ok (.invokevirtual 28, 3) := dk_at dkB85decL_2 29 rfl
theorem dL_law_360 : decode cL_law 360 = .ok (.pop, 1) := dk_at dkB85decL_2 30 rfl
theorem dL_law_361 : decode cL_law 361 = .ok (.aload_n 2, 1) := dk_at dkB85decL_2 31 rfl
theorem dL_law_362 : decode cL_law 362 = .ok (.aload_n 0, 1) := dk_at dkB85decL_2 32 rfl
theorem dL_law_363 : decode cL_law 363 = .ok (.iload_n 3, 1) := dk_at dkB85decL_2 33 rfl
theorem dL_law_364 : decode cL_law 364 = .ok (.iconst 1, 1) := dk_at dkB85decL_2 34 rfl
theorem dL_law_365 : decode cL_law 365 = .ok (.iadd, 1) := dk_at dkB85decL_2 35 rfl
theorem dL_law_366 : decode cL_law 366 = .ok (.iaload, 1) := dk_at dkB85decL_2 36 rfl
theorem dL_law_367 : decode cL_law 367 = .ok (.invokevirtual 32, 3) := dk_at dkB85decL_2 37 rfl
theorem dL_law_370 : decode cL_law 370 = .ok (.pop, 1) := dk_at dkB85decL_2 38 rfl
theorem dL_law_371 : decode cL_law 371 = .ok (.goto 1414, 3) := dk_at dkB85decL_2 39 rfl
theorem dL_law_374 : decode cL_law 374 = .ok (.aload_n 1, 1) := dk_at dkB85decL_2 40 rfl
theorem dL_law_375 : decode cL_law 375 = .ok (.aload_n 0, 1) := dk_at dkB85decL_2 41 rfl
theorem dL_law_376 : decode cL_law 376 = .ok (.iload_n 3, 1) := dk_at dkB85decL_2 42 rfl
theorem dL_law_377 : decode cL_law 377 = .ok (.iconst 1, 1) := dk_at dkB85decL_2 43 rfl
theorem dL_law_378 : decode cL_law 378 = .ok (.iadd, 1) := dk_at dkB85decL_2 44 rfl
theorem dL_law_379 : decode cL_law 379 = .ok (.iaload, 1) := dk_at dkB85decL_2 45 rfl
theorem dL_law_380 : decode cL_law 380 = .ok (.invokevirtual 33, 3) := dk_at dkB85decL_2 46 rfl
theorem dL_law_383 : decode cL_law 383 = .ok (.pop, 1) := dk_at dkB85decL_2 47 rfl
theorem dL_law_384 : decode cL_law 384 = .ok (.aload_n 2, 1) := dk_at dkB85decL_2 48 rfl
theorem dL_law_385 : decode cL_law 385 = .ok (.aload_n 0, 1) := dk_at dkB85decL_2 49 rfl
theorem dL_law_386 : decode cL_law 386 = .ok (.iload_n 3, 1) := dk_at dkB85decL_2 50 rfl
theorem dL_law_387 : decode cL_law 387 = .ok (.iconst 1, 1) := dk_at dkB85decL_2 51 rfl
theorem dL_law_388 : decode cL_law 388 = .ok (.iadd, 1) := dk_at dkB85decL_2 52 rfl
theorem dL_law_389 : decode cL_law 389 = .ok (.iaload, 1) := dk_at dkB85decL_2 53 rfl
theorem dL_law_390 : decode cL_law 390 = .ok (.invokevirtual 36, 3) := dk_at dkB85decL_2 54 rfl
theorem dL_law_393 : decode cL_law 393 = .ok (.pop, 1) := dk_at dkB85decL_2 55 rfl
theorem dL_law_394 : decode cL_law 394 = .ok (.goto 1391, 3) := dk_at dkB85decL_2 56 rfl
theorem dL_law_397 : decode cL_law 397 = .ok (.aload_n 1, 1) := dk_at dkB85decL_2 57 rfl
theorem dL_law_398 : decode cL_law 398 = .ok (.aload_n 0, 1) := dk_at dkB85decL_2 58 rfl
theorem dL_law_399 : decode cL_law 399 = .ok (.iload_n 3, 1) := dk_at dkB85decL_2 59 rfl
noncomputable def dkL85decL_3 : List (ByteArray × Nat × Instr × Nat) := [(cL_law, 400, (.iconst 1, 1)), (cL_law, 401, (.iadd, 1)), (cL_law, 402, (.iaload, 1)), (cL_law, 403, (.i2l, 1)), (cL_law, 404, (.bipush 32, 2)), (cL_law, 406, (.lshl, 1)), (cL_law, 407, (.aload_n 0, 1)), (cL_law, 408, (.iload_n 3, 1)), (cL_law, 409, (.iconst 2, 1)), (cL_law, 410, (.iadd, 1)), (cL_law, 411, (.iaload, 1)), (cL_law, 412, (.i2l, 1)), (cL_law, 413, (.ldc2_w 37, 3)), (cL_law, 416, (.land, 1)), (cL_law, 417, (.lor, 1)), (cL_law, 418, (.aload_n 0, 1)), (cL_law, 419, (.iload_n 3, 1)), (cL_law, 420, (.iconst 3, 1)), (cL_law, 421, (.iadd, 1)), (cL_law, 422, (.iaload, 1)), (cL_law, 423, (.invokevirtual 39, 3)), (cL_law, 426, (.pop, 1)), (cL_law, 427, (.aload_n 2, 1)), (cL_law, 428, (.aload_n 0, 1)), (cL_law, 429, (.iload_n 3, 1)), (cL_law, 430, (.iconst 1, 1)), (cL_law, 431, (.iadd, 1)), (cL_law, 432, (.iaload, 1)), (cL_law, 433, (.i2l, 1)), (cL_law, 434, (.bipush 32, 2)), (cL_law, 436, (.lshl, 1)), (cL_law, 437, (.aload_n 0, 1)), (cL_law, 438, (.iload_n 3, 1)), (cL_law, 439, (.iconst 2, 1)), (cL_law, 440, (.iadd, 1)), (cL_law, 441, (.iaload, 1)), (cL_law, 442, (.i2l, 1)), (cL_law, 443, (.ldc2_w 37, 3)), (cL_law, 446, (.land, 1)), (cL_law, 447, (.lor, 1)), (cL_law, 448, (.aload_n 0, 1)), (cL_law, 449, (.iload_n 3, 1)), (cL_law, 450, (.iconst 3, 1)), (cL_law, 451, (.iadd, 1)), (cL_law, 452, (.iaload, 1)), (cL_law, 453, (.invokevirtual 43, 3)), (cL_law, 456, (.pop, 1)), (cL_law, 457, (.goto 1328, 3)), (cL_law, 460, (.aload_n 1, 1)), (cL_law, 461, (.invokevirtual 44, 3)), (cL_law, 464, (.pop, 1)), (cL_law, 465, (.aload_n 2, 1)), (cL_law, 466, (.invokevirtual 48, 3)), (cL_law, 469, (.pop, 1)), (cL_law, 470, (.goto 1315, 3)), (cL_law, 473, (.aload_n 1, 1)), (cL_law, 474, (.aload_n 0, 1)), (cL_law, 475, (.iload_n 3, 1)), (cL_law, 476, (.iconst 1, 1)), (cL_law, 477, (.iadd, 1))]
theorem dkB85decL_3 : dkL85decL_3.all (fun q => decide (decode q.1 q.2.1 = .ok q.2.2)) = true := by decide +kernel
theorem dL_law_400 : decode cL_law 400 = .ok (.iconst 1, 1) := dk_at dkB85decL_3 0 rfl
theorem dL_law_401 : decode cL_law 401 = .ok (.iadd, 1) := dk_at dkB85decL_3 1 rfl
theorem dL_law_402 : decode cL_law 402 = .ok (.iaload, 1) := dk_at dkB85decL_3 2 rfl
theorem dL_law_403 : decode cL_law 403 = .ok (.i2l, 1) := dk_at dkB85decL_3 3 rfl
theorem dL_law_404 : decode cL_law 404 = .ok (.bipush 32, 2) := dk_at dkB85decL_3 4 rfl
theorem dL_law_406 : decode cL_law 406 = .ok (.lshl, 1) := dk_at dkB85decL_3 5 rfl
theorem dL_law_407 : decode cL_law 407 = .ok (.aload_n 0, 1) := dk_at dkB85decL_3 6 rfl
theorem dL_law_408 : decode cL_law 408 = .ok (.iload_n 3, 1) := dk_at dkB85decL_3 7 rfl
theorem dL_law_409 : decode cL_law 409 = .ok (.iconst 2, 1) := dk_at dkB85decL_3 8 rfl
theorem dL_law_410 : decode cL_law 410 = .ok (.iadd, 1) := dk_at dkB85decL_3 9 rfl
theorem dL_law_411 : decode cL_law 411 = .ok (.iaload, 1) := dk_at dkB85decL_3 10 rfl
theorem dL_law_412 : decode cL_law 412 = .ok (.i2l, 1) := dk_at dkB85decL_3 11 rfl
theorem dL_law_413 : decode cL_law 413 = .ok (.ldc2_w 37, 3) := dk_at dkB85decL_3 12 rfl
theorem dL_law_416 : decode cL_law 416 = .ok (.land, 1) := dk_at dkB85decL_3 13 rfl
theorem dL_law_417 : decode cL_law 417 = .ok (.lor, 1) := dk_at dkB85decL_3 14 rfl
theorem dL_law_418 : decode cL_law 418 = .ok (.aload_n 0, 1) := dk_at dkB85decL_3 15 rfl
theorem dL_law_419 : decode cL_law 419 = .ok (.iload_n 3, 1) := dk_at dkB85decL_3 16 rfl
theorem dL_law_420 : decode cL_law 420 = .ok (.iconst 3, 1) := dk_at dkB85decL_3 17 rfl
theorem dL_law_421 : decode cL_law 421 = .ok (.iadd, 1) := dk_at dkB85decL_3 18 rfl
theorem dL_law_422 : decode cL_law 422 = .ok (.iaload, 1) := dk_at dkB85decL_3 19 rfl
theorem dL_law_423 : decode cL_law 423 = .ok (.invokevirtual 39, 3) := dk_at dkB85decL_3 20 rfl
theorem dL_law_426 : decode cL_law 426 = .ok (.pop, 1) := dk_at dkB85decL_3 21 rfl
theorem dL_law_427 : decode cL_law 427 = .ok (.aload_n 2, 1) := dk_at dkB85decL_3 22 rfl
theorem dL_law_428 : decode cL_law 428 = .ok (.aload_n 0, 1) := dk_at dkB85decL_3 23 rfl
theorem dL_law_429 : decode cL_law 429 = .ok (.iload_n 3, 1) := dk_at dkB85decL_3 24 rfl
theorem dL_law_430 : decode cL_law 430 = .ok (.iconst 1, 1) := dk_at dkB85decL_3 25 rfl
theorem dL_law_431 : decode cL_law 431 = .ok (.iadd, 1) := dk_at dkB85decL_3 26 rfl
theorem dL_law_432 : decode cL_law 432 = .ok (.iaload, 1) := dk_at dkB85decL_3 27 rfl
theorem dL_law_433 : decode cL_law 433 = .ok (.i2l, 1) := dk_at dkB85decL_3 28 rfl
theorem dL_law_434 : decode cL_law 434 = .ok (.bipush 32, 2) := dk_at dkB85decL_3 29 rfl
theorem dL_law_436 : decode cL_law 436 = .ok (.lshl, 1) := dk_at dkB85decL_3 30 rfl
theorem dL_law_437 : decode cL_law 437 = .ok (.aload_n 0, 1) := dk_at dkB85decL_3 31 rfl
theorem dL_law_438 : decode cL_law 438 = .ok (.iload_n 3, 1) := dk_at dkB85decL_3 32 rfl
theorem dL_law_439 : decode cL_law 439 = .ok (.iconst 2, 1) := dk_at dkB85decL_3 33 rfl
theorem dL_law_440 : decode cL_law 440 = .ok (.iadd, 1) := dk_at dkB85decL_3 34 rfl
theorem dL_law_441 : decode cL_law 441 = .ok (.iaload, 1) := dk_at dkB85decL_3 35 rfl
theorem dL_law_442 : decode cL_law 442 = .ok (.i2l, 1) := dk_at dkB85decL_3 36 rfl
theorem dL_law_443 : decode cL_law 443 = .ok (.ldc2_w 37, 3) := dk_at dkB85decL_3 37 rfl
theorem dL_law_446 : decode cL_law 446 = .ok (.land, 1) := dk_at dkB85decL_3 38 rfl
theorem dL_law_447 : decode cL_law 447 = .ok (.lor, 1) := dk_at dkB85decL_3 39 rfl
theorem dL_law_448 : decode cL_law 448 = .ok (.aload_n 0, 1) := dk_at dkB85decL_3 40 rfl
theorem dL_law_449 : decode cL_law 449 = .ok (.iload_n 3, 1) := dk_at dkB85decL_3 41 rfl
theorem dL_law_450 : decode cL_law 450 = .ok (.iconst 3, 1) := dk_at dkB85decL_3 42 rfl
theorem dL_law_451 : decode cL_law 451 = .ok (.iadd, 1) := dk_at dkB85decL_3 43 rfl
theorem dL_law_452 : decode cL_law 452 = .ok (.iaload, 1) := dk_at dkB85decL_3 44 rfl
theorem dL_law_453 : decode cL_law 453 = .ok (.invokevirtual 43, 3) := dk_at dkB85decL_3 45 rfl
theorem dL_law_456 : decode cL_law 456 = .ok (.pop, 1) := dk_at dkB85decL_3 46 rfl
theorem dL_law_457 : decode cL_law 457 = .ok (.goto 1328, 3) := dk_at dkB85decL_3 47 rfl
theorem dL_law_460 : decode cL_law 460 = .ok (.aload_n 1, 1) := dk_at dkB85decL_3 48 rfl
theorem dL_law_461 : decode cL_law 461 = .ok (.invokevirtual 44, 3) := dk_at dkB85decL_3 49 rfl
theorem dL_law_464 : decode cL_law 464 = .ok (.pop, 1) := dk_at dkB85decL_3 50 rfl
theorem dL_law_465 : decode cL_law 465 = .ok (.aload_n 2, 1) := dk_at dkB85decL_3 51 rfl
theorem dL_law_466 : decode cL_law 466 = .ok (.invokevirtual 48, 3) := dk_at dkB85decL_3 52 rfl
theorem dL_law_469 : decode cL_law 469 = .ok (.pop, 1) := dk_at dkB85decL_3 53 rfl
theorem dL_law_470 : decode cL_law 470 = .ok (.goto 1315, 3) := dk_at dkB85decL_3 54 rfl
theorem dL_law_473 : decode cL_law 473 = .ok (.aload_n 1, 1) := dk_at dkB85decL_3 55 rfl
theorem dL_law_474 : decode cL_law 474 = .ok (.aload_n 0, 1) := dk_at dkB85decL_3 56 rfl
theorem dL_law_475 : decode cL_law 475 = .ok (.iload_n 3, 1) := dk_at dkB85decL_3 57 rfl
theorem dL_law_476 : decode cL_law 476 = .ok (.iconst 1, 1) := dk_at dkB85decL_3 58 rfl
theorem dL_law_477 : decode cL_law 477 = .ok (.iadd, 1) := dk_at dkB85decL_3 59 rfl
noncomputable def dkL85decL_4 : List (ByteArray × Nat × Instr × Nat) := [(cL_law, 478, (.iaload, 1)), (cL_law, 479, (.invokevirtual 49, 3)), (cL_law, 482, (.pop, 1)), (cL_law, 483, (.aload_n 2, 1)), (cL_law, 484, (.aload_n 0, 1)), (cL_law, 485, (.iload_n 3, 1)), (cL_law, 486, (.iconst 1, 1)), (cL_law, 487, (.iadd, 1)), (cL_law, 488, (.iaload, 1)), (cL_law, 489, (.invokevirtual 52, 3)), (cL_law, 492, (.pop, 1)), (cL_law, 493, (.goto 1292, 3)), (cL_law, 496, (.aload_n 1, 1)), (cL_law, 497, (.aload_n 0, 1)), (cL_law, 498, (.iload_n 3, 1)), (cL_law, 499, (.iconst 1, 1)), (cL_law, 500, (.iadd, 1)), (cL_law, 501, (.iaload, 1)), (cL_law, 502, (.aload_n 0, 1)), (cL_law, 503, (.iload_n 3, 1)), (cL_law, 504, (.iconst 2, 1)), (cL_law, 505, (.iadd, 1)), (cL_law, 506, (.iaload, 1)), (cL_law, 507, (.aload_n 0, 1)), (cL_law, 508, (.iload_n 3, 1)), (cL_law, 509, (.iconst 3, 1)), (cL_law, 510, (.iadd, 1)), (cL_law, 511, (.iaload, 1)), (cL_law, 512, (.aload_n 0, 1)), (cL_law, 513, (.iload_n 3, 1)), (cL_law, 514, (.iconst 4, 1)), (cL_law, 515, (.iadd, 1)), (cL_law, 516, (.iaload, 1)), (cL_law, 517, (.aload_n 0, 1)), (cL_law, 518, (.iload_n 3, 1)), (cL_law, 519, (.iconst 5, 1)), (cL_law, 520, (.iadd, 1)), (cL_law, 521, (.iaload, 1)), (cL_law, 522, (.invokevirtual 53, 3)), (cL_law, 525, (.aload_n 2, 1)), (cL_law, 526, (.aload_n 0, 1)), (cL_law, 527, (.iload_n 3, 1)), (cL_law, 528, (.iconst 1, 1)), (cL_law, 529, (.iadd, 1)), (cL_law, 530, (.iaload, 1)), (cL_law, 531, (.aload_n 0, 1)), (cL_law, 532, (.iload_n 3, 1)), (cL_law, 533, (.iconst 2, 1)), (cL_law, 534, (.iadd, 1)), (cL_law, 535, (.iaload, 1)), (cL_law, 536, (.aload_n 0, 1)), (cL_law, 537, (.iload_n 3, 1)), (cL_law, 538, (.iconst 3, 1)), (cL_law, 539, (.iadd, 1)), (cL_law, 540, (.iaload, 1)), (cL_law, 541, (.aload_n 0, 1)), (cL_law, 542, (.iload_n 3, 1)), (cL_law, 543, (.iconst 4, 1)), (cL_law, 544, (.iadd, 1)), (cL_law, 545, (.iaload, 1))]
theorem dkB85decL_4 : dkL85decL_4.all (fun q => decide (decode q.1 q.2.1 = .ok q.2.2)) = true := by decide +kernel
theorem dL_law_478 : decode cL_law 478 = .ok (.iaload, 1) := dk_at dkB85decL_4 0 rfl
theorem dL_law_479 : decode cL_law 479 = .ok (.invokevirtual 49, 3) := dk_at dkB85decL_4 1 rfl
theorem dL_law_482 : decode cL_law 482 = .ok (.pop, 1) := dk_at dkB85decL_4 2 rfl
theorem dL_law_483 : decode cL_law 483 = .ok (.aload_n 2, 1) := dk_at dkB85decL_4 3 rfl
theorem dL_law_484 : decode cL_law 484 = .ok (.aload_n 0, 1) := dk_at dkB85decL_4 4 rfl
theorem dL_law_485 : decode cL_law 485 = .ok (.iload_n 3, 1) := dk_at dkB85decL_4 5 rfl
theorem dL_law_486 : decode cL_law 486 = .ok (.iconst 1, 1) := dk_at dkB85decL_4 6 rfl
theorem dL_law_487 : decode cL_law 487 = .ok (.iadd, 1) := dk_at dkB85decL_4 7 rfl
theorem dL_law_488 : decode cL_law 488 = .ok (.iaload, 1) := dk_at dkB85decL_4 8 rfl
theorem dL_law_489 : decode cL_law 489 = .ok (.invokevirtual 52, 3) := dk_at dkB85decL_4 9 rfl
theorem dL_law_492 : decode cL_law 492 = .ok (.pop, 1) := dk_at dkB85decL_4 10 rfl
theorem dL_law_493 : decode cL_law 493 = .ok (.goto 1292, 3) := dk_at dkB85decL_4 11 rfl
theorem dL_law_496 : decode cL_law 496 = .ok (.aload_n 1, 1) := dk_at dkB85decL_4 12 rfl
theorem dL_law_497 : decode cL_law 497 = .ok (.aload_n 0, 1) := dk_at dkB85decL_4 13 rfl
theorem dL_law_498 : decode cL_law 498 = .ok (.iload_n 3, 1) := dk_at dkB85decL_4 14 rfl
theorem dL_law_499 : decode cL_law 499 = .ok (.iconst 1, 1) := dk_at dkB85decL_4 15 rfl
theorem dL_law_500 : decode cL_law 500 = .ok (.iadd, 1) := dk_at dkB85decL_4 16 rfl
theorem dL_law_501 : decode cL_law 501 = .ok (.iaload, 1) := dk_at dkB85decL_4 17 rfl
theorem dL_law_502 : decode cL_law 502 = .ok (.aload_n 0, 1) := dk_at dkB85decL_4 18 rfl
theorem dL_law_503 : decode cL_law 503 = .ok (.iload_n 3, 1) := dk_at dkB85decL_4 19 rfl
theorem dL_law_504 : decode cL_law 504 = .ok (.iconst 2, 1) := dk_at dkB85decL_4 20 rfl
theorem dL_law_505 : decode cL_law 505 = .ok (.iadd, 1) := dk_at dkB85decL_4 21 rfl
theorem dL_law_506 : decode cL_law 506 = .ok (.iaload, 1) := dk_at dkB85decL_4 22 rfl
theorem dL_law_507 : decode cL_law 507 = .ok (.aload_n 0, 1) := dk_at dkB85decL_4 23 rfl
theorem dL_law_508 : decode cL_law 508 = .ok (.iload_n 3, 1) := dk_at dkB85decL_4 24 rfl
theorem dL_law_509 : decode cL_law 509 = .ok (.iconst 3, 1) := dk_at dkB85decL_4 25 rfl
theorem dL_law_510 : decode cL_law 510 = .ok (.iadd, 1) := dk_at dkB85decL_4 26 rfl
theorem dL_law_511 : decode cL_law 511 = .ok (.iaload, 1) := dk_at dkB85decL_4 27 rfl
theorem dL_law_512 : decode cL_law 512 = .ok (.aload_n 0, 1) := dk_at dkB85decL_4 28 rfl
theorem dL_law_513 : decode cL_law 513 = .ok (.iload_n 3, 1) := dk_at dkB85decL_4 29 rfl
theorem dL_law_514 : decode cL_law 514 = .ok (.iconst 4, 1) := dk_at dkB85decL_4 30 rfl
theorem dL_law_515 : decode cL_law 515 = .ok (.iadd, 1) := dk_at dkB85decL_4 31 rfl
theorem dL_law_516 : decode cL_law 516 = .ok (.iaload, 1) := dk_at dkB85decL_4 32 rfl
theorem dL_law_517 : decode cL_law 517 = .ok (.aload_n 0, 1) := dk_at dkB85decL_4 33 rfl
theorem dL_law_518 : decode cL_law 518 = .ok (.iload_n 3, 1) := dk_at dkB85decL_4 34 rfl
theorem dL_law_519 : decode cL_law 519 = .ok (.iconst 5, 1) := dk_at dkB85decL_4 35 rfl
theorem dL_law_520 : decode cL_law 520 = .ok (.iadd, 1) := dk_at dkB85decL_4 36 rfl
theorem dL_law_521 : decode cL_law 521 = .ok (.iaload, 1) := dk_at dkB85decL_4 37 rfl
theorem dL_law_522 : decode cL_law 522 = .ok (.invokevirtual 53, 3) := dk_at dkB85decL_4 38 rfl
theorem dL_law_525 : decode cL_law 525 = .ok (.aload_n 2, 1) := dk_at dkB85decL_4 39 rfl
theorem dL_law_526 : decode cL_law 526 = .ok (.aload_n 0, 1) := dk_at dkB85decL_4 40 rfl
theorem dL_law_527 : decode cL_law 527 = .ok (.iload_n 3, 1) := dk_at dkB85decL_4 41 rfl
theorem dL_law_528 : decode cL_law 528 = .ok (.iconst 1, 1) := dk_at dkB85decL_4 42 rfl
theorem dL_law_529 : decode cL_law 529 = .ok (.iadd, 1) := dk_at dkB85decL_4 43 rfl
theorem dL_law_530 : decode cL_law 530 = .ok (.iaload, 1) := dk_at dkB85decL_4 44 rfl
theorem dL_law_531 : decode cL_law 531 = .ok (.aload_n 0, 1) := dk_at dkB85decL_4 45 rfl
theorem dL_law_532 : decode cL_law 532 = .ok (.iload_n 3, 1) := dk_at dkB85decL_4 46 rfl
theorem dL_law_533 : decode cL_law 533 = .ok (.iconst 2, 1) := dk_at dkB85decL_4 47 rfl
theorem dL_law_534 : decode cL_law 534 = .ok (.iadd, 1) := dk_at dkB85decL_4 48 rfl
theorem dL_law_535 : decode cL_law 535 = .ok (.iaload, 1) := dk_at dkB85decL_4 49 rfl
theorem dL_law_536 : decode cL_law 536 = .ok (.aload_n 0, 1) := dk_at dkB85decL_4 50 rfl
theorem dL_law_537 : decode cL_law 537 = .ok (.iload_n 3, 1) := dk_at dkB85decL_4 51 rfl
theorem dL_law_538 : decode cL_law 538 = .ok (.iconst 3, 1) := dk_at dkB85decL_4 52 rfl
theorem dL_law_539 : decode cL_law 539 = .ok (.iadd, 1) := dk_at dkB85decL_4 53 rfl
theorem dL_law_540 : decode cL_law 540 = .ok (.iaload, 1) := dk_at dkB85decL_4 54 rfl
theorem dL_law_541 : decode cL_law 541 = .ok (.aload_n 0, 1) := dk_at dkB85decL_4 55 rfl
theorem dL_law_542 : decode cL_law 542 = .ok (.iload_n 3, 1) := dk_at dkB85decL_4 56 rfl
theorem dL_law_543 : decode cL_law 543 = .ok (.iconst 4, 1) := dk_at dkB85decL_4 57 rfl
theorem dL_law_544 : decode cL_law 544 = .ok (.iadd, 1) := dk_at dkB85decL_4 58 rfl
theorem dL_law_545 : decode cL_law 545 = .ok (.iaload, 1) := dk_at dkB85decL_4 59 rfl
noncomputable def dkL85decL_5 : List (ByteArray × Nat × Instr × Nat) := [(cL_law, 546, (.aload_n 0, 1)), (cL_law, 547, (.iload_n 3, 1)), (cL_law, 548, (.iconst 5, 1)), (cL_law, 549, (.iadd, 1)), (cL_law, 550, (.iaload, 1)), (cL_law, 551, (.invokevirtual 56, 3)), (cL_law, 554, (.if_icmp .eq 1231, 3)), (cL_law, 557, (.iconst 0, 1)), (cL_law, 558, (.ireturn, 1)), (cL_law, 559, (.aload_n 1, 1)), (cL_law, 560, (.aload_n 0, 1)), (cL_law, 561, (.iload_n 3, 1)), (cL_law, 562, (.iconst 1, 1)), (cL_law, 563, (.iadd, 1)), (cL_law, 564, (.iaload, 1)), (cL_law, 565, (.invokevirtual 57, 3)), (cL_law, 568, (.pop, 1)), (cL_law, 569, (.aload_n 2, 1)), (cL_law, 570, (.aload_n 0, 1)), (cL_law, 571, (.iload_n 3, 1)), (cL_law, 572, (.iconst 1, 1)), (cL_law, 573, (.iadd, 1)), (cL_law, 574, (.iaload, 1)), (cL_law, 575, (.invokevirtual 60, 3)), (cL_law, 578, (.pop, 1)), (cL_law, 579, (.goto 1206, 3)), (cL_law, 582, (.aload_n 1, 1)), (cL_law, 583, (.aload_n 0, 1)), (cL_law, 584, (.iload_n 3, 1)), (cL_law, 585, (.iconst 1, 1)), (cL_law, 586, (.iadd, 1)), (cL_law, 587, (.iaload, 1)), (cL_law, 588, (.aload_n 0, 1)), (cL_law, 589, (.iload_n 3, 1)), (cL_law, 590, (.iconst 2, 1)), (cL_law, 591, (.iadd, 1)), (cL_law, 592, (.iaload, 1)), (cL_law, 593, (.invokevirtual 61, 3)), (cL_law, 596, (.pop, 1)), (cL_law, 597, (.aload_n 2, 1)), (cL_law, 598, (.aload_n 0, 1)), (cL_law, 599, (.iload_n 3, 1)), (cL_law, 600, (.iconst 1, 1)), (cL_law, 601, (.iadd, 1)), (cL_law, 602, (.iaload, 1)), (cL_law, 603, (.aload_n 0, 1)), (cL_law, 604, (.iload_n 3, 1)), (cL_law, 605, (.iconst 2, 1)), (cL_law, 606, (.iadd, 1)), (cL_law, 607, (.iaload, 1)), (cL_law, 608, (.invokevirtual 64, 3)), (cL_law, 611, (.pop, 1)), (cL_law, 612, (.goto 1173, 3)), (cL_law, 615, (.aload_n 1, 1)), (cL_law, 616, (.aload_n 0, 1)), (cL_law, 617, (.iload_n 3, 1)), (cL_law, 618, (.iconst 1, 1)), (cL_law, 619, (.iadd, 1)), (cL_law, 620, (.iaload, 1)), (cL_law, 621, (.aload_n 0, 1))]
theorem dkB85decL_5 : dkL85decL_5.all (fun q => decide (decode q.1 q.2.1 = .ok q.2.2)) = true := by decide +kernel
theorem dL_law_546 : decode cL_law 546 = .ok (.aload_n 0, 1) := dk_at dkB85decL_5 0 rfl
theorem dL_law_547 : decode cL_law 547 = .ok (.iload_n 3, 1) := dk_at dkB85decL_5 1 rfl
theorem dL_law_548 : decode cL_law 548 = .ok (.iconst 5, 1) := dk_at dkB85decL_5 2 rfl
theorem dL_law_549 : decode cL_law 549 = .ok (.iadd, 1) := dk_at dkB85decL_5 3 rfl
theorem dL_law_550 : decode cL_law 550 = .ok (.iaload, 1) := dk_at dkB85decL_5 4 rfl
theorem dL_law_551 : decode cL_law 551 = .ok (.invokevirtual 56, 3) := dk_at dkB85decL_5 5 rfl
theorem dL_law_554 : decode cL_law 554 = .ok (.if_icmp .eq 1231, 3) := dk_at dkB85decL_5 6 rfl
theorem dL_law_557 : decode cL_law 557 = .ok (.iconst 0, 1) := dk_at dkB85decL_5 7 rfl
theorem dL_law_558 : decode cL_law 558 = .ok (.ireturn, 1) := dk_at dkB85decL_5 8 rfl
theorem dL_law_559 : decode cL_law 559 = .ok (.aload_n 1, 1) := dk_at dkB85decL_5 9 rfl
theorem dL_law_560 : decode cL_law 560 = .ok (.aload_n 0, 1) := dk_at dkB85decL_5 10 rfl
theorem dL_law_561 : decode cL_law 561 = .ok (.iload_n 3, 1) := dk_at dkB85decL_5 11 rfl
theorem dL_law_562 : decode cL_law 562 = .ok (.iconst 1, 1) := dk_at dkB85decL_5 12 rfl
theorem dL_law_563 : decode cL_law 563 = .ok (.iadd, 1) := dk_at dkB85decL_5 13 rfl
theorem dL_law_564 : decode cL_law 564 = .ok (.iaload, 1) := dk_at dkB85decL_5 14 rfl
theorem dL_law_565 : decode cL_law 565 = .ok (.invokevirtual 57, 3) := dk_at dkB85decL_5 15 rfl
theorem dL_law_568 : decode cL_law 568 = .ok (.pop, 1) := dk_at dkB85decL_5 16 rfl
theorem dL_law_569 : decode cL_law 569 = .ok (.aload_n 2, 1) := dk_at dkB85decL_5 17 rfl
theorem dL_law_570 : decode cL_law 570 = .ok (.aload_n 0, 1) := dk_at dkB85decL_5 18 rfl
theorem dL_law_571 : decode cL_law 571 = .ok (.iload_n 3, 1) := dk_at dkB85decL_5 19 rfl
theorem dL_law_572 : decode cL_law 572 = .ok (.iconst 1, 1) := dk_at dkB85decL_5 20 rfl
theorem dL_law_573 : decode cL_law 573 = .ok (.iadd, 1) := dk_at dkB85decL_5 21 rfl
theorem dL_law_574 : decode cL_law 574 = .ok (.iaload, 1) := dk_at dkB85decL_5 22 rfl
theorem dL_law_575 : decode cL_law 575 = .ok (.invokevirtual 60, 3) := dk_at dkB85decL_5 23 rfl
theorem dL_law_578 : decode cL_law 578 = .ok (.pop, 1) := dk_at dkB85decL_5 24 rfl
theorem dL_law_579 : decode cL_law 579 = .ok (.goto 1206, 3) := dk_at dkB85decL_5 25 rfl
theorem dL_law_582 : decode cL_law 582 = .ok (.aload_n 1, 1) := dk_at dkB85decL_5 26 rfl
theorem dL_law_583 : decode cL_law 583 = .ok (.aload_n 0, 1) := dk_at dkB85decL_5 27 rfl
theorem dL_law_584 : decode cL_law 584 = .ok (.iload_n 3, 1) := dk_at dkB85decL_5 28 rfl
theorem dL_law_585 : decode cL_law 585 = .ok (.iconst 1, 1) := dk_at dkB85decL_5 29 rfl
theorem dL_law_586 : decode cL_law 586 = .ok (.iadd, 1) := dk_at dkB85decL_5 30 rfl
theorem dL_law_587 : decode cL_law 587 = .ok (.iaload, 1) := dk_at dkB85decL_5 31 rfl
theorem dL_law_588 : decode cL_law 588 = .ok (.aload_n 0, 1) := dk_at dkB85decL_5 32 rfl
theorem dL_law_589 : decode cL_law 589 = .ok (.iload_n 3, 1) := dk_at dkB85decL_5 33 rfl
theorem dL_law_590 : decode cL_law 590 = .ok (.iconst 2, 1) := dk_at dkB85decL_5 34 rfl
theorem dL_law_591 : decode cL_law 591 = .ok (.iadd, 1) := dk_at dkB85decL_5 35 rfl
theorem dL_law_592 : decode cL_law 592 = .ok (.iaload, 1) := dk_at dkB85decL_5 36 rfl
theorem dL_law_593 : decode cL_law 593 = .ok (.invokevirtual 61, 3) := dk_at dkB85decL_5 37 rfl
theorem dL_law_596 : decode cL_law 596 = .ok (.pop, 1) := dk_at dkB85decL_5 38 rfl
theorem dL_law_597 : decode cL_law 597 = .ok (.aload_n 2, 1) := dk_at dkB85decL_5 39 rfl
theorem dL_law_598 : decode cL_law 598 = .ok (.aload_n 0, 1) := dk_at dkB85decL_5 40 rfl
theorem dL_law_599 : decode cL_law 599 = .ok (.iload_n 3, 1) := dk_at dkB85decL_5 41 rfl
theorem dL_law_600 : decode cL_law 600 = .ok (.iconst 1, 1) := dk_at dkB85decL_5 42 rfl
theorem dL_law_601 : decode cL_law 601 = .ok (.iadd, 1) := dk_at dkB85decL_5 43 rfl
theorem dL_law_602 : decode cL_law 602 = .ok (.iaload, 1) := dk_at dkB85decL_5 44 rfl
theorem dL_law_603 : decode cL_law 603 = .ok (.aload_n 0, 1) := dk_at dkB85decL_5 45 rfl
theorem dL_law_604 : decode cL_law 604 = .ok (.iload_n 3, 1) := dk_at dkB85decL_5 46 rfl
theorem dL_law_605 : decode cL_law 605 = .ok (.iconst 2, 1) := dk_at dkB85decL_5 47 rfl
theorem dL_law_606 : decode cL_law 606 = .ok (.iadd, 1) := dk_at dkB85decL_5 48 rfl
theorem dL_law_607 : decode cL_law 607 = .ok (.iaload, 1) := dk_at dkB85decL_5 49 rfl
theorem dL_law_608 : decode cL_law 608 = .ok (.invokevirtual 64, 3) := dk_at dkB85decL_5 50 rfl
theorem dL_law_611 : decode cL_law 611 = .ok (.pop, 1) := dk_at dkB85decL_5 51 rfl
theorem dL_law_612 : decode cL_law 612 = .ok (.goto 1173, 3) := dk_at dkB85decL_5 52 rfl
theorem dL_law_615 : decode cL_law 615 = .ok (.aload_n 1, 1) := dk_at dkB85decL_5 53 rfl
theorem dL_law_616 : decode cL_law 616 = .ok (.aload_n 0, 1) := dk_at dkB85decL_5 54 rfl
theorem dL_law_617 : decode cL_law 617 = .ok (.iload_n 3, 1) := dk_at dkB85decL_5 55 rfl
theorem dL_law_618 : decode cL_law 618 = .ok (.iconst 1, 1) := dk_at dkB85decL_5 56 rfl
theorem dL_law_619 : decode cL_law 619 = .ok (.iadd, 1) := dk_at dkB85decL_5 57 rfl
theorem dL_law_620 : decode cL_law 620 = .ok (.iaload, 1) := dk_at dkB85decL_5 58 rfl
theorem dL_law_621 : decode cL_law 621 = .ok (.aload_n 0, 1) := dk_at dkB85decL_5 59 rfl
noncomputable def dkL85decL_6 : List (ByteArray × Nat × Instr × Nat) := [(cL_law, 622, (.iload_n 3, 1)), (cL_law, 623, (.iconst 2, 1)), (cL_law, 624, (.iadd, 1)), (cL_law, 625, (.iaload, 1)), (cL_law, 626, (.aload_n 0, 1)), (cL_law, 627, (.iload_n 3, 1)), (cL_law, 628, (.iconst 3, 1)), (cL_law, 629, (.iadd, 1)), (cL_law, 630, (.iaload, 1)), (cL_law, 631, (.invokevirtual 65, 3)), (cL_law, 634, (.pop, 1)), (cL_law, 635, (.aload_n 2, 1)), (cL_law, 636, (.aload_n 0, 1)), (cL_law, 637, (.iload_n 3, 1)), (cL_law, 638, (.iconst 1, 1)), (cL_law, 639, (.iadd, 1)), (cL_law, 640, (.iaload, 1)), (cL_law, 641, (.aload_n 0, 1)), (cL_law, 642, (.iload_n 3, 1)), (cL_law, 643, (.iconst 2, 1)), (cL_law, 644, (.iadd, 1)), (cL_law, 645, (.iaload, 1)), (cL_law, 646, (.aload_n 0, 1)), (cL_law, 647, (.iload_n 3, 1)), (cL_law, 648, (.iconst 3, 1)), (cL_law, 649, (.iadd, 1)), (cL_law, 650, (.iaload, 1)), (cL_law, 651, (.invokevirtual 68, 3)), (cL_law, 654, (.pop, 1)), (cL_law, 655, (.goto 1130, 3)), (cL_law, 658, (.aload_n 1, 1)), (cL_law, 659, (.aload_n 0, 1)), (cL_law, 660, (.iload_n 3, 1)), (cL_law, 661, (.iconst 1, 1)), (cL_law, 662, (.iadd, 1)), (cL_law, 663, (.iaload, 1)), (cL_law, 664, (.aload_n 0, 1)), (cL_law, 665, (.iload_n 3, 1)), (cL_law, 666, (.iconst 2, 1)), (cL_law, 667, (.iadd, 1)), (cL_law, 668, (.iaload, 1)), (cL_law, 669, (.invokevirtual 69, 3)), (cL_law, 672, (.pop, 1)), (cL_law, 673, (.aload_n 2, 1)), (cL_law, 674, (.aload_n 0, 1)), (cL_law, 675, (.iload_n 3, 1)), (cL_law, 676, (.iconst 1, 1)), (cL_law, 677, (.iadd, 1)), (cL_law, 678, (.iaload, 1)), (cL_law, 679, (.aload_n 0, 1)), (cL_law, 680, (.iload_n 3, 1)), (cL_law, 681, (.iconst 2, 1)), (cL_law, 682, (.iadd, 1)), (cL_law, 683, (.iaload, 1)), (cL_law, 684, (.invokevirtual 72, 3)), (cL_law, 687, (.pop, 1)), (cL_law, 688, (.goto 1097, 3)), (cL_law, 691, (.aload_n 1, 1)), (cL_law, 692, (.aload_n 0, 1)), (cL_law, 693, (.iload_n 3, 1))]
theorem dkB85decL_6 : dkL85decL_6.all (fun q => decide (decode q.1 q.2.1 = .ok q.2.2)) = true := by decide +kernel
theorem dL_law_622 : decode cL_law 622 = .ok (.iload_n 3, 1) := dk_at dkB85decL_6 0 rfl
theorem dL_law_623 : decode cL_law 623 = .ok (.iconst 2, 1) := dk_at dkB85decL_6 1 rfl
theorem dL_law_624 : decode cL_law 624 = .ok (.iadd, 1) := dk_at dkB85decL_6 2 rfl
theorem dL_law_625 : decode cL_law 625 = .ok (.iaload, 1) := dk_at dkB85decL_6 3 rfl
theorem dL_law_626 : decode cL_law 626 = .ok (.aload_n 0, 1) := dk_at dkB85decL_6 4 rfl
theorem dL_law_627 : decode cL_law 627 = .ok (.iload_n 3, 1) := dk_at dkB85decL_6 5 rfl
theorem dL_law_628 : decode cL_law 628 = .ok (.iconst 3, 1) := dk_at dkB85decL_6 6 rfl
theorem dL_law_629 : decode cL_law 629 = .ok (.iadd, 1) := dk_at dkB85decL_6 7 rfl
theorem dL_law_630 : decode cL_law 630 = .ok (.iaload, 1) := dk_at dkB85decL_6 8 rfl
theorem dL_law_631 : decode cL_law 631 = .ok (.invokevirtual 65, 3) := dk_at dkB85decL_6 9 rfl
theorem dL_law_634 : decode cL_law 634 = .ok (.pop, 1) := dk_at dkB85decL_6 10 rfl
theorem dL_law_635 : decode cL_law 635 = .ok (.aload_n 2, 1) := dk_at dkB85decL_6 11 rfl
theorem dL_law_636 : decode cL_law 636 = .ok (.aload_n 0, 1) := dk_at dkB85decL_6 12 rfl
theorem dL_law_637 : decode cL_law 637 = .ok (.iload_n 3, 1) := dk_at dkB85decL_6 13 rfl
theorem dL_law_638 : decode cL_law 638 = .ok (.iconst 1, 1) := dk_at dkB85decL_6 14 rfl
theorem dL_law_639 : decode cL_law 639 = .ok (.iadd, 1) := dk_at dkB85decL_6 15 rfl
theorem dL_law_640 : decode cL_law 640 = .ok (.iaload, 1) := dk_at dkB85decL_6 16 rfl
theorem dL_law_641 : decode cL_law 641 = .ok (.aload_n 0, 1) := dk_at dkB85decL_6 17 rfl
theorem dL_law_642 : decode cL_law 642 = .ok (.iload_n 3, 1) := dk_at dkB85decL_6 18 rfl
theorem dL_law_643 : decode cL_law 643 = .ok (.iconst 2, 1) := dk_at dkB85decL_6 19 rfl
theorem dL_law_644 : decode cL_law 644 = .ok (.iadd, 1) := dk_at dkB85decL_6 20 rfl
theorem dL_law_645 : decode cL_law 645 = .ok (.iaload, 1) := dk_at dkB85decL_6 21 rfl
theorem dL_law_646 : decode cL_law 646 = .ok (.aload_n 0, 1) := dk_at dkB85decL_6 22 rfl
theorem dL_law_647 : decode cL_law 647 = .ok (.iload_n 3, 1) := dk_at dkB85decL_6 23 rfl
theorem dL_law_648 : decode cL_law 648 = .ok (.iconst 3, 1) := dk_at dkB85decL_6 24 rfl
theorem dL_law_649 : decode cL_law 649 = .ok (.iadd, 1) := dk_at dkB85decL_6 25 rfl
theorem dL_law_650 : decode cL_law 650 = .ok (.iaload, 1) := dk_at dkB85decL_6 26 rfl
theorem dL_law_651 : decode cL_law 651 = .ok (.invokevirtual 68, 3) := dk_at dkB85decL_6 27 rfl
theorem dL_law_654 : decode cL_law 654 = .ok (.pop, 1) := dk_at dkB85decL_6 28 rfl
theorem dL_law_655 : decode cL_law 655 = .ok (.goto 1130, 3) := dk_at dkB85decL_6 29 rfl
theorem dL_law_658 : decode cL_law 658 = .ok (.aload_n 1, 1) := dk_at dkB85decL_6 30 rfl
theorem dL_law_659 : decode cL_law 659 = .ok (.aload_n 0, 1) := dk_at dkB85decL_6 31 rfl
theorem dL_law_660 : decode cL_law 660 = .ok (.iload_n 3, 1) := dk_at dkB85decL_6 32 rfl
theorem dL_law_661 : decode cL_law 661 = .ok (.iconst 1, 1) := dk_at dkB85decL_6 33 rfl
theorem dL_law_662 : decode cL_law 662 = .ok (.iadd, 1) := dk_at dkB85decL_6 34 rfl
theorem dL_law_663 : decode cL_law 663 = .ok (.iaload, 1) := dk_at dkB85decL_6 35 rfl
theorem dL_law_664 : decode cL_law 664 = .ok (.aload_n 0, 1) := dk_at dkB85decL_6 36 rfl
theorem dL_law_665 : decode cL_law 665 = .ok (.iload_n 3, 1) := dk_at dkB85decL_6 37 rfl
theorem dL_law_666 : decode cL_law 666 = .ok (.iconst 2, 1) := dk_at dkB85decL_6 38 rfl
theorem dL_law_667 : decode cL_law 667 = .ok (.iadd, 1) := dk_at dkB85decL_6 39 rfl
theorem dL_law_668 : decode cL_law 668 = .ok (.iaload, 1) := dk_at dkB85decL_6 40 rfl
theorem dL_law_669 : decode cL_law 669 = .ok (.invokevirtual 69, 3) := dk_at dkB85decL_6 41 rfl
theorem dL_law_672 : decode cL_law 672 = .ok (.pop, 1) := dk_at dkB85decL_6 42 rfl
theorem dL_law_673 : decode cL_law 673 = .ok (.aload_n 2, 1) := dk_at dkB85decL_6 43 rfl
theorem dL_law_674 : decode cL_law 674 = .ok (.aload_n 0, 1) := dk_at dkB85decL_6 44 rfl
theorem dL_law_675 : decode cL_law 675 = .ok (.iload_n 3, 1) := dk_at dkB85decL_6 45 rfl
theorem dL_law_676 : decode cL_law 676 = .ok (.iconst 1, 1) := dk_at dkB85decL_6 46 rfl
theorem dL_law_677 : decode cL_law 677 = .ok (.iadd, 1) := dk_at dkB85decL_6 47 rfl
theorem dL_law_678 : decode cL_law 678 = .ok (.iaload, 1) := dk_at dkB85decL_6 48 rfl
theorem dL_law_679 : decode cL_law 679 = .ok (.aload_n 0, 1) := dk_at dkB85decL_6 49 rfl
theorem dL_law_680 : decode cL_law 680 = .ok (.iload_n 3, 1) := dk_at dkB85decL_6 50 rfl
theorem dL_law_681 : decode cL_law 681 = .ok (.iconst 2, 1) := dk_at dkB85decL_6 51 rfl
theorem dL_law_682 : decode cL_law 682 = .ok (.iadd, 1) := dk_at dkB85decL_6 52 rfl
theorem dL_law_683 : decode cL_law 683 = .ok (.iaload, 1) := dk_at dkB85decL_6 53 rfl
theorem dL_law_684 : decode cL_law 684 = .ok (.invokevirtual 72, 3) := dk_at dkB85decL_6 54 rfl
theorem dL_law_687 : decode cL_law 687 = .ok (.pop, 1) := dk_at dkB85decL_6 55 rfl
theorem dL_law_688 : decode cL_law 688 = .ok (.goto 1097, 3) := dk_at dkB85decL_6 56 rfl
theorem dL_law_691 : decode cL_law 691 = .ok (.aload_n 1, 1) := dk_at dkB85decL_6 57 rfl
theorem dL_law_692 : decode cL_law 692 = .ok (.aload_n 0, 1) := dk_at dkB85decL_6 58 rfl
theorem dL_law_693 : decode cL_law 693 = .ok (.iload_n 3, 1) := dk_at dkB85decL_6 59 rfl
noncomputable def dkL85decL_7 : List (ByteArray × Nat × Instr × Nat) := [(cL_law, 694, (.iconst 1, 1)), (cL_law, 695, (.iadd, 1)), (cL_law, 696, (.iaload, 1)), (cL_law, 697, (.aload_n 0, 1)), (cL_law, 698, (.iload_n 3, 1)), (cL_law, 699, (.iconst 2, 1)), (cL_law, 700, (.iadd, 1)), (cL_law, 701, (.iaload, 1)), (cL_law, 702, (.aload_n 0, 1)), (cL_law, 703, (.iload_n 3, 1)), (cL_law, 704, (.iconst 3, 1)), (cL_law, 705, (.iadd, 1)), (cL_law, 706, (.iaload, 1)), (cL_law, 707, (.invokevirtual 73, 3)), (cL_law, 710, (.pop, 1)), (cL_law, 711, (.aload_n 2, 1)), (cL_law, 712, (.aload_n 0, 1)), (cL_law, 713, (.iload_n 3, 1)), (cL_law, 714, (.iconst 1, 1)), (cL_law, 715, (.iadd, 1)), (cL_law, 716, (.iaload, 1)), (cL_law, 717, (.aload_n 0, 1)), (cL_law, 718, (.iload_n 3, 1)), (cL_law, 719, (.iconst 2, 1)), (cL_law, 720, (.iadd, 1)), (cL_law, 721, (.iaload, 1)), (cL_law, 722, (.aload_n 0, 1)), (cL_law, 723, (.iload_n 3, 1)), (cL_law, 724, (.iconst 3, 1)), (cL_law, 725, (.iadd, 1)), (cL_law, 726, (.iaload, 1)), (cL_law, 727, (.invokevirtual 76, 3)), (cL_law, 730, (.pop, 1)), (cL_law, 731, (.goto 1054, 3)), (cL_law, 734, (.aload_n 1, 1)), (cL_law, 735, (.aload_n 0, 1)), (cL_law, 736, (.iload_n 3, 1)), (cL_law, 737, (.iconst 1, 1)), (cL_law, 738, (.iadd, 1)), (cL_law, 739, (.iaload, 1)), (cL_law, 740, (.aload_n 0, 1)), (cL_law, 741, (.iload_n 3, 1)), (cL_law, 742, (.iconst 2, 1)), (cL_law, 743, (.iadd, 1)), (cL_law, 744, (.iaload, 1)), (cL_law, 745, (.invokevirtual 77, 3)), (cL_law, 748, (.pop, 1)), (cL_law, 749, (.aload_n 2, 1)), (cL_law, 750, (.aload_n 0, 1)), (cL_law, 751, (.iload_n 3, 1)), (cL_law, 752, (.iconst 1, 1)), (cL_law, 753, (.iadd, 1)), (cL_law, 754, (.iaload, 1)), (cL_law, 755, (.aload_n 0, 1)), (cL_law, 756, (.iload_n 3, 1)), (cL_law, 757, (.iconst 2, 1)), (cL_law, 758, (.iadd, 1)), (cL_law, 759, (.iaload, 1)), (cL_law, 760, (.invokevirtual 80, 3)), (cL_law, 763, (.pop, 1))]
theorem dkB85decL_7 : dkL85decL_7.all (fun q => decide (decode q.1 q.2.1 = .ok q.2.2)) = true := by decide +kernel
theorem dL_law_694 : decode cL_law 694 = .ok (.iconst 1, 1) := dk_at dkB85decL_7 0 rfl
theorem dL_law_695 : decode cL_law 695 = .ok (.iadd, 1) := dk_at dkB85decL_7 1 rfl
theorem dL_law_696 : decode cL_law 696 = .ok (.iaload, 1) := dk_at dkB85decL_7 2 rfl
theorem dL_law_697 : decode cL_law 697 = .ok (.aload_n 0, 1) := dk_at dkB85decL_7 3 rfl
theorem dL_law_698 : decode cL_law 698 = .ok (.iload_n 3, 1) := dk_at dkB85decL_7 4 rfl
theorem dL_law_699 : decode cL_law 699 = .ok (.iconst 2, 1) := dk_at dkB85decL_7 5 rfl
theorem dL_law_700 : decode cL_law 700 = .ok (.iadd, 1) := dk_at dkB85decL_7 6 rfl
theorem dL_law_701 : decode cL_law 701 = .ok (.iaload, 1) := dk_at dkB85decL_7 7 rfl
theorem dL_law_702 : decode cL_law 702 = .ok (.aload_n 0, 1) := dk_at dkB85decL_7 8 rfl
theorem dL_law_703 : decode cL_law 703 = .ok (.iload_n 3, 1) := dk_at dkB85decL_7 9 rfl
theorem dL_law_704 : decode cL_law 704 = .ok (.iconst 3, 1) := dk_at dkB85decL_7 10 rfl
theorem dL_law_705 : decode cL_law 705 = .ok (.iadd, 1) := dk_at dkB85decL_7 11 rfl
theorem dL_law_706 : decode cL_law 706 = .ok (.iaload, 1) := dk_at dkB85decL_7 12 rfl
theorem dL_law_707 : decode cL_law 707 = .ok (.invokevirtual 73, 3) := dk_at dkB85decL_7 13 rfl
theorem dL_law_710 : decode cL_law 710 = .ok (.pop, 1) := dk_at dkB85decL_7 14 rfl
theorem dL_law_711 : decode cL_law 711 = .ok (.aload_n 2, 1) := dk_at dkB85decL_7 15 rfl
theorem dL_law_712 : decode cL_law 712 = .ok (.aload_n 0, 1) := dk_at dkB85decL_7 16 rfl
theorem dL_law_713 : decode cL_law 713 = .ok (.iload_n 3, 1) := dk_at dkB85decL_7 17 rfl
theorem dL_law_714 : decode cL_law 714 = .ok (.iconst 1, 1) := dk_at dkB85decL_7 18 rfl
theorem dL_law_715 : decode cL_law 715 = .ok (.iadd, 1) := dk_at dkB85decL_7 19 rfl
theorem dL_law_716 : decode cL_law 716 = .ok (.iaload, 1) := dk_at dkB85decL_7 20 rfl
theorem dL_law_717 : decode cL_law 717 = .ok (.aload_n 0, 1) := dk_at dkB85decL_7 21 rfl
theorem dL_law_718 : decode cL_law 718 = .ok (.iload_n 3, 1) := dk_at dkB85decL_7 22 rfl
theorem dL_law_719 : decode cL_law 719 = .ok (.iconst 2, 1) := dk_at dkB85decL_7 23 rfl
theorem dL_law_720 : decode cL_law 720 = .ok (.iadd, 1) := dk_at dkB85decL_7 24 rfl
theorem dL_law_721 : decode cL_law 721 = .ok (.iaload, 1) := dk_at dkB85decL_7 25 rfl
theorem dL_law_722 : decode cL_law 722 = .ok (.aload_n 0, 1) := dk_at dkB85decL_7 26 rfl
theorem dL_law_723 : decode cL_law 723 = .ok (.iload_n 3, 1) := dk_at dkB85decL_7 27 rfl
theorem dL_law_724 : decode cL_law 724 = .ok (.iconst 3, 1) := dk_at dkB85decL_7 28 rfl
theorem dL_law_725 : decode cL_law 725 = .ok (.iadd, 1) := dk_at dkB85decL_7 29 rfl
theorem dL_law_726 : decode cL_law 726 = .ok (.iaload, 1) := dk_at dkB85decL_7 30 rfl
theorem dL_law_727 : decode cL_law 727 = .ok (.invokevirtual 76, 3) := dk_at dkB85decL_7 31 rfl
theorem dL_law_730 : decode cL_law 730 = .ok (.pop, 1) := dk_at dkB85decL_7 32 rfl
theorem dL_law_731 : decode cL_law 731 = .ok (.goto 1054, 3) := dk_at dkB85decL_7 33 rfl
theorem dL_law_734 : decode cL_law 734 = .ok (.aload_n 1, 1) := dk_at dkB85decL_7 34 rfl
theorem dL_law_735 : decode cL_law 735 = .ok (.aload_n 0, 1) := dk_at dkB85decL_7 35 rfl
theorem dL_law_736 : decode cL_law 736 = .ok (.iload_n 3, 1) := dk_at dkB85decL_7 36 rfl
theorem dL_law_737 : decode cL_law 737 = .ok (.iconst 1, 1) := dk_at dkB85decL_7 37 rfl
theorem dL_law_738 : decode cL_law 738 = .ok (.iadd, 1) := dk_at dkB85decL_7 38 rfl
theorem dL_law_739 : decode cL_law 739 = .ok (.iaload, 1) := dk_at dkB85decL_7 39 rfl
theorem dL_law_740 : decode cL_law 740 = .ok (.aload_n 0, 1) := dk_at dkB85decL_7 40 rfl
theorem dL_law_741 : decode cL_law 741 = .ok (.iload_n 3, 1) := dk_at dkB85decL_7 41 rfl
theorem dL_law_742 : decode cL_law 742 = .ok (.iconst 2, 1) := dk_at dkB85decL_7 42 rfl
theorem dL_law_743 : decode cL_law 743 = .ok (.iadd, 1) := dk_at dkB85decL_7 43 rfl
theorem dL_law_744 : decode cL_law 744 = .ok (.iaload, 1) := dk_at dkB85decL_7 44 rfl
theorem dL_law_745 : decode cL_law 745 = .ok (.invokevirtual 77, 3) := dk_at dkB85decL_7 45 rfl
theorem dL_law_748 : decode cL_law 748 = .ok (.pop, 1) := dk_at dkB85decL_7 46 rfl
theorem dL_law_749 : decode cL_law 749 = .ok (.aload_n 2, 1) := dk_at dkB85decL_7 47 rfl
theorem dL_law_750 : decode cL_law 750 = .ok (.aload_n 0, 1) := dk_at dkB85decL_7 48 rfl
theorem dL_law_751 : decode cL_law 751 = .ok (.iload_n 3, 1) := dk_at dkB85decL_7 49 rfl
theorem dL_law_752 : decode cL_law 752 = .ok (.iconst 1, 1) := dk_at dkB85decL_7 50 rfl
theorem dL_law_753 : decode cL_law 753 = .ok (.iadd, 1) := dk_at dkB85decL_7 51 rfl
theorem dL_law_754 : decode cL_law 754 = .ok (.iaload, 1) := dk_at dkB85decL_7 52 rfl
theorem dL_law_755 : decode cL_law 755 = .ok (.aload_n 0, 1) := dk_at dkB85decL_7 53 rfl
theorem dL_law_756 : decode cL_law 756 = .ok (.iload_n 3, 1) := dk_at dkB85decL_7 54 rfl
theorem dL_law_757 : decode cL_law 757 = .ok (.iconst 2, 1) := dk_at dkB85decL_7 55 rfl
theorem dL_law_758 : decode cL_law 758 = .ok (.iadd, 1) := dk_at dkB85decL_7 56 rfl
theorem dL_law_759 : decode cL_law 759 = .ok (.iaload, 1) := dk_at dkB85decL_7 57 rfl
theorem dL_law_760 : decode cL_law 760 = .ok (.invokevirtual 80, 3) := dk_at dkB85decL_7 58 rfl
theorem dL_law_763 : decode cL_law 763 = .ok (.pop, 1) := dk_at dkB85decL_7 59 rfl
noncomputable def dkL85decL_8 : List (ByteArray × Nat × Instr × Nat) := [(cL_law, 764, (.goto 1021, 3)), (cL_law, 767, (.aload_n 1, 1)), (cL_law, 768, (.aload_n 0, 1)), (cL_law, 769, (.iload_n 3, 1)), (cL_law, 770, (.iconst 1, 1)), (cL_law, 771, (.iadd, 1)), (cL_law, 772, (.iaload, 1)), (cL_law, 773, (.aload_n 0, 1)), (cL_law, 774, (.iload_n 3, 1)), (cL_law, 775, (.iconst 2, 1)), (cL_law, 776, (.iadd, 1)), (cL_law, 777, (.iaload, 1)), (cL_law, 778, (.aload_n 0, 1)), (cL_law, 779, (.iload_n 3, 1)), (cL_law, 780, (.iconst 3, 1)), (cL_law, 781, (.iadd, 1)), (cL_law, 782, (.iaload, 1)), (cL_law, 783, (.aload_n 0, 1)), (cL_law, 784, (.iload_n 3, 1)), (cL_law, 785, (.iconst 4, 1)), (cL_law, 786, (.iadd, 1)), (cL_law, 787, (.iaload, 1)), (cL_law, 788, (.aload_n 0, 1)), (cL_law, 789, (.iload_n 3, 1)), (cL_law, 790, (.iconst 5, 1)), (cL_law, 791, (.iadd, 1)), (cL_law, 792, (.iaload, 1)), (cL_law, 793, (.invokevirtual 81, 3)), (cL_law, 796, (.pop, 1)), (cL_law, 797, (.aload_n 2, 1)), (cL_law, 798, (.aload_n 0, 1)), (cL_law, 799, (.iload_n 3, 1)), (cL_law, 800, (.iconst 1, 1)), (cL_law, 801, (.iadd, 1)), (cL_law, 802, (.iaload, 1)), (cL_law, 803, (.aload_n 0, 1)), (cL_law, 804, (.iload_n 3, 1)), (cL_law, 805, (.iconst 2, 1)), (cL_law, 806, (.iadd, 1)), (cL_law, 807, (.iaload, 1)), (cL_law, 808, (.aload_n 0, 1)), (cL_law, 809, (.iload_n 3, 1)), (cL_law, 810, (.iconst 3, 1)), (cL_law, 811, (.iadd, 1)), (cL_law, 812, (.iaload, 1)), (cL_law, 813, (.aload_n 0, 1)), (cL_law, 814, (.iload_n 3, 1)), (cL_law, 815, (.iconst 4, 1)), (cL_law, 816, (.iadd, 1)), (cL_law, 817, (.iaload, 1)), (cL_law, 818, (.aload_n 0, 1)), (cL_law, 819, (.iload_n 3, 1)), (cL_law, 820, (.iconst 5, 1)), (cL_law, 821, (.iadd, 1)), (cL_law, 822, (.iaload, 1)), (cL_law, 823, (.invokevirtual 84, 3)), (cL_law, 826, (.pop, 1)), (cL_law, 827, (.goto 958, 3)), (cL_law, 830, (.aload_n 1, 1)), (cL_law, 831, (.aload_n 0, 1))]
theorem dkB85decL_8 : dkL85decL_8.all (fun q => decide (decode q.1 q.2.1 = .ok q.2.2)) = true := by decide +kernel
theorem dL_law_764 : decode cL_law 764 = .ok (.goto 1021, 3) := dk_at dkB85decL_8 0 rfl
theorem dL_law_767 : decode cL_law 767 = .ok (.aload_n 1, 1) := dk_at dkB85decL_8 1 rfl
theorem dL_law_768 : decode cL_law 768 = .ok (.aload_n 0, 1) := dk_at dkB85decL_8 2 rfl
theorem dL_law_769 : decode cL_law 769 = .ok (.iload_n 3, 1) := dk_at dkB85decL_8 3 rfl
theorem dL_law_770 : decode cL_law 770 = .ok (.iconst 1, 1) := dk_at dkB85decL_8 4 rfl
theorem dL_law_771 : decode cL_law 771 = .ok (.iadd, 1) := dk_at dkB85decL_8 5 rfl
theorem dL_law_772 : decode cL_law 772 = .ok (.iaload, 1) := dk_at dkB85decL_8 6 rfl
theorem dL_law_773 : decode cL_law 773 = .ok (.aload_n 0, 1) := dk_at dkB85decL_8 7 rfl
theorem dL_law_774 : decode cL_law 774 = .ok (.iload_n 3, 1) := dk_at dkB85decL_8 8 rfl
theorem dL_law_775 : decode cL_law 775 = .ok (.iconst 2, 1) := dk_at dkB85decL_8 9 rfl
theorem dL_law_776 : decode cL_law 776 = .ok (.iadd, 1) := dk_at dkB85decL_8 10 rfl
theorem dL_law_777 : decode cL_law 777 = .ok (.iaload, 1) := dk_at dkB85decL_8 11 rfl
theorem dL_law_778 : decode cL_law 778 = .ok (.aload_n 0, 1) := dk_at dkB85decL_8 12 rfl
theorem dL_law_779 : decode cL_law 779 = .ok (.iload_n 3, 1) := dk_at dkB85decL_8 13 rfl
theorem dL_law_780 : decode cL_law 780 = .ok (.iconst 3, 1) := dk_at dkB85decL_8 14 rfl
theorem dL_law_781 : decode cL_law 781 = .ok (.iadd, 1) := dk_at dkB85decL_8 15 rfl
theorem dL_law_782 : decode cL_law 782 = .ok (.iaload, 1) := dk_at dkB85decL_8 16 rfl
theorem dL_law_783 : decode cL_law 783 = .ok (.aload_n 0, 1) := dk_at dkB85decL_8 17 rfl
theorem dL_law_784 : decode cL_law 784 = .ok (.iload_n 3, 1) := dk_at dkB85decL_8 18 rfl
theorem dL_law_785 : decode cL_law 785 = .ok (.iconst 4, 1) := dk_at dkB85decL_8 19 rfl
theorem dL_law_786 : decode cL_law 786 = .ok (.iadd, 1) := dk_at dkB85decL_8 20 rfl
theorem dL_law_787 : decode cL_law 787 = .ok (.iaload, 1) := dk_at dkB85decL_8 21 rfl
theorem dL_law_788 : decode cL_law 788 = .ok (.aload_n 0, 1) := dk_at dkB85decL_8 22 rfl
theorem dL_law_789 : decode cL_law 789 = .ok (.iload_n 3, 1) := dk_at dkB85decL_8 23 rfl
theorem dL_law_790 : decode cL_law 790 = .ok (.iconst 5, 1) := dk_at dkB85decL_8 24 rfl
theorem dL_law_791 : decode cL_law 791 = .ok (.iadd, 1) := dk_at dkB85decL_8 25 rfl
theorem dL_law_792 : decode cL_law 792 = .ok (.iaload, 1) := dk_at dkB85decL_8 26 rfl
theorem dL_law_793 : decode cL_law 793 = .ok (.invokevirtual 81, 3) := dk_at dkB85decL_8 27 rfl
theorem dL_law_796 : decode cL_law 796 = .ok (.pop, 1) := dk_at dkB85decL_8 28 rfl
theorem dL_law_797 : decode cL_law 797 = .ok (.aload_n 2, 1) := dk_at dkB85decL_8 29 rfl
theorem dL_law_798 : decode cL_law 798 = .ok (.aload_n 0, 1) := dk_at dkB85decL_8 30 rfl
theorem dL_law_799 : decode cL_law 799 = .ok (.iload_n 3, 1) := dk_at dkB85decL_8 31 rfl
theorem dL_law_800 : decode cL_law 800 = .ok (.iconst 1, 1) := dk_at dkB85decL_8 32 rfl
theorem dL_law_801 : decode cL_law 801 = .ok (.iadd, 1) := dk_at dkB85decL_8 33 rfl
theorem dL_law_802 : decode cL_law 802 = .ok (.iaload, 1) := dk_at dkB85decL_8 34 rfl
theorem dL_law_803 : decode cL_law 803 = .ok (.aload_n 0, 1) := dk_at dkB85decL_8 35 rfl
theorem dL_law_804 : decode cL_law 804 = .ok (.iload_n 3, 1) := dk_at dkB85decL_8 36 rfl
theorem dL_law_805 : decode cL_law 805 = .ok (.iconst 2, 1) := dk_at dkB85decL_8 37 rfl
theorem dL_law_806 : decode cL_law 806 = .ok (.iadd, 1) := dk_at dkB85decL_8 38 rfl
theorem dL_law_807 : decode cL_law 807 = .ok (.iaload, 1) := dk_at dkB85decL_8 39 rfl
theorem dL_law_808 : decode cL_law 808 = .ok (.aload_n 0, 1) := dk_at dkB85decL_8 40 rfl
theorem dL_law_809 : decode cL_law 809 = .ok (.iload_n 3, 1) := dk_at dkB85decL_8 41 rfl
theorem dL_law_810 : decode cL_law 810 = .ok (.iconst 3, 1) := dk_at dkB85decL_8 42 rfl
theorem dL_law_811 : decode cL_law 811 = .ok (.iadd, 1) := dk_at dkB85decL_8 43 rfl
theorem dL_law_812 : decode cL_law 812 = .ok (.iaload, 1) := dk_at dkB85decL_8 44 rfl
theorem dL_law_813 : decode cL_law 813 = .ok (.aload_n 0, 1) := dk_at dkB85decL_8 45 rfl
theorem dL_law_814 : decode cL_law 814 = .ok (.iload_n 3, 1) := dk_at dkB85decL_8 46 rfl
theorem dL_law_815 : decode cL_law 815 = .ok (.iconst 4, 1) := dk_at dkB85decL_8 47 rfl
theorem dL_law_816 : decode cL_law 816 = .ok (.iadd, 1) := dk_at dkB85decL_8 48 rfl
theorem dL_law_817 : decode cL_law 817 = .ok (.iaload, 1) := dk_at dkB85decL_8 49 rfl
theorem dL_law_818 : decode cL_law 818 = .ok (.aload_n 0, 1) := dk_at dkB85decL_8 50 rfl
theorem dL_law_819 : decode cL_law 819 = .ok (.iload_n 3, 1) := dk_at dkB85decL_8 51 rfl
theorem dL_law_820 : decode cL_law 820 = .ok (.iconst 5, 1) := dk_at dkB85decL_8 52 rfl
theorem dL_law_821 : decode cL_law 821 = .ok (.iadd, 1) := dk_at dkB85decL_8 53 rfl
theorem dL_law_822 : decode cL_law 822 = .ok (.iaload, 1) := dk_at dkB85decL_8 54 rfl
theorem dL_law_823 : decode cL_law 823 = .ok (.invokevirtual 84, 3) := dk_at dkB85decL_8 55 rfl
theorem dL_law_826 : decode cL_law 826 = .ok (.pop, 1) := dk_at dkB85decL_8 56 rfl
theorem dL_law_827 : decode cL_law 827 = .ok (.goto 958, 3) := dk_at dkB85decL_8 57 rfl
theorem dL_law_830 : decode cL_law 830 = .ok (.aload_n 1, 1) := dk_at dkB85decL_8 58 rfl
theorem dL_law_831 : decode cL_law 831 = .ok (.aload_n 0, 1) := dk_at dkB85decL_8 59 rfl
noncomputable def dkL85decL_9 : List (ByteArray × Nat × Instr × Nat) := [(cL_law, 832, (.iload_n 3, 1)), (cL_law, 833, (.iconst 1, 1)), (cL_law, 834, (.iadd, 1)), (cL_law, 835, (.iaload, 1)), (cL_law, 836, (.aload_n 0, 1)), (cL_law, 837, (.iload_n 3, 1)), (cL_law, 838, (.iconst 2, 1)), (cL_law, 839, (.iadd, 1)), (cL_law, 840, (.iaload, 1)), (cL_law, 841, (.aload_n 0, 1)), (cL_law, 842, (.iload_n 3, 1)), (cL_law, 843, (.iconst 3, 1)), (cL_law, 844, (.iadd, 1)), (cL_law, 845, (.iaload, 1)), (cL_law, 846, (.aload_n 0, 1)), (cL_law, 847, (.iload_n 3, 1)), (cL_law, 848, (.iconst 4, 1)), (cL_law, 849, (.iadd, 1)), (cL_law, 850, (.iaload, 1)), (cL_law, 851, (.aload_n 0, 1)), (cL_law, 852, (.iload_n 3, 1)), (cL_law, 853, (.iconst 5, 1)), (cL_law, 854, (.iadd, 1)), (cL_law, 855, (.iaload, 1)), (cL_law, 856, (.invokevirtual 85, 3)), (cL_law, 859, (.pop, 1)), (cL_law, 860, (.aload_n 2, 1)), (cL_law, 861, (.aload_n 0, 1)), (cL_law, 862, (.iload_n 3, 1)), (cL_law, 863, (.iconst 1, 1)), (cL_law, 864, (.iadd, 1)), (cL_law, 865, (.iaload, 1)), (cL_law, 866, (.aload_n 0, 1)), (cL_law, 867, (.iload_n 3, 1)), (cL_law, 868, (.iconst 2, 1)), (cL_law, 869, (.iadd, 1)), (cL_law, 870, (.iaload, 1)), (cL_law, 871, (.aload_n 0, 1)), (cL_law, 872, (.iload_n 3, 1)), (cL_law, 873, (.iconst 3, 1)), (cL_law, 874, (.iadd, 1)), (cL_law, 875, (.iaload, 1)), (cL_law, 876, (.aload_n 0, 1)), (cL_law, 877, (.iload_n 3, 1)), (cL_law, 878, (.iconst 4, 1)), (cL_law, 879, (.iadd, 1)), (cL_law, 880, (.iaload, 1)), (cL_law, 881, (.aload_n 0, 1)), (cL_law, 882, (.iload_n 3, 1)), (cL_law, 883, (.iconst 5, 1)), (cL_law, 884, (.iadd, 1)), (cL_law, 885, (.iaload, 1)), (cL_law, 886, (.invokevirtual 88, 3)), (cL_law, 889, (.pop, 1)), (cL_law, 890, (.goto 895, 3)), (cL_law, 893, (.aload_n 1, 1)), (cL_law, 894, (.aload_n 0, 1)), (cL_law, 895, (.iload_n 3, 1)), (cL_law, 896, (.iconst 1, 1)), (cL_law, 897, (.iadd, 1))]
theorem dkB85decL_9 : dkL85decL_9.all (fun q => decide (decode q.1 q.2.1 = .ok q.2.2)) = true := by decide +kernel
theorem dL_law_832 : decode cL_law 832 = .ok (.iload_n 3, 1) := dk_at dkB85decL_9 0 rfl
theorem dL_law_833 : decode cL_law 833 = .ok (.iconst 1, 1) := dk_at dkB85decL_9 1 rfl
theorem dL_law_834 : decode cL_law 834 = .ok (.iadd, 1) := dk_at dkB85decL_9 2 rfl
theorem dL_law_835 : decode cL_law 835 = .ok (.iaload, 1) := dk_at dkB85decL_9 3 rfl
theorem dL_law_836 : decode cL_law 836 = .ok (.aload_n 0, 1) := dk_at dkB85decL_9 4 rfl
theorem dL_law_837 : decode cL_law 837 = .ok (.iload_n 3, 1) := dk_at dkB85decL_9 5 rfl
theorem dL_law_838 : decode cL_law 838 = .ok (.iconst 2, 1) := dk_at dkB85decL_9 6 rfl
theorem dL_law_839 : decode cL_law 839 = .ok (.iadd, 1) := dk_at dkB85decL_9 7 rfl
theorem dL_law_840 : decode cL_law 840 = .ok (.iaload, 1) := dk_at dkB85decL_9 8 rfl
theorem dL_law_841 : decode cL_law 841 = .ok (.aload_n 0, 1) := dk_at dkB85decL_9 9 rfl
theorem dL_law_842 : decode cL_law 842 = .ok (.iload_n 3, 1) := dk_at dkB85decL_9 10 rfl
theorem dL_law_843 : decode cL_law 843 = .ok (.iconst 3, 1) := dk_at dkB85decL_9 11 rfl
theorem dL_law_844 : decode cL_law 844 = .ok (.iadd, 1) := dk_at dkB85decL_9 12 rfl
theorem dL_law_845 : decode cL_law 845 = .ok (.iaload, 1) := dk_at dkB85decL_9 13 rfl
theorem dL_law_846 : decode cL_law 846 = .ok (.aload_n 0, 1) := dk_at dkB85decL_9 14 rfl
theorem dL_law_847 : decode cL_law 847 = .ok (.iload_n 3, 1) := dk_at dkB85decL_9 15 rfl
theorem dL_law_848 : decode cL_law 848 = .ok (.iconst 4, 1) := dk_at dkB85decL_9 16 rfl
theorem dL_law_849 : decode cL_law 849 = .ok (.iadd, 1) := dk_at dkB85decL_9 17 rfl
theorem dL_law_850 : decode cL_law 850 = .ok (.iaload, 1) := dk_at dkB85decL_9 18 rfl
theorem dL_law_851 : decode cL_law 851 = .ok (.aload_n 0, 1) := dk_at dkB85decL_9 19 rfl
theorem dL_law_852 : decode cL_law 852 = .ok (.iload_n 3, 1) := dk_at dkB85decL_9 20 rfl
theorem dL_law_853 : decode cL_law 853 = .ok (.iconst 5, 1) := dk_at dkB85decL_9 21 rfl
theorem dL_law_854 : decode cL_law 854 = .ok (.iadd, 1) := dk_at dkB85decL_9 22 rfl
theorem dL_law_855 : decode cL_law 855 = .ok (.iaload, 1) := dk_at dkB85decL_9 23 rfl
theorem dL_law_856 : decode cL_law 856 = .ok (.invokevirtual 85, 3) := dk_at dkB85decL_9 24 rfl
theorem dL_law_859 : decode cL_law 859 = .ok (.pop, 1) := dk_at dkB85decL_9 25 rfl
theorem dL_law_860 : decode cL_law 860 = .ok (.aload_n 2, 1) := dk_at dkB85decL_9 26 rfl
theorem dL_law_861 : decode cL_law 861 = .ok (.aload_n 0, 1) := dk_at dkB85decL_9 27 rfl
theorem dL_law_862 : decode cL_law 862 = .ok (.iload_n 3, 1) := dk_at dkB85decL_9 28 rfl
theorem dL_law_863 : decode cL_law 863 = .ok (.iconst 1, 1) := dk_at dkB85decL_9 29 rfl
theorem dL_law_864 : decode cL_law 864 = .ok (.iadd, 1) := dk_at dkB85decL_9 30 rfl
theorem dL_law_865 : decode cL_law 865 = .ok (.iaload, 1) := dk_at dkB85decL_9 31 rfl
theorem dL_law_866 : decode cL_law 866 = .ok (.aload_n 0, 1) := dk_at dkB85decL_9 32 rfl
theorem dL_law_867 : decode cL_law 867 = .ok (.iload_n 3, 1) := dk_at dkB85decL_9 33 rfl
theorem dL_law_868 : decode cL_law 868 = .ok (.iconst 2, 1) := dk_at dkB85decL_9 34 rfl
theorem dL_law_869 : decode cL_law 869 = .ok (.iadd, 1) := dk_at dkB85decL_9 35 rfl
theorem dL_law_870 : decode cL_law 870 = .ok (.iaload, 1) := dk_at dkB85decL_9 36 rfl
theorem dL_law_871 : decode cL_law 871 = .ok (.aload_n 0, 1) := dk_at dkB85decL_9 37 rfl
theorem dL_law_872 : decode cL_law 872 = .ok (.iload_n 3, 1) := dk_at dkB85decL_9 38 rfl
theorem dL_law_873 : decode cL_law 873 = .ok (.iconst 3, 1) := dk_at dkB85decL_9 39 rfl
theorem dL_law_874 : decode cL_law 874 = .ok (.iadd, 1) := dk_at dkB85decL_9 40 rfl
theorem dL_law_875 : decode cL_law 875 = .ok (.iaload, 1) := dk_at dkB85decL_9 41 rfl
theorem dL_law_876 : decode cL_law 876 = .ok (.aload_n 0, 1) := dk_at dkB85decL_9 42 rfl
theorem dL_law_877 : decode cL_law 877 = .ok (.iload_n 3, 1) := dk_at dkB85decL_9 43 rfl
theorem dL_law_878 : decode cL_law 878 = .ok (.iconst 4, 1) := dk_at dkB85decL_9 44 rfl
theorem dL_law_879 : decode cL_law 879 = .ok (.iadd, 1) := dk_at dkB85decL_9 45 rfl
theorem dL_law_880 : decode cL_law 880 = .ok (.iaload, 1) := dk_at dkB85decL_9 46 rfl
theorem dL_law_881 : decode cL_law 881 = .ok (.aload_n 0, 1) := dk_at dkB85decL_9 47 rfl
theorem dL_law_882 : decode cL_law 882 = .ok (.iload_n 3, 1) := dk_at dkB85decL_9 48 rfl
theorem dL_law_883 : decode cL_law 883 = .ok (.iconst 5, 1) := dk_at dkB85decL_9 49 rfl
theorem dL_law_884 : decode cL_law 884 = .ok (.iadd, 1) := dk_at dkB85decL_9 50 rfl
theorem dL_law_885 : decode cL_law 885 = .ok (.iaload, 1) := dk_at dkB85decL_9 51 rfl
theorem dL_law_886 : decode cL_law 886 = .ok (.invokevirtual 88, 3) := dk_at dkB85decL_9 52 rfl
theorem dL_law_889 : decode cL_law 889 = .ok (.pop, 1) := dk_at dkB85decL_9 53 rfl
theorem dL_law_890 : decode cL_law 890 = .ok (.goto 895, 3) := dk_at dkB85decL_9 54 rfl
theorem dL_law_893 : decode cL_law 893 = .ok (.aload_n 1, 1) := dk_at dkB85decL_9 55 rfl
theorem dL_law_894 : decode cL_law 894 = .ok (.aload_n 0, 1) := dk_at dkB85decL_9 56 rfl
theorem dL_law_895 : decode cL_law 895 = .ok (.iload_n 3, 1) := dk_at dkB85decL_9 57 rfl
theorem dL_law_896 : decode cL_law 896 = .ok (.iconst 1, 1) := dk_at dkB85decL_9 58 rfl
theorem dL_law_897 : decode cL_law 897 = .ok (.iadd, 1) := dk_at dkB85decL_9 59 rfl
noncomputable def dkL85decL_10 : List (ByteArray × Nat × Instr × Nat) := [(cL_law, 898, (.iaload, 1)), (cL_law, 899, (.aload_n 0, 1)), (cL_law, 900, (.iload_n 3, 1)), (cL_law, 901, (.iconst 2, 1)), (cL_law, 902, (.iadd, 1)), (cL_law, 903, (.iaload, 1)), (cL_law, 904, (.invokevirtual 89, 3)), (cL_law, 907, (.pop, 1)), (cL_law, 908, (.aload_n 2, 1)), (cL_law, 909, (.aload_n 0, 1)), (cL_law, 910, (.iload_n 3, 1)), (cL_law, 911, (.iconst 1, 1)), (cL_law, 912, (.iadd, 1)), (cL_law, 913, (.iaload, 1)), (cL_law, 914, (.aload_n 0, 1)), (cL_law, 915, (.iload_n 3, 1)), (cL_law, 916, (.iconst 2, 1)), (cL_law, 917, (.iadd, 1)), (cL_law, 918, (.iaload, 1)), (cL_law, 919, (.invokevirtual 92, 3)), (cL_law, 922, (.pop, 1)), (cL_law, 923, (.goto 862, 3)), (cL_law, 926, (.aload_n 1, 1)), (cL_law, 927, (.aload_n 0, 1)), (cL_law, 928, (.iload_n 3, 1)), (cL_law, 929, (.iconst 1, 1)), (cL_law, 930, (.iadd, 1)), (cL_law, 931, (.iaload, 1)), (cL_law, 932, (.invokevirtual 93, 3)), (cL_law, 935, (.pop, 1)), (cL_law, 936, (.aload_n 2, 1)), (cL_law, 937, (.aload_n 0, 1)), (cL_law, 938, (.iload_n 3, 1)), (cL_law, 939, (.iconst 1, 1)), (cL_law, 940, (.iadd, 1)), (cL_law, 941, (.iaload, 1)), (cL_law, 942, (.invokevirtual 96, 3)), (cL_law, 945, (.pop, 1)), (cL_law, 946, (.goto 839, 3)), (cL_law, 949, (.aload_n 1, 1)), (cL_law, 950, (.aload_n 0, 1)), (cL_law, 951, (.iload_n 3, 1)), (cL_law, 952, (.iconst 1, 1)), (cL_law, 953, (.iadd, 1)), (cL_law, 954, (.iaload, 1)), (cL_law, 955, (.invokevirtual 97, 3)), (cL_law, 958, (.pop2, 1)), (cL_law, 959, (.aload_n 2, 1)), (cL_law, 960, (.aload_n 0, 1)), (cL_law, 961, (.iload_n 3, 1)), (cL_law, 962, (.iconst 1, 1)), (cL_law, 963, (.iadd, 1)), (cL_law, 964, (.iaload, 1)), (cL_law, 965, (.invokevirtual 101, 3)), (cL_law, 968, (.pop2, 1)), (cL_law, 969, (.goto 816, 3)), (cL_law, 972, (.aload_n 1, 1)), (cL_law, 973, (.aload_n 0, 1)), (cL_law, 974, (.iload_n 3, 1)), (cL_law, 975, (.iconst 1, 1))]
theorem dkB85decL_10 : dkL85decL_10.all (fun q => decide (decode q.1 q.2.1 = .ok q.2.2)) = true := by decide +kernel
theorem dL_law_898 : decode cL_law 898 = .ok (.iaload, 1) := dk_at dkB85decL_10 0 rfl
theorem dL_law_899 : decode cL_law 899 = .ok (.aload_n 0, 1) := dk_at dkB85decL_10 1 rfl
theorem dL_law_900 : decode cL_law 900 = .ok (.iload_n 3, 1) := dk_at dkB85decL_10 2 rfl
theorem dL_law_901 : decode cL_law 901 = .ok (.iconst 2, 1) := dk_at dkB85decL_10 3 rfl
theorem dL_law_902 : decode cL_law 902 = .ok (.iadd, 1) := dk_at dkB85decL_10 4 rfl
theorem dL_law_903 : decode cL_law 903 = .ok (.iaload, 1) := dk_at dkB85decL_10 5 rfl
theorem dL_law_904 : decode cL_law 904 = .ok (.invokevirtual 89, 3) := dk_at dkB85decL_10 6 rfl
theorem dL_law_907 : decode cL_law 907 = .ok (.pop, 1) := dk_at dkB85decL_10 7 rfl
theorem dL_law_908 : decode cL_law 908 = .ok (.aload_n 2, 1) := dk_at dkB85decL_10 8 rfl
theorem dL_law_909 : decode cL_law 909 = .ok (.aload_n 0, 1) := dk_at dkB85decL_10 9 rfl
theorem dL_law_910 : decode cL_law 910 = .ok (.iload_n 3, 1) := dk_at dkB85decL_10 10 rfl
theorem dL_law_911 : decode cL_law 911 = .ok (.iconst 1, 1) := dk_at dkB85decL_10 11 rfl
theorem dL_law_912 : decode cL_law 912 = .ok (.iadd, 1) := dk_at dkB85decL_10 12 rfl
theorem dL_law_913 : decode cL_law 913 = .ok (.iaload, 1) := dk_at dkB85decL_10 13 rfl
theorem dL_law_914 : decode cL_law 914 = .ok (.aload_n 0, 1) := dk_at dkB85decL_10 14 rfl
theorem dL_law_915 : decode cL_law 915 = .ok (.iload_n 3, 1) := dk_at dkB85decL_10 15 rfl
theorem dL_law_916 : decode cL_law 916 = .ok (.iconst 2, 1) := dk_at dkB85decL_10 16 rfl
theorem dL_law_917 : decode cL_law 917 = .ok (.iadd, 1) := dk_at dkB85decL_10 17 rfl
theorem dL_law_918 : decode cL_law 918 = .ok (.iaload, 1) := dk_at dkB85decL_10 18 rfl
theorem dL_law_919 : decode cL_law 919 = .ok (.invokevirtual 92, 3) := dk_at dkB85decL_10 19 rfl
theorem dL_law_922 : decode cL_law 922 = .ok (.pop, 1) := dk_at dkB85decL_10 20 rfl
theorem dL_law_923 : decode cL_law 923 = .ok (.goto 862, 3) := dk_at dkB85decL_10 21 rfl
theorem dL_law_926 : decode cL_law 926 = .ok (.aload_n 1, 1) := dk_at dkB85decL_10 22 rfl
theorem dL_law_927 : decode cL_law 927 = .ok (.aload_n 0, 1) := dk_at dkB85decL_10 23 rfl
theorem dL_law_928 : decode cL_law 928 = .ok (.iload_n 3, 1) := dk_at dkB85decL_10 24 rfl
theorem dL_law_929 : decode cL_law 929 = .ok (.iconst 1, 1) := dk_at dkB85decL_10 25 rfl
theorem dL_law_930 : decode cL_law 930 = .ok (.iadd, 1) := dk_at dkB85decL_10 26 rfl
theorem dL_law_931 : decode cL_law 931 = .ok (.iaload, 1) := dk_at dkB85decL_10 27 rfl
theorem dL_law_932 : decode cL_law 932 = .ok (.invokevirtual 93, 3) := dk_at dkB85decL_10 28 rfl
theorem dL_law_935 : decode cL_law 935 = .ok (.pop, 1) := dk_at dkB85decL_10 29 rfl
theorem dL_law_936 : decode cL_law 936 = .ok (.aload_n 2, 1) := dk_at dkB85decL_10 30 rfl
theorem dL_law_937 : decode cL_law 937 = .ok (.aload_n 0, 1) := dk_at dkB85decL_10 31 rfl
theorem dL_law_938 : decode cL_law 938 = .ok (.iload_n 3, 1) := dk_at dkB85decL_10 32 rfl
theorem dL_law_939 : decode cL_law 939 = .ok (.iconst 1, 1) := dk_at dkB85decL_10 33 rfl
theorem dL_law_940 : decode cL_law 940 = .ok (.iadd, 1) := dk_at dkB85decL_10 34 rfl
theorem dL_law_941 : decode cL_law 941 = .ok (.iaload, 1) := dk_at dkB85decL_10 35 rfl
theorem dL_law_942 : decode cL_law 942 = .ok (.invokevirtual 96, 3) := dk_at dkB85decL_10 36 rfl
theorem dL_law_945 : decode cL_law 945 = .ok (.pop, 1) := dk_at dkB85decL_10 37 rfl
theorem dL_law_946 : decode cL_law 946 = .ok (.goto 839, 3) := dk_at dkB85decL_10 38 rfl
theorem dL_law_949 : decode cL_law 949 = .ok (.aload_n 1, 1) := dk_at dkB85decL_10 39 rfl
theorem dL_law_950 : decode cL_law 950 = .ok (.aload_n 0, 1) := dk_at dkB85decL_10 40 rfl
theorem dL_law_951 : decode cL_law 951 = .ok (.iload_n 3, 1) := dk_at dkB85decL_10 41 rfl
theorem dL_law_952 : decode cL_law 952 = .ok (.iconst 1, 1) := dk_at dkB85decL_10 42 rfl
theorem dL_law_953 : decode cL_law 953 = .ok (.iadd, 1) := dk_at dkB85decL_10 43 rfl
theorem dL_law_954 : decode cL_law 954 = .ok (.iaload, 1) := dk_at dkB85decL_10 44 rfl
theorem dL_law_955 : decode cL_law 955 = .ok (.invokevirtual 97, 3) := dk_at dkB85decL_10 45 rfl
theorem dL_law_958 : decode cL_law 958 = .ok (.pop2, 1) := dk_at dkB85decL_10 46 rfl
theorem dL_law_959 : decode cL_law 959 = .ok (.aload_n 2, 1) := dk_at dkB85decL_10 47 rfl
theorem dL_law_960 : decode cL_law 960 = .ok (.aload_n 0, 1) := dk_at dkB85decL_10 48 rfl
theorem dL_law_961 : decode cL_law 961 = .ok (.iload_n 3, 1) := dk_at dkB85decL_10 49 rfl
theorem dL_law_962 : decode cL_law 962 = .ok (.iconst 1, 1) := dk_at dkB85decL_10 50 rfl
theorem dL_law_963 : decode cL_law 963 = .ok (.iadd, 1) := dk_at dkB85decL_10 51 rfl
theorem dL_law_964 : decode cL_law 964 = .ok (.iaload, 1) := dk_at dkB85decL_10 52 rfl
theorem dL_law_965 : decode cL_law 965 = .ok (.invokevirtual 101, 3) := dk_at dkB85decL_10 53 rfl
theorem dL_law_968 : decode cL_law 968 = .ok (.pop2, 1) := dk_at dkB85decL_10 54 rfl
theorem dL_law_969 : decode cL_law 969 = .ok (.goto 816, 3) := dk_at dkB85decL_10 55 rfl
theorem dL_law_972 : decode cL_law 972 = .ok (.aload_n 1, 1) := dk_at dkB85decL_10 56 rfl
theorem dL_law_973 : decode cL_law 973 = .ok (.aload_n 0, 1) := dk_at dkB85decL_10 57 rfl
theorem dL_law_974 : decode cL_law 974 = .ok (.iload_n 3, 1) := dk_at dkB85decL_10 58 rfl
theorem dL_law_975 : decode cL_law 975 = .ok (.iconst 1, 1) := dk_at dkB85decL_10 59 rfl
noncomputable def dkL85decL_11 : List (ByteArray × Nat × Instr × Nat) := [(cL_law, 976, (.iadd, 1)), (cL_law, 977, (.iaload, 1)), (cL_law, 978, (.aload_n 0, 1)), (cL_law, 979, (.iload_n 3, 1)), (cL_law, 980, (.iconst 2, 1)), (cL_law, 981, (.iadd, 1)), (cL_law, 982, (.iaload, 1)), (cL_law, 983, (.aload_n 0, 1)), (cL_law, 984, (.iload_n 3, 1)), (cL_law, 985, (.iconst 3, 1)), (cL_law, 986, (.iadd, 1)), (cL_law, 987, (.iaload, 1)), (cL_law, 988, (.invokevirtual 102, 3)), (cL_law, 991, (.pop, 1)), (cL_law, 992, (.aload_n 2, 1)), (cL_law, 993, (.aload_n 0, 1)), (cL_law, 994, (.iload_n 3, 1)), (cL_law, 995, (.iconst 1, 1)), (cL_law, 996, (.iadd, 1)), (cL_law, 997, (.iaload, 1)), (cL_law, 998, (.aload_n 0, 1)), (cL_law, 999, (.iload_n 3, 1)), (cL_law, 1000, (.iconst 2, 1)), (cL_law, 1001, (.iadd, 1)), (cL_law, 1002, (.iaload, 1)), (cL_law, 1003, (.aload_n 0, 1)), (cL_law, 1004, (.iload_n 3, 1)), (cL_law, 1005, (.iconst 3, 1)), (cL_law, 1006, (.iadd, 1)), (cL_law, 1007, (.iaload, 1)), (cL_law, 1008, (.invokevirtual 105, 3)), (cL_law, 1011, (.pop, 1)), (cL_law, 1012, (.goto 773, 3)), (cL_law, 1015, (.aload_n 1, 1)), (cL_law, 1016, (.aload_n 0, 1)), (cL_law, 1017, (.iload_n 3, 1)), (cL_law, 1018, (.iconst 1, 1)), (cL_law, 1019, (.iadd, 1)), (cL_law, 1020, (.iaload, 1)), (cL_law, 1021, (.aload_n 0, 1)), (cL_law, 1022, (.iload_n 3, 1)), (cL_law, 1023, (.iconst 2, 1)), (cL_law, 1024, (.iadd, 1)), (cL_law, 1025, (.iaload, 1)), (cL_law, 1026, (.aload_n 0, 1)), (cL_law, 1027, (.iload_n 3, 1)), (cL_law, 1028, (.iconst 3, 1)), (cL_law, 1029, (.iadd, 1)), (cL_law, 1030, (.iaload, 1)), (cL_law, 1031, (.aload_n 0, 1)), (cL_law, 1032, (.iload_n 3, 1)), (cL_law, 1033, (.iconst 4, 1)), (cL_law, 1034, (.iadd, 1)), (cL_law, 1035, (.iaload, 1)), (cL_law, 1036, (.invokevirtual 106, 3)), (cL_law, 1039, (.pop2, 1)), (cL_law, 1040, (.aload_n 2, 1)), (cL_law, 1041, (.aload_n 0, 1)), (cL_law, 1042, (.iload_n 3, 1)), (cL_law, 1043, (.iconst 1, 1))]
theorem dkB85decL_11 : dkL85decL_11.all (fun q => decide (decode q.1 q.2.1 = .ok q.2.2)) = true := by decide +kernel
theorem dL_law_976 : decode cL_law 976 = .ok (.iadd, 1) := dk_at dkB85decL_11 0 rfl
theorem dL_law_977 : decode cL_law 977 = .ok (.iaload, 1) := dk_at dkB85decL_11 1 rfl
theorem dL_law_978 : decode cL_law 978 = .ok (.aload_n 0, 1) := dk_at dkB85decL_11 2 rfl
theorem dL_law_979 : decode cL_law 979 = .ok (.iload_n 3, 1) := dk_at dkB85decL_11 3 rfl
theorem dL_law_980 : decode cL_law 980 = .ok (.iconst 2, 1) := dk_at dkB85decL_11 4 rfl
theorem dL_law_981 : decode cL_law 981 = .ok (.iadd, 1) := dk_at dkB85decL_11 5 rfl
theorem dL_law_982 : decode cL_law 982 = .ok (.iaload, 1) := dk_at dkB85decL_11 6 rfl
theorem dL_law_983 : decode cL_law 983 = .ok (.aload_n 0, 1) := dk_at dkB85decL_11 7 rfl
theorem dL_law_984 : decode cL_law 984 = .ok (.iload_n 3, 1) := dk_at dkB85decL_11 8 rfl
theorem dL_law_985 : decode cL_law 985 = .ok (.iconst 3, 1) := dk_at dkB85decL_11 9 rfl
theorem dL_law_986 : decode cL_law 986 = .ok (.iadd, 1) := dk_at dkB85decL_11 10 rfl
theorem dL_law_987 : decode cL_law 987 = .ok (.iaload, 1) := dk_at dkB85decL_11 11 rfl
theorem dL_law_988 : decode cL_law 988 = .ok (.invokevirtual 102, 3) := dk_at dkB85decL_11 12 rfl
theorem dL_law_991 : decode cL_law 991 = .ok (.pop, 1) := dk_at dkB85decL_11 13 rfl
theorem dL_law_992 : decode cL_law 992 = .ok (.aload_n 2, 1) := dk_at dkB85decL_11 14 rfl
theorem dL_law_993 : decode cL_law 993 = .ok (.aload_n 0, 1) := dk_at dkB85decL_11 15 rfl
theorem dL_law_994 : decode cL_law 994 = .ok (.iload_n 3, 1) := dk_at dkB85decL_11 16 rfl
theorem dL_law_995 : decode cL_law 995 = .ok (.iconst 1, 1) := dk_at dkB85decL_11 17 rfl
theorem dL_law_996 : decode cL_law 996 = .ok (.iadd, 1) := dk_at dkB85decL_11 18 rfl
theorem dL_law_997 : decode cL_law 997 = .ok (.iaload, 1) := dk_at dkB85decL_11 19 rfl
theorem dL_law_998 : decode cL_law 998 = .ok (.aload_n 0, 1) := dk_at dkB85decL_11 20 rfl
theorem dL_law_999 : decode cL_law 999 = .ok (.iload_n 3, 1) := dk_at dkB85decL_11 21 rfl
theorem dL_law_1000 : decode cL_law 1000 = .ok (.iconst 2, 1) := dk_at dkB85decL_11 22 rfl
theorem dL_law_1001 : decode cL_law 1001 = .ok (.iadd, 1) := dk_at dkB85decL_11 23 rfl
theorem dL_law_1002 : decode cL_law 1002 = .ok (.iaload, 1) := dk_at dkB85decL_11 24 rfl
theorem dL_law_1003 : decode cL_law 1003 = .ok (.aload_n 0, 1) := dk_at dkB85decL_11 25 rfl
theorem dL_law_1004 : decode cL_law 1004 = .ok (.iload_n 3, 1) := dk_at dkB85decL_11 26 rfl
theorem dL_law_1005 : decode cL_law 1005 = .ok (.iconst 3, 1) := dk_at dkB85decL_11 27 rfl
theorem dL_law_1006 : decode cL_law 1006 = .ok (.iadd, 1) := dk_at dkB85decL_11 28 rfl
theorem dL_law_1007 : decode cL_law 1007 = .ok (.iaload, 1) := dk_at dkB85decL_11 29 rfl
theorem dL_law_1008 : decode cL_law 1008 = .ok (.invokevirtual 105, 3) := dk_at dkB85decL_11 30 rfl
theorem dL_law_1011 : decode cL_law 1011 = .ok (.pop, 1) := dk_at dkB85decL_11 31 rfl
theorem dL_law_1012 : decode cL_law 1012 = .ok (.goto 773, 3) := dk_at dkB85decL_11 32 rfl
theorem dL_law_1015 : decode cL_law 1015 = .ok (.aload_n 1, 1) := dk_at dkB85decL_11 33 rfl
theorem dL_law_1016 : decode cL_law 1016 = .ok (.aload_n 0, 1) := dk_at dkB85decL_11 34 rfl
theorem dL_law_1017 : decode cL_law 1017 = .ok (.iload_n 3, 1) := dk_at dkB85decL_11 35 rfl
theorem dL_law_1018 : decode cL_law 1018 = .ok (.iconst 1, 1) := dk_at dkB85decL_11 36 rfl
theorem dL_law_1019 : decode cL_law 1019 = .ok (.iadd, 1) := dk_at dkB85decL_11 37 rfl
theorem dL_law_1020 : decode cL_law 1020 = .ok (.iaload, 1) := dk_at dkB85decL_11 38 rfl
theorem dL_law_1021 : decode cL_law 1021 = .ok (.aload_n 0, 1) := dk_at dkB85decL_11 39 rfl
theorem dL_law_1022 : decode cL_law 1022 = .ok (.iload_n 3, 1) := dk_at dkB85decL_11 40 rfl
theorem dL_law_1023 : decode cL_law 1023 = .ok (.iconst 2, 1) := dk_at dkB85decL_11 41 rfl
theorem dL_law_1024 : decode cL_law 1024 = .ok (.iadd, 1) := dk_at dkB85decL_11 42 rfl
theorem dL_law_1025 : decode cL_law 1025 = .ok (.iaload, 1) := dk_at dkB85decL_11 43 rfl
theorem dL_law_1026 : decode cL_law 1026 = .ok (.aload_n 0, 1) := dk_at dkB85decL_11 44 rfl
theorem dL_law_1027 : decode cL_law 1027 = .ok (.iload_n 3, 1) := dk_at dkB85decL_11 45 rfl
theorem dL_law_1028 : decode cL_law 1028 = .ok (.iconst 3, 1) := dk_at dkB85decL_11 46 rfl
theorem dL_law_1029 : decode cL_law 1029 = .ok (.iadd, 1) := dk_at dkB85decL_11 47 rfl
theorem dL_law_1030 : decode cL_law 1030 = .ok (.iaload, 1) := dk_at dkB85decL_11 48 rfl
theorem dL_law_1031 : decode cL_law 1031 = .ok (.aload_n 0, 1) := dk_at dkB85decL_11 49 rfl
theorem dL_law_1032 : decode cL_law 1032 = .ok (.iload_n 3, 1) := dk_at dkB85decL_11 50 rfl
theorem dL_law_1033 : decode cL_law 1033 = .ok (.iconst 4, 1) := dk_at dkB85decL_11 51 rfl
theorem dL_law_1034 : decode cL_law 1034 = .ok (.iadd, 1) := dk_at dkB85decL_11 52 rfl
theorem dL_law_1035 : decode cL_law 1035 = .ok (.iaload, 1) := dk_at dkB85decL_11 53 rfl
theorem dL_law_1036 : decode cL_law 1036 = .ok (.invokevirtual 106, 3) := dk_at dkB85decL_11 54 rfl
theorem dL_law_1039 : decode cL_law 1039 = .ok (.pop2, 1) := dk_at dkB85decL_11 55 rfl
theorem dL_law_1040 : decode cL_law 1040 = .ok (.aload_n 2, 1) := dk_at dkB85decL_11 56 rfl
theorem dL_law_1041 : decode cL_law 1041 = .ok (.aload_n 0, 1) := dk_at dkB85decL_11 57 rfl
theorem dL_law_1042 : decode cL_law 1042 = .ok (.iload_n 3, 1) := dk_at dkB85decL_11 58 rfl
theorem dL_law_1043 : decode cL_law 1043 = .ok (.iconst 1, 1) := dk_at dkB85decL_11 59 rfl
noncomputable def dkL85decL_12 : List (ByteArray × Nat × Instr × Nat) := [(cL_law, 1044, (.iadd, 1)), (cL_law, 1045, (.iaload, 1)), (cL_law, 1046, (.aload_n 0, 1)), (cL_law, 1047, (.iload_n 3, 1)), (cL_law, 1048, (.iconst 2, 1)), (cL_law, 1049, (.iadd, 1)), (cL_law, 1050, (.iaload, 1)), (cL_law, 1051, (.aload_n 0, 1)), (cL_law, 1052, (.iload_n 3, 1)), (cL_law, 1053, (.iconst 3, 1)), (cL_law, 1054, (.iadd, 1)), (cL_law, 1055, (.iaload, 1)), (cL_law, 1056, (.aload_n 0, 1)), (cL_law, 1057, (.iload_n 3, 1)), (cL_law, 1058, (.iconst 4, 1)), (cL_law, 1059, (.iadd, 1)), (cL_law, 1060, (.iaload, 1)), (cL_law, 1061, (.invokevirtual 110, 3)), (cL_law, 1064, (.pop2, 1)), (cL_law, 1065, (.goto 720, 3)), (cL_law, 1068, (.aload_n 1, 1)), (cL_law, 1069, (.aload_n 0, 1)), (cL_law, 1070, (.iload_n 3, 1)), (cL_law, 1071, (.iconst 1, 1)), (cL_law, 1072, (.iadd, 1)), (cL_law, 1073, (.iaload, 1)), (cL_law, 1074, (.aload_n 0, 1)), (cL_law, 1075, (.iload_n 3, 1)), (cL_law, 1076, (.iconst 2, 1)), (cL_law, 1077, (.iadd, 1)), (cL_law, 1078, (.iaload, 1)), (cL_law, 1079, (.aload_n 0, 1)), (cL_law, 1080, (.iload_n 3, 1)), (cL_law, 1081, (.iconst 3, 1)), (cL_law, 1082, (.iadd, 1)), (cL_law, 1083, (.iaload, 1)), (cL_law, 1084, (.aload_n 0, 1)), (cL_law, 1085, (.iload_n 3, 1)), (cL_law, 1086, (.iconst 4, 1)), (cL_law, 1087, (.iadd, 1)), (cL_law, 1088, (.iaload, 1)), (cL_law, 1089, (.invokevirtual 111, 3)), (cL_law, 1092, (.pop, 1)), (cL_law, 1093, (.aload_n 2, 1)), (cL_law, 1094, (.aload_n 0, 1)), (cL_law, 1095, (.iload_n 3, 1)), (cL_law, 1096, (.iconst 1, 1)), (cL_law, 1097, (.iadd, 1)), (cL_law, 1098, (.iaload, 1)), (cL_law, 1099, (.aload_n 0, 1)), (cL_law, 1100, (.iload_n 3, 1)), (cL_law, 1101, (.iconst 2, 1)), (cL_law, 1102, (.iadd, 1)), (cL_law, 1103, (.iaload, 1)), (cL_law, 1104, (.aload_n 0, 1)), (cL_law, 1105, (.iload_n 3, 1)), (cL_law, 1106, (.iconst 3, 1)), (cL_law, 1107, (.iadd, 1)), (cL_law, 1108, (.iaload, 1)), (cL_law, 1109, (.aload_n 0, 1))]
theorem dkB85decL_12 : dkL85decL_12.all (fun q => decide (decode q.1 q.2.1 = .ok q.2.2)) = true := by decide +kernel
theorem dL_law_1044 : decode cL_law 1044 = .ok (.iadd, 1) := dk_at dkB85decL_12 0 rfl
theorem dL_law_1045 : decode cL_law 1045 = .ok (.iaload, 1) := dk_at dkB85decL_12 1 rfl
theorem dL_law_1046 : decode cL_law 1046 = .ok (.aload_n 0, 1) := dk_at dkB85decL_12 2 rfl
theorem dL_law_1047 : decode cL_law 1047 = .ok (.iload_n 3, 1) := dk_at dkB85decL_12 3 rfl
theorem dL_law_1048 : decode cL_law 1048 = .ok (.iconst 2, 1) := dk_at dkB85decL_12 4 rfl
theorem dL_law_1049 : decode cL_law 1049 = .ok (.iadd, 1) := dk_at dkB85decL_12 5 rfl
theorem dL_law_1050 : decode cL_law 1050 = .ok (.iaload, 1) := dk_at dkB85decL_12 6 rfl
theorem dL_law_1051 : decode cL_law 1051 = .ok (.aload_n 0, 1) := dk_at dkB85decL_12 7 rfl
theorem dL_law_1052 : decode cL_law 1052 = .ok (.iload_n 3, 1) := dk_at dkB85decL_12 8 rfl
theorem dL_law_1053 : decode cL_law 1053 = .ok (.iconst 3, 1) := dk_at dkB85decL_12 9 rfl
theorem dL_law_1054 : decode cL_law 1054 = .ok (.iadd, 1) := dk_at dkB85decL_12 10 rfl
theorem dL_law_1055 : decode cL_law 1055 = .ok (.iaload, 1) := dk_at dkB85decL_12 11 rfl
theorem dL_law_1056 : decode cL_law 1056 = .ok (.aload_n 0, 1) := dk_at dkB85decL_12 12 rfl
theorem dL_law_1057 : decode cL_law 1057 = .ok (.iload_n 3, 1) := dk_at dkB85decL_12 13 rfl
theorem dL_law_1058 : decode cL_law 1058 = .ok (.iconst 4, 1) := dk_at dkB85decL_12 14 rfl
theorem dL_law_1059 : decode cL_law 1059 = .ok (.iadd, 1) := dk_at dkB85decL_12 15 rfl
theorem dL_law_1060 : decode cL_law 1060 = .ok (.iaload, 1) := dk_at dkB85decL_12 16 rfl
theorem dL_law_1061 : decode cL_law 1061 = .ok (.invokevirtual 110, 3) := dk_at dkB85decL_12 17 rfl
theorem dL_law_1064 : decode cL_law 1064 = .ok (.pop2, 1) := dk_at dkB85decL_12 18 rfl
theorem dL_law_1065 : decode cL_law 1065 = .ok (.goto 720, 3) := dk_at dkB85decL_12 19 rfl
theorem dL_law_1068 : decode cL_law 1068 = .ok (.aload_n 1, 1) := dk_at dkB85decL_12 20 rfl
theorem dL_law_1069 : decode cL_law 1069 = .ok (.aload_n 0, 1) := dk_at dkB85decL_12 21 rfl
theorem dL_law_1070 : decode cL_law 1070 = .ok (.iload_n 3, 1) := dk_at dkB85decL_12 22 rfl
theorem dL_law_1071 : decode cL_law 1071 = .ok (.iconst 1, 1) := dk_at dkB85decL_12 23 rfl
theorem dL_law_1072 : decode cL_law 1072 = .ok (.iadd, 1) := dk_at dkB85decL_12 24 rfl
theorem dL_law_1073 : decode cL_law 1073 = .ok (.iaload, 1) := dk_at dkB85decL_12 25 rfl
theorem dL_law_1074 : decode cL_law 1074 = .ok (.aload_n 0, 1) := dk_at dkB85decL_12 26 rfl
theorem dL_law_1075 : decode cL_law 1075 = .ok (.iload_n 3, 1) := dk_at dkB85decL_12 27 rfl
theorem dL_law_1076 : decode cL_law 1076 = .ok (.iconst 2, 1) := dk_at dkB85decL_12 28 rfl
theorem dL_law_1077 : decode cL_law 1077 = .ok (.iadd, 1) := dk_at dkB85decL_12 29 rfl
theorem dL_law_1078 : decode cL_law 1078 = .ok (.iaload, 1) := dk_at dkB85decL_12 30 rfl
theorem dL_law_1079 : decode cL_law 1079 = .ok (.aload_n 0, 1) := dk_at dkB85decL_12 31 rfl
theorem dL_law_1080 : decode cL_law 1080 = .ok (.iload_n 3, 1) := dk_at dkB85decL_12 32 rfl
theorem dL_law_1081 : decode cL_law 1081 = .ok (.iconst 3, 1) := dk_at dkB85decL_12 33 rfl
theorem dL_law_1082 : decode cL_law 1082 = .ok (.iadd, 1) := dk_at dkB85decL_12 34 rfl
theorem dL_law_1083 : decode cL_law 1083 = .ok (.iaload, 1) := dk_at dkB85decL_12 35 rfl
theorem dL_law_1084 : decode cL_law 1084 = .ok (.aload_n 0, 1) := dk_at dkB85decL_12 36 rfl
theorem dL_law_1085 : decode cL_law 1085 = .ok (.iload_n 3, 1) := dk_at dkB85decL_12 37 rfl
theorem dL_law_1086 : decode cL_law 1086 = .ok (.iconst 4, 1) := dk_at dkB85decL_12 38 rfl
theorem dL_law_1087 : decode cL_law 1087 = .ok (.iadd, 1) := dk_at dkB85decL_12 39 rfl
theorem dL_law_1088 : decode cL_law 1088 = .ok (.iaload, 1) := dk_at dkB85decL_12 40 rfl
theorem dL_law_1089 : decode cL_law 1089 = .ok (.invokevirtual 111, 3) := dk_at dkB85decL_12 41 rfl
theorem dL_law_1092 : decode cL_law 1092 = .ok (.pop, 1) := dk_at dkB85decL_12 42 rfl
theorem dL_law_1093 : decode cL_law 1093 = .ok (.aload_n 2, 1) := dk_at dkB85decL_12 43 rfl
theorem dL_law_1094 : decode cL_law 1094 = .ok (.aload_n 0, 1) := dk_at dkB85decL_12 44 rfl
theorem dL_law_1095 : decode cL_law 1095 = .ok (.iload_n 3, 1) := dk_at dkB85decL_12 45 rfl
theorem dL_law_1096 : decode cL_law 1096 = .ok (.iconst 1, 1) := dk_at dkB85decL_12 46 rfl
theorem dL_law_1097 : decode cL_law 1097 = .ok (.iadd, 1) := dk_at dkB85decL_12 47 rfl
theorem dL_law_1098 : decode cL_law 1098 = .ok (.iaload, 1) := dk_at dkB85decL_12 48 rfl
theorem dL_law_1099 : decode cL_law 1099 = .ok (.aload_n 0, 1) := dk_at dkB85decL_12 49 rfl
theorem dL_law_1100 : decode cL_law 1100 = .ok (.iload_n 3, 1) := dk_at dkB85decL_12 50 rfl
theorem dL_law_1101 : decode cL_law 1101 = .ok (.iconst 2, 1) := dk_at dkB85decL_12 51 rfl
theorem dL_law_1102 : decode cL_law 1102 = .ok (.iadd, 1) := dk_at dkB85decL_12 52 rfl
theorem dL_law_1103 : decode cL_law 1103 = .ok (.iaload, 1) := dk_at dkB85decL_12 53 rfl
theorem dL_law_1104 : decode cL_law 1104 = .ok (.aload_n 0, 1) := dk_at dkB85decL_12 54 rfl
theorem dL_law_1105 : decode cL_law 1105 = .ok (.iload_n 3, 1) := dk_at dkB85decL_12 55 rfl
theorem dL_law_1106 : decode cL_law 1106 = .ok (.iconst 3, 1) := dk_at dkB85decL_12 56 rfl
theorem dL_law_1107 : decode cL_law 1107 = .ok (.iadd, 1) := dk_at dkB85decL_12 57 rfl
theorem dL_law_1108 : decode cL_law 1108 = .ok (.iaload, 1) := dk_at dkB85decL_12 58 rfl
theorem dL_law_1109 : decode cL_law 1109 = .ok (.aload_n 0, 1) := dk_at dkB85decL_12 59 rfl
noncomputable def dkL85decL_13 : List (ByteArray × Nat × Instr × Nat) := [(cL_law, 1110, (.iload_n 3, 1)), (cL_law, 1111, (.iconst 4, 1)), (cL_law, 1112, (.iadd, 1)), (cL_law, 1113, (.iaload, 1)), (cL_law, 1114, (.invokevirtual 115, 3)), (cL_law, 1117, (.pop, 1)), (cL_law, 1118, (.goto 667, 3)), (cL_law, 1121, (.aload_n 1, 1)), (cL_law, 1122, (.aload_n 0, 1)), (cL_law, 1123, (.iload_n 3, 1)), (cL_law, 1124, (.iconst 1, 1)), (cL_law, 1125, (.iadd, 1)), (cL_law, 1126, (.iaload, 1)), (cL_law, 1127, (.aload_n 0, 1)), (cL_law, 1128, (.iload_n 3, 1)), (cL_law, 1129, (.iconst 2, 1)), (cL_law, 1130, (.iadd, 1)), (cL_law, 1131, (.iaload, 1)), (cL_law, 1132, (.aload_n 0, 1)), (cL_law, 1133, (.iload_n 3, 1)), (cL_law, 1134, (.iconst 3, 1)), (cL_law, 1135, (.iadd, 1)), (cL_law, 1136, (.iaload, 1)), (cL_law, 1137, (.aload_n 0, 1)), (cL_law, 1138, (.iload_n 3, 1)), (cL_law, 1139, (.iconst 4, 1)), (cL_law, 1140, (.iadd, 1)), (cL_law, 1141, (.iaload, 1)), (cL_law, 1142, (.aload_n 0, 1)), (cL_law, 1143, (.iload_n 3, 1)), (cL_law, 1144, (.iconst 5, 1)), (cL_law, 1145, (.iadd, 1)), (cL_law, 1146, (.iaload, 1)), (cL_law, 1147, (.invokevirtual 116, 3)), (cL_law, 1150, (.pop2, 1)), (cL_law, 1151, (.aload_n 2, 1)), (cL_law, 1152, (.aload_n 0, 1)), (cL_law, 1153, (.iload_n 3, 1)), (cL_law, 1154, (.iconst 1, 1)), (cL_law, 1155, (.iadd, 1)), (cL_law, 1156, (.iaload, 1)), (cL_law, 1157, (.aload_n 0, 1)), (cL_law, 1158, (.iload_n 3, 1)), (cL_law, 1159, (.iconst 2, 1)), (cL_law, 1160, (.iadd, 1)), (cL_law, 1161, (.iaload, 1)), (cL_law, 1162, (.aload_n 0, 1)), (cL_law, 1163, (.iload_n 3, 1)), (cL_law, 1164, (.iconst 3, 1)), (cL_law, 1165, (.iadd, 1)), (cL_law, 1166, (.iaload, 1)), (cL_law, 1167, (.aload_n 0, 1)), (cL_law, 1168, (.iload_n 3, 1)), (cL_law, 1169, (.iconst 4, 1)), (cL_law, 1170, (.iadd, 1)), (cL_law, 1171, (.iaload, 1)), (cL_law, 1172, (.aload_n 0, 1)), (cL_law, 1173, (.iload_n 3, 1)), (cL_law, 1174, (.iconst 5, 1)), (cL_law, 1175, (.iadd, 1))]
theorem dkB85decL_13 : dkL85decL_13.all (fun q => decide (decode q.1 q.2.1 = .ok q.2.2)) = true := by decide +kernel
theorem dL_law_1110 : decode cL_law 1110 = .ok (.iload_n 3, 1) := dk_at dkB85decL_13 0 rfl
theorem dL_law_1111 : decode cL_law 1111 = .ok (.iconst 4, 1) := dk_at dkB85decL_13 1 rfl
theorem dL_law_1112 : decode cL_law 1112 = .ok (.iadd, 1) := dk_at dkB85decL_13 2 rfl
theorem dL_law_1113 : decode cL_law 1113 = .ok (.iaload, 1) := dk_at dkB85decL_13 3 rfl
theorem dL_law_1114 : decode cL_law 1114 = .ok (.invokevirtual 115, 3) := dk_at dkB85decL_13 4 rfl
theorem dL_law_1117 : decode cL_law 1117 = .ok (.pop, 1) := dk_at dkB85decL_13 5 rfl
theorem dL_law_1118 : decode cL_law 1118 = .ok (.goto 667, 3) := dk_at dkB85decL_13 6 rfl
theorem dL_law_1121 : decode cL_law 1121 = .ok (.aload_n 1, 1) := dk_at dkB85decL_13 7 rfl
theorem dL_law_1122 : decode cL_law 1122 = .ok (.aload_n 0, 1) := dk_at dkB85decL_13 8 rfl
theorem dL_law_1123 : decode cL_law 1123 = .ok (.iload_n 3, 1) := dk_at dkB85decL_13 9 rfl
theorem dL_law_1124 : decode cL_law 1124 = .ok (.iconst 1, 1) := dk_at dkB85decL_13 10 rfl
theorem dL_law_1125 : decode cL_law 1125 = .ok (.iadd, 1) := dk_at dkB85decL_13 11 rfl
theorem dL_law_1126 : decode cL_law 1126 = .ok (.iaload, 1) := dk_at dkB85decL_13 12 rfl
theorem dL_law_1127 : decode cL_law 1127 = .ok (.aload_n 0, 1) := dk_at dkB85decL_13 13 rfl
theorem dL_law_1128 : decode cL_law 1128 = .ok (.iload_n 3, 1) := dk_at dkB85decL_13 14 rfl
theorem dL_law_1129 : decode cL_law 1129 = .ok (.iconst 2, 1) := dk_at dkB85decL_13 15 rfl
theorem dL_law_1130 : decode cL_law 1130 = .ok (.iadd, 1) := dk_at dkB85decL_13 16 rfl
theorem dL_law_1131 : decode cL_law 1131 = .ok (.iaload, 1) := dk_at dkB85decL_13 17 rfl
theorem dL_law_1132 : decode cL_law 1132 = .ok (.aload_n 0, 1) := dk_at dkB85decL_13 18 rfl
theorem dL_law_1133 : decode cL_law 1133 = .ok (.iload_n 3, 1) := dk_at dkB85decL_13 19 rfl
theorem dL_law_1134 : decode cL_law 1134 = .ok (.iconst 3, 1) := dk_at dkB85decL_13 20 rfl
theorem dL_law_1135 : decode cL_law 1135 = .ok (.iadd, 1) := dk_at dkB85decL_13 21 rfl
theorem dL_law_1136 : decode cL_law 1136 = .ok (.iaload, 1) := dk_at dkB85decL_13 22 rfl
theorem dL_law_1137 : decode cL_law 1137 = .ok (.aload_n 0, 1) := dk_at dkB85decL_13 23 rfl
theorem dL_law_1138 : decode cL_law 1138 = .ok (.iload_n 3, 1) := dk_at dkB85decL_13 24 rfl
theorem dL_law_1139 : decode cL_law 1139 = .ok (.iconst 4, 1) := dk_at dkB85decL_13 25 rfl
theorem dL_law_1140 : decode cL_law 1140 = .ok (.iadd, 1) := dk_at dkB85decL_13 26 rfl
theorem dL_law_1141 : decode cL_law 1141 = .ok (.iaload, 1) := dk_at dkB85decL_13 27 rfl
theorem dL_law_1142 : decode cL_law 1142 = .ok (.aload_n 0, 1) := dk_at dkB85decL_13 28 rfl
theorem dL_law_1143 : decode cL_law 1143 = .ok (.iload_n 3, 1) := dk_at dkB85decL_13 29 rfl
theorem dL_law_1144 : decode cL_law 1144 = .ok (.iconst 5, 1) := dk_at dkB85decL_13 30 rfl
theorem dL_law_1145 : decode cL_law 1145 = .ok (.iadd, 1) := dk_at dkB85decL_13 31 rfl
theorem dL_law_1146 : decode cL_law 1146 = .ok (.iaload, 1) := dk_at dkB85decL_13 32 rfl
theorem dL_law_1147 : decode cL_law 1147 = .ok (.invokevirtual 116, 3) := dk_at dkB85decL_13 33 rfl
theorem dL_law_1150 : decode cL_law 1150 = .ok (.pop2, 1) := dk_at dkB85decL_13 34 rfl
theorem dL_law_1151 : decode cL_law 1151 = .ok (.aload_n 2, 1) := dk_at dkB85decL_13 35 rfl
theorem dL_law_1152 : decode cL_law 1152 = .ok (.aload_n 0, 1) := dk_at dkB85decL_13 36 rfl
theorem dL_law_1153 : decode cL_law 1153 = .ok (.iload_n 3, 1) := dk_at dkB85decL_13 37 rfl
theorem dL_law_1154 : decode cL_law 1154 = .ok (.iconst 1, 1) := dk_at dkB85decL_13 38 rfl
theorem dL_law_1155 : decode cL_law 1155 = .ok (.iadd, 1) := dk_at dkB85decL_13 39 rfl
theorem dL_law_1156 : decode cL_law 1156 = .ok (.iaload, 1) := dk_at dkB85decL_13 40 rfl
theorem dL_law_1157 : decode cL_law 1157 = .ok (.aload_n 0, 1) := dk_at dkB85decL_13 41 rfl
theorem dL_law_1158 : decode cL_law 1158 = .ok (.iload_n 3, 1) := dk_at dkB85decL_13 42 rfl
theorem dL_law_1159 : decode cL_law 1159 = .ok (.iconst 2, 1) := dk_at dkB85decL_13 43 rfl
theorem dL_law_1160 : decode cL_law 1160 = .ok (.iadd, 1) := dk_at dkB85decL_13 44 rfl
theorem dL_law_1161 : decode cL_law 1161 = .ok (.iaload, 1) := dk_at dkB85decL_13 45 rfl
theorem dL_law_1162 : decode cL_law 1162 = .ok (.aload_n 0, 1) := dk_at dkB85decL_13 46 rfl
theorem dL_law_1163 : decode cL_law 1163 = .ok (.iload_n 3, 1) := dk_at dkB85decL_13 47 rfl
theorem dL_law_1164 : decode cL_law 1164 = .ok (.iconst 3, 1) := dk_at dkB85decL_13 48 rfl
theorem dL_law_1165 : decode cL_law 1165 = .ok (.iadd, 1) := dk_at dkB85decL_13 49 rfl
theorem dL_law_1166 : decode cL_law 1166 = .ok (.iaload, 1) := dk_at dkB85decL_13 50 rfl
theorem dL_law_1167 : decode cL_law 1167 = .ok (.aload_n 0, 1) := dk_at dkB85decL_13 51 rfl
theorem dL_law_1168 : decode cL_law 1168 = .ok (.iload_n 3, 1) := dk_at dkB85decL_13 52 rfl
theorem dL_law_1169 : decode cL_law 1169 = .ok (.iconst 4, 1) := dk_at dkB85decL_13 53 rfl
theorem dL_law_1170 : decode cL_law 1170 = .ok (.iadd, 1) := dk_at dkB85decL_13 54 rfl
theorem dL_law_1171 : decode cL_law 1171 = .ok (.iaload, 1) := dk_at dkB85decL_13 55 rfl
theorem dL_law_1172 : decode cL_law 1172 = .ok (.aload_n 0, 1) := dk_at dkB85decL_13 56 rfl
theorem dL_law_1173 : decode cL_law 1173 = .ok (.iload_n 3, 1) := dk_at dkB85decL_13 57 rfl
theorem dL_law_1174 : decode cL_law 1174 = .ok (.iconst 5, 1) := dk_at dkB85decL_13 58 rfl
theorem dL_law_1175 : decode cL_law 1175 = .ok (.iadd, 1) := dk_at dkB85decL_13 59 rfl
noncomputable def dkL85decL_14 : List (ByteArray × Nat × Instr × Nat) := [(cL_law, 1176, (.iaload, 1)), (cL_law, 1177, (.invokevirtual 120, 3)), (cL_law, 1180, (.pop2, 1)), (cL_law, 1181, (.goto 604, 3)), (cL_law, 1184, (.aload_n 1, 1)), (cL_law, 1185, (.aload_n 0, 1)), (cL_law, 1186, (.iload_n 3, 1)), (cL_law, 1187, (.iconst 1, 1)), (cL_law, 1188, (.iadd, 1)), (cL_law, 1189, (.iaload, 1)), (cL_law, 1190, (.aload_n 0, 1)), (cL_law, 1191, (.iload_n 3, 1)), (cL_law, 1192, (.iconst 2, 1)), (cL_law, 1193, (.iadd, 1)), (cL_law, 1194, (.iaload, 1)), (cL_law, 1195, (.invokevirtual 121, 3)), (cL_law, 1198, (.pop2, 1)), (cL_law, 1199, (.aload_n 2, 1)), (cL_law, 1200, (.aload_n 0, 1)), (cL_law, 1201, (.iload_n 3, 1)), (cL_law, 1202, (.iconst 1, 1)), (cL_law, 1203, (.iadd, 1)), (cL_law, 1204, (.iaload, 1)), (cL_law, 1205, (.aload_n 0, 1)), (cL_law, 1206, (.iload_n 3, 1)), (cL_law, 1207, (.iconst 2, 1)), (cL_law, 1208, (.iadd, 1)), (cL_law, 1209, (.iaload, 1)), (cL_law, 1210, (.invokevirtual 125, 3)), (cL_law, 1213, (.pop2, 1)), (cL_law, 1214, (.goto 571, 3)), (cL_law, 1217, (.aload_n 1, 1)), (cL_law, 1218, (.aload_n 0, 1)), (cL_law, 1219, (.iload_n 3, 1)), (cL_law, 1220, (.iconst 1, 1)), (cL_law, 1221, (.iadd, 1)), (cL_law, 1222, (.iaload, 1)), (cL_law, 1223, (.invokevirtual 126, 3)), (cL_law, 1226, (.pop, 1)), (cL_law, 1227, (.aload_n 2, 1)), (cL_law, 1228, (.aload_n 0, 1)), (cL_law, 1229, (.iload_n 3, 1)), (cL_law, 1230, (.iconst 1, 1)), (cL_law, 1231, (.iadd, 1)), (cL_law, 1232, (.iaload, 1)), (cL_law, 1233, (.invokevirtual 129, 3)), (cL_law, 1236, (.pop, 1)), (cL_law, 1237, (.goto 548, 3)), (cL_law, 1240, (.aload_n 1, 1)), (cL_law, 1241, (.aload_n 0, 1)), (cL_law, 1242, (.iload_n 3, 1)), (cL_law, 1243, (.iconst 1, 1)), (cL_law, 1244, (.iadd, 1)), (cL_law, 1245, (.iaload, 1)), (cL_law, 1246, (.aload_n 0, 1)), (cL_law, 1247, (.iload_n 3, 1)), (cL_law, 1248, (.iconst 2, 1)), (cL_law, 1249, (.iadd, 1)), (cL_law, 1250, (.iaload, 1)), (cL_law, 1251, (.aload_n 0, 1))]
theorem dkB85decL_14 : dkL85decL_14.all (fun q => decide (decode q.1 q.2.1 = .ok q.2.2)) = true := by decide +kernel
theorem dL_law_1176 : decode cL_law 1176 = .ok (.iaload, 1) := dk_at dkB85decL_14 0 rfl
theorem dL_law_1177 : decode cL_law 1177 = .ok (.invokevirtual 120, 3) := dk_at dkB85decL_14 1 rfl
theorem dL_law_1180 : decode cL_law 1180 = .ok (.pop2, 1) := dk_at dkB85decL_14 2 rfl
theorem dL_law_1181 : decode cL_law 1181 = .ok (.goto 604, 3) := dk_at dkB85decL_14 3 rfl
theorem dL_law_1184 : decode cL_law 1184 = .ok (.aload_n 1, 1) := dk_at dkB85decL_14 4 rfl
theorem dL_law_1185 : decode cL_law 1185 = .ok (.aload_n 0, 1) := dk_at dkB85decL_14 5 rfl
theorem dL_law_1186 : decode cL_law 1186 = .ok (.iload_n 3, 1) := dk_at dkB85decL_14 6 rfl
theorem dL_law_1187 : decode cL_law 1187 = .ok (.iconst 1, 1) := dk_at dkB85decL_14 7 rfl
theorem dL_law_1188 : decode cL_law 1188 = .ok (.iadd, 1) := dk_at dkB85decL_14 8 rfl
theorem dL_law_1189 : decode cL_law 1189 = .ok (.iaload, 1) := dk_at dkB85decL_14 9 rfl
theorem dL_law_1190 : decode cL_law 1190 = .ok (.aload_n 0, 1) := dk_at dkB85decL_14 10 rfl
theorem dL_law_1191 : decode cL_law 1191 = .ok (.iload_n 3, 1) := dk_at dkB85decL_14 11 rfl
theorem dL_law_1192 : decode cL_law 1192 = .ok (.iconst 2, 1) := dk_at dkB85decL_14 12 rfl
theorem dL_law_1193 : decode cL_law 1193 = .ok (.iadd, 1) := dk_at dkB85decL_14 13 rfl
theorem dL_law_1194 : decode cL_law 1194 = .ok (.iaload, 1) := dk_at dkB85decL_14 14 rfl
theorem dL_law_1195 : decode cL_law 1195 = .ok (.invokevirtual 121, 3) := dk_at dkB85decL_14 15 rfl
theorem dL_law_1198 : decode cL_law 1198 = .ok (.pop2, 1) := dk_at dkB85decL_14 16 rfl
theorem dL_law_1199 : decode cL_law 1199 = .ok (.aload_n 2, 1) := dk_at dkB85decL_14 17 rfl
theorem dL_law_1200 : decode cL_law 1200 = .ok (.aload_n 0, 1) := dk_at dkB85decL_14 18 rfl
theorem dL_law_1201 : decode cL_law 1201 = .ok (.iload_n 3, 1) := dk_at dkB85decL_14 19 rfl
theorem dL_law_1202 : decode cL_law 1202 = .ok (.iconst 1, 1) := dk_at dkB85decL_14 20 rfl
theorem dL_law_1203 : decode cL_law 1203 = .ok (.iadd, 1) := dk_at dkB85decL_14 21 rfl
theorem dL_law_1204 : decode cL_law 1204 = .ok (.iaload, 1) := dk_at dkB85decL_14 22 rfl
theorem dL_law_1205 : decode cL_law 1205 = .ok (.aload_n 0, 1) := dk_at dkB85decL_14 23 rfl
theorem dL_law_1206 : decode cL_law 1206 = .ok (.iload_n 3, 1) := dk_at dkB85decL_14 24 rfl
theorem dL_law_1207 : decode cL_law 1207 = .ok (.iconst 2, 1) := dk_at dkB85decL_14 25 rfl
theorem dL_law_1208 : decode cL_law 1208 = .ok (.iadd, 1) := dk_at dkB85decL_14 26 rfl
theorem dL_law_1209 : decode cL_law 1209 = .ok (.iaload, 1) := dk_at dkB85decL_14 27 rfl
theorem dL_law_1210 : decode cL_law 1210 = .ok (.invokevirtual 125, 3) := dk_at dkB85decL_14 28 rfl
theorem dL_law_1213 : decode cL_law 1213 = .ok (.pop2, 1) := dk_at dkB85decL_14 29 rfl
theorem dL_law_1214 : decode cL_law 1214 = .ok (.goto 571, 3) := dk_at dkB85decL_14 30 rfl
theorem dL_law_1217 : decode cL_law 1217 = .ok (.aload_n 1, 1) := dk_at dkB85decL_14 31 rfl
theorem dL_law_1218 : decode cL_law 1218 = .ok (.aload_n 0, 1) := dk_at dkB85decL_14 32 rfl
theorem dL_law_1219 : decode cL_law 1219 = .ok (.iload_n 3, 1) := dk_at dkB85decL_14 33 rfl
theorem dL_law_1220 : decode cL_law 1220 = .ok (.iconst 1, 1) := dk_at dkB85decL_14 34 rfl
theorem dL_law_1221 : decode cL_law 1221 = .ok (.iadd, 1) := dk_at dkB85decL_14 35 rfl
theorem dL_law_1222 : decode cL_law 1222 = .ok (.iaload, 1) := dk_at dkB85decL_14 36 rfl
theorem dL_law_1223 : decode cL_law 1223 = .ok (.invokevirtual 126, 3) := dk_at dkB85decL_14 37 rfl
theorem dL_law_1226 : decode cL_law 1226 = .ok (.pop, 1) := dk_at dkB85decL_14 38 rfl
theorem dL_law_1227 : decode cL_law 1227 = .ok (.aload_n 2, 1) := dk_at dkB85decL_14 39 rfl
theorem dL_law_1228 : decode cL_law 1228 = .ok (.aload_n 0, 1) := dk_at dkB85decL_14 40 rfl
theorem dL_law_1229 : decode cL_law 1229 = .ok (.iload_n 3, 1) := dk_at dkB85decL_14 41 rfl
theorem dL_law_1230 : decode cL_law 1230 = .ok (.iconst 1, 1) := dk_at dkB85decL_14 42 rfl
theorem dL_law_1231 : decode cL_law 1231 = .ok (.iadd, 1) := dk_at dkB85decL_14 43 rfl
theorem dL_law_1232 : decode cL_law 1232 = .ok (.iaload, 1) := dk_at dkB85decL_14 44 rfl
theorem dL_law_1233 : decode cL_law 1233 = .ok (.invokevirtual 129, 3) := dk_at dkB85decL_14 45 rfl
theorem dL_law_1236 : decode cL_law 1236 = .ok (.pop, 1) := dk_at dkB85decL_14 46 rfl
theorem dL_law_1237 : decode cL_law 1237 = .ok (.goto 548, 3) := dk_at dkB85decL_14 47 rfl
theorem dL_law_1240 : decode cL_law 1240 = .ok (.aload_n 1, 1) := dk_at dkB85decL_14 48 rfl
theorem dL_law_1241 : decode cL_law 1241 = .ok (.aload_n 0, 1) := dk_at dkB85decL_14 49 rfl
theorem dL_law_1242 : decode cL_law 1242 = .ok (.iload_n 3, 1) := dk_at dkB85decL_14 50 rfl
theorem dL_law_1243 : decode cL_law 1243 = .ok (.iconst 1, 1) := dk_at dkB85decL_14 51 rfl
theorem dL_law_1244 : decode cL_law 1244 = .ok (.iadd, 1) := dk_at dkB85decL_14 52 rfl
theorem dL_law_1245 : decode cL_law 1245 = .ok (.iaload, 1) := dk_at dkB85decL_14 53 rfl
theorem dL_law_1246 : decode cL_law 1246 = .ok (.aload_n 0, 1) := dk_at dkB85decL_14 54 rfl
theorem dL_law_1247 : decode cL_law 1247 = .ok (.iload_n 3, 1) := dk_at dkB85decL_14 55 rfl
theorem dL_law_1248 : decode cL_law 1248 = .ok (.iconst 2, 1) := dk_at dkB85decL_14 56 rfl
theorem dL_law_1249 : decode cL_law 1249 = .ok (.iadd, 1) := dk_at dkB85decL_14 57 rfl
theorem dL_law_1250 : decode cL_law 1250 = .ok (.iaload, 1) := dk_at dkB85decL_14 58 rfl
theorem dL_law_1251 : decode cL_law 1251 = .ok (.aload_n 0, 1) := dk_at dkB85decL_14 59 rfl
noncomputable def dkL85decL_15 : List (ByteArray × Nat × Instr × Nat) := [(cL_law, 1252, (.iload_n 3, 1)), (cL_law, 1253, (.iconst 3, 1)), (cL_law, 1254, (.iadd, 1)), (cL_law, 1255, (.iaload, 1)), (cL_law, 1256, (.invokevirtual 130, 3)), (cL_law, 1259, (.pop, 1)), (cL_law, 1260, (.aload_n 2, 1)), (cL_law, 1261, (.aload_n 0, 1)), (cL_law, 1262, (.iload_n 3, 1)), (cL_law, 1263, (.iconst 1, 1)), (cL_law, 1264, (.iadd, 1)), (cL_law, 1265, (.iaload, 1)), (cL_law, 1266, (.aload_n 0, 1)), (cL_law, 1267, (.iload_n 3, 1)), (cL_law, 1268, (.iconst 2, 1)), (cL_law, 1269, (.iadd, 1)), (cL_law, 1270, (.iaload, 1)), (cL_law, 1271, (.aload_n 0, 1)), (cL_law, 1272, (.iload_n 3, 1)), (cL_law, 1273, (.iconst 3, 1)), (cL_law, 1274, (.iadd, 1)), (cL_law, 1275, (.iaload, 1)), (cL_law, 1276, (.invokevirtual 133, 3)), (cL_law, 1279, (.pop, 1)), (cL_law, 1280, (.goto 505, 3)), (cL_law, 1283, (.aload_n 1, 1)), (cL_law, 1284, (.aload_n 0, 1)), (cL_law, 1285, (.iload_n 3, 1)), (cL_law, 1286, (.iconst 1, 1)), (cL_law, 1287, (.iadd, 1)), (cL_law, 1288, (.iaload, 1)), (cL_law, 1289, (.aload_n 0, 1)), (cL_law, 1290, (.iload_n 3, 1)), (cL_law, 1291, (.iconst 2, 1)), (cL_law, 1292, (.iadd, 1)), (cL_law, 1293, (.iaload, 1)), (cL_law, 1294, (.aload_n 0, 1)), (cL_law, 1295, (.iload_n 3, 1)), (cL_law, 1296, (.iconst 3, 1)), (cL_law, 1297, (.iadd, 1)), (cL_law, 1298, (.iaload, 1)), (cL_law, 1299, (.aload_n 0, 1)), (cL_law, 1300, (.iload_n 3, 1)), (cL_law, 1301, (.iconst 4, 1)), (cL_law, 1302, (.iadd, 1)), (cL_law, 1303, (.iaload, 1)), (cL_law, 1304, (.invokevirtual 134, 3)), (cL_law, 1307, (.pop, 1)), (cL_law, 1308, (.aload_n 2, 1)), (cL_law, 1309, (.aload_n 0, 1)), (cL_law, 1310, (.iload_n 3, 1)), (cL_law, 1311, (.iconst 1, 1)), (cL_law, 1312, (.iadd, 1)), (cL_law, 1313, (.iaload, 1)), (cL_law, 1314, (.aload_n 0, 1)), (cL_law, 1315, (.iload_n 3, 1)), (cL_law, 1316, (.iconst 2, 1)), (cL_law, 1317, (.iadd, 1)), (cL_law, 1318, (.iaload, 1)), (cL_law, 1319, (.aload_n 0, 1))]
theorem dkB85decL_15 : dkL85decL_15.all (fun q => decide (decode q.1 q.2.1 = .ok q.2.2)) = true := by decide +kernel
theorem dL_law_1252 : decode cL_law 1252 = .ok (.iload_n 3, 1) := dk_at dkB85decL_15 0 rfl
theorem dL_law_1253 : decode cL_law 1253 = .ok (.iconst 3, 1) := dk_at dkB85decL_15 1 rfl
theorem dL_law_1254 : decode cL_law 1254 = .ok (.iadd, 1) := dk_at dkB85decL_15 2 rfl
theorem dL_law_1255 : decode cL_law 1255 = .ok (.iaload, 1) := dk_at dkB85decL_15 3 rfl
theorem dL_law_1256 : decode cL_law 1256 = .ok (.invokevirtual 130, 3) := dk_at dkB85decL_15 4 rfl
theorem dL_law_1259 : decode cL_law 1259 = .ok (.pop, 1) := dk_at dkB85decL_15 5 rfl
theorem dL_law_1260 : decode cL_law 1260 = .ok (.aload_n 2, 1) := dk_at dkB85decL_15 6 rfl
theorem dL_law_1261 : decode cL_law 1261 = .ok (.aload_n 0, 1) := dk_at dkB85decL_15 7 rfl
theorem dL_law_1262 : decode cL_law 1262 = .ok (.iload_n 3, 1) := dk_at dkB85decL_15 8 rfl
theorem dL_law_1263 : decode cL_law 1263 = .ok (.iconst 1, 1) := dk_at dkB85decL_15 9 rfl
theorem dL_law_1264 : decode cL_law 1264 = .ok (.iadd, 1) := dk_at dkB85decL_15 10 rfl
theorem dL_law_1265 : decode cL_law 1265 = .ok (.iaload, 1) := dk_at dkB85decL_15 11 rfl
theorem dL_law_1266 : decode cL_law 1266 = .ok (.aload_n 0, 1) := dk_at dkB85decL_15 12 rfl
theorem dL_law_1267 : decode cL_law 1267 = .ok (.iload_n 3, 1) := dk_at dkB85decL_15 13 rfl
theorem dL_law_1268 : decode cL_law 1268 = .ok (.iconst 2, 1) := dk_at dkB85decL_15 14 rfl
theorem dL_law_1269 : decode cL_law 1269 = .ok (.iadd, 1) := dk_at dkB85decL_15 15 rfl
theorem dL_law_1270 : decode cL_law 1270 = .ok (.iaload, 1) := dk_at dkB85decL_15 16 rfl
theorem dL_law_1271 : decode cL_law 1271 = .ok (.aload_n 0, 1) := dk_at dkB85decL_15 17 rfl
theorem dL_law_1272 : decode cL_law 1272 = .ok (.iload_n 3, 1) := dk_at dkB85decL_15 18 rfl
theorem dL_law_1273 : decode cL_law 1273 = .ok (.iconst 3, 1) := dk_at dkB85decL_15 19 rfl
theorem dL_law_1274 : decode cL_law 1274 = .ok (.iadd, 1) := dk_at dkB85decL_15 20 rfl
theorem dL_law_1275 : decode cL_law 1275 = .ok (.iaload, 1) := dk_at dkB85decL_15 21 rfl
theorem dL_law_1276 : decode cL_law 1276 = .ok (.invokevirtual 133, 3) := dk_at dkB85decL_15 22 rfl
theorem dL_law_1279 : decode cL_law 1279 = .ok (.pop, 1) := dk_at dkB85decL_15 23 rfl
theorem dL_law_1280 : decode cL_law 1280 = .ok (.goto 505, 3) := dk_at dkB85decL_15 24 rfl
theorem dL_law_1283 : decode cL_law 1283 = .ok (.aload_n 1, 1) := dk_at dkB85decL_15 25 rfl
theorem dL_law_1284 : decode cL_law 1284 = .ok (.aload_n 0, 1) := dk_at dkB85decL_15 26 rfl
theorem dL_law_1285 : decode cL_law 1285 = .ok (.iload_n 3, 1) := dk_at dkB85decL_15 27 rfl
theorem dL_law_1286 : decode cL_law 1286 = .ok (.iconst 1, 1) := dk_at dkB85decL_15 28 rfl
theorem dL_law_1287 : decode cL_law 1287 = .ok (.iadd, 1) := dk_at dkB85decL_15 29 rfl
theorem dL_law_1288 : decode cL_law 1288 = .ok (.iaload, 1) := dk_at dkB85decL_15 30 rfl
theorem dL_law_1289 : decode cL_law 1289 = .ok (.aload_n 0, 1) := dk_at dkB85decL_15 31 rfl
theorem dL_law_1290 : decode cL_law 1290 = .ok (.iload_n 3, 1) := dk_at dkB85decL_15 32 rfl
theorem dL_law_1291 : decode cL_law 1291 = .ok (.iconst 2, 1) := dk_at dkB85decL_15 33 rfl
theorem dL_law_1292 : decode cL_law 1292 = .ok (.iadd, 1) := dk_at dkB85decL_15 34 rfl
theorem dL_law_1293 : decode cL_law 1293 = .ok (.iaload, 1) := dk_at dkB85decL_15 35 rfl
theorem dL_law_1294 : decode cL_law 1294 = .ok (.aload_n 0, 1) := dk_at dkB85decL_15 36 rfl
theorem dL_law_1295 : decode cL_law 1295 = .ok (.iload_n 3, 1) := dk_at dkB85decL_15 37 rfl
theorem dL_law_1296 : decode cL_law 1296 = .ok (.iconst 3, 1) := dk_at dkB85decL_15 38 rfl
theorem dL_law_1297 : decode cL_law 1297 = .ok (.iadd, 1) := dk_at dkB85decL_15 39 rfl
theorem dL_law_1298 : decode cL_law 1298 = .ok (.iaload, 1) := dk_at dkB85decL_15 40 rfl
theorem dL_law_1299 : decode cL_law 1299 = .ok (.aload_n 0, 1) := dk_at dkB85decL_15 41 rfl
theorem dL_law_1300 : decode cL_law 1300 = .ok (.iload_n 3, 1) := dk_at dkB85decL_15 42 rfl
theorem dL_law_1301 : decode cL_law 1301 = .ok (.iconst 4, 1) := dk_at dkB85decL_15 43 rfl
theorem dL_law_1302 : decode cL_law 1302 = .ok (.iadd, 1) := dk_at dkB85decL_15 44 rfl
theorem dL_law_1303 : decode cL_law 1303 = .ok (.iaload, 1) := dk_at dkB85decL_15 45 rfl
theorem dL_law_1304 : decode cL_law 1304 = .ok (.invokevirtual 134, 3) := dk_at dkB85decL_15 46 rfl
theorem dL_law_1307 : decode cL_law 1307 = .ok (.pop, 1) := dk_at dkB85decL_15 47 rfl
theorem dL_law_1308 : decode cL_law 1308 = .ok (.aload_n 2, 1) := dk_at dkB85decL_15 48 rfl
theorem dL_law_1309 : decode cL_law 1309 = .ok (.aload_n 0, 1) := dk_at dkB85decL_15 49 rfl
theorem dL_law_1310 : decode cL_law 1310 = .ok (.iload_n 3, 1) := dk_at dkB85decL_15 50 rfl
theorem dL_law_1311 : decode cL_law 1311 = .ok (.iconst 1, 1) := dk_at dkB85decL_15 51 rfl
theorem dL_law_1312 : decode cL_law 1312 = .ok (.iadd, 1) := dk_at dkB85decL_15 52 rfl
theorem dL_law_1313 : decode cL_law 1313 = .ok (.iaload, 1) := dk_at dkB85decL_15 53 rfl
theorem dL_law_1314 : decode cL_law 1314 = .ok (.aload_n 0, 1) := dk_at dkB85decL_15 54 rfl
theorem dL_law_1315 : decode cL_law 1315 = .ok (.iload_n 3, 1) := dk_at dkB85decL_15 55 rfl
theorem dL_law_1316 : decode cL_law 1316 = .ok (.iconst 2, 1) := dk_at dkB85decL_15 56 rfl
theorem dL_law_1317 : decode cL_law 1317 = .ok (.iadd, 1) := dk_at dkB85decL_15 57 rfl
theorem dL_law_1318 : decode cL_law 1318 = .ok (.iaload, 1) := dk_at dkB85decL_15 58 rfl
theorem dL_law_1319 : decode cL_law 1319 = .ok (.aload_n 0, 1) := dk_at dkB85decL_15 59 rfl
noncomputable def dkL85decL_16 : List (ByteArray × Nat × Instr × Nat) := [(cL_law, 1320, (.iload_n 3, 1)), (cL_law, 1321, (.iconst 3, 1)), (cL_law, 1322, (.iadd, 1)), (cL_law, 1323, (.iaload, 1)), (cL_law, 1324, (.aload_n 0, 1)), (cL_law, 1325, (.iload_n 3, 1)), (cL_law, 1326, (.iconst 4, 1)), (cL_law, 1327, (.iadd, 1)), (cL_law, 1328, (.iaload, 1)), (cL_law, 1329, (.invokevirtual 137, 3)), (cL_law, 1332, (.pop, 1)), (cL_law, 1333, (.goto 452, 3)), (cL_law, 1336, (.aload_n 1, 1)), (cL_law, 1337, (.aload_n 0, 1)), (cL_law, 1338, (.iload_n 3, 1)), (cL_law, 1339, (.iconst 1, 1)), (cL_law, 1340, (.iadd, 1)), (cL_law, 1341, (.iaload, 1)), (cL_law, 1342, (.aload_n 0, 1)), (cL_law, 1343, (.iload_n 3, 1)), (cL_law, 1344, (.iconst 2, 1)), (cL_law, 1345, (.iadd, 1)), (cL_law, 1346, (.iaload, 1)), (cL_law, 1347, (.aload_n 0, 1)), (cL_law, 1348, (.iload_n 3, 1)), (cL_law, 1349, (.iconst 3, 1)), (cL_law, 1350, (.iadd, 1)), (cL_law, 1351, (.iaload, 1)), (cL_law, 1352, (.invokevirtual 138, 3)), (cL_law, 1355, (.pop2, 1)), (cL_law, 1356, (.aload_n 2, 1)), (cL_law, 1357, (.aload_n 0, 1)), (cL_law, 1358, (.iload_n 3, 1)), (cL_law, 1359, (.iconst 1, 1)), (cL_law, 1360, (.iadd, 1)), (cL_law, 1361, (.iaload, 1)), (cL_law, 1362, (.aload_n 0, 1)), (cL_law, 1363, (.iload_n 3, 1)), (cL_law, 1364, (.iconst 2, 1)), (cL_law, 1365, (.iadd, 1)), (cL_law, 1366, (.iaload, 1)), (cL_law, 1367, (.aload_n 0, 1)), (cL_law, 1368, (.iload_n 3, 1)), (cL_law, 1369, (.iconst 3, 1)), (cL_law, 1370, (.iadd, 1)), (cL_law, 1371, (.iaload, 1)), (cL_law, 1372, (.invokevirtual 142, 3)), (cL_law, 1375, (.pop2, 1)), (cL_law, 1376, (.goto 409, 3)), (cL_law, 1379, (.aload_n 1, 1)), (cL_law, 1380, (.aload_n 0, 1)), (cL_law, 1381, (.iload_n 3, 1)), (cL_law, 1382, (.iconst 1, 1)), (cL_law, 1383, (.iadd, 1)), (cL_law, 1384, (.iaload, 1)), (cL_law, 1385, (.invokevirtual 143, 3)), (cL_law, 1388, (.pop2, 1)), (cL_law, 1389, (.aload_n 2, 1)), (cL_law, 1390, (.aload_n 0, 1)), (cL_law, 1391, (.iload_n 3, 1))]
theorem dkB85decL_16 : dkL85decL_16.all (fun q => decide (decode q.1 q.2.1 = .ok q.2.2)) = true := by decide +kernel
theorem dL_law_1320 : decode cL_law 1320 = .ok (.iload_n 3, 1) := dk_at dkB85decL_16 0 rfl
theorem dL_law_1321 : decode cL_law 1321 = .ok (.iconst 3, 1) := dk_at dkB85decL_16 1 rfl
theorem dL_law_1322 : decode cL_law 1322 = .ok (.iadd, 1) := dk_at dkB85decL_16 2 rfl
theorem dL_law_1323 : decode cL_law 1323 = .ok (.iaload, 1) := dk_at dkB85decL_16 3 rfl
theorem dL_law_1324 : decode cL_law 1324 = .ok (.aload_n 0, 1) := dk_at dkB85decL_16 4 rfl
theorem dL_law_1325 : decode cL_law 1325 = .ok (.iload_n 3, 1) := dk_at dkB85decL_16 5 rfl
theorem dL_law_1326 : decode cL_law 1326 = .ok (.iconst 4, 1) := dk_at dkB85decL_16 6 rfl
theorem dL_law_1327 : decode cL_law 1327 = .ok (.iadd, 1) := dk_at dkB85decL_16 7 rfl
theorem dL_law_1328 : decode cL_law 1328 = .ok (.iaload, 1) := dk_at dkB85decL_16 8 rfl
theorem dL_law_1329 : decode cL_law 1329 = .ok (.invokevirtual 137, 3) := dk_at dkB85decL_16 9 rfl
theorem dL_law_1332 : decode cL_law 1332 = .ok (.pop, 1) := dk_at dkB85decL_16 10 rfl
theorem dL_law_1333 : decode cL_law 1333 = .ok (.goto 452, 3) := dk_at dkB85decL_16 11 rfl
theorem dL_law_1336 : decode cL_law 1336 = .ok (.aload_n 1, 1) := dk_at dkB85decL_16 12 rfl
theorem dL_law_1337 : decode cL_law 1337 = .ok (.aload_n 0, 1) := dk_at dkB85decL_16 13 rfl
theorem dL_law_1338 : decode cL_law 1338 = .ok (.iload_n 3, 1) := dk_at dkB85decL_16 14 rfl
theorem dL_law_1339 : decode cL_law 1339 = .ok (.iconst 1, 1) := dk_at dkB85decL_16 15 rfl
theorem dL_law_1340 : decode cL_law 1340 = .ok (.iadd, 1) := dk_at dkB85decL_16 16 rfl
theorem dL_law_1341 : decode cL_law 1341 = .ok (.iaload, 1) := dk_at dkB85decL_16 17 rfl
theorem dL_law_1342 : decode cL_law 1342 = .ok (.aload_n 0, 1) := dk_at dkB85decL_16 18 rfl
theorem dL_law_1343 : decode cL_law 1343 = .ok (.iload_n 3, 1) := dk_at dkB85decL_16 19 rfl
theorem dL_law_1344 : decode cL_law 1344 = .ok (.iconst 2, 1) := dk_at dkB85decL_16 20 rfl
theorem dL_law_1345 : decode cL_law 1345 = .ok (.iadd, 1) := dk_at dkB85decL_16 21 rfl
theorem dL_law_1346 : decode cL_law 1346 = .ok (.iaload, 1) := dk_at dkB85decL_16 22 rfl
theorem dL_law_1347 : decode cL_law 1347 = .ok (.aload_n 0, 1) := dk_at dkB85decL_16 23 rfl
theorem dL_law_1348 : decode cL_law 1348 = .ok (.iload_n 3, 1) := dk_at dkB85decL_16 24 rfl
theorem dL_law_1349 : decode cL_law 1349 = .ok (.iconst 3, 1) := dk_at dkB85decL_16 25 rfl
theorem dL_law_1350 : decode cL_law 1350 = .ok (.iadd, 1) := dk_at dkB85decL_16 26 rfl
theorem dL_law_1351 : decode cL_law 1351 = .ok (.iaload, 1) := dk_at dkB85decL_16 27 rfl
theorem dL_law_1352 : decode cL_law 1352 = .ok (.invokevirtual 138, 3) := dk_at dkB85decL_16 28 rfl
theorem dL_law_1355 : decode cL_law 1355 = .ok (.pop2, 1) := dk_at dkB85decL_16 29 rfl
theorem dL_law_1356 : decode cL_law 1356 = .ok (.aload_n 2, 1) := dk_at dkB85decL_16 30 rfl
theorem dL_law_1357 : decode cL_law 1357 = .ok (.aload_n 0, 1) := dk_at dkB85decL_16 31 rfl
theorem dL_law_1358 : decode cL_law 1358 = .ok (.iload_n 3, 1) := dk_at dkB85decL_16 32 rfl
theorem dL_law_1359 : decode cL_law 1359 = .ok (.iconst 1, 1) := dk_at dkB85decL_16 33 rfl
theorem dL_law_1360 : decode cL_law 1360 = .ok (.iadd, 1) := dk_at dkB85decL_16 34 rfl
theorem dL_law_1361 : decode cL_law 1361 = .ok (.iaload, 1) := dk_at dkB85decL_16 35 rfl
theorem dL_law_1362 : decode cL_law 1362 = .ok (.aload_n 0, 1) := dk_at dkB85decL_16 36 rfl
theorem dL_law_1363 : decode cL_law 1363 = .ok (.iload_n 3, 1) := dk_at dkB85decL_16 37 rfl
theorem dL_law_1364 : decode cL_law 1364 = .ok (.iconst 2, 1) := dk_at dkB85decL_16 38 rfl
theorem dL_law_1365 : decode cL_law 1365 = .ok (.iadd, 1) := dk_at dkB85decL_16 39 rfl
theorem dL_law_1366 : decode cL_law 1366 = .ok (.iaload, 1) := dk_at dkB85decL_16 40 rfl
theorem dL_law_1367 : decode cL_law 1367 = .ok (.aload_n 0, 1) := dk_at dkB85decL_16 41 rfl
theorem dL_law_1368 : decode cL_law 1368 = .ok (.iload_n 3, 1) := dk_at dkB85decL_16 42 rfl
theorem dL_law_1369 : decode cL_law 1369 = .ok (.iconst 3, 1) := dk_at dkB85decL_16 43 rfl
theorem dL_law_1370 : decode cL_law 1370 = .ok (.iadd, 1) := dk_at dkB85decL_16 44 rfl
theorem dL_law_1371 : decode cL_law 1371 = .ok (.iaload, 1) := dk_at dkB85decL_16 45 rfl
theorem dL_law_1372 : decode cL_law 1372 = .ok (.invokevirtual 142, 3) := dk_at dkB85decL_16 46 rfl
theorem dL_law_1375 : decode cL_law 1375 = .ok (.pop2, 1) := dk_at dkB85decL_16 47 rfl
theorem dL_law_1376 : decode cL_law 1376 = .ok (.goto 409, 3) := dk_at dkB85decL_16 48 rfl
theorem dL_law_1379 : decode cL_law 1379 = .ok (.aload_n 1, 1) := dk_at dkB85decL_16 49 rfl
theorem dL_law_1380 : decode cL_law 1380 = .ok (.aload_n 0, 1) := dk_at dkB85decL_16 50 rfl
theorem dL_law_1381 : decode cL_law 1381 = .ok (.iload_n 3, 1) := dk_at dkB85decL_16 51 rfl
theorem dL_law_1382 : decode cL_law 1382 = .ok (.iconst 1, 1) := dk_at dkB85decL_16 52 rfl
theorem dL_law_1383 : decode cL_law 1383 = .ok (.iadd, 1) := dk_at dkB85decL_16 53 rfl
theorem dL_law_1384 : decode cL_law 1384 = .ok (.iaload, 1) := dk_at dkB85decL_16 54 rfl
theorem dL_law_1385 : decode cL_law 1385 = .ok (.invokevirtual 143, 3) := dk_at dkB85decL_16 55 rfl
theorem dL_law_1388 : decode cL_law 1388 = .ok (.pop2, 1) := dk_at dkB85decL_16 56 rfl
theorem dL_law_1389 : decode cL_law 1389 = .ok (.aload_n 2, 1) := dk_at dkB85decL_16 57 rfl
theorem dL_law_1390 : decode cL_law 1390 = .ok (.aload_n 0, 1) := dk_at dkB85decL_16 58 rfl
theorem dL_law_1391 : decode cL_law 1391 = .ok (.iload_n 3, 1) := dk_at dkB85decL_16 59 rfl
noncomputable def dkL85decL_17 : List (ByteArray × Nat × Instr × Nat) := [(cL_law, 1392, (.iconst 1, 1)), (cL_law, 1393, (.iadd, 1)), (cL_law, 1394, (.iaload, 1)), (cL_law, 1395, (.invokevirtual 146, 3)), (cL_law, 1398, (.pop2, 1)), (cL_law, 1399, (.goto 386, 3)), (cL_law, 1402, (.aload_n 1, 1)), (cL_law, 1403, (.invokevirtual 147, 3)), (cL_law, 1406, (.pop, 1)), (cL_law, 1407, (.aload_n 2, 1)), (cL_law, 1408, (.invokevirtual 150, 3)), (cL_law, 1411, (.pop, 1)), (cL_law, 1412, (.goto 373, 3)), (cL_law, 1415, (.aload_n 1, 1)), (cL_law, 1416, (.aload_n 0, 1)), (cL_law, 1417, (.iload_n 3, 1)), (cL_law, 1418, (.iconst 1, 1)), (cL_law, 1419, (.iadd, 1)), (cL_law, 1420, (.iaload, 1)), (cL_law, 1421, (.aload_n 0, 1)), (cL_law, 1422, (.iload_n 3, 1)), (cL_law, 1423, (.iconst 2, 1)), (cL_law, 1424, (.iadd, 1)), (cL_law, 1425, (.iaload, 1)), (cL_law, 1426, (.aload_n 0, 1)), (cL_law, 1427, (.iload_n 3, 1)), (cL_law, 1428, (.iconst 3, 1)), (cL_law, 1429, (.iadd, 1)), (cL_law, 1430, (.iaload, 1)), (cL_law, 1431, (.invokevirtual 151, 3)), (cL_law, 1434, (.pop2, 1)), (cL_law, 1435, (.aload_n 2, 1)), (cL_law, 1436, (.aload_n 0, 1)), (cL_law, 1437, (.iload_n 3, 1)), (cL_law, 1438, (.iconst 1, 1)), (cL_law, 1439, (.iadd, 1)), (cL_law, 1440, (.iaload, 1)), (cL_law, 1441, (.aload_n 0, 1)), (cL_law, 1442, (.iload_n 3, 1)), (cL_law, 1443, (.iconst 2, 1)), (cL_law, 1444, (.iadd, 1)), (cL_law, 1445, (.iaload, 1)), (cL_law, 1446, (.aload_n 0, 1)), (cL_law, 1447, (.iload_n 3, 1)), (cL_law, 1448, (.iconst 3, 1)), (cL_law, 1449, (.iadd, 1)), (cL_law, 1450, (.iaload, 1)), (cL_law, 1451, (.invokevirtual 154, 3)), (cL_law, 1454, (.pop2, 1)), (cL_law, 1455, (.goto 330, 3)), (cL_law, 1458, (.aload_n 1, 1)), (cL_law, 1459, (.aload_n 0, 1)), (cL_law, 1460, (.iload_n 3, 1)), (cL_law, 1461, (.iconst 1, 1)), (cL_law, 1462, (.iadd, 1)), (cL_law, 1463, (.iaload, 1)), (cL_law, 1464, (.aload_n 0, 1)), (cL_law, 1465, (.iload_n 3, 1)), (cL_law, 1466, (.iconst 2, 1)), (cL_law, 1467, (.iadd, 1))]
theorem dkB85decL_17 : dkL85decL_17.all (fun q => decide (decode q.1 q.2.1 = .ok q.2.2)) = true := by decide +kernel
theorem dL_law_1392 : decode cL_law 1392 = .ok (.iconst 1, 1) := dk_at dkB85decL_17 0 rfl
theorem dL_law_1393 : decode cL_law 1393 = .ok (.iadd, 1) := dk_at dkB85decL_17 1 rfl
theorem dL_law_1394 : decode cL_law 1394 = .ok (.iaload, 1) := dk_at dkB85decL_17 2 rfl
theorem dL_law_1395 : decode cL_law 1395 = .ok (.invokevirtual 146, 3) := dk_at dkB85decL_17 3 rfl
theorem dL_law_1398 : decode cL_law 1398 = .ok (.pop2, 1) := dk_at dkB85decL_17 4 rfl
theorem dL_law_1399 : decode cL_law 1399 = .ok (.goto 386, 3) := dk_at dkB85decL_17 5 rfl
theorem dL_law_1402 : decode cL_law 1402 = .ok (.aload_n 1, 1) := dk_at dkB85decL_17 6 rfl
theorem dL_law_1403 : decode cL_law 1403 = .ok (.invokevirtual 147, 3) := dk_at dkB85decL_17 7 rfl
theorem dL_law_1406 : decode cL_law 1406 = .ok (.pop, 1) := dk_at dkB85decL_17 8 rfl
theorem dL_law_1407 : decode cL_law 1407 = .ok (.aload_n 2, 1) := dk_at dkB85decL_17 9 rfl
theorem dL_law_1408 : decode cL_law 1408 = .ok (.invokevirtual 150, 3) := dk_at dkB85decL_17 10 rfl
theorem dL_law_1411 : decode cL_law 1411 = .ok (.pop, 1) := dk_at dkB85decL_17 11 rfl
theorem dL_law_1412 : decode cL_law 1412 = .ok (.goto 373, 3) := dk_at dkB85decL_17 12 rfl
theorem dL_law_1415 : decode cL_law 1415 = .ok (.aload_n 1, 1) := dk_at dkB85decL_17 13 rfl
theorem dL_law_1416 : decode cL_law 1416 = .ok (.aload_n 0, 1) := dk_at dkB85decL_17 14 rfl
theorem dL_law_1417 : decode cL_law 1417 = .ok (.iload_n 3, 1) := dk_at dkB85decL_17 15 rfl
theorem dL_law_1418 : decode cL_law 1418 = .ok (.iconst 1, 1) := dk_at dkB85decL_17 16 rfl
theorem dL_law_1419 : decode cL_law 1419 = .ok (.iadd, 1) := dk_at dkB85decL_17 17 rfl
theorem dL_law_1420 : decode cL_law 1420 = .ok (.iaload, 1) := dk_at dkB85decL_17 18 rfl
theorem dL_law_1421 : decode cL_law 1421 = .ok (.aload_n 0, 1) := dk_at dkB85decL_17 19 rfl
theorem dL_law_1422 : decode cL_law 1422 = .ok (.iload_n 3, 1) := dk_at dkB85decL_17 20 rfl
theorem dL_law_1423 : decode cL_law 1423 = .ok (.iconst 2, 1) := dk_at dkB85decL_17 21 rfl
theorem dL_law_1424 : decode cL_law 1424 = .ok (.iadd, 1) := dk_at dkB85decL_17 22 rfl
theorem dL_law_1425 : decode cL_law 1425 = .ok (.iaload, 1) := dk_at dkB85decL_17 23 rfl
theorem dL_law_1426 : decode cL_law 1426 = .ok (.aload_n 0, 1) := dk_at dkB85decL_17 24 rfl
theorem dL_law_1427 : decode cL_law 1427 = .ok (.iload_n 3, 1) := dk_at dkB85decL_17 25 rfl
theorem dL_law_1428 : decode cL_law 1428 = .ok (.iconst 3, 1) := dk_at dkB85decL_17 26 rfl
theorem dL_law_1429 : decode cL_law 1429 = .ok (.iadd, 1) := dk_at dkB85decL_17 27 rfl
theorem dL_law_1430 : decode cL_law 1430 = .ok (.iaload, 1) := dk_at dkB85decL_17 28 rfl
theorem dL_law_1431 : decode cL_law 1431 = .ok (.invokevirtual 151, 3) := dk_at dkB85decL_17 29 rfl
theorem dL_law_1434 : decode cL_law 1434 = .ok (.pop2, 1) := dk_at dkB85decL_17 30 rfl
theorem dL_law_1435 : decode cL_law 1435 = .ok (.aload_n 2, 1) := dk_at dkB85decL_17 31 rfl
theorem dL_law_1436 : decode cL_law 1436 = .ok (.aload_n 0, 1) := dk_at dkB85decL_17 32 rfl
theorem dL_law_1437 : decode cL_law 1437 = .ok (.iload_n 3, 1) := dk_at dkB85decL_17 33 rfl
theorem dL_law_1438 : decode cL_law 1438 = .ok (.iconst 1, 1) := dk_at dkB85decL_17 34 rfl
theorem dL_law_1439 : decode cL_law 1439 = .ok (.iadd, 1) := dk_at dkB85decL_17 35 rfl
theorem dL_law_1440 : decode cL_law 1440 = .ok (.iaload, 1) := dk_at dkB85decL_17 36 rfl
theorem dL_law_1441 : decode cL_law 1441 = .ok (.aload_n 0, 1) := dk_at dkB85decL_17 37 rfl
theorem dL_law_1442 : decode cL_law 1442 = .ok (.iload_n 3, 1) := dk_at dkB85decL_17 38 rfl
theorem dL_law_1443 : decode cL_law 1443 = .ok (.iconst 2, 1) := dk_at dkB85decL_17 39 rfl
theorem dL_law_1444 : decode cL_law 1444 = .ok (.iadd, 1) := dk_at dkB85decL_17 40 rfl
theorem dL_law_1445 : decode cL_law 1445 = .ok (.iaload, 1) := dk_at dkB85decL_17 41 rfl
theorem dL_law_1446 : decode cL_law 1446 = .ok (.aload_n 0, 1) := dk_at dkB85decL_17 42 rfl
theorem dL_law_1447 : decode cL_law 1447 = .ok (.iload_n 3, 1) := dk_at dkB85decL_17 43 rfl
theorem dL_law_1448 : decode cL_law 1448 = .ok (.iconst 3, 1) := dk_at dkB85decL_17 44 rfl
theorem dL_law_1449 : decode cL_law 1449 = .ok (.iadd, 1) := dk_at dkB85decL_17 45 rfl
theorem dL_law_1450 : decode cL_law 1450 = .ok (.iaload, 1) := dk_at dkB85decL_17 46 rfl
theorem dL_law_1451 : decode cL_law 1451 = .ok (.invokevirtual 154, 3) := dk_at dkB85decL_17 47 rfl
theorem dL_law_1454 : decode cL_law 1454 = .ok (.pop2, 1) := dk_at dkB85decL_17 48 rfl
theorem dL_law_1455 : decode cL_law 1455 = .ok (.goto 330, 3) := dk_at dkB85decL_17 49 rfl
theorem dL_law_1458 : decode cL_law 1458 = .ok (.aload_n 1, 1) := dk_at dkB85decL_17 50 rfl
theorem dL_law_1459 : decode cL_law 1459 = .ok (.aload_n 0, 1) := dk_at dkB85decL_17 51 rfl
theorem dL_law_1460 : decode cL_law 1460 = .ok (.iload_n 3, 1) := dk_at dkB85decL_17 52 rfl
theorem dL_law_1461 : decode cL_law 1461 = .ok (.iconst 1, 1) := dk_at dkB85decL_17 53 rfl
theorem dL_law_1462 : decode cL_law 1462 = .ok (.iadd, 1) := dk_at dkB85decL_17 54 rfl
theorem dL_law_1463 : decode cL_law 1463 = .ok (.iaload, 1) := dk_at dkB85decL_17 55 rfl
theorem dL_law_1464 : decode cL_law 1464 = .ok (.aload_n 0, 1) := dk_at dkB85decL_17 56 rfl
theorem dL_law_1465 : decode cL_law 1465 = .ok (.iload_n 3, 1) := dk_at dkB85decL_17 57 rfl
theorem dL_law_1466 : decode cL_law 1466 = .ok (.iconst 2, 1) := dk_at dkB85decL_17 58 rfl
theorem dL_law_1467 : decode cL_law 1467 = .ok (.iadd, 1) := dk_at dkB85decL_17 59 rfl
noncomputable def dkL85decL_18 : List (ByteArray × Nat × Instr × Nat) := [(cL_law, 1468, (.iaload, 1)), (cL_law, 1469, (.invokevirtual 155, 3)), (cL_law, 1472, (.pop, 1)), (cL_law, 1473, (.aload_n 2, 1)), (cL_law, 1474, (.aload_n 0, 1)), (cL_law, 1475, (.iload_n 3, 1)), (cL_law, 1476, (.iconst 1, 1)), (cL_law, 1477, (.iadd, 1)), (cL_law, 1478, (.iaload, 1)), (cL_law, 1479, (.aload_n 0, 1)), (cL_law, 1480, (.iload_n 3, 1)), (cL_law, 1481, (.iconst 2, 1)), (cL_law, 1482, (.iadd, 1)), (cL_law, 1483, (.iaload, 1)), (cL_law, 1484, (.invokevirtual 158, 3)), (cL_law, 1487, (.pop, 1)), (cL_law, 1488, (.goto 297, 3)), (cL_law, 1491, (.aload_n 1, 1)), (cL_law, 1492, (.aload_n 0, 1)), (cL_law, 1493, (.iload_n 3, 1)), (cL_law, 1494, (.iconst 1, 1)), (cL_law, 1495, (.iadd, 1)), (cL_law, 1496, (.iaload, 1)), (cL_law, 1497, (.aload_n 0, 1)), (cL_law, 1498, (.iload_n 3, 1)), (cL_law, 1499, (.iconst 2, 1)), (cL_law, 1500, (.iadd, 1)), (cL_law, 1501, (.iaload, 1)), (cL_law, 1502, (.aload_n 0, 1)), (cL_law, 1503, (.iload_n 3, 1)), (cL_law, 1504, (.iconst 3, 1)), (cL_law, 1505, (.iadd, 1)), (cL_law, 1506, (.iaload, 1)), (cL_law, 1507, (.aload_n 0, 1)), (cL_law, 1508, (.iload_n 3, 1)), (cL_law, 1509, (.iconst 4, 1)), (cL_law, 1510, (.iadd, 1)), (cL_law, 1511, (.iaload, 1)), (cL_law, 1512, (.aload_n 0, 1)), (cL_law, 1513, (.iload_n 3, 1)), (cL_law, 1514, (.iconst 5, 1)), (cL_law, 1515, (.iadd, 1)), (cL_law, 1516, (.iaload, 1)), (cL_law, 1517, (.invokevirtual 159, 3)), (cL_law, 1520, (.pop, 1)), (cL_law, 1521, (.aload_n 2, 1)), (cL_law, 1522, (.aload_n 0, 1)), (cL_law, 1523, (.iload_n 3, 1)), (cL_law, 1524, (.iconst 1, 1)), (cL_law, 1525, (.iadd, 1)), (cL_law, 1526, (.iaload, 1)), (cL_law, 1527, (.aload_n 0, 1)), (cL_law, 1528, (.iload_n 3, 1)), (cL_law, 1529, (.iconst 2, 1)), (cL_law, 1530, (.iadd, 1)), (cL_law, 1531, (.iaload, 1)), (cL_law, 1532, (.aload_n 0, 1)), (cL_law, 1533, (.iload_n 3, 1)), (cL_law, 1534, (.iconst 3, 1)), (cL_law, 1535, (.iadd, 1))]
theorem dkB85decL_18 : dkL85decL_18.all (fun q => decide (decode q.1 q.2.1 = .ok q.2.2)) = true := by decide +kernel
theorem dL_law_1468 : decode cL_law 1468 = .ok (.iaload, 1) := dk_at dkB85decL_18 0 rfl
theorem dL_law_1469 : decode cL_law 1469 = .ok (.invokevirtual 155, 3) := dk_at dkB85decL_18 1 rfl
theorem dL_law_1472 : decode cL_law 1472 = .ok (.pop, 1) := dk_at dkB85decL_18 2 rfl
theorem dL_law_1473 : decode cL_law 1473 = .ok (.aload_n 2, 1) := dk_at dkB85decL_18 3 rfl
theorem dL_law_1474 : decode cL_law 1474 = .ok (.aload_n 0, 1) := dk_at dkB85decL_18 4 rfl
theorem dL_law_1475 : decode cL_law 1475 = .ok (.iload_n 3, 1) := dk_at dkB85decL_18 5 rfl
theorem dL_law_1476 : decode cL_law 1476 = .ok (.iconst 1, 1) := dk_at dkB85decL_18 6 rfl
theorem dL_law_1477 : decode cL_law 1477 = .ok (.iadd, 1) := dk_at dkB85decL_18 7 rfl
theorem dL_law_1478 : decode cL_law 1478 = .ok (.iaload, 1) := dk_at dkB85decL_18 8 rfl
theorem dL_law_1479 : decode cL_law 1479 = .ok (.aload_n 0, 1) := dk_at dkB85decL_18 9 rfl
theorem dL_law_1480 : decode cL_law 1480 = .ok (.iload_n 3, 1) := dk_at dkB85decL_18 10 rfl
theorem dL_law_1481 : decode cL_law 1481 = .ok (.iconst 2, 1) := dk_at dkB85decL_18 11 rfl
theorem dL_law_1482 : decode cL_law 1482 = .ok (.iadd, 1) := dk_at dkB85decL_18 12 rfl
theorem dL_law_1483 : decode cL_law 1483 = .ok (.iaload, 1) := dk_at dkB85decL_18 13 rfl
theorem dL_law_1484 : decode cL_law 1484 = .ok (.invokevirtual 158, 3) := dk_at dkB85decL_18 14 rfl
theorem dL_law_1487 : decode cL_law 1487 = .ok (.pop, 1) := dk_at dkB85decL_18 15 rfl
theorem dL_law_1488 : decode cL_law 1488 = .ok (.goto 297, 3) := dk_at dkB85decL_18 16 rfl
theorem dL_law_1491 : decode cL_law 1491 = .ok (.aload_n 1, 1) := dk_at dkB85decL_18 17 rfl
theorem dL_law_1492 : decode cL_law 1492 = .ok (.aload_n 0, 1) := dk_at dkB85decL_18 18 rfl
theorem dL_law_1493 : decode cL_law 1493 = .ok (.iload_n 3, 1) := dk_at dkB85decL_18 19 rfl
theorem dL_law_1494 : decode cL_law 1494 = .ok (.iconst 1, 1) := dk_at dkB85decL_18 20 rfl
theorem dL_law_1495 : decode cL_law 1495 = .ok (.iadd, 1) := dk_at dkB85decL_18 21 rfl
theorem dL_law_1496 : decode cL_law 1496 = .ok (.iaload, 1) := dk_at dkB85decL_18 22 rfl
theorem dL_law_1497 : decode cL_law 1497 = .ok (.aload_n 0, 1) := dk_at dkB85decL_18 23 rfl
theorem dL_law_1498 : decode cL_law 1498 = .ok (.iload_n 3, 1) := dk_at dkB85decL_18 24 rfl
theorem dL_law_1499 : decode cL_law 1499 = .ok (.iconst 2, 1) := dk_at dkB85decL_18 25 rfl
theorem dL_law_1500 : decode cL_law 1500 = .ok (.iadd, 1) := dk_at dkB85decL_18 26 rfl
theorem dL_law_1501 : decode cL_law 1501 = .ok (.iaload, 1) := dk_at dkB85decL_18 27 rfl
theorem dL_law_1502 : decode cL_law 1502 = .ok (.aload_n 0, 1) := dk_at dkB85decL_18 28 rfl
theorem dL_law_1503 : decode cL_law 1503 = .ok (.iload_n 3, 1) := dk_at dkB85decL_18 29 rfl
theorem dL_law_1504 : decode cL_law 1504 = .ok (.iconst 3, 1) := dk_at dkB85decL_18 30 rfl
theorem dL_law_1505 : decode cL_law 1505 = .ok (.iadd, 1) := dk_at dkB85decL_18 31 rfl
theorem dL_law_1506 : decode cL_law 1506 = .ok (.iaload, 1) := dk_at dkB85decL_18 32 rfl
theorem dL_law_1507 : decode cL_law 1507 = .ok (.aload_n 0, 1) := dk_at dkB85decL_18 33 rfl
theorem dL_law_1508 : decode cL_law 1508 = .ok (.iload_n 3, 1) := dk_at dkB85decL_18 34 rfl
theorem dL_law_1509 : decode cL_law 1509 = .ok (.iconst 4, 1) := dk_at dkB85decL_18 35 rfl
theorem dL_law_1510 : decode cL_law 1510 = .ok (.iadd, 1) := dk_at dkB85decL_18 36 rfl
theorem dL_law_1511 : decode cL_law 1511 = .ok (.iaload, 1) := dk_at dkB85decL_18 37 rfl
theorem dL_law_1512 : decode cL_law 1512 = .ok (.aload_n 0, 1) := dk_at dkB85decL_18 38 rfl
theorem dL_law_1513 : decode cL_law 1513 = .ok (.iload_n 3, 1) := dk_at dkB85decL_18 39 rfl
theorem dL_law_1514 : decode cL_law 1514 = .ok (.iconst 5, 1) := dk_at dkB85decL_18 40 rfl
theorem dL_law_1515 : decode cL_law 1515 = .ok (.iadd, 1) := dk_at dkB85decL_18 41 rfl
theorem dL_law_1516 : decode cL_law 1516 = .ok (.iaload, 1) := dk_at dkB85decL_18 42 rfl
theorem dL_law_1517 : decode cL_law 1517 = .ok (.invokevirtual 159, 3) := dk_at dkB85decL_18 43 rfl
theorem dL_law_1520 : decode cL_law 1520 = .ok (.pop, 1) := dk_at dkB85decL_18 44 rfl
theorem dL_law_1521 : decode cL_law 1521 = .ok (.aload_n 2, 1) := dk_at dkB85decL_18 45 rfl
theorem dL_law_1522 : decode cL_law 1522 = .ok (.aload_n 0, 1) := dk_at dkB85decL_18 46 rfl
theorem dL_law_1523 : decode cL_law 1523 = .ok (.iload_n 3, 1) := dk_at dkB85decL_18 47 rfl
theorem dL_law_1524 : decode cL_law 1524 = .ok (.iconst 1, 1) := dk_at dkB85decL_18 48 rfl
theorem dL_law_1525 : decode cL_law 1525 = .ok (.iadd, 1) := dk_at dkB85decL_18 49 rfl
theorem dL_law_1526 : decode cL_law 1526 = .ok (.iaload, 1) := dk_at dkB85decL_18 50 rfl
theorem dL_law_1527 : decode cL_law 1527 = .ok (.aload_n 0, 1) := dk_at dkB85decL_18 51 rfl
theorem dL_law_1528 : decode cL_law 1528 = .ok (.iload_n 3, 1) := dk_at dkB85decL_18 52 rfl
theorem dL_law_1529 : decode cL_law 1529 = .ok (.iconst 2, 1) := dk_at dkB85decL_18 53 rfl
theorem dL_law_1530 : decode cL_law 1530 = .ok (.iadd, 1) := dk_at dkB85decL_18 54 rfl
theorem dL_law_1531 : decode cL_law 1531 = .ok (.iaload, 1) := dk_at dkB85decL_18 55 rfl
theorem dL_law_1532 : decode cL_law 1532 = .ok (.aload_n 0, 1) := dk_at dkB85decL_18 56 rfl
theorem dL_law_1533 : decode cL_law 1533 = .ok (.iload_n 3, 1) := dk_at dkB85decL_18 57 rfl
theorem dL_law_1534 : decode cL_law 1534 = .ok (.iconst 3, 1) := dk_at dkB85decL_18 58 rfl
theorem dL_law_1535 : decode cL_law 1535 = .ok (.iadd, 1) := dk_at dkB85decL_18 59 rfl
noncomputable def dkL85decL_19 : List (ByteArray × Nat × Instr × Nat) := [(cL_law, 1536, (.iaload, 1)), (cL_law, 1537, (.aload_n 0, 1)), (cL_law, 1538, (.iload_n 3, 1)), (cL_law, 1539, (.iconst 4, 1)), (cL_law, 1540, (.iadd, 1)), (cL_law, 1541, (.iaload, 1)), (cL_law, 1542, (.aload_n 0, 1)), (cL_law, 1543, (.iload_n 3, 1)), (cL_law, 1544, (.iconst 5, 1)), (cL_law, 1545, (.iadd, 1)), (cL_law, 1546, (.iaload, 1)), (cL_law, 1547, (.invokevirtual 162, 3)), (cL_law, 1550, (.pop, 1)), (cL_law, 1551, (.goto 234, 3)), (cL_law, 1554, (.aload_n 1, 1)), (cL_law, 1555, (.aload_n 0, 1)), (cL_law, 1556, (.iload_n 3, 1)), (cL_law, 1557, (.iconst 1, 1)), (cL_law, 1558, (.iadd, 1)), (cL_law, 1559, (.iaload, 1)), (cL_law, 1560, (.aload_n 0, 1)), (cL_law, 1561, (.iload_n 3, 1)), (cL_law, 1562, (.iconst 2, 1)), (cL_law, 1563, (.iadd, 1)), (cL_law, 1564, (.iaload, 1)), (cL_law, 1565, (.invokevirtual 163, 3)), (cL_law, 1568, (.pop, 1)), (cL_law, 1569, (.aload_n 2, 1)), (cL_law, 1570, (.aload_n 0, 1)), (cL_law, 1571, (.iload_n 3, 1)), (cL_law, 1572, (.iconst 1, 1)), (cL_law, 1573, (.iadd, 1)), (cL_law, 1574, (.iaload, 1)), (cL_law, 1575, (.aload_n 0, 1)), (cL_law, 1576, (.iload_n 3, 1)), (cL_law, 1577, (.iconst 2, 1)), (cL_law, 1578, (.iadd, 1)), (cL_law, 1579, (.iaload, 1)), (cL_law, 1580, (.invokevirtual 166, 3)), (cL_law, 1583, (.pop, 1)), (cL_law, 1584, (.goto 201, 3)), (cL_law, 1587, (.aload_n 1, 1)), (cL_law, 1588, (.aload_n 0, 1)), (cL_law, 1589, (.iload_n 3, 1)), (cL_law, 1590, (.iconst 1, 1)), (cL_law, 1591, (.iadd, 1)), (cL_law, 1592, (.iaload, 1)), (cL_law, 1593, (.aload_n 0, 1)), (cL_law, 1594, (.iload_n 3, 1)), (cL_law, 1595, (.iconst 2, 1)), (cL_law, 1596, (.iadd, 1)), (cL_law, 1597, (.iaload, 1)), (cL_law, 1598, (.aload_n 0, 1)), (cL_law, 1599, (.iload_n 3, 1)), (cL_law, 1600, (.iconst 3, 1)), (cL_law, 1601, (.iadd, 1)), (cL_law, 1602, (.iaload, 1)), (cL_law, 1603, (.aload_n 0, 1)), (cL_law, 1604, (.iload_n 3, 1)), (cL_law, 1605, (.iconst 4, 1))]
theorem dkB85decL_19 : dkL85decL_19.all (fun q => decide (decode q.1 q.2.1 = .ok q.2.2)) = true := by decide +kernel
theorem dL_law_1536 : decode cL_law 1536 = .ok (.iaload, 1) := dk_at dkB85decL_19 0 rfl
theorem dL_law_1537 : decode cL_law 1537 = .ok (.aload_n 0, 1) := dk_at dkB85decL_19 1 rfl
theorem dL_law_1538 : decode cL_law 1538 = .ok (.iload_n 3, 1) := dk_at dkB85decL_19 2 rfl
theorem dL_law_1539 : decode cL_law 1539 = .ok (.iconst 4, 1) := dk_at dkB85decL_19 3 rfl
theorem dL_law_1540 : decode cL_law 1540 = .ok (.iadd, 1) := dk_at dkB85decL_19 4 rfl
theorem dL_law_1541 : decode cL_law 1541 = .ok (.iaload, 1) := dk_at dkB85decL_19 5 rfl
theorem dL_law_1542 : decode cL_law 1542 = .ok (.aload_n 0, 1) := dk_at dkB85decL_19 6 rfl
theorem dL_law_1543 : decode cL_law 1543 = .ok (.iload_n 3, 1) := dk_at dkB85decL_19 7 rfl
theorem dL_law_1544 : decode cL_law 1544 = .ok (.iconst 5, 1) := dk_at dkB85decL_19 8 rfl
theorem dL_law_1545 : decode cL_law 1545 = .ok (.iadd, 1) := dk_at dkB85decL_19 9 rfl
theorem dL_law_1546 : decode cL_law 1546 = .ok (.iaload, 1) := dk_at dkB85decL_19 10 rfl
theorem dL_law_1547 : decode cL_law 1547 = .ok (.invokevirtual 162, 3) := dk_at dkB85decL_19 11 rfl
theorem dL_law_1550 : decode cL_law 1550 = .ok (.pop, 1) := dk_at dkB85decL_19 12 rfl
theorem dL_law_1551 : decode cL_law 1551 = .ok (.goto 234, 3) := dk_at dkB85decL_19 13 rfl
theorem dL_law_1554 : decode cL_law 1554 = .ok (.aload_n 1, 1) := dk_at dkB85decL_19 14 rfl
theorem dL_law_1555 : decode cL_law 1555 = .ok (.aload_n 0, 1) := dk_at dkB85decL_19 15 rfl
theorem dL_law_1556 : decode cL_law 1556 = .ok (.iload_n 3, 1) := dk_at dkB85decL_19 16 rfl
theorem dL_law_1557 : decode cL_law 1557 = .ok (.iconst 1, 1) := dk_at dkB85decL_19 17 rfl
theorem dL_law_1558 : decode cL_law 1558 = .ok (.iadd, 1) := dk_at dkB85decL_19 18 rfl
theorem dL_law_1559 : decode cL_law 1559 = .ok (.iaload, 1) := dk_at dkB85decL_19 19 rfl
theorem dL_law_1560 : decode cL_law 1560 = .ok (.aload_n 0, 1) := dk_at dkB85decL_19 20 rfl
theorem dL_law_1561 : decode cL_law 1561 = .ok (.iload_n 3, 1) := dk_at dkB85decL_19 21 rfl
theorem dL_law_1562 : decode cL_law 1562 = .ok (.iconst 2, 1) := dk_at dkB85decL_19 22 rfl
theorem dL_law_1563 : decode cL_law 1563 = .ok (.iadd, 1) := dk_at dkB85decL_19 23 rfl
theorem dL_law_1564 : decode cL_law 1564 = .ok (.iaload, 1) := dk_at dkB85decL_19 24 rfl
theorem dL_law_1565 : decode cL_law 1565 = .ok (.invokevirtual 163, 3) := dk_at dkB85decL_19 25 rfl
theorem dL_law_1568 : decode cL_law 1568 = .ok (.pop, 1) := dk_at dkB85decL_19 26 rfl
theorem dL_law_1569 : decode cL_law 1569 = .ok (.aload_n 2, 1) := dk_at dkB85decL_19 27 rfl
theorem dL_law_1570 : decode cL_law 1570 = .ok (.aload_n 0, 1) := dk_at dkB85decL_19 28 rfl
theorem dL_law_1571 : decode cL_law 1571 = .ok (.iload_n 3, 1) := dk_at dkB85decL_19 29 rfl
theorem dL_law_1572 : decode cL_law 1572 = .ok (.iconst 1, 1) := dk_at dkB85decL_19 30 rfl
theorem dL_law_1573 : decode cL_law 1573 = .ok (.iadd, 1) := dk_at dkB85decL_19 31 rfl
theorem dL_law_1574 : decode cL_law 1574 = .ok (.iaload, 1) := dk_at dkB85decL_19 32 rfl
theorem dL_law_1575 : decode cL_law 1575 = .ok (.aload_n 0, 1) := dk_at dkB85decL_19 33 rfl
theorem dL_law_1576 : decode cL_law 1576 = .ok (.iload_n 3, 1) := dk_at dkB85decL_19 34 rfl
theorem dL_law_1577 : decode cL_law 1577 = .ok (.iconst 2, 1) := dk_at dkB85decL_19 35 rfl
theorem dL_law_1578 : decode cL_law 1578 = .ok (.iadd, 1) := dk_at dkB85decL_19 36 rfl
theorem dL_law_1579 : decode cL_law 1579 = .ok (.iaload, 1) := dk_at dkB85decL_19 37 rfl
theorem dL_law_1580 : decode cL_law 1580 = .ok (.invokevirtual 166, 3) := dk_at dkB85decL_19 38 rfl
theorem dL_law_1583 : decode cL_law 1583 = .ok (.pop, 1) := dk_at dkB85decL_19 39 rfl
theorem dL_law_1584 : decode cL_law 1584 = .ok (.goto 201, 3) := dk_at dkB85decL_19 40 rfl
theorem dL_law_1587 : decode cL_law 1587 = .ok (.aload_n 1, 1) := dk_at dkB85decL_19 41 rfl
theorem dL_law_1588 : decode cL_law 1588 = .ok (.aload_n 0, 1) := dk_at dkB85decL_19 42 rfl
theorem dL_law_1589 : decode cL_law 1589 = .ok (.iload_n 3, 1) := dk_at dkB85decL_19 43 rfl
theorem dL_law_1590 : decode cL_law 1590 = .ok (.iconst 1, 1) := dk_at dkB85decL_19 44 rfl
theorem dL_law_1591 : decode cL_law 1591 = .ok (.iadd, 1) := dk_at dkB85decL_19 45 rfl
theorem dL_law_1592 : decode cL_law 1592 = .ok (.iaload, 1) := dk_at dkB85decL_19 46 rfl
theorem dL_law_1593 : decode cL_law 1593 = .ok (.aload_n 0, 1) := dk_at dkB85decL_19 47 rfl
theorem dL_law_1594 : decode cL_law 1594 = .ok (.iload_n 3, 1) := dk_at dkB85decL_19 48 rfl
theorem dL_law_1595 : decode cL_law 1595 = .ok (.iconst 2, 1) := dk_at dkB85decL_19 49 rfl
theorem dL_law_1596 : decode cL_law 1596 = .ok (.iadd, 1) := dk_at dkB85decL_19 50 rfl
theorem dL_law_1597 : decode cL_law 1597 = .ok (.iaload, 1) := dk_at dkB85decL_19 51 rfl
theorem dL_law_1598 : decode cL_law 1598 = .ok (.aload_n 0, 1) := dk_at dkB85decL_19 52 rfl
theorem dL_law_1599 : decode cL_law 1599 = .ok (.iload_n 3, 1) := dk_at dkB85decL_19 53 rfl
theorem dL_law_1600 : decode cL_law 1600 = .ok (.iconst 3, 1) := dk_at dkB85decL_19 54 rfl
theorem dL_law_1601 : decode cL_law 1601 = .ok (.iadd, 1) := dk_at dkB85decL_19 55 rfl
theorem dL_law_1602 : decode cL_law 1602 = .ok (.iaload, 1) := dk_at dkB85decL_19 56 rfl
theorem dL_law_1603 : decode cL_law 1603 = .ok (.aload_n 0, 1) := dk_at dkB85decL_19 57 rfl
theorem dL_law_1604 : decode cL_law 1604 = .ok (.iload_n 3, 1) := dk_at dkB85decL_19 58 rfl
theorem dL_law_1605 : decode cL_law 1605 = .ok (.iconst 4, 1) := dk_at dkB85decL_19 59 rfl
noncomputable def dkL85decL_20 : List (ByteArray × Nat × Instr × Nat) := [(cL_law, 1606, (.iadd, 1)), (cL_law, 1607, (.iaload, 1)), (cL_law, 1608, (.invokevirtual 167, 3)), (cL_law, 1611, (.pop, 1)), (cL_law, 1612, (.aload_n 2, 1)), (cL_law, 1613, (.aload_n 0, 1)), (cL_law, 1614, (.iload_n 3, 1)), (cL_law, 1615, (.iconst 1, 1)), (cL_law, 1616, (.iadd, 1)), (cL_law, 1617, (.iaload, 1)), (cL_law, 1618, (.aload_n 0, 1)), (cL_law, 1619, (.iload_n 3, 1)), (cL_law, 1620, (.iconst 2, 1)), (cL_law, 1621, (.iadd, 1)), (cL_law, 1622, (.iaload, 1)), (cL_law, 1623, (.aload_n 0, 1)), (cL_law, 1624, (.iload_n 3, 1)), (cL_law, 1625, (.iconst 3, 1)), (cL_law, 1626, (.iadd, 1)), (cL_law, 1627, (.iaload, 1)), (cL_law, 1628, (.aload_n 0, 1)), (cL_law, 1629, (.iload_n 3, 1)), (cL_law, 1630, (.iconst 4, 1)), (cL_law, 1631, (.iadd, 1)), (cL_law, 1632, (.iaload, 1)), (cL_law, 1633, (.invokevirtual 170, 3)), (cL_law, 1636, (.pop, 1)), (cL_law, 1637, (.goto 148, 3)), (cL_law, 1640, (.aload_n 1, 1)), (cL_law, 1641, (.invokevirtual 171, 3)), (cL_law, 1644, (.pop, 1)), (cL_law, 1645, (.aload_n 2, 1)), (cL_law, 1646, (.invokevirtual 174, 3)), (cL_law, 1649, (.pop, 1)), (cL_law, 1650, (.goto 135, 3)), (cL_law, 1653, (.aload_n 1, 1)), (cL_law, 1654, (.invokevirtual 175, 3)), (cL_law, 1657, (.pop, 1)), (cL_law, 1658, (.aload_n 2, 1)), (cL_law, 1659, (.invokevirtual 178, 3)), (cL_law, 1662, (.pop, 1)), (cL_law, 1663, (.goto 122, 3)), (cL_law, 1666, (.aload_n 1, 1)), (cL_law, 1667, (.aload_n 0, 1)), (cL_law, 1668, (.iload_n 3, 1)), (cL_law, 1669, (.iconst 1, 1)), (cL_law, 1670, (.iadd, 1)), (cL_law, 1671, (.iaload, 1)), (cL_law, 1672, (.aload_n 0, 1)), (cL_law, 1673, (.iload_n 3, 1)), (cL_law, 1674, (.iconst 2, 1)), (cL_law, 1675, (.iadd, 1)), (cL_law, 1676, (.iaload, 1)), (cL_law, 1677, (.aload_n 0, 1)), (cL_law, 1678, (.iload_n 3, 1)), (cL_law, 1679, (.iconst 3, 1)), (cL_law, 1680, (.iadd, 1)), (cL_law, 1681, (.iaload, 1)), (cL_law, 1682, (.invokevirtual 179, 3)), (cL_law, 1685, (.pop, 1))]
theorem dkB85decL_20 : dkL85decL_20.all (fun q => decide (decode q.1 q.2.1 = .ok q.2.2)) = true := by decide +kernel
theorem dL_law_1606 : decode cL_law 1606 = .ok (.iadd, 1) := dk_at dkB85decL_20 0 rfl
theorem dL_law_1607 : decode cL_law 1607 = .ok (.iaload, 1) := dk_at dkB85decL_20 1 rfl
theorem dL_law_1608 : decode cL_law 1608 = .ok (.invokevirtual 167, 3) := dk_at dkB85decL_20 2 rfl
theorem dL_law_1611 : decode cL_law 1611 = .ok (.pop, 1) := dk_at dkB85decL_20 3 rfl
theorem dL_law_1612 : decode cL_law 1612 = .ok (.aload_n 2, 1) := dk_at dkB85decL_20 4 rfl
theorem dL_law_1613 : decode cL_law 1613 = .ok (.aload_n 0, 1) := dk_at dkB85decL_20 5 rfl
theorem dL_law_1614 : decode cL_law 1614 = .ok (.iload_n 3, 1) := dk_at dkB85decL_20 6 rfl
theorem dL_law_1615 : decode cL_law 1615 = .ok (.iconst 1, 1) := dk_at dkB85decL_20 7 rfl
theorem dL_law_1616 : decode cL_law 1616 = .ok (.iadd, 1) := dk_at dkB85decL_20 8 rfl
theorem dL_law_1617 : decode cL_law 1617 = .ok (.iaload, 1) := dk_at dkB85decL_20 9 rfl
theorem dL_law_1618 : decode cL_law 1618 = .ok (.aload_n 0, 1) := dk_at dkB85decL_20 10 rfl
theorem dL_law_1619 : decode cL_law 1619 = .ok (.iload_n 3, 1) := dk_at dkB85decL_20 11 rfl
theorem dL_law_1620 : decode cL_law 1620 = .ok (.iconst 2, 1) := dk_at dkB85decL_20 12 rfl
theorem dL_law_1621 : decode cL_law 1621 = .ok (.iadd, 1) := dk_at dkB85decL_20 13 rfl
theorem dL_law_1622 : decode cL_law 1622 = .ok (.iaload, 1) := dk_at dkB85decL_20 14 rfl
theorem dL_law_1623 : decode cL_law 1623 = .ok (.aload_n 0, 1) := dk_at dkB85decL_20 15 rfl
theorem dL_law_1624 : decode cL_law 1624 = .ok (.iload_n 3, 1) := dk_at dkB85decL_20 16 rfl
theorem dL_law_1625 : decode cL_law 1625 = .ok (.iconst 3, 1) := dk_at dkB85decL_20 17 rfl
theorem dL_law_1626 : decode cL_law 1626 = .ok (.iadd, 1) := dk_at dkB85decL_20 18 rfl
theorem dL_law_1627 : decode cL_law 1627 = .ok (.iaload, 1) := dk_at dkB85decL_20 19 rfl
theorem dL_law_1628 : decode cL_law 1628 = .ok (.aload_n 0, 1) := dk_at dkB85decL_20 20 rfl
theorem dL_law_1629 : decode cL_law 1629 = .ok (.iload_n 3, 1) := dk_at dkB85decL_20 21 rfl
theorem dL_law_1630 : decode cL_law 1630 = .ok (.iconst 4, 1) := dk_at dkB85decL_20 22 rfl
theorem dL_law_1631 : decode cL_law 1631 = .ok (.iadd, 1) := dk_at dkB85decL_20 23 rfl
theorem dL_law_1632 : decode cL_law 1632 = .ok (.iaload, 1) := dk_at dkB85decL_20 24 rfl
theorem dL_law_1633 : decode cL_law 1633 = .ok (.invokevirtual 170, 3) := dk_at dkB85decL_20 25 rfl
theorem dL_law_1636 : decode cL_law 1636 = .ok (.pop, 1) := dk_at dkB85decL_20 26 rfl
theorem dL_law_1637 : decode cL_law 1637 = .ok (.goto 148, 3) := dk_at dkB85decL_20 27 rfl
theorem dL_law_1640 : decode cL_law 1640 = .ok (.aload_n 1, 1) := dk_at dkB85decL_20 28 rfl
theorem dL_law_1641 : decode cL_law 1641 = .ok (.invokevirtual 171, 3) := dk_at dkB85decL_20 29 rfl
theorem dL_law_1644 : decode cL_law 1644 = .ok (.pop, 1) := dk_at dkB85decL_20 30 rfl
theorem dL_law_1645 : decode cL_law 1645 = .ok (.aload_n 2, 1) := dk_at dkB85decL_20 31 rfl
theorem dL_law_1646 : decode cL_law 1646 = .ok (.invokevirtual 174, 3) := dk_at dkB85decL_20 32 rfl
theorem dL_law_1649 : decode cL_law 1649 = .ok (.pop, 1) := dk_at dkB85decL_20 33 rfl
theorem dL_law_1650 : decode cL_law 1650 = .ok (.goto 135, 3) := dk_at dkB85decL_20 34 rfl
theorem dL_law_1653 : decode cL_law 1653 = .ok (.aload_n 1, 1) := dk_at dkB85decL_20 35 rfl
theorem dL_law_1654 : decode cL_law 1654 = .ok (.invokevirtual 175, 3) := dk_at dkB85decL_20 36 rfl
theorem dL_law_1657 : decode cL_law 1657 = .ok (.pop, 1) := dk_at dkB85decL_20 37 rfl
theorem dL_law_1658 : decode cL_law 1658 = .ok (.aload_n 2, 1) := dk_at dkB85decL_20 38 rfl
theorem dL_law_1659 : decode cL_law 1659 = .ok (.invokevirtual 178, 3) := dk_at dkB85decL_20 39 rfl
theorem dL_law_1662 : decode cL_law 1662 = .ok (.pop, 1) := dk_at dkB85decL_20 40 rfl
theorem dL_law_1663 : decode cL_law 1663 = .ok (.goto 122, 3) := dk_at dkB85decL_20 41 rfl
theorem dL_law_1666 : decode cL_law 1666 = .ok (.aload_n 1, 1) := dk_at dkB85decL_20 42 rfl
theorem dL_law_1667 : decode cL_law 1667 = .ok (.aload_n 0, 1) := dk_at dkB85decL_20 43 rfl
theorem dL_law_1668 : decode cL_law 1668 = .ok (.iload_n 3, 1) := dk_at dkB85decL_20 44 rfl
theorem dL_law_1669 : decode cL_law 1669 = .ok (.iconst 1, 1) := dk_at dkB85decL_20 45 rfl
theorem dL_law_1670 : decode cL_law 1670 = .ok (.iadd, 1) := dk_at dkB85decL_20 46 rfl
theorem dL_law_1671 : decode cL_law 1671 = .ok (.iaload, 1) := dk_at dkB85decL_20 47 rfl
theorem dL_law_1672 : decode cL_law 1672 = .ok (.aload_n 0, 1) := dk_at dkB85decL_20 48 rfl
theorem dL_law_1673 : decode cL_law 1673 = .ok (.iload_n 3, 1) := dk_at dkB85decL_20 49 rfl
theorem dL_law_1674 : decode cL_law 1674 = .ok (.iconst 2, 1) := dk_at dkB85decL_20 50 rfl
theorem dL_law_1675 : decode cL_law 1675 = .ok (.iadd, 1) := dk_at dkB85decL_20 51 rfl
theorem dL_law_1676 : decode cL_law 1676 = .ok (.iaload, 1) := dk_at dkB85decL_20 52 rfl
theorem dL_law_1677 : decode cL_law 1677 = .ok (.aload_n 0, 1) := dk_at dkB85decL_20 53 rfl
theorem dL_law_1678 : decode cL_law 1678 = .ok (.iload_n 3, 1) := dk_at dkB85decL_20 54 rfl
theorem dL_law_1679 : decode cL_law 1679 = .ok (.iconst 3, 1) := dk_at dkB85decL_20 55 rfl
theorem dL_law_1680 : decode cL_law 1680 = .ok (.iadd, 1) := dk_at dkB85decL_20 56 rfl
theorem dL_law_1681 : decode cL_law 1681 = .ok (.iaload, 1) := dk_at dkB85decL_20 57 rfl
theorem dL_law_1682 : decode cL_law 1682 = .ok (.invokevirtual 179, 3) := dk_at dkB85decL_20 58 rfl
theorem dL_law_1685 : decode cL_law 1685 = .ok (.pop, 1) := dk_at dkB85decL_20 59 rfl
noncomputable def dkL85decL_21 : List (ByteArray × Nat × Instr × Nat) := [(cL_law, 1686, (.aload_n 2, 1)), (cL_law, 1687, (.aload_n 0, 1)), (cL_law, 1688, (.iload_n 3, 1)), (cL_law, 1689, (.iconst 1, 1)), (cL_law, 1690, (.iadd, 1)), (cL_law, 1691, (.iaload, 1)), (cL_law, 1692, (.aload_n 0, 1)), (cL_law, 1693, (.iload_n 3, 1)), (cL_law, 1694, (.iconst 2, 1)), (cL_law, 1695, (.iadd, 1)), (cL_law, 1696, (.iaload, 1)), (cL_law, 1697, (.aload_n 0, 1)), (cL_law, 1698, (.iload_n 3, 1)), (cL_law, 1699, (.iconst 3, 1)), (cL_law, 1700, (.iadd, 1)), (cL_law, 1701, (.iaload, 1)), (cL_law, 1702, (.invokevirtual 182, 3)), (cL_law, 1705, (.pop, 1)), (cL_law, 1706, (.goto 79, 3)), (cL_law, 1709, (.aload_n 1, 1)), (cL_law, 1710, (.aload_n 0, 1)), (cL_law, 1711, (.iload_n 3, 1)), (cL_law, 1712, (.iconst 1, 1)), (cL_law, 1713, (.iadd, 1)), (cL_law, 1714, (.iaload, 1)), (cL_law, 1715, (.invokevirtual 183, 3)), (cL_law, 1718, (.pop, 1)), (cL_law, 1719, (.aload_n 2, 1)), (cL_law, 1720, (.aload_n 0, 1)), (cL_law, 1721, (.iload_n 3, 1)), (cL_law, 1722, (.iconst 1, 1)), (cL_law, 1723, (.iadd, 1)), (cL_law, 1724, (.iaload, 1)), (cL_law, 1725, (.invokevirtual 186, 3)), (cL_law, 1728, (.pop, 1)), (cL_law, 1729, (.goto 56, 3)), (cL_law, 1732, (.aload_n 1, 1)), (cL_law, 1733, (.aload_n 0, 1)), (cL_law, 1734, (.iload_n 3, 1)), (cL_law, 1735, (.iconst 1, 1)), (cL_law, 1736, (.iadd, 1)), (cL_law, 1737, (.iaload, 1)), (cL_law, 1738, (.aload_n 0, 1)), (cL_law, 1739, (.iload_n 3, 1)), (cL_law, 1740, (.iconst 2, 1)), (cL_law, 1741, (.iadd, 1)), (cL_law, 1742, (.iaload, 1)), (cL_law, 1743, (.aload_n 0, 1)), (cL_law, 1744, (.iload_n 3, 1)), (cL_law, 1745, (.iconst 3, 1)), (cL_law, 1746, (.iadd, 1)), (cL_law, 1747, (.iaload, 1)), (cL_law, 1748, (.aload_n 0, 1)), (cL_law, 1749, (.iload_n 3, 1)), (cL_law, 1750, (.iconst 4, 1)), (cL_law, 1751, (.iadd, 1)), (cL_law, 1752, (.iaload, 1)), (cL_law, 1753, (.invokevirtual 187, 3)), (cL_law, 1756, (.pop, 1)), (cL_law, 1757, (.aload_n 2, 1))]
theorem dkB85decL_21 : dkL85decL_21.all (fun q => decide (decode q.1 q.2.1 = .ok q.2.2)) = true := by decide +kernel
theorem dL_law_1686 : decode cL_law 1686 = .ok (.aload_n 2, 1) := dk_at dkB85decL_21 0 rfl
theorem dL_law_1687 : decode cL_law 1687 = .ok (.aload_n 0, 1) := dk_at dkB85decL_21 1 rfl
theorem dL_law_1688 : decode cL_law 1688 = .ok (.iload_n 3, 1) := dk_at dkB85decL_21 2 rfl
theorem dL_law_1689 : decode cL_law 1689 = .ok (.iconst 1, 1) := dk_at dkB85decL_21 3 rfl
theorem dL_law_1690 : decode cL_law 1690 = .ok (.iadd, 1) := dk_at dkB85decL_21 4 rfl
theorem dL_law_1691 : decode cL_law 1691 = .ok (.iaload, 1) := dk_at dkB85decL_21 5 rfl
theorem dL_law_1692 : decode cL_law 1692 = .ok (.aload_n 0, 1) := dk_at dkB85decL_21 6 rfl
theorem dL_law_1693 : decode cL_law 1693 = .ok (.iload_n 3, 1) := dk_at dkB85decL_21 7 rfl
theorem dL_law_1694 : decode cL_law 1694 = .ok (.iconst 2, 1) := dk_at dkB85decL_21 8 rfl
theorem dL_law_1695 : decode cL_law 1695 = .ok (.iadd, 1) := dk_at dkB85decL_21 9 rfl
theorem dL_law_1696 : decode cL_law 1696 = .ok (.iaload, 1) := dk_at dkB85decL_21 10 rfl
theorem dL_law_1697 : decode cL_law 1697 = .ok (.aload_n 0, 1) := dk_at dkB85decL_21 11 rfl
theorem dL_law_1698 : decode cL_law 1698 = .ok (.iload_n 3, 1) := dk_at dkB85decL_21 12 rfl
theorem dL_law_1699 : decode cL_law 1699 = .ok (.iconst 3, 1) := dk_at dkB85decL_21 13 rfl
theorem dL_law_1700 : decode cL_law 1700 = .ok (.iadd, 1) := dk_at dkB85decL_21 14 rfl
theorem dL_law_1701 : decode cL_law 1701 = .ok (.iaload, 1) := dk_at dkB85decL_21 15 rfl
theorem dL_law_1702 : decode cL_law 1702 = .ok (.invokevirtual 182, 3) := dk_at dkB85decL_21 16 rfl
theorem dL_law_1705 : decode cL_law 1705 = .ok (.pop, 1) := dk_at dkB85decL_21 17 rfl
theorem dL_law_1706 : decode cL_law 1706 = .ok (.goto 79, 3) := dk_at dkB85decL_21 18 rfl
theorem dL_law_1709 : decode cL_law 1709 = .ok (.aload_n 1, 1) := dk_at dkB85decL_21 19 rfl
theorem dL_law_1710 : decode cL_law 1710 = .ok (.aload_n 0, 1) := dk_at dkB85decL_21 20 rfl
theorem dL_law_1711 : decode cL_law 1711 = .ok (.iload_n 3, 1) := dk_at dkB85decL_21 21 rfl
theorem dL_law_1712 : decode cL_law 1712 = .ok (.iconst 1, 1) := dk_at dkB85decL_21 22 rfl
theorem dL_law_1713 : decode cL_law 1713 = .ok (.iadd, 1) := dk_at dkB85decL_21 23 rfl
theorem dL_law_1714 : decode cL_law 1714 = .ok (.iaload, 1) := dk_at dkB85decL_21 24 rfl
theorem dL_law_1715 : decode cL_law 1715 = .ok (.invokevirtual 183, 3) := dk_at dkB85decL_21 25 rfl
theorem dL_law_1718 : decode cL_law 1718 = .ok (.pop, 1) := dk_at dkB85decL_21 26 rfl
theorem dL_law_1719 : decode cL_law 1719 = .ok (.aload_n 2, 1) := dk_at dkB85decL_21 27 rfl
theorem dL_law_1720 : decode cL_law 1720 = .ok (.aload_n 0, 1) := dk_at dkB85decL_21 28 rfl
theorem dL_law_1721 : decode cL_law 1721 = .ok (.iload_n 3, 1) := dk_at dkB85decL_21 29 rfl
theorem dL_law_1722 : decode cL_law 1722 = .ok (.iconst 1, 1) := dk_at dkB85decL_21 30 rfl
theorem dL_law_1723 : decode cL_law 1723 = .ok (.iadd, 1) := dk_at dkB85decL_21 31 rfl
theorem dL_law_1724 : decode cL_law 1724 = .ok (.iaload, 1) := dk_at dkB85decL_21 32 rfl
theorem dL_law_1725 : decode cL_law 1725 = .ok (.invokevirtual 186, 3) := dk_at dkB85decL_21 33 rfl
theorem dL_law_1728 : decode cL_law 1728 = .ok (.pop, 1) := dk_at dkB85decL_21 34 rfl
theorem dL_law_1729 : decode cL_law 1729 = .ok (.goto 56, 3) := dk_at dkB85decL_21 35 rfl
theorem dL_law_1732 : decode cL_law 1732 = .ok (.aload_n 1, 1) := dk_at dkB85decL_21 36 rfl
theorem dL_law_1733 : decode cL_law 1733 = .ok (.aload_n 0, 1) := dk_at dkB85decL_21 37 rfl
theorem dL_law_1734 : decode cL_law 1734 = .ok (.iload_n 3, 1) := dk_at dkB85decL_21 38 rfl
theorem dL_law_1735 : decode cL_law 1735 = .ok (.iconst 1, 1) := dk_at dkB85decL_21 39 rfl
theorem dL_law_1736 : decode cL_law 1736 = .ok (.iadd, 1) := dk_at dkB85decL_21 40 rfl
theorem dL_law_1737 : decode cL_law 1737 = .ok (.iaload, 1) := dk_at dkB85decL_21 41 rfl
theorem dL_law_1738 : decode cL_law 1738 = .ok (.aload_n 0, 1) := dk_at dkB85decL_21 42 rfl
theorem dL_law_1739 : decode cL_law 1739 = .ok (.iload_n 3, 1) := dk_at dkB85decL_21 43 rfl
theorem dL_law_1740 : decode cL_law 1740 = .ok (.iconst 2, 1) := dk_at dkB85decL_21 44 rfl
theorem dL_law_1741 : decode cL_law 1741 = .ok (.iadd, 1) := dk_at dkB85decL_21 45 rfl
theorem dL_law_1742 : decode cL_law 1742 = .ok (.iaload, 1) := dk_at dkB85decL_21 46 rfl
theorem dL_law_1743 : decode cL_law 1743 = .ok (.aload_n 0, 1) := dk_at dkB85decL_21 47 rfl
theorem dL_law_1744 : decode cL_law 1744 = .ok (.iload_n 3, 1) := dk_at dkB85decL_21 48 rfl
theorem dL_law_1745 : decode cL_law 1745 = .ok (.iconst 3, 1) := dk_at dkB85decL_21 49 rfl
theorem dL_law_1746 : decode cL_law 1746 = .ok (.iadd, 1) := dk_at dkB85decL_21 50 rfl
theorem dL_law_1747 : decode cL_law 1747 = .ok (.iaload, 1) := dk_at dkB85decL_21 51 rfl
theorem dL_law_1748 : decode cL_law 1748 = .ok (.aload_n 0, 1) := dk_at dkB85decL_21 52 rfl
theorem dL_law_1749 : decode cL_law 1749 = .ok (.iload_n 3, 1) := dk_at dkB85decL_21 53 rfl
theorem dL_law_1750 : decode cL_law 1750 = .ok (.iconst 4, 1) := dk_at dkB85decL_21 54 rfl
theorem dL_law_1751 : decode cL_law 1751 = .ok (.iadd, 1) := dk_at dkB85decL_21 55 rfl
theorem dL_law_1752 : decode cL_law 1752 = .ok (.iaload, 1) := dk_at dkB85decL_21 56 rfl
theorem dL_law_1753 : decode cL_law 1753 = .ok (.invokevirtual 187, 3) := dk_at dkB85decL_21 57 rfl
theorem dL_law_1756 : decode cL_law 1756 = .ok (.pop, 1) := dk_at dkB85decL_21 58 rfl
theorem dL_law_1757 : decode cL_law 1757 = .ok (.aload_n 2, 1) := dk_at dkB85decL_21 59 rfl
noncomputable def dkL85decL_22 : List (ByteArray × Nat × Instr × Nat) := [(cL_law, 1758, (.aload_n 0, 1)), (cL_law, 1759, (.iload_n 3, 1)), (cL_law, 1760, (.iconst 1, 1)), (cL_law, 1761, (.iadd, 1)), (cL_law, 1762, (.iaload, 1)), (cL_law, 1763, (.aload_n 0, 1)), (cL_law, 1764, (.iload_n 3, 1)), (cL_law, 1765, (.iconst 2, 1)), (cL_law, 1766, (.iadd, 1)), (cL_law, 1767, (.iaload, 1)), (cL_law, 1768, (.aload_n 0, 1)), (cL_law, 1769, (.iload_n 3, 1)), (cL_law, 1770, (.iconst 3, 1)), (cL_law, 1771, (.iadd, 1)), (cL_law, 1772, (.iaload, 1)), (cL_law, 1773, (.aload_n 0, 1)), (cL_law, 1774, (.iload_n 3, 1)), (cL_law, 1775, (.iconst 4, 1)), (cL_law, 1776, (.iadd, 1)), (cL_law, 1777, (.iaload, 1)), (cL_law, 1778, (.invokevirtual 190, 3)), (cL_law, 1781, (.pop, 1)), (cL_law, 1782, (.goto 3, 3)), (cL_law, 1785, (.iinc 3 6, 3)), (cL_law, 1788, (.goto (-1770), 3)), (cL_law, 1791, (.iconst 1, 1)), (cL_law, 1792, (.ireturn, 1))]
theorem dkB85decL_22 : dkL85decL_22.all (fun q => decide (decode q.1 q.2.1 = .ok q.2.2)) = true := by decide +kernel
theorem dL_law_1758 : decode cL_law 1758 = .ok (.aload_n 0, 1) := dk_at dkB85decL_22 0 rfl
theorem dL_law_1759 : decode cL_law 1759 = .ok (.iload_n 3, 1) := dk_at dkB85decL_22 1 rfl
theorem dL_law_1760 : decode cL_law 1760 = .ok (.iconst 1, 1) := dk_at dkB85decL_22 2 rfl
theorem dL_law_1761 : decode cL_law 1761 = .ok (.iadd, 1) := dk_at dkB85decL_22 3 rfl
theorem dL_law_1762 : decode cL_law 1762 = .ok (.iaload, 1) := dk_at dkB85decL_22 4 rfl
theorem dL_law_1763 : decode cL_law 1763 = .ok (.aload_n 0, 1) := dk_at dkB85decL_22 5 rfl
theorem dL_law_1764 : decode cL_law 1764 = .ok (.iload_n 3, 1) := dk_at dkB85decL_22 6 rfl
theorem dL_law_1765 : decode cL_law 1765 = .ok (.iconst 2, 1) := dk_at dkB85decL_22 7 rfl
theorem dL_law_1766 : decode cL_law 1766 = .ok (.iadd, 1) := dk_at dkB85decL_22 8 rfl
theorem dL_law_1767 : decode cL_law 1767 = .ok (.iaload, 1) := dk_at dkB85decL_22 9 rfl
theorem dL_law_1768 : decode cL_law 1768 = .ok (.aload_n 0, 1) := dk_at dkB85decL_22 10 rfl
theorem dL_law_1769 : decode cL_law 1769 = .ok (.iload_n 3, 1) := dk_at dkB85decL_22 11 rfl
theorem dL_law_1770 : decode cL_law 1770 = .ok (.iconst 3, 1) := dk_at dkB85decL_22 12 rfl
theorem dL_law_1771 : decode cL_law 1771 = .ok (.iadd, 1) := dk_at dkB85decL_22 13 rfl
theorem dL_law_1772 : decode cL_law 1772 = .ok (.iaload, 1) := dk_at dkB85decL_22 14 rfl
theorem dL_law_1773 : decode cL_law 1773 = .ok (.aload_n 0, 1) := dk_at dkB85decL_22 15 rfl
theorem dL_law_1774 : decode cL_law 1774 = .ok (.iload_n 3, 1) := dk_at dkB85decL_22 16 rfl
theorem dL_law_1775 : decode cL_law 1775 = .ok (.iconst 4, 1) := dk_at dkB85decL_22 17 rfl
theorem dL_law_1776 : decode cL_law 1776 = .ok (.iadd, 1) := dk_at dkB85decL_22 18 rfl
theorem dL_law_1777 : decode cL_law 1777 = .ok (.iaload, 1) := dk_at dkB85decL_22 19 rfl
theorem dL_law_1778 : decode cL_law 1778 = .ok (.invokevirtual 190, 3) := dk_at dkB85decL_22 20 rfl
theorem dL_law_1781 : decode cL_law 1781 = .ok (.pop, 1) := dk_at dkB85decL_22 21 rfl
theorem dL_law_1782 : decode cL_law 1782 = .ok (.goto 3, 3) := dk_at dkB85decL_22 22 rfl
theorem dL_law_1785 : decode cL_law 1785 = .ok (.iinc 3 6, 3) := dk_at dkB85decL_22 23 rfl
theorem dL_law_1788 : decode cL_law 1788 = .ok (.goto (-1770), 3) := dk_at dkB85decL_22 24 rfl
theorem dL_law_1791 : decode cL_law 1791 = .ok (.iconst 1, 1) := dk_at dkB85decL_22 25 rfl
theorem dL_law_1792 : decode cL_law 1792 = .ok (.ireturn, 1) := dk_at dkB85decL_22 26 rfl
