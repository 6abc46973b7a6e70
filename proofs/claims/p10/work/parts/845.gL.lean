set_option maxRecDepth 20000 in
theorem wd_x_X10_init_r1 : GoodIn wsL_law wsX10_init_r1 := (wd_c wd_10 (wd_c wd_11 (wd_c wd_12 (wd_c wd_13 (wd_c wd_14 (wd_c wd_15 (wd_c wd_16 (wd_c wd_17 (wd_c wd_18 (wd_c wd_19 (wd_c wd_20 (wd_c wd_21 (wd_c wd_22 (wd_c wd_23 (wd_c wd_24 (wd_c wd_25 (wd_c wd_26 (wd_c wd_27 (wd_c wd_28 (wd_c wd_29 (wd_c wd_30 (wd_c wd_31 (wd_c wd_32 (wd_c wd_33 wd_n))))))))))))))))))))))))
set_option maxRecDepth 20000 in
theorem wd_x_X10_init_r2 : GoodIn wsL_law wsX10_init_r2 := (wd_c wd_34 (wd_c wd_35 (wd_c wd_36 (wd_c wd_37 (wd_c wd_38 (wd_c wd_39 (wd_c wd_40 (wd_c wd_41 (wd_c wd_42 (wd_c wd_43 (wd_c wd_44 (wd_c wd_45 (wd_c wd_46 (wd_c wd_47 (wd_c wd_48 (wd_c wd_49 (wd_c wd_50 (wd_c wd_51 (wd_c wd_52 (wd_c wd_53 (wd_c wd_54 (wd_c wd_55 (wd_c wd_56 (wd_c wd_57 wd_n))))))))))))))))))))))))
set_option maxRecDepth 20000 in
theorem wd_x_X10_init_r3 : GoodIn wsL_law wsX10_init_r3 := (wd_c wd_58 (wd_c wd_59 (wd_c wd_60 (wd_c wd_61 (wd_c wd_62 (wd_c wd_63 (wd_c wd_64 (wd_c wd_65 (wd_c wd_66 (wd_c wd_67 (wd_c wd_68 (wd_c wd_69 (wd_c wd_70 (wd_c wd_71 (wd_c wd_72 (wd_c wd_73 (wd_c wd_74 (wd_c wd_75 (wd_c wd_76 (wd_c wd_77 (wd_c wd_78 (wd_c wd_79 (wd_c wd_80 (wd_c wd_81 wd_n))))))))))))))))))))))))
set_option maxRecDepth 20000 in
theorem wd_x_X10_init_r4 : GoodIn wsL_law wsX10_init_r4 := (wd_c wd_82 (wd_c wd_83 (wd_c wd_84 (wd_c wd_85 (wd_c wd_86 (wd_c wd_87 (wd_c wd_88 (wd_c wd_89 (wd_c wd_90 (wd_c wd_91 (wd_c wd_92 (wd_c wd_93 (wd_c wd_94 (wd_c wd_95 (wd_c wd_96 (wd_c wd_97 (wd_c wd_98 (wd_c wd_99 (wd_c wd_100 (wd_c wd_101 (wd_c wd_102 (wd_c wd_103 (wd_c wd_104 (wd_c wd_105 wd_n))))))))))))))))))))))))
set_option maxRecDepth 20000 in
theorem wd_x_X10_init_r5 : GoodIn wsL_law wsX10_init_r5 := (wd_c wd_106 (wd_c wd_107 (wd_c wd_108 (wd_c wd_109 (wd_c wd_110 (wd_c wd_111 (wd_c wd_112 (wd_c wd_113 (wd_c wd_114 (wd_c wd_115 (wd_c wd_116 (wd_c wd_117 (wd_c wd_118 (wd_c wd_119 (wd_c wd_120 (wd_c wd_121 (wd_c wd_122 (wd_c wd_123 (wd_c wd_124 (wd_c wd_125 (wd_c wd_126 (wd_c wd_127 (wd_c wd_128 (wd_c wd_129 wd_n))))))))))))))))))))))))
set_option maxRecDepth 20000 in
theorem wd_x_X10_init_r6 : GoodIn wsL_law wsX10_init_r6 := (wd_c wd_130 (wd_c wd_131 (wd_c wd_132 (wd_c wd_133 (wd_c wd_134 (wd_c wd_135 (wd_c wd_136 (wd_c wd_137 (wd_c wd_138 (wd_c wd_139 (wd_c wd_140 (wd_c wd_141 (wd_c wd_142 (wd_c wd_143 (wd_c wd_144 (wd_c wd_145 wd_n))))))))))))))))
set_option maxRecDepth 20000 in
theorem ggL_law_X10_init : GoodIn wsL_law wsX10_init := (wd_c wd_9 (goodIn_app (goodIn_app (goodIn_app (goodIn_app (goodIn_app (goodIn_app (goodIn_app (goodIn_app (goodIn_app (goodIn_app (goodIn_app (goodIn_app wd_x_X10_init_r1 (goodIn_app wd_x_X10_init_r2 (goodIn_app wd_x_X10_init_r3 (goodIn_app wd_x_X10_init_r4 (goodIn_app wd_x_X10_init_r5 wd_x_X10_init_r6))))) wd_kX80) wd_kX100) wd_kX60) wd_kX40) wd_kX10) wd_kX70) wd_kX90) wd_kX50) wd_kX30) wd_kX00) wd_kX20))
theorem gL_law_X10_init : GoodIn wsL_law (wsX10_init) := ggL_law_X10_init
set_option maxRecDepth 20000 in
theorem ggL_law_X11_init : GoodIn wsL_law wsX11_init := (wd_c wd_148 (goodIn_app (wd_c wd_149 (wd_c wd_11 (wd_c wd_12 (wd_c wd_63 (wd_c wd_150 (wd_c wd_151 (wd_c wd_152 (wd_c wd_153 (wd_c wd_154 (wd_c wd_155 (wd_c wd_156 (wd_c wd_157 (wd_c wd_129 (wd_c wd_158 (wd_c wd_159 (wd_c wd_160 (wd_c wd_161 (wd_c wd_162 (wd_c wd_163 (wd_c wd_164 (wd_c wd_165 (wd_c wd_166 (wd_c wd_167 (wd_c wd_168 wd_n)))))))))))))))))))))))) wd_kX110))
theorem gL_law_X11_init : GoodIn wsL_law (wsX11_init) := ggL_law_X11_init
set_option maxRecDepth 20000 in
theorem ggL_law_X10_rain : GoodIn wsL_law wsX10_rain := (wd_c wd_172 (goodIn_app (goodIn_app (goodIn_app (wd_c wd_16 (wd_c wd_173 (wd_c wd_174 (wd_c wd_175 (wd_c wd_176 (wd_c wd_2 (wd_c wd_177 (wd_c wd_178 (wd_c wd_179 (wd_c wd_180 (wd_c wd_181 (wd_c wd_182 (wd_c wd_49 (wd_c wd_183 wd_n)))))))))))))) wd_kX100) wd_kX80) wd_kX30))
theorem gL_law_X10_rain : GoodIn wsL_law (wsV RL 13 RX10 yX10_rain wsX10_rain) := goodIn_app (wd_c wd_169 (wd_c wd_170 (wd_c wd_171 (wd_c wd_2 wd_n)))) ggL_law_X10_rain
set_option maxRecDepth 20000 in
theorem ggL_law_X11_rain : GoodIn wsL_law wsX11_rain := (wd_c wd_187 (goodIn_app (wd_c wd_150 (wd_c wd_188 (wd_c wd_189 (wd_c wd_5 (wd_c wd_190 (wd_c wd_191 (wd_c wd_192 (wd_c wd_193 (wd_c wd_194 (wd_c wd_195 (wd_c wd_196 (wd_c wd_197 (wd_c wd_198 (wd_c wd_199 (wd_c wd_200 wd_n))))))))))))))) wd_kX110))
theorem gL_law_X11_rain : GoodIn wsL_law (wsV RL 17 RX11 yX11_rain wsX11_rain) := goodIn_app (wd_c wd_184 (wd_c wd_185 (wd_c wd_186 (wd_c wd_5 wd_n)))) ggL_law_X11_rain
set_option maxRecDepth 20000 in
theorem ggL_law_X10_rains : GoodIn wsL_law wsX10_rains := (wd_c wd_204 (goodIn_app (goodIn_app (goodIn_app (goodIn_app (wd_c wd_33 (wd_c wd_205 (wd_c wd_16 (wd_c wd_173 (wd_c wd_174 (wd_c wd_178 (wd_c wd_179 (wd_c wd_2 (wd_c wd_180 (wd_c wd_206 (wd_c wd_207 (wd_c wd_208 (wd_c wd_209 (wd_c wd_210 (wd_c wd_211 (wd_c wd_32 (wd_c wd_212 (wd_c wd_213 (wd_c wd_214 (wd_c wd_215 (wd_c wd_181 (wd_c wd_182 (wd_c wd_49 (wd_c wd_183 wd_n)))))))))))))))))))))))) wd_kX100) wd_kX70) wd_kX80) wd_kX30))
theorem gL_law_X10_rains : GoodIn wsL_law (wsV RL 18 RX10 yX10_rains wsX10_rains) := goodIn_app (wd_c wd_201 (wd_c wd_202 (wd_c wd_203 (wd_c wd_2 wd_n)))) ggL_law_X10_rains
set_option maxRecDepth 20000 in
theorem ggL_law_X11_rains : GoodIn wsL_law wsX11_rains := (wd_c wd_219 (goodIn_app (wd_c wd_220 (wd_c wd_221 (wd_c wd_168 (wd_c wd_150 (wd_c wd_192 (wd_c wd_193 (wd_c wd_5 (wd_c wd_194 (wd_c wd_222 (wd_c wd_223 (wd_c wd_224 (wd_c wd_225 (wd_c wd_226 (wd_c wd_227 (wd_c wd_228 (wd_c wd_229 (wd_c wd_166 (wd_c wd_167 (wd_c wd_195 (wd_c wd_196 (wd_c wd_197 (wd_c wd_198 (wd_c wd_199 (wd_c wd_200 wd_n)))))))))))))))))))))))) wd_kX110))
theorem gL_law_X11_rains : GoodIn wsL_law (wsV RL 22 RX11 yX11_rains wsX11_rains) := goodIn_app (wd_c wd_216 (wd_c wd_217 (wd_c wd_218 (wd_c wd_5 wd_n)))) ggL_law_X11_rains
set_option maxRecDepth 20000 in
theorem ggL_law_X10_set : GoodIn wsL_law wsX10_set := (wd_c wd_233 (goodIn_app (goodIn_app (goodIn_app (wd_c wd_16 (wd_c wd_173 (wd_c wd_234 (wd_c wd_235 (wd_c wd_178 (wd_c wd_179 (wd_c wd_2 (wd_c wd_180 wd_n)))))))) wd_kX100) wd_kX80) wd_kX30))
theorem gL_law_X10_set : GoodIn wsL_law (wsV RL 23 RX10 yX10_set wsX10_set) := goodIn_app (wd_c wd_230 (wd_c wd_231 (wd_c wd_232 (wd_c wd_2 wd_n)))) ggL_law_X10_set
set_option maxRecDepth 20000 in
theorem ggL_law_X11_set : GoodIn wsL_law wsX11_set := (wd_c wd_239 (goodIn_app (wd_c wd_240 (wd_c wd_198 (wd_c wd_150 (wd_c wd_192 (wd_c wd_193 (wd_c wd_5 (wd_c wd_194 wd_n))))))) wd_kX110))
theorem gL_law_X11_set : GoodIn wsL_law (wsV RL 27 RX11 yX11_set wsX11_set) := goodIn_app (wd_c wd_236 (wd_c wd_237 (wd_c wd_238 (wd_c wd_5 wd_n)))) ggL_law_X11_set
set_option maxRecDepth 20000 in
theorem ggL_law_X10_wet : GoodIn wsL_law wsX10_wet := (wd_c wd_244 (goodIn_app (goodIn_app (goodIn_app (wd_c wd_16 (wd_c wd_173 (wd_c wd_234 (wd_c wd_175 (wd_c wd_176 (wd_c wd_2 (wd_c wd_177 (wd_c wd_178 (wd_c wd_179 (wd_c wd_180 (wd_c wd_245 (wd_c wd_246 (wd_c wd_247 (wd_c wd_49 (wd_c wd_248 (wd_c wd_249 (wd_c wd_250 (wd_c wd_251 (wd_c wd_252 (wd_c wd_70 wd_n)))))))))))))))))))) wd_kX100) wd_kX80) wd_kX30))
theorem gL_law_X10_wet : GoodIn wsL_law (wsV RL 28 RX10 yX10_wet wsX10_wet) := goodIn_app (wd_c wd_241 (wd_c wd_242 (wd_c wd_243 (wd_c wd_2 wd_n)))) ggL_law_X10_wet
set_option maxRecDepth 20000 in
theorem ggL_law_X11_wet : GoodIn wsL_law wsX11_wet := (wd_c wd_256 (goodIn_app (wd_c wd_150 (wd_c wd_188 (wd_c wd_189 (wd_c wd_5 (wd_c wd_190 (wd_c wd_191 (wd_c wd_192 (wd_c wd_193 (wd_c wd_194 (wd_c wd_257 (wd_c wd_258 (wd_c wd_259 (wd_c wd_260 wd_n))))))))))))) wd_kX110))
theorem gL_law_X11_wet : GoodIn wsL_law (wsV RL 32 RX11 yX11_wet wsX11_wet) := goodIn_app (wd_c wd_253 (wd_c wd_254 (wd_c wd_255 (wd_c wd_5 wd_n)))) ggL_law_X11_wet
set_option maxRecDepth 20000 in
theorem ggL_law_X10_water : GoodIn wsL_law wsX10_water := (wd_c wd_264 (goodIn_app (goodIn_app (goodIn_app (wd_c wd_16 (wd_c wd_173 (wd_c wd_234 (wd_c wd_175 (wd_c wd_176 (wd_c wd_2 (wd_c wd_177 (wd_c wd_178 (wd_c wd_179 (wd_c wd_180 (wd_c wd_265 (wd_c wd_266 (wd_c wd_267 (wd_c wd_49 (wd_c wd_268 (wd_c wd_249 (wd_c wd_250 (wd_c wd_251 (wd_c wd_252 (wd_c wd_70 (wd_c wd_269 (wd_c wd_246 (wd_c wd_247 (wd_c wd_248 wd_n)))))))))))))))))))))))) wd_kX100) wd_kX80) wd_kX30))
theorem gL_law_X10_water : GoodIn wsL_law (wsV RL 33 RX10 yX10_water wsX10_water) := goodIn_app (wd_c wd_261 (wd_c wd_262 (wd_c wd_263 (wd_c wd_2 wd_n)))) ggL_law_X10_water
set_option maxRecDepth 20000 in
theorem ggL_law_X11_water : GoodIn wsL_law wsX11_water := (wd_c wd_273 (goodIn_app (wd_c wd_150 (wd_c wd_188 (wd_c wd_189 (wd_c wd_5 (wd_c wd_190 (wd_c wd_191 (wd_c wd_192 (wd_c wd_193 (wd_c wd_194 (wd_c wd_257 (wd_c wd_258 (wd_c wd_259 (wd_c wd_260 (wd_c wd_274 (wd_c wd_275 (wd_c wd_276 (wd_c wd_277 wd_n))))))))))))))))) wd_kX110))
theorem gL_law_X11_water : GoodIn wsL_law (wsV RL 36 RX11 yX11_water wsX11_water) := goodIn_app (wd_c wd_270 (wd_c wd_271 (wd_c wd_272 (wd_c wd_5 wd_n)))) ggL_law_X11_water
set_option maxRecDepth 20000 in
theorem ggL_law_X10_type : GoodIn wsL_law wsX10_type := (wd_c wd_281 (goodIn_app (goodIn_app (wd_c wd_21 (wd_c wd_282 (wd_c wd_283 (wd_c wd_178 (wd_c wd_179 (wd_c wd_2 (wd_c wd_180 (wd_c wd_284 (wd_c wd_285 (wd_c wd_286 wd_n)))))))))) wd_kX100) wd_kX60))
theorem gL_law_X10_type : GoodIn wsL_law (wsV RL 39 RX10 yX10_type wsX10_type) := goodIn_app (wd_c wd_278 (wd_c wd_279 (wd_c wd_280 (wd_c wd_2 wd_n)))) ggL_law_X10_type
set_option maxRecDepth 20000 in
theorem ggL_law_X11_type : GoodIn wsL_law wsX11_type := (wd_c wd_290 (goodIn_app (wd_c wd_291 (wd_c wd_292 (wd_c wd_293 (wd_c wd_294 (wd_c wd_295 (wd_c wd_151 (wd_c wd_192 (wd_c wd_193 (wd_c wd_5 (wd_c wd_194 wd_n)))))))))) wd_kX110))
theorem gL_law_X11_type : GoodIn wsL_law (wsV RL 43 RX11 yX11_type wsX11_type) := goodIn_app (wd_c wd_287 (wd_c wd_288 (wd_c wd_289 (wd_c wd_5 wd_n)))) ggL_law_X11_type
set_option maxRecDepth 20000 in
theorem wd_x_X10_law_r1 : GoodIn wsL_law wsX10_law_r1 := (wd_c wd_21 (wd_c wd_25 (wd_c wd_282 (wd_c wd_16 (wd_c wd_300 (wd_c wd_301 (wd_c wd_302 (wd_c wd_303 (wd_c wd_304 (wd_c wd_20 (wd_c wd_305 (wd_c wd_306 (wd_c wd_307 (wd_c wd_308 (wd_c wd_309 (wd_c wd_310 (wd_c wd_311 (wd_c wd_312 (wd_c wd_313 (wd_c wd_314 (wd_c wd_315 (wd_c wd_316 (wd_c wd_317 (wd_c wd_318 wd_n))))))))))))))))))))))))
set_option maxRecDepth 20000 in
theorem wd_x_X10_law_r2 : GoodIn wsL_law wsX10_law_r2 := (wd_c wd_319 (wd_c wd_320 (wd_c wd_321 (wd_c wd_322 (wd_c wd_323 (wd_c wd_113 (wd_c wd_324 (wd_c wd_325 (wd_c wd_326 (wd_c wd_327 (wd_c wd_328 (wd_c wd_329 (wd_c wd_330 (wd_c wd_331 (wd_c wd_332 (wd_c wd_333 (wd_c wd_334 (wd_c wd_335 (wd_c wd_336 (wd_c wd_337 (wd_c wd_338 (wd_c wd_339 (wd_c wd_340 (wd_c wd_341 wd_n))))))))))))))))))))))))
set_option maxRecDepth 20000 in
theorem wd_x_X10_law_r3 : GoodIn wsL_law wsX10_law_r3 := (wd_c wd_342 (wd_c wd_343 (wd_c wd_344 (wd_c wd_251 (wd_c wd_345 (wd_c wd_179 (wd_c wd_2 (wd_c wd_180 (wd_c wd_346 (wd_c wd_347 (wd_c wd_348 (wd_c wd_349 (wd_c wd_350 (wd_c wd_351 (wd_c wd_352 (wd_c wd_24 (wd_c wd_353 (wd_c wd_76 (wd_c wd_77 (wd_c wd_78 (wd_c wd_79 (wd_c wd_80 (wd_c wd_354 (wd_c wd_355 wd_n))))))))))))))))))))))))
set_option maxRecDepth 20000 in
theorem wd_x_X10_law_r4 : GoodIn wsL_law wsX10_law_r4 := (wd_c wd_356 (wd_c wd_357 (wd_c wd_358 (wd_c wd_359 (wd_c wd_360 (wd_c wd_361 wd_n))))))
set_option maxRecDepth 20000 in
theorem ggL_law_X10_law : GoodIn wsL_law wsX10_law := (wd_c wd_299 (goodIn_app (goodIn_app (goodIn_app (goodIn_app (goodIn_app wd_x_X10_law_r1 (goodIn_app wd_x_X10_law_r2 (goodIn_app wd_x_X10_law_r3 wd_x_X10_law_r4))) wd_kX100) wd_kX60) wd_kX80) wd_kX40))
theorem gL_law_X10_law : GoodIn wsL_law (wsV RL 44 RX10 yX10_law wsX10_law) := goodIn_app (wd_c wd_296 (wd_c wd_297 (wd_c wd_298 (wd_c wd_2 wd_n)))) ggL_law_X10_law
set_option maxRecDepth 20000 in
theorem wd_x_X11_law_r1 : GoodIn wsL_law wsX11_law_r1 := (wd_c wd_295 (wd_c wd_366 (wd_c wd_150 (wd_c wd_152 (wd_c wd_367 (wd_c wd_368 (wd_c wd_369 (wd_c wd_370 (wd_c wd_5 (wd_c wd_371 (wd_c wd_372 (wd_c wd_373 (wd_c wd_374 (wd_c wd_375 (wd_c wd_376 (wd_c wd_377 (wd_c wd_378 (wd_c wd_379 (wd_c wd_380 (wd_c wd_381 (wd_c wd_382 (wd_c wd_383 (wd_c wd_384 (wd_c wd_151 wd_n))))))))))))))))))))))))
set_option maxRecDepth 20000 in
theorem wd_x_X11_law_r2 : GoodIn wsL_law wsX11_law_r2 := (wd_c wd_385 (wd_c wd_386 (wd_c wd_387 (wd_c wd_388 (wd_c wd_389 (wd_c wd_390 (wd_c wd_391 (wd_c wd_392 (wd_c wd_393 (wd_c wd_394 (wd_c wd_192 (wd_c wd_193 (wd_c wd_194 wd_n)))))))))))))
set_option maxRecDepth 20000 in
theorem ggL_law_X11_law : GoodIn wsL_law wsX11_law := (wd_c wd_365 (goodIn_app (goodIn_app wd_x_X11_law_r1 wd_x_X11_law_r2) wd_kX110))
theorem gL_law_X11_law : GoodIn wsL_law (wsV RL 48 RX11 yX11_law wsX11_law) := goodIn_app (wd_c wd_362 (wd_c wd_363 (wd_c wd_364 (wd_c wd_5 wd_n)))) ggL_law_X11_law
set_option maxRecDepth 20000 in
theorem wd_x_X10_grows_r1 : GoodIn wsL_law wsX10_grows_r1 := (wd_c wd_16 (wd_c wd_300 (wd_c wd_173 (wd_c wd_175 (wd_c wd_176 (wd_c wd_2 (wd_c wd_177 (wd_c wd_178 (wd_c wd_179 (wd_c wd_180 (wd_c wd_399 (wd_c wd_400 (wd_c wd_401 (wd_c wd_24 (wd_c wd_402 (wd_c wd_403 (wd_c wd_354 (wd_c wd_404 (wd_c wd_76 (wd_c wd_405 (wd_c wd_246 (wd_c wd_247 (wd_c wd_49 (wd_c wd_248 wd_n))))))))))))))))))))))))
set_option maxRecDepth 20000 in
theorem wd_x_X10_grows_r2 : GoodIn wsL_law wsX10_grows_r2 := (wd_c wd_249 (wd_c wd_250 (wd_c wd_251 (wd_c wd_252 (wd_c wd_70 (wd_c wd_406 (wd_c wd_407 (wd_c wd_408 (wd_c wd_409 (wd_c wd_77 (wd_c wd_78 (wd_c wd_80 (wd_c wd_79 (wd_c wd_410 (wd_c wd_411 (wd_c wd_412 (wd_c wd_413 wd_n)))))))))))))))))
set_option maxRecDepth 20000 in
theorem ggL_law_X10_grows : GoodIn wsL_law wsX10_grows := (wd_c wd_398 (goodIn_app (goodIn_app (goodIn_app (goodIn_app (goodIn_app wd_x_X10_grows_r1 wd_x_X10_grows_r2) wd_kX100) wd_kX80) wd_kX30) wd_kX40))
theorem gL_law_X10_grows : GoodIn wsL_law (wsV RL 49 RX10 yX10_grows wsX10_grows) := goodIn_app (wd_c wd_395 (wd_c wd_396 (wd_c wd_397 (wd_c wd_2 wd_n)))) ggL_law_X10_grows
set_option maxRecDepth 20000 in
theorem ggL_law_X11_grows : GoodIn wsL_law wsX11_grows := (wd_c wd_417 (goodIn_app (wd_c wd_188 (wd_c wd_189 (wd_c wd_5 (wd_c wd_190 (wd_c wd_191 (wd_c wd_192 (wd_c wd_193 (wd_c wd_194 (wd_c wd_418 (wd_c wd_419 (wd_c wd_420 (wd_c wd_421 (wd_c wd_150 (wd_c wd_257 (wd_c wd_258 (wd_c wd_259 (wd_c wd_260 (wd_c wd_422 (wd_c wd_423 (wd_c wd_424 (wd_c wd_425 wd_n))))))))))))))))))))) wd_kX110))
theorem gL_law_X11_grows : GoodIn wsL_law (wsV RL 52 RX11 yX11_grows wsX11_grows) := goodIn_app (wd_c wd_414 (wd_c wd_415 (wd_c wd_416 (wd_c wd_5 wd_n)))) ggL_law_X11_grows
set_option maxRecDepth 20000 in
theorem wd_x_X10_learn_r1 : GoodIn wsL_law wsX10_learn_r1 := (wd_c wd_33 (wd_c wd_205 (wd_c wd_206 (wd_c wd_207 (wd_c wd_2 (wd_c wd_208 (wd_c wd_178 (wd_c wd_179 (wd_c wd_180 (wd_c wd_209 (wd_c wd_210 (wd_c wd_211 (wd_c wd_32 (wd_c wd_212 (wd_c wd_213 (wd_c wd_214 (wd_c wd_215 (wd_c wd_175 (wd_c wd_176 (wd_c wd_177 (wd_c wd_430 (wd_c wd_431 (wd_c wd_432 (wd_c wd_433 wd_n))))))))))))))))))))))))
set_option maxRecDepth 20000 in
theorem wd_x_X10_learn_r2 : GoodIn wsL_law wsX10_learn_r2 := (wd_c wd_16 (wd_c wd_173 (wd_c wd_265 (wd_c wd_266 (wd_c wd_267 (wd_c wd_49 (wd_c wd_268 (wd_c wd_249 (wd_c wd_250 (wd_c wd_251 (wd_c wd_252 (wd_c wd_70 (wd_c wd_269 (wd_c wd_246 (wd_c wd_247 (wd_c wd_248 wd_n))))))))))))))))
set_option maxRecDepth 20000 in
theorem ggL_law_X10_learn : GoodIn wsL_law wsX10_learn := (wd_c wd_429 (goodIn_app (goodIn_app (goodIn_app (goodIn_app (goodIn_app wd_x_X10_learn_r1 wd_x_X10_learn_r2) wd_kX100) wd_kX70) wd_kX80) wd_kX30))
theorem gL_law_X10_learn : GoodIn wsL_law (wsV RL 53 RX10 yX10_learn wsX10_learn) := goodIn_app (wd_c wd_426 (wd_c wd_427 (wd_c wd_428 (wd_c wd_2 wd_n)))) ggL_law_X10_learn
set_option maxRecDepth 20000 in
theorem wd_x_X11_learn_r1 : GoodIn wsL_law wsX11_learn_r1 := (wd_c wd_291 (wd_c wd_198 (wd_c wd_168 (wd_c wd_222 (wd_c wd_223 (wd_c wd_5 (wd_c wd_224 (wd_c wd_225 (wd_c wd_220 (wd_c wd_192 (wd_c wd_193 (wd_c wd_194 (wd_c wd_226 (wd_c wd_227 (wd_c wd_228 (wd_c wd_229 (wd_c wd_166 (wd_c wd_167 (wd_c wd_188 (wd_c wd_189 (wd_c wd_190 (wd_c wd_191 (wd_c wd_438 (wd_c wd_439 wd_n))))))))))))))))))))))))
set_option maxRecDepth 20000 in
theorem wd_x_X11_learn_r2 : GoodIn wsL_law wsX11_learn_r2 := (wd_c wd_440 (wd_c wd_441 (wd_c wd_257 (wd_c wd_258 (wd_c wd_259 (wd_c wd_260 (wd_c wd_150 (wd_c wd_274 (wd_c wd_275 (wd_c wd_276 (wd_c wd_277 wd_n)))))))))))
set_option maxRecDepth 20000 in
theorem ggL_law_X11_learn : GoodIn wsL_law wsX11_learn := (wd_c wd_437 (goodIn_app (goodIn_app wd_x_X11_learn_r1 wd_x_X11_learn_r2) wd_kX110))
theorem gL_law_X11_learn : GoodIn wsL_law (wsV RL 56 RX11 yX11_learn wsX11_learn) := goodIn_app (wd_c wd_434 (wd_c wd_435 (wd_c wd_436 (wd_c wd_5 wd_n)))) ggL_law_X11_learn
set_option maxRecDepth 20000 in
theorem wd_x_X10_make_r1 : GoodIn wsL_law wsX10_make_r1 := (wd_c wd_16 (wd_c wd_300 (wd_c wd_301 (wd_c wd_446 (wd_c wd_173 (wd_c wd_447 (wd_c wd_39 (wd_c wd_448 (wd_c wd_449 (wd_c wd_450 (wd_c wd_2 (wd_c wd_451 (wd_c wd_178 (wd_c wd_179 (wd_c wd_180 (wd_c wd_452 (wd_c wd_453 (wd_c wd_454 (wd_c wd_55 (wd_c wd_455 (wd_c wd_456 (wd_c wd_457 (wd_c wd_458 (wd_c wd_459 wd_n))))))))))))))))))))))))
set_option maxRecDepth 20000 in
theorem wd_x_X10_make_r2 : GoodIn wsL_law wsX10_make_r2 := (wd_c wd_460 (wd_c wd_461 (wd_c wd_462 (wd_c wd_400 (wd_c wd_401 (wd_c wd_24 (wd_c wd_402 (wd_c wd_403 (wd_c wd_354 (wd_c wd_404 (wd_c wd_76 (wd_c wd_405 (wd_c wd_246 (wd_c wd_247 (wd_c wd_49 (wd_c wd_248 (wd_c wd_249 (wd_c wd_250 (wd_c wd_251 (wd_c wd_252 (wd_c wd_70 (wd_c wd_406 (wd_c wd_407 (wd_c wd_408 wd_n))))))))))))))))))))))))
set_option maxRecDepth 20000 in
theorem wd_x_X10_make_r3 : GoodIn wsL_law wsX10_make_r3 := (wd_c wd_409 (wd_c wd_77 (wd_c wd_78 (wd_c wd_80 (wd_c wd_79 (wd_c wd_410 (wd_c wd_411 (wd_c wd_412 (wd_c wd_413 (wd_c wd_463 (wd_c wd_464 (wd_c wd_465 (wd_c wd_466 (wd_c wd_84 (wd_c wd_85 (wd_c wd_86 (wd_c wd_467 (wd_c wd_266 (wd_c wd_267 (wd_c wd_268 (wd_c wd_269 (wd_c wd_468 (wd_c wd_469 (wd_c wd_470 wd_n))))))))))))))))))))))))
set_option maxRecDepth 20000 in
theorem wd_x_X10_make_r4 : GoodIn wsL_law wsX10_make_r4 := (wd_c wd_59 (wd_c wd_471 (wd_c wd_472 (wd_c wd_95 (wd_c wd_96 (wd_c wd_100 (wd_c wd_97 (wd_c wd_98 (wd_c wd_99 (wd_c wd_473 (wd_c wd_474 (wd_c wd_475 (wd_c wd_476 wd_n)))))))))))))
set_option maxRecDepth 20000 in
theorem ggL_law_X10_make : GoodIn wsL_law wsX10_make := (wd_c wd_445 (goodIn_app (goodIn_app (goodIn_app (goodIn_app (goodIn_app (goodIn_app (goodIn_app wd_x_X10_make_r1 (goodIn_app wd_x_X10_make_r2 (goodIn_app wd_x_X10_make_r3 wd_x_X10_make_r4))) wd_kX100) wd_kX80) wd_kX40) wd_kX00) wd_kX30) wd_kX20))
theorem gL_law_X10_make : GoodIn wsL_law (wsV RL 57 RX10 yX10_make wsX10_make) := goodIn_app (wd_c wd_442 (wd_c wd_443 (wd_c wd_444 (wd_c wd_2 wd_n)))) ggL_law_X10_make
set_option maxRecDepth 20000 in
theorem wd_x_X11_make_r1 : GoodIn wsL_law wsX11_make_r1 := (wd_c wd_150 (wd_c wd_481 (wd_c wd_482 (wd_c wd_5 (wd_c wd_483 (wd_c wd_192 (wd_c wd_193 (wd_c wd_194 (wd_c wd_484 (wd_c wd_485 (wd_c wd_486 (wd_c wd_487 (wd_c wd_488 (wd_c wd_489 (wd_c wd_490 (wd_c wd_491 (wd_c wd_492 (wd_c wd_493 (wd_c wd_494 (wd_c wd_495 (wd_c wd_496 (wd_c wd_497 (wd_c wd_498 (wd_c wd_499 wd_n))))))))))))))))))))))))
set_option maxRecDepth 20000 in
theorem wd_x_X11_make_r2 : GoodIn wsL_law wsX11_make_r2 := (wd_c wd_418 (wd_c wd_419 (wd_c wd_420 (wd_c wd_421 (wd_c wd_257 (wd_c wd_258 (wd_c wd_259 (wd_c wd_260 (wd_c wd_422 (wd_c wd_423 (wd_c wd_424 (wd_c wd_425 (wd_c wd_500 (wd_c wd_501 (wd_c wd_502 (wd_c wd_503 (wd_c wd_274 (wd_c wd_275 (wd_c wd_276 (wd_c wd_277 wd_n))))))))))))))))))))
set_option maxRecDepth 20000 in
theorem ggL_law_X11_make : GoodIn wsL_law wsX11_make := (wd_c wd_480 (goodIn_app (goodIn_app wd_x_X11_make_r1 wd_x_X11_make_r2) wd_kX110))
theorem gL_law_X11_make : GoodIn wsL_law (wsV RL 60 RX11 yX11_make wsX11_make) := goodIn_app (wd_c wd_477 (wd_c wd_478 (wd_c wd_479 (wd_c wd_5 wd_n)))) ggL_law_X11_make
set_option maxRecDepth 20000 in
theorem ggL_law_X10_truth : GoodIn wsL_law wsX10_truth := (wd_c wd_507 (goodIn_app (goodIn_app (goodIn_app (wd_c wd_16 (wd_c wd_446 (wd_c wd_508 (wd_c wd_509 (wd_c wd_510 (wd_c wd_511 (wd_c wd_512 (wd_c wd_2 (wd_c wd_513 (wd_c wd_448 (wd_c wd_449 (wd_c wd_450 (wd_c wd_451 (wd_c wd_178 (wd_c wd_179 (wd_c wd_180 (wd_c wd_514 (wd_c wd_515 (wd_c wd_516 (wd_c wd_55 (wd_c wd_517 (wd_c wd_84 wd_n)))))))))))))))))))))) wd_kX100) wd_kX80) wd_kX00))
theorem gL_law_X10_truth : GoodIn wsL_law (wsV RL 61 RX10 yX10_truth wsX10_truth) := goodIn_app (wd_c wd_504 (wd_c wd_505 (wd_c wd_506 (wd_c wd_2 wd_n)))) ggL_law_X10_truth
set_option maxRecDepth 20000 in
theorem ggL_law_X11_truth : GoodIn wsL_law wsX11_truth := (wd_c wd_521 (goodIn_app (wd_c wd_150 (wd_c wd_481 (wd_c wd_482 (wd_c wd_5 (wd_c wd_483 (wd_c wd_192 (wd_c wd_193 (wd_c wd_194 (wd_c wd_522 (wd_c wd_523 (wd_c wd_524 (wd_c wd_525 (wd_c wd_526 (wd_c wd_527 (wd_c wd_528 (wd_c wd_529 wd_n)))))))))))))))) wd_kX110))
theorem gL_law_X11_truth : GoodIn wsL_law (wsV RL 64 RX11 yX11_truth wsX11_truth) := goodIn_app (wd_c wd_518 (wd_c wd_519 (wd_c wd_520 (wd_c wd_5 wd_n)))) ggL_law_X11_truth
set_option maxRecDepth 20000 in
theorem ggL_law_X10_put : GoodIn wsL_law wsX10_put := (wd_c wd_533 (goodIn_app (goodIn_app (goodIn_app (wd_c wd_16 (wd_c wd_446 (wd_c wd_448 (wd_c wd_508 (wd_c wd_39 (wd_c wd_449 (wd_c wd_450 (wd_c wd_2 (wd_c wd_451 (wd_c wd_178 (wd_c wd_179 (wd_c wd_180 (wd_c wd_534 (wd_c wd_464 (wd_c wd_465 (wd_c wd_55 (wd_c wd_466 (wd_c wd_456 (wd_c wd_84 (wd_c wd_85 (wd_c wd_86 wd_n))))))))))))))))))))) wd_kX100) wd_kX80) wd_kX00))
theorem gL_law_X10_put : GoodIn wsL_law (wsV RL 65 RX10 yX10_put wsX10_put) := goodIn_app (wd_c wd_530 (wd_c wd_531 (wd_c wd_532 (wd_c wd_2 wd_n)))) ggL_law_X10_put
set_option maxRecDepth 20000 in
theorem ggL_law_X11_put : GoodIn wsL_law wsX11_put := (wd_c wd_538 (goodIn_app (wd_c wd_220 (wd_c wd_539 (wd_c wd_540 (wd_c wd_150 (wd_c wd_481 (wd_c wd_482 (wd_c wd_5 (wd_c wd_483 (wd_c wd_192 (wd_c wd_193 (wd_c wd_194 (wd_c wd_500 (wd_c wd_501 (wd_c wd_502 (wd_c wd_503 wd_n))))))))))))))) wd_kX110))
theorem gL_law_X11_put : GoodIn wsL_law (wsV RL 68 RX11 yX11_put wsX11_put) := goodIn_app (wd_c wd_535 (wd_c wd_536 (wd_c wd_537 (wd_c wd_5 wd_n)))) ggL_law_X11_put
set_option maxRecDepth 20000 in
theorem wd_x_X10_cut_r1 : GoodIn wsL_law wsX10_cut_r1 := (wd_c wd_16 (wd_c wd_446 (wd_c wd_447 (wd_c wd_39 (wd_c wd_510 (wd_c wd_511 (wd_c wd_512 (wd_c wd_2 (wd_c wd_513 (wd_c wd_448 (wd_c wd_449 (wd_c wd_450 (wd_c wd_451 (wd_c wd_178 (wd_c wd_179 (wd_c wd_180 (wd_c wd_545 (wd_c wd_546 (wd_c wd_547 (wd_c wd_55 (wd_c wd_548 (wd_c wd_457 (wd_c wd_456 (wd_c wd_458 wd_n))))))))))))))))))))))))
set_option maxRecDepth 20000 in
theorem wd_x_X10_cut_r2 : GoodIn wsL_law wsX10_cut_r2 := (wd_c wd_89 (wd_c wd_87 (wd_c wd_88 (wd_c wd_90 (wd_c wd_549 (wd_c wd_550 (wd_c wd_551 (wd_c wd_552 (wd_c wd_468 (wd_c wd_469 (wd_c wd_470 (wd_c wd_59 (wd_c wd_471 (wd_c wd_472 (wd_c wd_95 (wd_c wd_96 (wd_c wd_100 (wd_c wd_97 (wd_c wd_98 (wd_c wd_99 (wd_c wd_473 (wd_c wd_474 (wd_c wd_475 (wd_c wd_476 wd_n))))))))))))))))))))))))
set_option maxRecDepth 20000 in
theorem ggL_law_X10_cut : GoodIn wsL_law wsX10_cut := (wd_c wd_544 (goodIn_app (goodIn_app (goodIn_app (goodIn_app (goodIn_app wd_x_X10_cut_r1 wd_x_X10_cut_r2) wd_kX100) wd_kX80) wd_kX00) wd_kX20))
theorem gL_law_X10_cut : GoodIn wsL_law (wsV RL 69 RX10 yX10_cut wsX10_cut) := goodIn_app (wd_c wd_541 (wd_c wd_542 (wd_c wd_543 (wd_c wd_2 wd_n)))) ggL_law_X10_cut
set_option maxRecDepth 20000 in
theorem wd_x_X11_cut_r1 : GoodIn wsL_law wsX11_cut_r1 := (wd_c wd_150 (wd_c wd_481 (wd_c wd_482 (wd_c wd_5 (wd_c wd_483 (wd_c wd_192 (wd_c wd_193 (wd_c wd_194 (wd_c wd_522 (wd_c wd_523 (wd_c wd_524 (wd_c wd_525 (wd_c wd_484 (wd_c wd_485 (wd_c wd_486 (wd_c wd_487 (wd_c wd_488 (wd_c wd_489 (wd_c wd_490 (wd_c wd_491 (wd_c wd_492 (wd_c wd_493 (wd_c wd_494 (wd_c wd_495 wd_n))))))))))))))))))))))))
set_option maxRecDepth 20000 in
theorem wd_x_X11_cut_r2 : GoodIn wsL_law wsX11_cut_r2 := (wd_c wd_496 (wd_c wd_497 (wd_c wd_498 (wd_c wd_499 wd_n))))
set_option maxRecDepth 20000 in
theorem ggL_law_X11_cut : GoodIn wsL_law wsX11_cut := (wd_c wd_556 (goodIn_app (goodIn_app wd_x_X11_cut_r1 wd_x_X11_cut_r2) wd_kX110))
theorem gL_law_X11_cut : GoodIn wsL_law (wsV RL 72 RX11 yX11_cut wsX11_cut) := goodIn_app (wd_c wd_553 (wd_c wd_554 (wd_c wd_555 (wd_c wd_5 wd_n)))) ggL_law_X11_cut
set_option maxRecDepth 20000 in
theorem ggL_law_X10_thing : GoodIn wsL_law wsX10_thing := (wd_c wd_560 (goodIn_app (goodIn_app (goodIn_app (wd_c wd_16 (wd_c wd_446 (wd_c wd_561 (wd_c wd_562 (wd_c wd_510 (wd_c wd_511 (wd_c wd_512 (wd_c wd_2 (wd_c wd_513 (wd_c wd_448 (wd_c wd_449 (wd_c wd_450 (wd_c wd_451 (wd_c wd_178 (wd_c wd_179 (wd_c wd_180 wd_n)))))))))))))))) wd_kX100) wd_kX80) wd_kX00))
theorem gL_law_X10_thing : GoodIn wsL_law (wsV RL 73 RX10 yX10_thing wsX10_thing) := goodIn_app (wd_c wd_557 (wd_c wd_558 (wd_c wd_559 (wd_c wd_2 wd_n)))) ggL_law_X10_thing
set_option maxRecDepth 20000 in
theorem ggL_law_X11_thing : GoodIn wsL_law wsX11_thing := (wd_c wd_566 (goodIn_app (wd_c wd_481 (wd_c wd_482 (wd_c wd_5 (wd_c wd_483 (wd_c wd_192 (wd_c wd_193 (wd_c wd_194 (wd_c wd_522 (wd_c wd_523 (wd_c wd_524 (wd_c wd_525 (wd_c wd_150 (wd_c wd_526 (wd_c wd_527 (wd_c wd_528 (wd_c wd_529 (wd_c wd_567 (wd_c wd_568 (wd_c wd_569 (wd_c wd_570 wd_n)))))))))))))))))))) wd_kX110))
theorem gL_law_X11_thing : GoodIn wsL_law (wsV RL 76 RX11 yX11_thing wsX11_thing) := goodIn_app (wd_c wd_563 (wd_c wd_564 (wd_c wd_565 (wd_c wd_5 wd_n)))) ggL_law_X11_thing
set_option maxRecDepth 20000 in
theorem ggL_law_X10_most : GoodIn wsL_law wsX10_most := (wd_c wd_574 (goodIn_app (goodIn_app (goodIn_app (wd_c wd_16 (wd_c wd_446 (wd_c wd_575 (wd_c wd_39 (wd_c wd_449 (wd_c wd_450 (wd_c wd_2 (wd_c wd_451 (wd_c wd_178 (wd_c wd_179 (wd_c wd_180 wd_n))))))))))) wd_kX100) wd_kX80) wd_kX00))
theorem gL_law_X10_most : GoodIn wsL_law (wsV RL 77 RX10 yX10_most wsX10_most) := goodIn_app (wd_c wd_571 (wd_c wd_572 (wd_c wd_573 (wd_c wd_2 wd_n)))) ggL_law_X10_most
set_option maxRecDepth 20000 in
theorem ggL_law_X11_most : GoodIn wsL_law wsX11_most := (wd_c wd_579 (goodIn_app (wd_c wd_376 (wd_c wd_150 (wd_c wd_481 (wd_c wd_482 (wd_c wd_5 (wd_c wd_483 (wd_c wd_192 (wd_c wd_193 (wd_c wd_194 wd_n))))))))) wd_kX110))
theorem gL_law_X11_most : GoodIn wsL_law (wsV RL 80 RX11 yX11_most wsX11_most) := goodIn_app (wd_c wd_576 (wd_c wd_577 (wd_c wd_578 (wd_c wd_5 wd_n)))) ggL_law_X11_most
set_option maxRecDepth 20000 in
theorem wd_x_X10_stretch_r1 : GoodIn wsL_law wsX10_stretch_r1 := (wd_c wd_16 (wd_c wd_446 (wd_c wd_584 (wd_c wd_39 (wd_c wd_510 (wd_c wd_511 (wd_c wd_512 (wd_c wd_2 (wd_c wd_513 (wd_c wd_448 (wd_c wd_449 (wd_c wd_450 (wd_c wd_451 (wd_c wd_178 (wd_c wd_179 (wd_c wd_180 (wd_c wd_585 (wd_c wd_586 (wd_c wd_587 (wd_c wd_514 (wd_c wd_515 (wd_c wd_516 (wd_c wd_55 (wd_c wd_517 wd_n))))))))))))))))))))))))
set_option maxRecDepth 20000 in
theorem wd_x_X10_stretch_r2 : GoodIn wsL_law wsX10_stretch_r2 := (wd_c wd_84 (wd_c wd_588 (wd_c wd_550 (wd_c wd_551 (wd_c wd_552 (wd_c wd_87 (wd_c wd_457 (wd_c wd_88 (wd_c wd_89 (wd_c wd_90 wd_n))))))))))
set_option maxRecDepth 20000 in
theorem ggL_law_X10_stretch : GoodIn wsL_law wsX10_stretch := (wd_c wd_583 (goodIn_app (goodIn_app (goodIn_app (goodIn_app wd_x_X10_stretch_r1 wd_x_X10_stretch_r2) wd_kX100) wd_kX80) wd_kX00))
theorem gL_law_X10_stretch : GoodIn wsL_law (wsV RL 81 RX10 yX10_stretch wsX10_stretch) := goodIn_app (wd_c wd_580 (wd_c wd_581 (wd_c wd_582 (wd_c wd_2 wd_n)))) ggL_law_X10_stretch
set_option maxRecDepth 20000 in
theorem ggL_law_X11_stretch : GoodIn wsL_law wsX11_stretch := (wd_c wd_592 (goodIn_app (wd_c wd_220 (wd_c wd_376 (wd_c wd_200 (wd_c wd_150 (wd_c wd_481 (wd_c wd_482 (wd_c wd_5 (wd_c wd_483 (wd_c wd_192 (wd_c wd_193 (wd_c wd_194 (wd_c wd_522 (wd_c wd_523 (wd_c wd_524 (wd_c wd_525 (wd_c wd_526 (wd_c wd_527 (wd_c wd_528 (wd_c wd_529 (wd_c wd_488 (wd_c wd_489 (wd_c wd_490 (wd_c wd_491 wd_n))))))))))))))))))))))) wd_kX110))
theorem gL_law_X11_stretch : GoodIn wsL_law (wsV RL 84 RX11 yX11_stretch wsX11_stretch) := goodIn_app (wd_c wd_589 (wd_c wd_590 (wd_c wd_591 (wd_c wd_5 wd_n)))) ggL_law_X11_stretch
set_option maxRecDepth 20000 in
theorem wd_x_X10_date_r1 : GoodIn wsL_law wsX10_date_r1 := (wd_c wd_16 (wd_c wd_446 (wd_c wd_447 (wd_c wd_597 (wd_c wd_39 (wd_c wd_510 (wd_c wd_511 (wd_c wd_512 (wd_c wd_2 (wd_c wd_513 (wd_c wd_448 (wd_c wd_449 (wd_c wd_450 (wd_c wd_451 (wd_c wd_178 (wd_c wd_179 (wd_c wd_180 (wd_c wd_175 (wd_c wd_176 (wd_c wd_177 (wd_c wd_514 (wd_c wd_515 (wd_c wd_516 (wd_c wd_55 wd_n))))))))))))))))))))))))
set_option maxRecDepth 20000 in
theorem wd_x_X10_date_r2 : GoodIn wsL_law wsX10_date_r2 := (wd_c wd_517 (wd_c wd_84 (wd_c wd_598 (wd_c wd_474 (wd_c wd_475 (wd_c wd_59 (wd_c wd_476 (wd_c wd_95 (wd_c wd_472 (wd_c wd_96 (wd_c wd_97 (wd_c wd_98 (wd_c wd_99 (wd_c wd_100 wd_n))))))))))))))
set_option maxRecDepth 20000 in
theorem ggL_law_X10_date : GoodIn wsL_law wsX10_date := (wd_c wd_596 (goodIn_app (goodIn_app (goodIn_app (goodIn_app (goodIn_app wd_x_X10_date_r1 wd_x_X10_date_r2) wd_kX100) wd_kX80) wd_kX20) wd_kX00))
theorem gL_law_X10_date : GoodIn wsL_law (wsV RL 85 RX10 yX10_date wsX10_date) := goodIn_app (wd_c wd_593 (wd_c wd_594 (wd_c wd_595 (wd_c wd_2 wd_n)))) ggL_law_X10_date
set_option maxRecDepth 20000 in
theorem ggL_law_X11_date : GoodIn wsL_law wsX11_date := (wd_c wd_602 (goodIn_app (wd_c wd_150 (wd_c wd_481 (wd_c wd_482 (wd_c wd_5 (wd_c wd_483 (wd_c wd_192 (wd_c wd_193 (wd_c wd_194 (wd_c wd_522 (wd_c wd_523 (wd_c wd_524 (wd_c wd_525 (wd_c wd_188 (wd_c wd_189 (wd_c wd_190 (wd_c wd_191 (wd_c wd_526 (wd_c wd_527 (wd_c wd_528 (wd_c wd_529 (wd_c wd_496 (wd_c wd_497 (wd_c wd_498 (wd_c wd_499 wd_n)))))))))))))))))))))))) wd_kX110))
theorem gL_law_X11_date : GoodIn wsL_law (wsV RL 88 RX11 yX11_date wsX11_date) := goodIn_app (wd_c wd_599 (wd_c wd_600 (wd_c wd_601 (wd_c wd_5 wd_n)))) ggL_law_X11_date
set_option maxRecDepth 20000 in
theorem ggL_law_X10_throwOut : GoodIn wsL_law wsX10_throwOut := (wd_c wd_606 (goodIn_app (goodIn_app (goodIn_app (wd_c wd_16 (wd_c wd_447 (wd_c wd_597 (wd_c wd_607 (wd_c wd_39 (wd_c wd_608 (wd_c wd_178 (wd_c wd_179 (wd_c wd_2 (wd_c wd_180 wd_n)))))))))) wd_kX100) wd_kX80) wd_kX20))
theorem gL_law_X10_throwOut : GoodIn wsL_law (wsV RL 89 RX10 yX10_throwOut wsX10_throwOut) := goodIn_app (wd_c wd_603 (wd_c wd_604 (wd_c wd_605 (wd_c wd_2 wd_n)))) ggL_law_X10_throwOut
set_option maxRecDepth 20000 in
theorem ggL_law_X11_throwOut : GoodIn wsL_law wsX11_throwOut := (wd_c wd_612 (goodIn_app (wd_c wd_150 (wd_c wd_198 (wd_c wd_192 (wd_c wd_193 (wd_c wd_5 (wd_c wd_194 (wd_c wd_496 (wd_c wd_497 (wd_c wd_498 (wd_c wd_499 wd_n)))))))))) wd_kX110))
theorem gL_law_X11_throwOut : GoodIn wsL_law (wsV RL 92 RX11 yX11_throwOut wsX11_throwOut) := goodIn_app (wd_c wd_609 (wd_c wd_610 (wd_c wd_611 (wd_c wd_5 wd_n)))) ggL_law_X11_throwOut
set_option maxRecDepth 20000 in
theorem wd_x_X10_count_r1 : GoodIn wsL_law wsX10_count_r1 := (wd_c wd_16 (wd_c wd_447 (wd_c wd_597 (wd_c wd_617 (wd_c wd_618 (wd_c wd_446 (wd_c wd_448 (wd_c wd_619 (wd_c wd_620 (wd_c wd_621 (wd_c wd_59 (wd_c wd_622 (wd_c wd_472 (wd_c wd_100 (wd_c wd_623 (wd_c wd_624 (wd_c wd_625 (wd_c wd_55 (wd_c wd_626 (wd_c wd_456 (wd_c wd_627 (wd_c wd_515 (wd_c wd_516 (wd_c wd_517 wd_n))))))))))))))))))))))))
set_option maxRecDepth 20000 in
theorem wd_x_X10_count_r2 : GoodIn wsL_law wsX10_count_r2 := (wd_c wd_84 wd_n)
set_option maxRecDepth 20000 in
theorem ggL_law_X10_count : GoodIn wsL_law wsX10_count := (wd_c wd_616 (goodIn_app (goodIn_app (goodIn_app (goodIn_app (goodIn_app wd_x_X10_count_r1 wd_x_X10_count_r2) wd_kX100) wd_kX80) wd_kX20) wd_kX00))
theorem gL_law_X10_count : GoodIn wsL_law (wsV RL 93 RX10 yX10_count wsX10_count) := goodIn_app (wd_c wd_613 (wd_c wd_614 (wd_c wd_615 (wd_c wd_2 wd_n)))) ggL_law_X10_count
set_option maxRecDepth 20000 in
theorem ggL_law_X11_count : GoodIn wsL_law wsX11_count := (wd_c wd_631 (goodIn_app (wd_c wd_150 (wd_c wd_496 (wd_c wd_497 (wd_c wd_498 (wd_c wd_5 (wd_c wd_499 (wd_c wd_632 (wd_c wd_633 (wd_c wd_634 (wd_c wd_635 (wd_c wd_526 (wd_c wd_527 (wd_c wd_528 (wd_c wd_529 wd_n)))))))))))))) wd_kX110))
theorem gL_law_X11_count : GoodIn wsL_law (wsV RL 96 RX11 yX11_count wsX11_count) := goodIn_app (wd_c wd_628 (wd_c wd_629 (wd_c wd_630 (wd_c wd_5 wd_n)))) ggL_law_X11_count
set_option maxRecDepth 20000 in
theorem wd_x_X10_ways_r1 : GoodIn wsL_law wsX10_ways_r1 := (wd_c wd_640 (wd_c wd_16 (wd_c wd_446 (wd_c wd_641 (wd_c wd_642 (wd_c wd_449 (wd_c wd_450 (wd_c wd_2 (wd_c wd_451 (wd_c wd_178 (wd_c wd_179 (wd_c wd_180 (wd_c wd_623 (wd_c wd_624 (wd_c wd_625 (wd_c wd_55 (wd_c wd_626 (wd_c wd_456 (wd_c wd_627 (wd_c wd_515 (wd_c wd_516 (wd_c wd_517 (wd_c wd_84 (wd_c wd_643 wd_n))))))))))))))))))))))))
set_option maxRecDepth 20000 in
theorem wd_x_X10_ways_r2 : GoodIn wsL_law wsX10_ways_r2 := (wd_c wd_644 (wd_c wd_645 (wd_c wd_646 (wd_c wd_39 (wd_c wd_447 (wd_c wd_37 (wd_c wd_647 (wd_c wd_648 (wd_c wd_649 (wd_c wd_59 (wd_c wd_650 (wd_c wd_472 (wd_c wd_95 (wd_c wd_100 (wd_c wd_651 (wd_c wd_652 (wd_c wd_653 (wd_c wd_654 (wd_c wd_655 (wd_c wd_656 (wd_c wd_657 (wd_c wd_36 (wd_c wd_658 (wd_c wd_659 wd_n))))))))))))))))))))))))
set_option maxRecDepth 20000 in
theorem wd_x_X10_ways_r3 : GoodIn wsL_law wsX10_ways_r3 := (wd_c wd_660 (wd_c wd_661 (wd_c wd_662 (wd_c wd_663 (wd_c wd_664 (wd_c wd_665 (wd_c wd_666 (wd_c wd_667 (wd_c wd_668 (wd_c wd_122 (wd_c wd_121 (wd_c wd_123 (wd_c wd_124 (wd_c wd_125 (wd_c wd_126 (wd_c wd_127 (wd_c wd_669 (wd_c wd_670 (wd_c wd_671 (wd_c wd_672 (wd_c wd_673 (wd_c wd_674 (wd_c wd_675 (wd_c wd_676 wd_n))))))))))))))))))))))))
set_option maxRecDepth 20000 in
theorem wd_x_X10_ways_r4 : GoodIn wsL_law wsX10_ways_r4 := (wd_c wd_677 (wd_c wd_678 (wd_c wd_250 (wd_c wd_251 (wd_c wd_252 (wd_c wd_679 (wd_c wd_680 (wd_c wd_681 (wd_c wd_682 (wd_c wd_683 (wd_c wd_684 (wd_c wd_685 (wd_c wd_686 (wd_c wd_687 (wd_c wd_344 (wd_c wd_345 (wd_c wd_688 (wd_c wd_689 (wd_c wd_690 (wd_c wd_691 (wd_c wd_692 (wd_c wd_130 (wd_c wd_133 (wd_c wd_693 wd_n))))))))))))))))))))))))
set_option maxRecDepth 20000 in
theorem wd_x_X10_ways_r5 : GoodIn wsL_law wsX10_ways_r5 := (wd_c wd_694 (wd_c wd_695 (wd_c wd_696 (wd_c wd_697 (wd_c wd_698 (wd_c wd_699 (wd_c wd_700 (wd_c wd_701 (wd_c wd_702 (wd_c wd_703 (wd_c wd_704 (wd_c wd_705 (wd_c wd_706 (wd_c wd_707 (wd_c wd_708 (wd_c wd_709 (wd_c wd_710 (wd_c wd_711 (wd_c wd_712 (wd_c wd_713 (wd_c wd_714 (wd_c wd_715 (wd_c wd_131 (wd_c wd_716 wd_n))))))))))))))))))))))))
set_option maxRecDepth 20000 in
theorem wd_x_X10_ways_r6 : GoodIn wsL_law wsX10_ways_r6 := (wd_c wd_717 (wd_c wd_718 (wd_c wd_719 (wd_c wd_720 (wd_c wd_721 (wd_c wd_722 (wd_c wd_723 wd_n)))))))
set_option maxRecDepth 20000 in
theorem ggL_law_X10_ways : GoodIn wsL_law wsX10_ways := (wd_c wd_639 (goodIn_app (goodIn_app (goodIn_app (goodIn_app (goodIn_app (goodIn_app wd_x_X10_ways_r1 (goodIn_app wd_x_X10_ways_r2 (goodIn_app wd_x_X10_ways_r3 (goodIn_app wd_x_X10_ways_r4 (goodIn_app wd_x_X10_ways_r5 wd_x_X10_ways_r6))))) wd_kX100) wd_kX80) wd_kX90) wd_kX00) wd_kX20))
theorem gL_law_X10_ways : GoodIn wsL_law (wsV RL 97 RX10 yX10_ways wsX10_ways) := goodIn_app (wd_c wd_636 (wd_c wd_637 (wd_c wd_638 (wd_c wd_2 wd_n)))) ggL_law_X10_ways
set_option maxRecDepth 20000 in
theorem wd_x_X11_ways_r1 : GoodIn wsL_law wsX11_ways_r1 := (wd_c wd_728 (wd_c wd_729 (wd_c wd_730 (wd_c wd_481 (wd_c wd_482 (wd_c wd_5 (wd_c wd_483 (wd_c wd_192 (wd_c wd_193 (wd_c wd_194 (wd_c wd_632 (wd_c wd_633 (wd_c wd_634 (wd_c wd_635 (wd_c wd_150 (wd_c wd_526 (wd_c wd_527 (wd_c wd_528 (wd_c wd_529 (wd_c wd_731 (wd_c wd_732 (wd_c wd_733 (wd_c wd_734 (wd_c wd_735 wd_n))))))))))))))))))))))))
set_option maxRecDepth 20000 in
theorem wd_x_X11_ways_r2 : GoodIn wsL_law wsX11_ways_r2 := (wd_c wd_736 (wd_c wd_737 (wd_c wd_738 (wd_c wd_496 (wd_c wd_497 (wd_c wd_498 (wd_c wd_499 (wd_c wd_739 (wd_c wd_740 (wd_c wd_741 (wd_c wd_742 (wd_c wd_743 (wd_c wd_744 (wd_c wd_745 (wd_c wd_746 (wd_c wd_747 (wd_c wd_748 (wd_c wd_153 (wd_c wd_154 (wd_c wd_749 (wd_c wd_155 (wd_c wd_156 (wd_c wd_157 (wd_c wd_488 wd_n))))))))))))))))))))))))
set_option maxRecDepth 20000 in
theorem wd_x_X11_ways_r3 : GoodIn wsL_law wsX11_ways_r3 := (wd_c wd_489 (wd_c wd_490 (wd_c wd_491 (wd_c wd_750 (wd_c wd_751 (wd_c wd_752 (wd_c wd_753 (wd_c wd_754 (wd_c wd_755 (wd_c wd_756 (wd_c wd_757 (wd_c wd_758 (wd_c wd_759 (wd_c wd_760 (wd_c wd_761 (wd_c wd_762 (wd_c wd_763 (wd_c wd_764 (wd_c wd_765 (wd_c wd_158 (wd_c wd_766 (wd_c wd_767 (wd_c wd_768 (wd_c wd_769 wd_n))))))))))))))))))))))))
set_option maxRecDepth 20000 in
theorem wd_x_X11_ways_r4 : GoodIn wsL_law wsX11_ways_r4 := (wd_c wd_770 (wd_c wd_771 (wd_c wd_772 (wd_c wd_773 (wd_c wd_774 (wd_c wd_775 (wd_c wd_776 (wd_c wd_159 wd_n))))))))
set_option maxRecDepth 20000 in
theorem ggL_law_X11_ways : GoodIn wsL_law wsX11_ways := (wd_c wd_727 (goodIn_app (goodIn_app wd_x_X11_ways_r1 (goodIn_app wd_x_X11_ways_r2 (goodIn_app wd_x_X11_ways_r3 wd_x_X11_ways_r4))) wd_kX110))
theorem gL_law_X11_ways : GoodIn wsL_law (wsV RL 101 RX11 yX11_ways wsX11_ways) := goodIn_app (wd_c wd_724 (wd_c wd_725 (wd_c wd_726 (wd_c wd_5 wd_n)))) ggL_law_X11_ways
set_option maxRecDepth 20000 in
theorem wd_x_X10_ends_r1 : GoodIn wsL_law wsX10_ends_r1 := (wd_c wd_16 (wd_c wd_446 (wd_c wd_642 (wd_c wd_781 (wd_c wd_510 (wd_c wd_511 (wd_c wd_512 (wd_c wd_2 (wd_c wd_513 (wd_c wd_448 (wd_c wd_449 (wd_c wd_450 (wd_c wd_451 (wd_c wd_178 (wd_c wd_179 (wd_c wd_180 (wd_c wd_514 (wd_c wd_515 (wd_c wd_516 (wd_c wd_55 (wd_c wd_517 (wd_c wd_84 (wd_c wd_643 (wd_c wd_644 wd_n))))))))))))))))))))))))
set_option maxRecDepth 20000 in
theorem wd_x_X10_ends_r2 : GoodIn wsL_law wsX10_ends_r2 := (wd_c wd_645 (wd_c wd_646 (wd_c wd_39 (wd_c wd_447 (wd_c wd_37 (wd_c wd_647 (wd_c wd_648 (wd_c wd_649 (wd_c wd_59 (wd_c wd_650 (wd_c wd_472 (wd_c wd_95 (wd_c wd_100 (wd_c wd_651 (wd_c wd_652 (wd_c wd_653 (wd_c wd_654 (wd_c wd_655 (wd_c wd_656 (wd_c wd_657 (wd_c wd_36 (wd_c wd_658 (wd_c wd_659 (wd_c wd_660 wd_n))))))))))))))))))))))))
set_option maxRecDepth 20000 in
theorem wd_x_X10_ends_r3 : GoodIn wsL_law wsX10_ends_r3 := (wd_c wd_661 (wd_c wd_662 (wd_c wd_663 (wd_c wd_664 (wd_c wd_665 (wd_c wd_666 (wd_c wd_667 (wd_c wd_668 (wd_c wd_122 (wd_c wd_121 (wd_c wd_123 (wd_c wd_124 (wd_c wd_125 (wd_c wd_126 (wd_c wd_127 (wd_c wd_669 (wd_c wd_670 (wd_c wd_671 (wd_c wd_672 (wd_c wd_673 (wd_c wd_674 (wd_c wd_675 (wd_c wd_676 (wd_c wd_677 wd_n))))))))))))))))))))))))
set_option maxRecDepth 20000 in
theorem wd_x_X10_ends_r4 : GoodIn wsL_law wsX10_ends_r4 := (wd_c wd_678 (wd_c wd_250 (wd_c wd_251 (wd_c wd_252 (wd_c wd_679 (wd_c wd_680 (wd_c wd_681 (wd_c wd_682 (wd_c wd_683 (wd_c wd_684 (wd_c wd_685 (wd_c wd_686 (wd_c wd_687 (wd_c wd_344 (wd_c wd_345 (wd_c wd_688 (wd_c wd_689 (wd_c wd_690 (wd_c wd_691 (wd_c wd_692 (wd_c wd_130 (wd_c wd_133 (wd_c wd_693 (wd_c wd_694 wd_n))))))))))))))))))))))))
set_option maxRecDepth 20000 in
theorem wd_x_X10_ends_r5 : GoodIn wsL_law wsX10_ends_r5 := (wd_c wd_695 (wd_c wd_696 (wd_c wd_697 (wd_c wd_698 (wd_c wd_699 (wd_c wd_700 (wd_c wd_701 (wd_c wd_702 (wd_c wd_703 (wd_c wd_704 (wd_c wd_705 (wd_c wd_706 (wd_c wd_707 (wd_c wd_708 (wd_c wd_709 (wd_c wd_710 (wd_c wd_711 (wd_c wd_712 (wd_c wd_713 (wd_c wd_714 (wd_c wd_715 (wd_c wd_131 (wd_c wd_716 (wd_c wd_717 wd_n))))))))))))))))))))))))
set_option maxRecDepth 20000 in
theorem wd_x_X10_ends_r6 : GoodIn wsL_law wsX10_ends_r6 := (wd_c wd_718 (wd_c wd_719 (wd_c wd_720 (wd_c wd_721 (wd_c wd_722 (wd_c wd_723 (wd_c wd_782 (wd_c wd_783 (wd_c wd_784 (wd_c wd_785 (wd_c wd_786 (wd_c wd_787 (wd_c wd_788 (wd_c wd_789 (wd_c wd_790 (wd_c wd_791 (wd_c wd_792 (wd_c wd_793 wd_n))))))))))))))))))
set_option maxRecDepth 20000 in
theorem ggL_law_X10_ends : GoodIn wsL_law wsX10_ends := (wd_c wd_780 (goodIn_app (goodIn_app (goodIn_app (goodIn_app (goodIn_app (goodIn_app wd_x_X10_ends_r1 (goodIn_app wd_x_X10_ends_r2 (goodIn_app wd_x_X10_ends_r3 (goodIn_app wd_x_X10_ends_r4 (goodIn_app wd_x_X10_ends_r5 wd_x_X10_ends_r6))))) wd_kX100) wd_kX80) wd_kX90) wd_kX00) wd_kX20))
theorem gL_law_X10_ends : GoodIn wsL_law (wsV RL 102 RX10 yX10_ends wsX10_ends) := goodIn_app (wd_c wd_777 (wd_c wd_778 (wd_c wd_779 (wd_c wd_2 wd_n)))) ggL_law_X10_ends
set_option maxRecDepth 20000 in
theorem wd_x_X11_ends_r1 : GoodIn wsL_law wsX11_ends_r1 := (wd_c wd_192 (wd_c wd_193 (wd_c wd_5 (wd_c wd_194 (wd_c wd_798 (wd_c wd_799 (wd_c wd_800 (wd_c wd_801 (wd_c wd_730 (wd_c wd_481 (wd_c wd_482 (wd_c wd_483 (wd_c wd_522 (wd_c wd_523 (wd_c wd_524 (wd_c wd_525 (wd_c wd_150 (wd_c wd_526 (wd_c wd_527 (wd_c wd_528 (wd_c wd_529 (wd_c wd_731 (wd_c wd_732 (wd_c wd_733 wd_n))))))))))))))))))))))))
set_option maxRecDepth 20000 in
theorem wd_x_X11_ends_r2 : GoodIn wsL_law wsX11_ends_r2 := (wd_c wd_734 (wd_c wd_735 (wd_c wd_736 (wd_c wd_737 (wd_c wd_738 (wd_c wd_496 (wd_c wd_497 (wd_c wd_498 (wd_c wd_499 (wd_c wd_739 (wd_c wd_740 (wd_c wd_741 (wd_c wd_742 (wd_c wd_743 (wd_c wd_744 (wd_c wd_745 (wd_c wd_746 (wd_c wd_747 (wd_c wd_748 (wd_c wd_153 (wd_c wd_154 (wd_c wd_749 (wd_c wd_155 (wd_c wd_156 wd_n))))))))))))))))))))))))
set_option maxRecDepth 20000 in
theorem wd_x_X11_ends_r3 : GoodIn wsL_law wsX11_ends_r3 := (wd_c wd_157 (wd_c wd_488 (wd_c wd_489 (wd_c wd_490 (wd_c wd_491 (wd_c wd_750 (wd_c wd_751 (wd_c wd_752 (wd_c wd_753 (wd_c wd_754 (wd_c wd_755 (wd_c wd_756 (wd_c wd_757 (wd_c wd_758 (wd_c wd_759 (wd_c wd_760 (wd_c wd_761 (wd_c wd_762 (wd_c wd_763 (wd_c wd_764 (wd_c wd_765 (wd_c wd_158 (wd_c wd_766 (wd_c wd_767 wd_n))))))))))))))))))))))))
set_option maxRecDepth 20000 in
theorem wd_x_X11_ends_r4 : GoodIn wsL_law wsX11_ends_r4 := (wd_c wd_768 (wd_c wd_769 (wd_c wd_770 (wd_c wd_771 (wd_c wd_772 (wd_c wd_773 (wd_c wd_774 (wd_c wd_775 (wd_c wd_776 (wd_c wd_159 (wd_c wd_802 (wd_c wd_803 (wd_c wd_804 (wd_c wd_805 (wd_c wd_806 (wd_c wd_807 (wd_c wd_808 (wd_c wd_809 wd_n))))))))))))))))))
set_option maxRecDepth 20000 in
theorem ggL_law_X11_ends : GoodIn wsL_law wsX11_ends := (wd_c wd_797 (goodIn_app (goodIn_app wd_x_X11_ends_r1 (goodIn_app wd_x_X11_ends_r2 (goodIn_app wd_x_X11_ends_r3 wd_x_X11_ends_r4))) wd_kX110))
theorem gL_law_X11_ends : GoodIn wsL_law (wsV RL 105 RX11 yX11_ends wsX11_ends) := goodIn_app (wd_c wd_794 (wd_c wd_795 (wd_c wd_796 (wd_c wd_5 wd_n)))) ggL_law_X11_ends
set_option maxRecDepth 20000 in
theorem wd_x_X10_odds_r1 : GoodIn wsL_law wsX10_odds_r1 := (wd_c wd_640 (wd_c wd_16 (wd_c wd_446 (wd_c wd_814 (wd_c wd_781 (wd_c wd_642 (wd_c wd_510 (wd_c wd_511 (wd_c wd_512 (wd_c wd_2 (wd_c wd_513 (wd_c wd_448 (wd_c wd_449 (wd_c wd_450 (wd_c wd_451 (wd_c wd_178 (wd_c wd_179 (wd_c wd_180 (wd_c wd_175 (wd_c wd_176 (wd_c wd_177 (wd_c wd_514 (wd_c wd_515 (wd_c wd_516 wd_n))))))))))))))))))))))))
set_option maxRecDepth 20000 in
theorem wd_x_X10_odds_r2 : GoodIn wsL_law wsX10_odds_r2 := (wd_c wd_55 (wd_c wd_517 (wd_c wd_84 (wd_c wd_643 (wd_c wd_644 (wd_c wd_645 (wd_c wd_646 (wd_c wd_39 (wd_c wd_447 (wd_c wd_37 (wd_c wd_647 (wd_c wd_648 (wd_c wd_649 (wd_c wd_59 (wd_c wd_650 (wd_c wd_472 (wd_c wd_95 (wd_c wd_100 (wd_c wd_651 (wd_c wd_652 (wd_c wd_653 (wd_c wd_654 (wd_c wd_655 (wd_c wd_656 wd_n))))))))))))))))))))))))
set_option maxRecDepth 20000 in
theorem wd_x_X10_odds_r3 : GoodIn wsL_law wsX10_odds_r3 := (wd_c wd_657 (wd_c wd_36 (wd_c wd_658 (wd_c wd_659 (wd_c wd_660 (wd_c wd_661 (wd_c wd_662 (wd_c wd_663 (wd_c wd_664 (wd_c wd_665 (wd_c wd_666 (wd_c wd_667 (wd_c wd_668 (wd_c wd_122 (wd_c wd_121 (wd_c wd_123 (wd_c wd_124 (wd_c wd_125 (wd_c wd_126 (wd_c wd_127 (wd_c wd_669 (wd_c wd_670 (wd_c wd_671 (wd_c wd_672 wd_n))))))))))))))))))))))))
set_option maxRecDepth 20000 in
theorem wd_x_X10_odds_r4 : GoodIn wsL_law wsX10_odds_r4 := (wd_c wd_673 (wd_c wd_674 (wd_c wd_675 (wd_c wd_676 (wd_c wd_677 (wd_c wd_678 (wd_c wd_250 (wd_c wd_251 (wd_c wd_252 (wd_c wd_679 (wd_c wd_680 (wd_c wd_681 (wd_c wd_682 (wd_c wd_683 (wd_c wd_684 (wd_c wd_685 (wd_c wd_686 (wd_c wd_687 (wd_c wd_344 (wd_c wd_345 (wd_c wd_688 (wd_c wd_689 (wd_c wd_690 (wd_c wd_691 wd_n))))))))))))))))))))))))
set_option maxRecDepth 20000 in
theorem wd_x_X10_odds_r5 : GoodIn wsL_law wsX10_odds_r5 := (wd_c wd_692 (wd_c wd_130 (wd_c wd_133 (wd_c wd_693 (wd_c wd_694 (wd_c wd_695 (wd_c wd_696 (wd_c wd_697 (wd_c wd_698 (wd_c wd_699 (wd_c wd_700 (wd_c wd_701 (wd_c wd_702 (wd_c wd_703 (wd_c wd_704 (wd_c wd_705 (wd_c wd_706 (wd_c wd_707 (wd_c wd_708 (wd_c wd_709 (wd_c wd_710 (wd_c wd_711 (wd_c wd_712 (wd_c wd_713 wd_n))))))))))))))))))))))))
set_option maxRecDepth 20000 in
theorem wd_x_X10_odds_r6 : GoodIn wsL_law wsX10_odds_r6 := (wd_c wd_714 (wd_c wd_715 (wd_c wd_131 (wd_c wd_716 (wd_c wd_717 (wd_c wd_718 (wd_c wd_719 (wd_c wd_720 (wd_c wd_721 (wd_c wd_722 (wd_c wd_723 (wd_c wd_815 (wd_c wd_787 (wd_c wd_788 (wd_c wd_789 (wd_c wd_790 (wd_c wd_791 (wd_c wd_792 (wd_c wd_793 (wd_c wd_816 (wd_c wd_817 (wd_c wd_818 (wd_c wd_819 (wd_c wd_820 wd_n))))))))))))))))))))))))
set_option maxRecDepth 20000 in
theorem wd_x_X10_odds_r7 : GoodIn wsL_law wsX10_odds_r7 := (wd_c wd_821 (wd_c wd_822 (wd_c wd_823 (wd_c wd_824 (wd_c wd_825 wd_n)))))
set_option maxRecDepth 20000 in
theorem ggL_law_X10_odds : GoodIn wsL_law wsX10_odds := (wd_c wd_813 (goodIn_app (goodIn_app (goodIn_app (goodIn_app (goodIn_app (goodIn_app wd_x_X10_odds_r1 (goodIn_app wd_x_X10_odds_r2 (goodIn_app wd_x_X10_odds_r3 (goodIn_app wd_x_X10_odds_r4 (goodIn_app wd_x_X10_odds_r5 (goodIn_app wd_x_X10_odds_r6 wd_x_X10_odds_r7)))))) wd_kX100) wd_kX80) wd_kX90) wd_kX00) wd_kX20))
theorem gL_law_X10_odds : GoodIn wsL_law (wsV RL 106 RX10 yX10_odds wsX10_odds) := goodIn_app (wd_c wd_810 (wd_c wd_811 (wd_c wd_812 (wd_c wd_2 wd_n)))) ggL_law_X10_odds
set_option maxRecDepth 20000 in
theorem wd_x_X11_odds_r1 : GoodIn wsL_law wsX11_odds_r1 := (wd_c wd_728 (wd_c wd_730 (wd_c wd_188 (wd_c wd_189 (wd_c wd_5 (wd_c wd_190 (wd_c wd_191 (wd_c wd_192 (wd_c wd_193 (wd_c wd_194 (wd_c wd_798 (wd_c wd_799 (wd_c wd_800 (wd_c wd_801 (wd_c wd_481 (wd_c wd_482 (wd_c wd_483 (wd_c wd_522 (wd_c wd_523 (wd_c wd_524 (wd_c wd_525 (wd_c wd_150 (wd_c wd_526 (wd_c wd_527 wd_n))))))))))))))))))))))))
set_option maxRecDepth 20000 in
theorem wd_x_X11_odds_r2 : GoodIn wsL_law wsX11_odds_r2 := (wd_c wd_528 (wd_c wd_529 (wd_c wd_731 (wd_c wd_732 (wd_c wd_733 (wd_c wd_734 (wd_c wd_735 (wd_c wd_736 (wd_c wd_737 (wd_c wd_738 (wd_c wd_496 (wd_c wd_497 (wd_c wd_498 (wd_c wd_499 (wd_c wd_739 (wd_c wd_740 (wd_c wd_741 (wd_c wd_742 (wd_c wd_743 (wd_c wd_744 (wd_c wd_745 (wd_c wd_746 (wd_c wd_747 (wd_c wd_748 wd_n))))))))))))))))))))))))
set_option maxRecDepth 20000 in
theorem wd_x_X11_odds_r3 : GoodIn wsL_law wsX11_odds_r3 := (wd_c wd_153 (wd_c wd_154 (wd_c wd_749 (wd_c wd_155 (wd_c wd_156 (wd_c wd_157 (wd_c wd_488 (wd_c wd_489 (wd_c wd_490 (wd_c wd_491 (wd_c wd_750 (wd_c wd_751 (wd_c wd_752 (wd_c wd_753 (wd_c wd_754 (wd_c wd_755 (wd_c wd_756 (wd_c wd_757 (wd_c wd_758 (wd_c wd_759 (wd_c wd_760 (wd_c wd_761 (wd_c wd_762 (wd_c wd_763 wd_n))))))))))))))))))))))))
set_option maxRecDepth 20000 in
theorem wd_x_X11_odds_r4 : GoodIn wsL_law wsX11_odds_r4 := (wd_c wd_764 (wd_c wd_765 (wd_c wd_158 (wd_c wd_766 (wd_c wd_767 (wd_c wd_768 (wd_c wd_769 (wd_c wd_770 (wd_c wd_771 (wd_c wd_772 (wd_c wd_773 (wd_c wd_774 (wd_c wd_775 (wd_c wd_776 (wd_c wd_159 (wd_c wd_806 (wd_c wd_807 (wd_c wd_808 (wd_c wd_809 (wd_c wd_830 (wd_c wd_831 (wd_c wd_832 (wd_c wd_833 (wd_c wd_834 wd_n))))))))))))))))))))))))
set_option maxRecDepth 20000 in
theorem wd_x_X11_odds_r5 : GoodIn wsL_law wsX11_odds_r5 := (wd_c wd_835 wd_n)
set_option maxRecDepth 20000 in
theorem ggL_law_X11_odds : GoodIn wsL_law wsX11_odds := (wd_c wd_829 (goodIn_app (goodIn_app wd_x_X11_odds_r1 (goodIn_app wd_x_X11_odds_r2 (goodIn_app wd_x_X11_odds_r3 (goodIn_app wd_x_X11_odds_r4 wd_x_X11_odds_r5)))) wd_kX110))
theorem gL_law_X11_odds : GoodIn wsL_law (wsV RL 110 RX11 yX11_odds wsX11_odds) := goodIn_app (wd_c wd_826 (wd_c wd_827 (wd_c wd_828 (wd_c wd_5 wd_n)))) ggL_law_X11_odds
set_option maxRecDepth 20000 in
theorem wd_x_X10_span_r1 : GoodIn wsL_law wsX10_span_r1 := (wd_c wd_16 (wd_c wd_446 (wd_c wd_781 (wd_c wd_642 (wd_c wd_840 (wd_c wd_841 (wd_c wd_842 (wd_c wd_2 (wd_c wd_843 (wd_c wd_510 (wd_c wd_511 (wd_c wd_512 (wd_c wd_513 (wd_c wd_448 (wd_c wd_449 (wd_c wd_450 (wd_c wd_451 (wd_c wd_178 (wd_c wd_179 (wd_c wd_180 (wd_c wd_514 (wd_c wd_515 (wd_c wd_516 (wd_c wd_55 wd_n))))))))))))))))))))))))
set_option maxRecDepth 20000 in
theorem wd_x_X10_span_r2 : GoodIn wsL_law wsX10_span_r2 := (wd_c wd_517 (wd_c wd_84 (wd_c wd_643 (wd_c wd_644 (wd_c wd_645 (wd_c wd_646 (wd_c wd_39 (wd_c wd_447 (wd_c wd_37 (wd_c wd_647 (wd_c wd_648 (wd_c wd_649 (wd_c wd_59 (wd_c wd_650 (wd_c wd_472 (wd_c wd_95 (wd_c wd_100 (wd_c wd_651 (wd_c wd_652 (wd_c wd_653 (wd_c wd_654 (wd_c wd_655 (wd_c wd_656 (wd_c wd_657 wd_n))))))))))))))))))))))))
set_option maxRecDepth 20000 in
theorem wd_x_X10_span_r3 : GoodIn wsL_law wsX10_span_r3 := (wd_c wd_36 (wd_c wd_658 (wd_c wd_659 (wd_c wd_660 (wd_c wd_661 (wd_c wd_662 (wd_c wd_663 (wd_c wd_664 (wd_c wd_665 (wd_c wd_666 (wd_c wd_667 (wd_c wd_668 (wd_c wd_122 (wd_c wd_121 (wd_c wd_123 (wd_c wd_124 (wd_c wd_125 (wd_c wd_126 (wd_c wd_127 (wd_c wd_669 (wd_c wd_670 (wd_c wd_671 (wd_c wd_672 (wd_c wd_673 wd_n))))))))))))))))))))))))
set_option maxRecDepth 20000 in
theorem wd_x_X10_span_r4 : GoodIn wsL_law wsX10_span_r4 := (wd_c wd_674 (wd_c wd_675 (wd_c wd_676 (wd_c wd_677 (wd_c wd_678 (wd_c wd_250 (wd_c wd_251 (wd_c wd_252 (wd_c wd_679 (wd_c wd_680 (wd_c wd_681 (wd_c wd_682 (wd_c wd_683 (wd_c wd_684 (wd_c wd_685 (wd_c wd_686 (wd_c wd_687 (wd_c wd_344 (wd_c wd_345 (wd_c wd_688 (wd_c wd_689 (wd_c wd_690 (wd_c wd_691 (wd_c wd_692 wd_n))))))))))))))))))))))))
set_option maxRecDepth 20000 in
theorem wd_x_X10_span_r5 : GoodIn wsL_law wsX10_span_r5 := (wd_c wd_130 (wd_c wd_133 (wd_c wd_693 (wd_c wd_694 (wd_c wd_695 (wd_c wd_696 (wd_c wd_697 (wd_c wd_698 (wd_c wd_699 (wd_c wd_700 (wd_c wd_701 (wd_c wd_702 (wd_c wd_703 (wd_c wd_704 (wd_c wd_705 (wd_c wd_706 (wd_c wd_707 (wd_c wd_708 (wd_c wd_709 (wd_c wd_710 (wd_c wd_711 (wd_c wd_712 (wd_c wd_713 (wd_c wd_714 wd_n))))))))))))))))))))))))
set_option maxRecDepth 20000 in
theorem wd_x_X10_span_r6 : GoodIn wsL_law wsX10_span_r6 := (wd_c wd_715 (wd_c wd_131 (wd_c wd_716 (wd_c wd_717 (wd_c wd_718 (wd_c wd_719 (wd_c wd_720 (wd_c wd_721 (wd_c wd_722 (wd_c wd_723 (wd_c wd_844 (wd_c wd_845 (wd_c wd_846 (wd_c wd_847 (wd_c wd_132 (wd_c wd_848 (wd_c wd_849 (wd_c wd_850 (wd_c wd_851 (wd_c wd_134 (wd_c wd_135 (wd_c wd_790 (wd_c wd_791 (wd_c wd_792 wd_n))))))))))))))))))))))))
set_option maxRecDepth 20000 in
theorem wd_x_X10_span_r7 : GoodIn wsL_law wsX10_span_r7 := (wd_c wd_793 (wd_c wd_852 (wd_c wd_853 (wd_c wd_854 (wd_c wd_855 wd_n)))))
set_option maxRecDepth 20000 in
theorem ggL_law_X10_span : GoodIn wsL_law wsX10_span := (wd_c wd_839 (goodIn_app (goodIn_app (goodIn_app (goodIn_app (goodIn_app (goodIn_app wd_x_X10_span_r1 (goodIn_app wd_x_X10_span_r2 (goodIn_app wd_x_X10_span_r3 (goodIn_app wd_x_X10_span_r4 (goodIn_app wd_x_X10_span_r5 (goodIn_app wd_x_X10_span_r6 wd_x_X10_span_r7)))))) wd_kX100) wd_kX80) wd_kX90) wd_kX00) wd_kX20))
theorem gL_law_X10_span : GoodIn wsL_law (wsV RL 111 RX10 yX10_span wsX10_span) := goodIn_app (wd_c wd_836 (wd_c wd_837 (wd_c wd_838 (wd_c wd_2 wd_n)))) ggL_law_X10_span
set_option maxRecDepth 20000 in
theorem wd_x_X11_span_r1 : GoodIn wsL_law wsX11_span_r1 := (wd_c wd_160 (wd_c wd_192 (wd_c wd_193 (wd_c wd_5 (wd_c wd_194 (wd_c wd_860 (wd_c wd_861 (wd_c wd_862 (wd_c wd_863 (wd_c wd_730 (wd_c wd_481 (wd_c wd_482 (wd_c wd_483 (wd_c wd_522 (wd_c wd_523 (wd_c wd_524 (wd_c wd_525 (wd_c wd_150 (wd_c wd_526 (wd_c wd_527 (wd_c wd_528 (wd_c wd_529 (wd_c wd_731 (wd_c wd_732 wd_n))))))))))))))))))))))))
set_option maxRecDepth 20000 in
theorem wd_x_X11_span_r2 : GoodIn wsL_law wsX11_span_r2 := (wd_c wd_733 (wd_c wd_734 (wd_c wd_735 (wd_c wd_736 (wd_c wd_737 (wd_c wd_738 (wd_c wd_496 (wd_c wd_497 (wd_c wd_498 (wd_c wd_499 (wd_c wd_739 (wd_c wd_740 (wd_c wd_741 (wd_c wd_742 (wd_c wd_743 (wd_c wd_744 (wd_c wd_745 (wd_c wd_746 (wd_c wd_747 (wd_c wd_748 (wd_c wd_153 (wd_c wd_154 (wd_c wd_749 (wd_c wd_155 wd_n))))))))))))))))))))))))
set_option maxRecDepth 20000 in
theorem wd_x_X11_span_r3 : GoodIn wsL_law wsX11_span_r3 := (wd_c wd_156 (wd_c wd_157 (wd_c wd_488 (wd_c wd_489 (wd_c wd_490 (wd_c wd_491 (wd_c wd_750 (wd_c wd_751 (wd_c wd_752 (wd_c wd_753 (wd_c wd_754 (wd_c wd_755 (wd_c wd_756 (wd_c wd_757 (wd_c wd_758 (wd_c wd_759 (wd_c wd_760 (wd_c wd_761 (wd_c wd_762 (wd_c wd_763 (wd_c wd_764 (wd_c wd_765 (wd_c wd_158 (wd_c wd_766 wd_n))))))))))))))))))))))))
set_option maxRecDepth 20000 in
theorem wd_x_X11_span_r4 : GoodIn wsL_law wsX11_span_r4 := (wd_c wd_767 (wd_c wd_768 (wd_c wd_769 (wd_c wd_770 (wd_c wd_771 (wd_c wd_772 (wd_c wd_773 (wd_c wd_774 (wd_c wd_775 (wd_c wd_776 (wd_c wd_159 (wd_c wd_864 (wd_c wd_865 (wd_c wd_866 (wd_c wd_867 (wd_c wd_806 (wd_c wd_807 (wd_c wd_808 (wd_c wd_809 wd_n)))))))))))))))))))
set_option maxRecDepth 20000 in
theorem ggL_law_X11_span : GoodIn wsL_law wsX11_span := (wd_c wd_859 (goodIn_app (goodIn_app wd_x_X11_span_r1 (goodIn_app wd_x_X11_span_r2 (goodIn_app wd_x_X11_span_r3 wd_x_X11_span_r4))) wd_kX110))
theorem gL_law_X11_span : GoodIn wsL_law (wsV RL 115 RX11 yX11_span wsX11_span) := goodIn_app (wd_c wd_856 (wd_c wd_857 (wd_c wd_858 (wd_c wd_5 wd_n)))) ggL_law_X11_span
set_option maxRecDepth 20000 in
theorem wd_x_X10_apart_r1 : GoodIn wsL_law wsX10_apart_r1 := (wd_c wd_640 (wd_c wd_16 (wd_c wd_446 (wd_c wd_814 (wd_c wd_781 (wd_c wd_872 (wd_c wd_642 (wd_c wd_840 (wd_c wd_841 (wd_c wd_842 (wd_c wd_2 (wd_c wd_843 (wd_c wd_510 (wd_c wd_511 (wd_c wd_512 (wd_c wd_513 (wd_c wd_448 (wd_c wd_449 (wd_c wd_450 (wd_c wd_451 (wd_c wd_178 (wd_c wd_179 (wd_c wd_180 (wd_c wd_175 wd_n))))))))))))))))))))))))
set_option maxRecDepth 20000 in
theorem wd_x_X10_apart_r2 : GoodIn wsL_law wsX10_apart_r2 := (wd_c wd_176 (wd_c wd_177 (wd_c wd_514 (wd_c wd_515 (wd_c wd_516 (wd_c wd_55 (wd_c wd_517 (wd_c wd_84 (wd_c wd_643 (wd_c wd_644 (wd_c wd_645 (wd_c wd_646 (wd_c wd_39 (wd_c wd_447 (wd_c wd_37 (wd_c wd_647 (wd_c wd_648 (wd_c wd_649 (wd_c wd_59 (wd_c wd_650 (wd_c wd_472 (wd_c wd_95 (wd_c wd_100 (wd_c wd_651 wd_n))))))))))))))))))))))))
set_option maxRecDepth 20000 in
theorem wd_x_X10_apart_r3 : GoodIn wsL_law wsX10_apart_r3 := (wd_c wd_652 (wd_c wd_653 (wd_c wd_654 (wd_c wd_655 (wd_c wd_656 (wd_c wd_657 (wd_c wd_36 (wd_c wd_658 (wd_c wd_659 (wd_c wd_660 (wd_c wd_661 (wd_c wd_662 (wd_c wd_663 (wd_c wd_664 (wd_c wd_665 (wd_c wd_666 (wd_c wd_667 (wd_c wd_668 (wd_c wd_122 (wd_c wd_121 (wd_c wd_123 (wd_c wd_124 (wd_c wd_125 (wd_c wd_126 wd_n))))))))))))))))))))))))
set_option maxRecDepth 20000 in
theorem wd_x_X10_apart_r4 : GoodIn wsL_law wsX10_apart_r4 := (wd_c wd_127 (wd_c wd_669 (wd_c wd_670 (wd_c wd_671 (wd_c wd_672 (wd_c wd_673 (wd_c wd_674 (wd_c wd_675 (wd_c wd_676 (wd_c wd_677 (wd_c wd_678 (wd_c wd_250 (wd_c wd_251 (wd_c wd_252 (wd_c wd_679 (wd_c wd_680 (wd_c wd_681 (wd_c wd_682 (wd_c wd_683 (wd_c wd_684 (wd_c wd_685 (wd_c wd_686 (wd_c wd_687 (wd_c wd_344 wd_n))))))))))))))))))))))))
set_option maxRecDepth 20000 in
theorem wd_x_X10_apart_r5 : GoodIn wsL_law wsX10_apart_r5 := (wd_c wd_345 (wd_c wd_688 (wd_c wd_689 (wd_c wd_690 (wd_c wd_691 (wd_c wd_692 (wd_c wd_130 (wd_c wd_133 (wd_c wd_693 (wd_c wd_694 (wd_c wd_695 (wd_c wd_696 (wd_c wd_697 (wd_c wd_698 (wd_c wd_699 (wd_c wd_700 (wd_c wd_701 (wd_c wd_702 (wd_c wd_703 (wd_c wd_704 (wd_c wd_705 (wd_c wd_706 (wd_c wd_707 (wd_c wd_708 wd_n))))))))))))))))))))))))
set_option maxRecDepth 20000 in
theorem wd_x_X10_apart_r6 : GoodIn wsL_law wsX10_apart_r6 := (wd_c wd_709 (wd_c wd_710 (wd_c wd_711 (wd_c wd_712 (wd_c wd_713 (wd_c wd_714 (wd_c wd_715 (wd_c wd_131 (wd_c wd_716 (wd_c wd_717 (wd_c wd_718 (wd_c wd_719 (wd_c wd_720 (wd_c wd_721 (wd_c wd_722 (wd_c wd_723 (wd_c wd_844 (wd_c wd_845 (wd_c wd_846 (wd_c wd_847 (wd_c wd_132 (wd_c wd_848 (wd_c wd_849 (wd_c wd_850 wd_n))))))))))))))))))))))))
set_option maxRecDepth 20000 in
theorem wd_x_X10_apart_r7 : GoodIn wsL_law wsX10_apart_r7 := (wd_c wd_851 (wd_c wd_134 (wd_c wd_135 (wd_c wd_790 (wd_c wd_791 (wd_c wd_792 (wd_c wd_793 (wd_c wd_816 (wd_c wd_817 (wd_c wd_818 (wd_c wd_819 (wd_c wd_820 (wd_c wd_821 (wd_c wd_822 (wd_c wd_823 (wd_c wd_824 (wd_c wd_825 wd_n)))))))))))))))))
set_option maxRecDepth 20000 in
theorem ggL_law_X10_apart : GoodIn wsL_law wsX10_apart := (wd_c wd_871 (goodIn_app (goodIn_app (goodIn_app (goodIn_app (goodIn_app (goodIn_app wd_x_X10_apart_r1 (goodIn_app wd_x_X10_apart_r2 (goodIn_app wd_x_X10_apart_r3 (goodIn_app wd_x_X10_apart_r4 (goodIn_app wd_x_X10_apart_r5 (goodIn_app wd_x_X10_apart_r6 wd_x_X10_apart_r7)))))) wd_kX100) wd_kX80) wd_kX90) wd_kX00) wd_kX20))
theorem gL_law_X10_apart : GoodIn wsL_law (wsV RL 116 RX10 yX10_apart wsX10_apart) := goodIn_app (wd_c wd_868 (wd_c wd_869 (wd_c wd_870 (wd_c wd_2 wd_n)))) ggL_law_X10_apart
set_option maxRecDepth 20000 in
theorem wd_x_X11_apart_r1 : GoodIn wsL_law wsX11_apart_r1 := (wd_c wd_728 (wd_c wd_160 (wd_c wd_730 (wd_c wd_188 (wd_c wd_189 (wd_c wd_5 (wd_c wd_190 (wd_c wd_191 (wd_c wd_192 (wd_c wd_193 (wd_c wd_194 (wd_c wd_860 (wd_c wd_861 (wd_c wd_862 (wd_c wd_863 (wd_c wd_481 (wd_c wd_482 (wd_c wd_483 (wd_c wd_522 (wd_c wd_523 (wd_c wd_524 (wd_c wd_525 (wd_c wd_150 (wd_c wd_526 wd_n))))))))))))))))))))))))
set_option maxRecDepth 20000 in
theorem wd_x_X11_apart_r2 : GoodIn wsL_law wsX11_apart_r2 := (wd_c wd_527 (wd_c wd_528 (wd_c wd_529 (wd_c wd_731 (wd_c wd_732 (wd_c wd_733 (wd_c wd_734 (wd_c wd_735 (wd_c wd_736 (wd_c wd_737 (wd_c wd_738 (wd_c wd_496 (wd_c wd_497 (wd_c wd_498 (wd_c wd_499 (wd_c wd_739 (wd_c wd_740 (wd_c wd_741 (wd_c wd_742 (wd_c wd_743 (wd_c wd_744 (wd_c wd_745 (wd_c wd_746 (wd_c wd_747 wd_n))))))))))))))))))))))))
set_option maxRecDepth 20000 in
theorem wd_x_X11_apart_r3 : GoodIn wsL_law wsX11_apart_r3 := (wd_c wd_748 (wd_c wd_153 (wd_c wd_154 (wd_c wd_749 (wd_c wd_155 (wd_c wd_156 (wd_c wd_157 (wd_c wd_488 (wd_c wd_489 (wd_c wd_490 (wd_c wd_491 (wd_c wd_750 (wd_c wd_751 (wd_c wd_752 (wd_c wd_753 (wd_c wd_754 (wd_c wd_755 (wd_c wd_756 (wd_c wd_757 (wd_c wd_758 (wd_c wd_759 (wd_c wd_760 (wd_c wd_761 (wd_c wd_762 wd_n))))))))))))))))))))))))
set_option maxRecDepth 20000 in
theorem wd_x_X11_apart_r4 : GoodIn wsL_law wsX11_apart_r4 := (wd_c wd_763 (wd_c wd_764 (wd_c wd_765 (wd_c wd_158 (wd_c wd_766 (wd_c wd_767 (wd_c wd_768 (wd_c wd_769 (wd_c wd_770 (wd_c wd_771 (wd_c wd_772 (wd_c wd_773 (wd_c wd_774 (wd_c wd_775 (wd_c wd_776 (wd_c wd_159 (wd_c wd_864 (wd_c wd_865 (wd_c wd_866 (wd_c wd_867 (wd_c wd_806 (wd_c wd_807 (wd_c wd_808 (wd_c wd_809 wd_n))))))))))))))))))))))))
set_option maxRecDepth 20000 in
theorem wd_x_X11_apart_r5 : GoodIn wsL_law wsX11_apart_r5 := (wd_c wd_830 (wd_c wd_831 (wd_c wd_832 (wd_c wd_833 (wd_c wd_834 (wd_c wd_835 wd_n))))))
set_option maxRecDepth 20000 in
theorem ggL_law_X11_apart : GoodIn wsL_law wsX11_apart := (wd_c wd_876 (goodIn_app (goodIn_app wd_x_X11_apart_r1 (goodIn_app wd_x_X11_apart_r2 (goodIn_app wd_x_X11_apart_r3 (goodIn_app wd_x_X11_apart_r4 wd_x_X11_apart_r5)))) wd_kX110))
theorem gL_law_X11_apart : GoodIn wsL_law (wsV RL 120 RX11 yX11_apart wsX11_apart) := goodIn_app (wd_c wd_873 (wd_c wd_874 (wd_c wd_875 (wd_c wd_5 wd_n)))) ggL_law_X11_apart
set_option maxRecDepth 20000 in
theorem wd_x_X10_next_r1 : GoodIn wsL_law wsX10_next_r1 := (wd_c wd_640 (wd_c wd_16 (wd_c wd_446 (wd_c wd_641 (wd_c wd_642 (wd_c wd_819 (wd_c wd_881 (wd_c wd_882 (wd_c wd_449 (wd_c wd_450 (wd_c wd_2 (wd_c wd_451 (wd_c wd_178 (wd_c wd_179 (wd_c wd_180 (wd_c wd_623 (wd_c wd_624 (wd_c wd_625 (wd_c wd_55 (wd_c wd_626 (wd_c wd_456 (wd_c wd_627 (wd_c wd_515 (wd_c wd_516 wd_n))))))))))))))))))))))))
set_option maxRecDepth 20000 in
theorem wd_x_X10_next_r2 : GoodIn wsL_law wsX10_next_r2 := (wd_c wd_517 (wd_c wd_84 (wd_c wd_643 (wd_c wd_644 (wd_c wd_645 (wd_c wd_646 (wd_c wd_39 (wd_c wd_447 (wd_c wd_37 (wd_c wd_647 (wd_c wd_648 (wd_c wd_649 (wd_c wd_59 (wd_c wd_650 (wd_c wd_472 (wd_c wd_95 (wd_c wd_100 (wd_c wd_651 (wd_c wd_652 (wd_c wd_653 (wd_c wd_654 (wd_c wd_655 (wd_c wd_656 (wd_c wd_657 wd_n))))))))))))))))))))))))
set_option maxRecDepth 20000 in
theorem wd_x_X10_next_r3 : GoodIn wsL_law wsX10_next_r3 := (wd_c wd_36 (wd_c wd_658 (wd_c wd_659 (wd_c wd_660 (wd_c wd_661 (wd_c wd_662 (wd_c wd_663 (wd_c wd_664 (wd_c wd_665 (wd_c wd_666 (wd_c wd_667 (wd_c wd_668 (wd_c wd_122 (wd_c wd_121 (wd_c wd_123 (wd_c wd_124 (wd_c wd_125 (wd_c wd_126 (wd_c wd_127 (wd_c wd_669 (wd_c wd_670 (wd_c wd_671 (wd_c wd_672 (wd_c wd_673 wd_n))))))))))))))))))))))))
set_option maxRecDepth 20000 in
theorem wd_x_X10_next_r4 : GoodIn wsL_law wsX10_next_r4 := (wd_c wd_674 (wd_c wd_675 (wd_c wd_676 (wd_c wd_677 (wd_c wd_678 (wd_c wd_250 (wd_c wd_251 (wd_c wd_252 (wd_c wd_679 (wd_c wd_680 (wd_c wd_681 (wd_c wd_682 (wd_c wd_683 (wd_c wd_684 (wd_c wd_685 (wd_c wd_686 (wd_c wd_687 (wd_c wd_344 (wd_c wd_345 (wd_c wd_688 (wd_c wd_689 (wd_c wd_690 (wd_c wd_691 (wd_c wd_692 wd_n))))))))))))))))))))))))
set_option maxRecDepth 20000 in
theorem wd_x_X10_next_r5 : GoodIn wsL_law wsX10_next_r5 := (wd_c wd_130 (wd_c wd_133 (wd_c wd_693 (wd_c wd_694 (wd_c wd_695 (wd_c wd_696 (wd_c wd_697 (wd_c wd_698 (wd_c wd_699 (wd_c wd_700 (wd_c wd_701 (wd_c wd_702 (wd_c wd_703 (wd_c wd_704 (wd_c wd_705 (wd_c wd_706 (wd_c wd_707 (wd_c wd_708 (wd_c wd_709 (wd_c wd_710 (wd_c wd_711 (wd_c wd_712 (wd_c wd_713 (wd_c wd_714 wd_n))))))))))))))))))))))))
set_option maxRecDepth 20000 in
theorem wd_x_X10_next_r6 : GoodIn wsL_law wsX10_next_r6 := (wd_c wd_715 (wd_c wd_131 (wd_c wd_716 (wd_c wd_717 (wd_c wd_718 (wd_c wd_719 (wd_c wd_720 (wd_c wd_721 (wd_c wd_722 (wd_c wd_723 (wd_c wd_883 (wd_c wd_884 (wd_c wd_885 (wd_c wd_886 (wd_c wd_887 (wd_c wd_821 (wd_c wd_822 (wd_c wd_786 (wd_c wd_787 (wd_c wd_788 (wd_c wd_789 (wd_c wd_790 (wd_c wd_791 (wd_c wd_792 wd_n))))))))))))))))))))))))
set_option maxRecDepth 20000 in
theorem wd_x_X10_next_r7 : GoodIn wsL_law wsX10_next_r7 := (wd_c wd_793 wd_n)
set_option maxRecDepth 20000 in
theorem ggL_law_X10_next : GoodIn wsL_law wsX10_next := (wd_c wd_880 (goodIn_app (goodIn_app (goodIn_app (goodIn_app (goodIn_app (goodIn_app wd_x_X10_next_r1 (goodIn_app wd_x_X10_next_r2 (goodIn_app wd_x_X10_next_r3 (goodIn_app wd_x_X10_next_r4 (goodIn_app wd_x_X10_next_r5 (goodIn_app wd_x_X10_next_r6 wd_x_X10_next_r7)))))) wd_kX100) wd_kX80) wd_kX90) wd_kX00) wd_kX20))
theorem gL_law_X10_next : GoodIn wsL_law (wsV RL 121 RX10 yX10_next wsX10_next) := goodIn_app (wd_c wd_877 (wd_c wd_878 (wd_c wd_879 (wd_c wd_2 wd_n)))) ggL_law_X10_next
set_option maxRecDepth 20000 in
theorem wd_x_X11_next_r1 : GoodIn wsL_law wsX11_next_r1 := (wd_c wd_728 (wd_c wd_747 (wd_c wd_153 (wd_c wd_481 (wd_c wd_482 (wd_c wd_5 (wd_c wd_483 (wd_c wd_192 (wd_c wd_193 (wd_c wd_194 (wd_c wd_892 (wd_c wd_893 (wd_c wd_894 (wd_c wd_895 (wd_c wd_730 (wd_c wd_632 (wd_c wd_633 (wd_c wd_634 (wd_c wd_635 (wd_c wd_150 (wd_c wd_526 (wd_c wd_527 (wd_c wd_528 (wd_c wd_529 wd_n))))))))))))))))))))))))
set_option maxRecDepth 20000 in
theorem wd_x_X11_next_r2 : GoodIn wsL_law wsX11_next_r2 := (wd_c wd_731 (wd_c wd_732 (wd_c wd_733 (wd_c wd_734 (wd_c wd_735 (wd_c wd_736 (wd_c wd_737 (wd_c wd_738 (wd_c wd_496 (wd_c wd_497 (wd_c wd_498 (wd_c wd_499 (wd_c wd_739 (wd_c wd_740 (wd_c wd_741 (wd_c wd_742 (wd_c wd_743 (wd_c wd_744 (wd_c wd_745 (wd_c wd_746 (wd_c wd_748 (wd_c wd_154 (wd_c wd_749 (wd_c wd_155 wd_n))))))))))))))))))))))))
set_option maxRecDepth 20000 in
theorem wd_x_X11_next_r3 : GoodIn wsL_law wsX11_next_r3 := (wd_c wd_156 (wd_c wd_157 (wd_c wd_488 (wd_c wd_489 (wd_c wd_490 (wd_c wd_491 (wd_c wd_750 (wd_c wd_751 (wd_c wd_752 (wd_c wd_753 (wd_c wd_754 (wd_c wd_755 (wd_c wd_756 (wd_c wd_757 (wd_c wd_758 (wd_c wd_759 (wd_c wd_760 (wd_c wd_761 (wd_c wd_762 (wd_c wd_763 (wd_c wd_764 (wd_c wd_765 (wd_c wd_158 (wd_c wd_766 wd_n))))))))))))))))))))))))
set_option maxRecDepth 20000 in
theorem wd_x_X11_next_r4 : GoodIn wsL_law wsX11_next_r4 := (wd_c wd_767 (wd_c wd_768 (wd_c wd_769 (wd_c wd_770 (wd_c wd_771 (wd_c wd_772 (wd_c wd_773 (wd_c wd_774 (wd_c wd_775 (wd_c wd_776 (wd_c wd_159 (wd_c wd_806 (wd_c wd_807 (wd_c wd_808 (wd_c wd_809 wd_n)))))))))))))))
set_option maxRecDepth 20000 in
theorem ggL_law_X11_next : GoodIn wsL_law wsX11_next := (wd_c wd_891 (goodIn_app (goodIn_app wd_x_X11_next_r1 (goodIn_app wd_x_X11_next_r2 (goodIn_app wd_x_X11_next_r3 wd_x_X11_next_r4))) wd_kX110))
theorem gL_law_X11_next : GoodIn wsL_law (wsV RL 125 RX11 yX11_next wsX11_next) := goodIn_app (wd_c wd_888 (wd_c wd_889 (wd_c wd_890 (wd_c wd_5 wd_n)))) ggL_law_X11_next
set_option maxRecDepth 20000 in
theorem wd_x_X10_mustGo_r1 : GoodIn wsL_law wsX10_mustGo_r1 := (wd_c wd_16 (wd_c wd_446 (wd_c wd_447 (wd_c wd_449 (wd_c wd_450 (wd_c wd_2 (wd_c wd_451 (wd_c wd_178 (wd_c wd_179 (wd_c wd_180 (wd_c wd_623 (wd_c wd_624 (wd_c wd_625 (wd_c wd_55 (wd_c wd_626 (wd_c wd_456 (wd_c wd_627 (wd_c wd_515 (wd_c wd_516 (wd_c wd_517 (wd_c wd_84 (wd_c wd_647 (wd_c wd_648 (wd_c wd_649 wd_n))))))))))))))))))))))))
set_option maxRecDepth 20000 in
theorem wd_x_X10_mustGo_r2 : GoodIn wsL_law wsX10_mustGo_r2 := (wd_c wd_59 (wd_c wd_650 (wd_c wd_472 (wd_c wd_95 (wd_c wd_100 (wd_c wd_651 (wd_c wd_652 (wd_c wd_653 (wd_c wd_654 (wd_c wd_37 (wd_c wd_39 (wd_c wd_642 (wd_c wd_655 (wd_c wd_656 (wd_c wd_657 (wd_c wd_36 (wd_c wd_658 (wd_c wd_659 (wd_c wd_660 (wd_c wd_661 (wd_c wd_662 (wd_c wd_663 (wd_c wd_664 (wd_c wd_665 wd_n))))))))))))))))))))))))
set_option maxRecDepth 20000 in
theorem wd_x_X10_mustGo_r3 : GoodIn wsL_law wsX10_mustGo_r3 := (wd_c wd_666 (wd_c wd_667 (wd_c wd_668 (wd_c wd_122 (wd_c wd_121 (wd_c wd_123 (wd_c wd_124 (wd_c wd_125 (wd_c wd_126 (wd_c wd_127 (wd_c wd_669 (wd_c wd_670 (wd_c wd_671 (wd_c wd_672 (wd_c wd_673 (wd_c wd_674 (wd_c wd_675 (wd_c wd_676 (wd_c wd_677 (wd_c wd_678 (wd_c wd_250 (wd_c wd_251 (wd_c wd_252 (wd_c wd_679 wd_n))))))))))))))))))))))))
set_option maxRecDepth 20000 in
theorem wd_x_X10_mustGo_r4 : GoodIn wsL_law wsX10_mustGo_r4 := (wd_c wd_680 (wd_c wd_681 (wd_c wd_682 (wd_c wd_683 (wd_c wd_684 (wd_c wd_685 (wd_c wd_686 (wd_c wd_687 (wd_c wd_344 (wd_c wd_345 (wd_c wd_688 (wd_c wd_689 (wd_c wd_690 (wd_c wd_691 (wd_c wd_692 (wd_c wd_130 (wd_c wd_133 (wd_c wd_693 (wd_c wd_694 (wd_c wd_695 (wd_c wd_696 (wd_c wd_697 (wd_c wd_698 (wd_c wd_699 wd_n))))))))))))))))))))))))
set_option maxRecDepth 20000 in
theorem wd_x_X10_mustGo_r5 : GoodIn wsL_law wsX10_mustGo_r5 := (wd_c wd_700 (wd_c wd_701 (wd_c wd_702 (wd_c wd_703 (wd_c wd_704 (wd_c wd_705 (wd_c wd_706 (wd_c wd_707 (wd_c wd_708 (wd_c wd_709 (wd_c wd_710 (wd_c wd_711 (wd_c wd_900 (wd_c wd_901 (wd_c wd_412 (wd_c wd_902 (wd_c wd_903 (wd_c wd_904 (wd_c wd_905 wd_n)))))))))))))))))))
set_option maxRecDepth 20000 in
theorem ggL_law_X10_mustGo : GoodIn wsL_law wsX10_mustGo := (wd_c wd_899 (goodIn_app (goodIn_app (goodIn_app (goodIn_app (goodIn_app (goodIn_app wd_x_X10_mustGo_r1 (goodIn_app wd_x_X10_mustGo_r2 (goodIn_app wd_x_X10_mustGo_r3 (goodIn_app wd_x_X10_mustGo_r4 wd_x_X10_mustGo_r5)))) wd_kX100) wd_kX80) wd_kX00) wd_kX20) wd_kX90))
theorem gL_law_X10_mustGo : GoodIn wsL_law (wsV RL 126 RX10 yX10_mustGo wsX10_mustGo) := goodIn_app (wd_c wd_896 (wd_c wd_897 (wd_c wd_898 (wd_c wd_2 wd_n)))) ggL_law_X10_mustGo
set_option maxRecDepth 20000 in
theorem wd_x_X11_mustGo_r1 : GoodIn wsL_law wsX11_mustGo_r1 := (wd_c wd_481 (wd_c wd_482 (wd_c wd_5 (wd_c wd_483 (wd_c wd_192 (wd_c wd_193 (wd_c wd_194 (wd_c wd_632 (wd_c wd_633 (wd_c wd_634 (wd_c wd_635 (wd_c wd_150 (wd_c wd_526 (wd_c wd_527 (wd_c wd_528 (wd_c wd_529 (wd_c wd_735 (wd_c wd_736 (wd_c wd_737 (wd_c wd_738 (wd_c wd_496 (wd_c wd_497 (wd_c wd_498 (wd_c wd_499 wd_n))))))))))))))))))))))))
set_option maxRecDepth 20000 in
theorem wd_x_X11_mustGo_r2 : GoodIn wsL_law wsX11_mustGo_r2 := (wd_c wd_910 (wd_c wd_911 (wd_c wd_912 (wd_c wd_913 (wd_c wd_914 (wd_c wd_915 (wd_c wd_916 (wd_c wd_730 (wd_c wd_743 (wd_c wd_744 (wd_c wd_745 (wd_c wd_746 (wd_c wd_747 (wd_c wd_748 (wd_c wd_153 (wd_c wd_154 (wd_c wd_749 (wd_c wd_155 (wd_c wd_156 (wd_c wd_157 (wd_c wd_488 (wd_c wd_489 (wd_c wd_490 (wd_c wd_491 wd_n))))))))))))))))))))))))
set_option maxRecDepth 20000 in
theorem wd_x_X11_mustGo_r3 : GoodIn wsL_law wsX11_mustGo_r3 := (wd_c wd_750 (wd_c wd_751 (wd_c wd_752 (wd_c wd_753 (wd_c wd_754 (wd_c wd_755 (wd_c wd_756 (wd_c wd_757 (wd_c wd_758 (wd_c wd_759 (wd_c wd_760 (wd_c wd_761 (wd_c wd_762 (wd_c wd_763 (wd_c wd_764 (wd_c wd_765 (wd_c wd_158 (wd_c wd_766 (wd_c wd_767 (wd_c wd_768 (wd_c wd_769 (wd_c wd_770 (wd_c wd_771 (wd_c wd_772 wd_n))))))))))))))))))))))))
set_option maxRecDepth 20000 in
theorem ggL_law_X11_mustGo : GoodIn wsL_law wsX11_mustGo := (wd_c wd_909 (goodIn_app (goodIn_app wd_x_X11_mustGo_r1 (goodIn_app wd_x_X11_mustGo_r2 wd_x_X11_mustGo_r3)) wd_kX110))
theorem gL_law_X11_mustGo : GoodIn wsL_law (wsV RL 129 RX11 yX11_mustGo wsX11_mustGo) := goodIn_app (wd_c wd_906 (wd_c wd_907 (wd_c wd_908 (wd_c wd_5 wd_n)))) ggL_law_X11_mustGo
set_option maxRecDepth 20000 in
theorem wd_x_X10_leans_r1 : GoodIn wsL_law wsX10_leans_r1 := (wd_c wd_16 (wd_c wd_447 (wd_c wd_597 (wd_c wd_608 (wd_c wd_446 (wd_c wd_178 (wd_c wd_179 (wd_c wd_2 (wd_c wd_180 (wd_c wd_510 (wd_c wd_511 (wd_c wd_512 (wd_c wd_513 (wd_c wd_448 (wd_c wd_449 (wd_c wd_450 (wd_c wd_451 (wd_c wd_514 (wd_c wd_515 (wd_c wd_516 (wd_c wd_55 (wd_c wd_517 (wd_c wd_84 (wd_c wd_647 wd_n))))))))))))))))))))))))
set_option maxRecDepth 20000 in
theorem wd_x_X10_leans_r2 : GoodIn wsL_law wsX10_leans_r2 := (wd_c wd_648 (wd_c wd_649 (wd_c wd_59 (wd_c wd_650 (wd_c wd_472 (wd_c wd_95 (wd_c wd_100 (wd_c wd_921 (wd_c wd_922 (wd_c wd_923 (wd_c wd_924 (wd_c wd_37 (wd_c wd_781 (wd_c wd_651 (wd_c wd_652 (wd_c wd_653 (wd_c wd_654 (wd_c wd_39 (wd_c wd_642 (wd_c wd_655 (wd_c wd_656 (wd_c wd_657 (wd_c wd_36 (wd_c wd_658 wd_n))))))))))))))))))))))))
set_option maxRecDepth 20000 in
theorem wd_x_X10_leans_r3 : GoodIn wsL_law wsX10_leans_r3 := (wd_c wd_659 (wd_c wd_660 (wd_c wd_661 (wd_c wd_662 (wd_c wd_663 (wd_c wd_664 (wd_c wd_665 (wd_c wd_666 (wd_c wd_667 (wd_c wd_668 (wd_c wd_122 (wd_c wd_121 (wd_c wd_123 (wd_c wd_124 (wd_c wd_125 (wd_c wd_126 (wd_c wd_127 (wd_c wd_669 (wd_c wd_670 (wd_c wd_671 (wd_c wd_672 (wd_c wd_673 (wd_c wd_674 (wd_c wd_675 wd_n))))))))))))))))))))))))
set_option maxRecDepth 20000 in
theorem wd_x_X10_leans_r4 : GoodIn wsL_law wsX10_leans_r4 := (wd_c wd_676 (wd_c wd_677 (wd_c wd_678 (wd_c wd_250 (wd_c wd_251 (wd_c wd_252 (wd_c wd_679 (wd_c wd_680 (wd_c wd_681 (wd_c wd_682 (wd_c wd_683 (wd_c wd_684 (wd_c wd_685 (wd_c wd_686 (wd_c wd_687 (wd_c wd_344 (wd_c wd_345 (wd_c wd_688 (wd_c wd_689 (wd_c wd_690 (wd_c wd_691 (wd_c wd_692 (wd_c wd_130 (wd_c wd_133 wd_n))))))))))))))))))))))))
set_option maxRecDepth 20000 in
theorem wd_x_X10_leans_r5 : GoodIn wsL_law wsX10_leans_r5 := (wd_c wd_693 (wd_c wd_694 (wd_c wd_695 (wd_c wd_696 (wd_c wd_697 (wd_c wd_698 (wd_c wd_699 (wd_c wd_700 (wd_c wd_701 (wd_c wd_702 (wd_c wd_703 (wd_c wd_704 (wd_c wd_705 (wd_c wd_706 (wd_c wd_707 (wd_c wd_708 (wd_c wd_709 (wd_c wd_710 (wd_c wd_711 (wd_c wd_712 (wd_c wd_713 (wd_c wd_714 (wd_c wd_715 (wd_c wd_131 wd_n))))))))))))))))))))))))
set_option maxRecDepth 20000 in
theorem wd_x_X10_leans_r6 : GoodIn wsL_law wsX10_leans_r6 := (wd_c wd_716 (wd_c wd_717 (wd_c wd_718 (wd_c wd_719 (wd_c wd_720 (wd_c wd_721 (wd_c wd_722 (wd_c wd_723 (wd_c wd_782 (wd_c wd_783 (wd_c wd_784 (wd_c wd_785 (wd_c wd_786 (wd_c wd_787 (wd_c wd_788 (wd_c wd_789 (wd_c wd_790 (wd_c wd_791 (wd_c wd_792 (wd_c wd_793 wd_n))))))))))))))))))))
set_option maxRecDepth 20000 in
theorem ggL_law_X10_leans : GoodIn wsL_law wsX10_leans := (wd_c wd_920 (goodIn_app (goodIn_app (goodIn_app (goodIn_app (goodIn_app (goodIn_app wd_x_X10_leans_r1 (goodIn_app wd_x_X10_leans_r2 (goodIn_app wd_x_X10_leans_r3 (goodIn_app wd_x_X10_leans_r4 (goodIn_app wd_x_X10_leans_r5 wd_x_X10_leans_r6))))) wd_kX100) wd_kX80) wd_kX20) wd_kX00) wd_kX90))
theorem gL_law_X10_leans : GoodIn wsL_law (wsV RL 130 RX10 yX10_leans wsX10_leans) := goodIn_app (wd_c wd_917 (wd_c wd_918 (wd_c wd_919 (wd_c wd_2 wd_n)))) ggL_law_X10_leans
set_option maxRecDepth 20000 in
theorem wd_x_X11_leans_r1 : GoodIn wsL_law wsX11_leans_r1 := (wd_c wd_150 (wd_c wd_192 (wd_c wd_193 (wd_c wd_5 (wd_c wd_194 (wd_c wd_496 (wd_c wd_497 (wd_c wd_498 (wd_c wd_499 (wd_c wd_522 (wd_c wd_523 (wd_c wd_524 (wd_c wd_525 (wd_c wd_526 (wd_c wd_527 (wd_c wd_528 (wd_c wd_529 (wd_c wd_735 (wd_c wd_736 (wd_c wd_737 (wd_c wd_738 (wd_c wd_739 (wd_c wd_740 (wd_c wd_741 wd_n))))))))))))))))))))))))
set_option maxRecDepth 20000 in
theorem wd_x_X11_leans_r2 : GoodIn wsL_law wsX11_leans_r2 := (wd_c wd_742 (wd_c wd_743 (wd_c wd_744 (wd_c wd_745 (wd_c wd_746 (wd_c wd_747 (wd_c wd_748 (wd_c wd_153 (wd_c wd_154 (wd_c wd_749 (wd_c wd_155 (wd_c wd_156 (wd_c wd_157 (wd_c wd_488 (wd_c wd_489 (wd_c wd_490 (wd_c wd_491 (wd_c wd_750 (wd_c wd_751 (wd_c wd_752 (wd_c wd_753 (wd_c wd_754 (wd_c wd_755 (wd_c wd_756 wd_n))))))))))))))))))))))))
set_option maxRecDepth 20000 in
theorem wd_x_X11_leans_r3 : GoodIn wsL_law wsX11_leans_r3 := (wd_c wd_757 (wd_c wd_758 (wd_c wd_759 (wd_c wd_760 (wd_c wd_761 (wd_c wd_762 (wd_c wd_763 (wd_c wd_764 (wd_c wd_765 (wd_c wd_158 (wd_c wd_730 (wd_c wd_766 (wd_c wd_767 (wd_c wd_768 (wd_c wd_769 (wd_c wd_770 (wd_c wd_771 (wd_c wd_772 (wd_c wd_773 (wd_c wd_774 (wd_c wd_775 (wd_c wd_776 (wd_c wd_159 (wd_c wd_802 wd_n))))))))))))))))))))))))
set_option maxRecDepth 20000 in
theorem wd_x_X11_leans_r4 : GoodIn wsL_law wsX11_leans_r4 := (wd_c wd_803 (wd_c wd_804 (wd_c wd_805 (wd_c wd_806 (wd_c wd_807 (wd_c wd_808 (wd_c wd_809 wd_n)))))))
set_option maxRecDepth 20000 in
theorem ggL_law_X11_leans : GoodIn wsL_law wsX11_leans := (wd_c wd_928 (goodIn_app (goodIn_app wd_x_X11_leans_r1 (goodIn_app wd_x_X11_leans_r2 (goodIn_app wd_x_X11_leans_r3 wd_x_X11_leans_r4))) wd_kX110))
theorem gL_law_X11_leans : GoodIn wsL_law (wsV RL 133 RX11 yX11_leans wsX11_leans) := goodIn_app (wd_c wd_925 (wd_c wd_926 (wd_c wd_927 (wd_c wd_5 wd_n)))) ggL_law_X11_leans
set_option maxRecDepth 20000 in
theorem wd_x_X10_judge_r1 : GoodIn wsL_law wsX10_judge_r1 := (wd_c wd_16 (wd_c wd_446 (wd_c wd_33 (wd_c wd_205 (wd_c wd_882 (wd_c wd_449 (wd_c wd_450 (wd_c wd_2 (wd_c wd_451 (wd_c wd_178 (wd_c wd_179 (wd_c wd_180 (wd_c wd_206 (wd_c wd_207 (wd_c wd_208 (wd_c wd_623 (wd_c wd_624 (wd_c wd_625 (wd_c wd_55 (wd_c wd_626 (wd_c wd_456 (wd_c wd_627 (wd_c wd_515 (wd_c wd_516 wd_n))))))))))))))))))))))))
set_option maxRecDepth 20000 in
theorem wd_x_X10_judge_r2 : GoodIn wsL_law wsX10_judge_r2 := (wd_c wd_517 (wd_c wd_84 (wd_c wd_209 (wd_c wd_210 (wd_c wd_211 (wd_c wd_32 (wd_c wd_212 (wd_c wd_213 (wd_c wd_214 (wd_c wd_215 (wd_c wd_643 (wd_c wd_644 (wd_c wd_645 (wd_c wd_646 (wd_c wd_39 (wd_c wd_447 (wd_c wd_37 (wd_c wd_647 (wd_c wd_648 (wd_c wd_649 (wd_c wd_59 (wd_c wd_650 (wd_c wd_472 (wd_c wd_95 wd_n))))))))))))))))))))))))
set_option maxRecDepth 20000 in
theorem wd_x_X10_judge_r3 : GoodIn wsL_law wsX10_judge_r3 := (wd_c wd_100 (wd_c wd_651 (wd_c wd_652 (wd_c wd_653 (wd_c wd_654 (wd_c wd_642 (wd_c wd_655 (wd_c wd_656 (wd_c wd_657 (wd_c wd_36 (wd_c wd_658 (wd_c wd_659 (wd_c wd_660 (wd_c wd_661 (wd_c wd_662 (wd_c wd_663 (wd_c wd_664 (wd_c wd_665 (wd_c wd_666 (wd_c wd_667 (wd_c wd_668 (wd_c wd_122 (wd_c wd_121 (wd_c wd_123 wd_n))))))))))))))))))))))))
set_option maxRecDepth 20000 in
theorem wd_x_X10_judge_r4 : GoodIn wsL_law wsX10_judge_r4 := (wd_c wd_124 (wd_c wd_125 (wd_c wd_126 (wd_c wd_127 (wd_c wd_669 (wd_c wd_670 (wd_c wd_671 (wd_c wd_672 (wd_c wd_673 (wd_c wd_674 (wd_c wd_675 (wd_c wd_676 (wd_c wd_677 (wd_c wd_678 (wd_c wd_250 (wd_c wd_251 (wd_c wd_252 (wd_c wd_679 (wd_c wd_680 (wd_c wd_681 (wd_c wd_682 (wd_c wd_683 (wd_c wd_684 (wd_c wd_685 wd_n))))))))))))))))))))))))
set_option maxRecDepth 20000 in
theorem wd_x_X10_judge_r5 : GoodIn wsL_law wsX10_judge_r5 := (wd_c wd_686 (wd_c wd_687 (wd_c wd_344 (wd_c wd_345 (wd_c wd_688 (wd_c wd_689 (wd_c wd_690 (wd_c wd_691 (wd_c wd_692 (wd_c wd_130 (wd_c wd_133 (wd_c wd_693 (wd_c wd_694 (wd_c wd_695 (wd_c wd_696 (wd_c wd_697 (wd_c wd_698 (wd_c wd_699 (wd_c wd_700 (wd_c wd_701 (wd_c wd_702 (wd_c wd_703 (wd_c wd_704 (wd_c wd_705 wd_n))))))))))))))))))))))))
set_option maxRecDepth 20000 in
theorem wd_x_X10_judge_r6 : GoodIn wsL_law wsX10_judge_r6 := (wd_c wd_706 (wd_c wd_707 (wd_c wd_708 (wd_c wd_709 (wd_c wd_710 (wd_c wd_711 (wd_c wd_712 (wd_c wd_713 (wd_c wd_714 (wd_c wd_715 (wd_c wd_131 (wd_c wd_716 (wd_c wd_717 (wd_c wd_718 (wd_c wd_719 (wd_c wd_720 (wd_c wd_721 (wd_c wd_722 (wd_c wd_723 (wd_c wd_933 (wd_c wd_934 (wd_c wd_935 (wd_c wd_936 (wd_c wd_937 wd_n))))))))))))))))))))))))
set_option maxRecDepth 20000 in
theorem wd_x_X10_judge_r7 : GoodIn wsL_law wsX10_judge_r7 := (wd_c wd_938 (wd_c wd_939 (wd_c wd_940 wd_n)))
set_option maxRecDepth 20000 in
theorem ggL_law_X10_judge : GoodIn wsL_law wsX10_judge := (wd_c wd_932 (goodIn_app (goodIn_app (goodIn_app (goodIn_app (goodIn_app (goodIn_app (goodIn_app wd_x_X10_judge_r1 (goodIn_app wd_x_X10_judge_r2 (goodIn_app wd_x_X10_judge_r3 (goodIn_app wd_x_X10_judge_r4 (goodIn_app wd_x_X10_judge_r5 (goodIn_app wd_x_X10_judge_r6 wd_x_X10_judge_r7)))))) wd_kX100) wd_kX80) wd_kX70) wd_kX90) wd_kX00) wd_kX20))
theorem gL_law_X10_judge : GoodIn wsL_law (wsV RL 134 RX10 yX10_judge wsX10_judge) := goodIn_app (wd_c wd_929 (wd_c wd_930 (wd_c wd_931 (wd_c wd_2 wd_n)))) ggL_law_X10_judge
set_option maxRecDepth 20000 in
theorem wd_x_X11_judge_r1 : GoodIn wsL_law wsX11_judge_r1 := (wd_c wd_747 (wd_c wd_168 (wd_c wd_154 (wd_c wd_153 (wd_c wd_481 (wd_c wd_482 (wd_c wd_5 (wd_c wd_483 (wd_c wd_192 (wd_c wd_193 (wd_c wd_194 (wd_c wd_222 (wd_c wd_223 (wd_c wd_224 (wd_c wd_225 (wd_c wd_220 (wd_c wd_632 (wd_c wd_633 (wd_c wd_634 (wd_c wd_635 (wd_c wd_150 (wd_c wd_526 (wd_c wd_527 (wd_c wd_528 wd_n))))))))))))))))))))))))
set_option maxRecDepth 20000 in
theorem wd_x_X11_judge_r2 : GoodIn wsL_law wsX11_judge_r2 := (wd_c wd_529 (wd_c wd_226 (wd_c wd_227 (wd_c wd_228 (wd_c wd_229 (wd_c wd_166 (wd_c wd_167 (wd_c wd_735 (wd_c wd_736 (wd_c wd_737 (wd_c wd_738 (wd_c wd_496 (wd_c wd_497 (wd_c wd_498 (wd_c wd_499 (wd_c wd_743 (wd_c wd_744 (wd_c wd_745 (wd_c wd_746 (wd_c wd_748 (wd_c wd_749 (wd_c wd_155 (wd_c wd_156 (wd_c wd_157 wd_n))))))))))))))))))))))))
set_option maxRecDepth 20000 in
theorem wd_x_X11_judge_r3 : GoodIn wsL_law wsX11_judge_r3 := (wd_c wd_488 (wd_c wd_489 (wd_c wd_490 (wd_c wd_491 (wd_c wd_750 (wd_c wd_751 (wd_c wd_752 (wd_c wd_753 (wd_c wd_754 (wd_c wd_755 (wd_c wd_756 (wd_c wd_757 (wd_c wd_758 (wd_c wd_759 (wd_c wd_760 (wd_c wd_761 (wd_c wd_188 (wd_c wd_189 (wd_c wd_190 (wd_c wd_191 (wd_c wd_769 (wd_c wd_770 (wd_c wd_771 (wd_c wd_772 wd_n))))))))))))))))))))))))
set_option maxRecDepth 20000 in
theorem ggL_law_X11_judge : GoodIn wsL_law wsX11_judge := (wd_c wd_944 (goodIn_app (goodIn_app wd_x_X11_judge_r1 (goodIn_app wd_x_X11_judge_r2 wd_x_X11_judge_r3)) wd_kX110))
theorem gL_law_X11_judge : GoodIn wsL_law (wsV RL 137 RX11 yX11_judge wsX11_judge) := goodIn_app (wd_c wd_941 (wd_c wd_942 (wd_c wd_943 (wd_c wd_5 wd_n)))) ggL_law_X11_judge
set_option maxRecDepth 20000 in
theorem wd_x_X10_oneYear_r1 : GoodIn wsL_law wsX10_oneYear_r1 := (wd_c wd_640 (wd_c wd_16 (wd_c wd_446 (wd_c wd_814 (wd_c wd_781 (wd_c wd_642 (wd_c wd_510 (wd_c wd_511 (wd_c wd_512 (wd_c wd_2 (wd_c wd_513 (wd_c wd_448 (wd_c wd_449 (wd_c wd_450 (wd_c wd_451 (wd_c wd_178 (wd_c wd_179 (wd_c wd_180 (wd_c wd_514 (wd_c wd_515 (wd_c wd_516 (wd_c wd_55 (wd_c wd_517 (wd_c wd_84 wd_n))))))))))))))))))))))))
set_option maxRecDepth 20000 in
theorem wd_x_X10_oneYear_r2 : GoodIn wsL_law wsX10_oneYear_r2 := (wd_c wd_643 (wd_c wd_644 (wd_c wd_645 (wd_c wd_646 (wd_c wd_39 (wd_c wd_447 (wd_c wd_37 (wd_c wd_647 (wd_c wd_648 (wd_c wd_649 (wd_c wd_59 (wd_c wd_650 (wd_c wd_472 (wd_c wd_95 (wd_c wd_100 (wd_c wd_651 (wd_c wd_652 (wd_c wd_653 (wd_c wd_654 (wd_c wd_655 (wd_c wd_656 (wd_c wd_657 (wd_c wd_36 (wd_c wd_658 wd_n))))))))))))))))))))))))
set_option maxRecDepth 20000 in
theorem wd_x_X10_oneYear_r3 : GoodIn wsL_law wsX10_oneYear_r3 := (wd_c wd_659 (wd_c wd_660 (wd_c wd_661 (wd_c wd_662 (wd_c wd_663 (wd_c wd_664 (wd_c wd_665 (wd_c wd_666 (wd_c wd_667 (wd_c wd_668 (wd_c wd_122 (wd_c wd_121 (wd_c wd_123 (wd_c wd_124 (wd_c wd_125 (wd_c wd_126 (wd_c wd_127 (wd_c wd_669 (wd_c wd_670 (wd_c wd_671 (wd_c wd_672 (wd_c wd_673 (wd_c wd_674 (wd_c wd_675 wd_n))))))))))))))))))))))))
set_option maxRecDepth 20000 in
theorem wd_x_X10_oneYear_r4 : GoodIn wsL_law wsX10_oneYear_r4 := (wd_c wd_676 (wd_c wd_677 (wd_c wd_678 (wd_c wd_250 (wd_c wd_251 (wd_c wd_252 (wd_c wd_679 (wd_c wd_680 (wd_c wd_681 (wd_c wd_682 (wd_c wd_683 (wd_c wd_684 (wd_c wd_685 (wd_c wd_686 (wd_c wd_687 (wd_c wd_344 (wd_c wd_345 (wd_c wd_688 (wd_c wd_689 (wd_c wd_690 (wd_c wd_691 (wd_c wd_692 (wd_c wd_130 (wd_c wd_133 wd_n))))))))))))))))))))))))
set_option maxRecDepth 20000 in
theorem wd_x_X10_oneYear_r5 : GoodIn wsL_law wsX10_oneYear_r5 := (wd_c wd_693 (wd_c wd_694 (wd_c wd_695 (wd_c wd_696 (wd_c wd_697 (wd_c wd_698 (wd_c wd_699 (wd_c wd_700 (wd_c wd_701 (wd_c wd_702 (wd_c wd_703 (wd_c wd_704 (wd_c wd_705 (wd_c wd_706 (wd_c wd_707 (wd_c wd_708 (wd_c wd_709 (wd_c wd_710 (wd_c wd_711 (wd_c wd_712 (wd_c wd_713 (wd_c wd_714 (wd_c wd_715 (wd_c wd_131 wd_n))))))))))))))))))))))))
set_option maxRecDepth 20000 in
theorem wd_x_X10_oneYear_r6 : GoodIn wsL_law wsX10_oneYear_r6 := (wd_c wd_716 (wd_c wd_717 (wd_c wd_718 (wd_c wd_719 (wd_c wd_720 (wd_c wd_721 (wd_c wd_722 (wd_c wd_723 (wd_c wd_949 (wd_c wd_950 (wd_c wd_951 (wd_c wd_952 (wd_c wd_815 (wd_c wd_787 (wd_c wd_788 (wd_c wd_789 (wd_c wd_790 (wd_c wd_791 (wd_c wd_792 (wd_c wd_793 (wd_c wd_816 (wd_c wd_817 (wd_c wd_818 (wd_c wd_819 wd_n))))))))))))))))))))))))
set_option maxRecDepth 20000 in
theorem wd_x_X10_oneYear_r7 : GoodIn wsL_law wsX10_oneYear_r7 := (wd_c wd_820 (wd_c wd_821 (wd_c wd_822 (wd_c wd_823 (wd_c wd_824 (wd_c wd_825 wd_n))))))
set_option maxRecDepth 20000 in
theorem ggL_law_X10_oneYear : GoodIn wsL_law wsX10_oneYear := (wd_c wd_948 (goodIn_app (goodIn_app (goodIn_app (goodIn_app (goodIn_app (goodIn_app wd_x_X10_oneYear_r1 (goodIn_app wd_x_X10_oneYear_r2 (goodIn_app wd_x_X10_oneYear_r3 (goodIn_app wd_x_X10_oneYear_r4 (goodIn_app wd_x_X10_oneYear_r5 (goodIn_app wd_x_X10_oneYear_r6 wd_x_X10_oneYear_r7)))))) wd_kX100) wd_kX80) wd_kX90) wd_kX00) wd_kX20))
theorem gL_law_X10_oneYear : GoodIn wsL_law (wsV RL 138 RX10 yX10_oneYear wsX10_oneYear) := goodIn_app (wd_c wd_945 (wd_c wd_946 (wd_c wd_947 (wd_c wd_2 wd_n)))) ggL_law_X10_oneYear
set_option maxRecDepth 20000 in
theorem wd_x_X11_oneYear_r1 : GoodIn wsL_law wsX11_oneYear_r1 := (wd_c wd_728 (wd_c wd_957 (wd_c wd_958 (wd_c wd_730 (wd_c wd_959 (wd_c wd_522 (wd_c wd_523 (wd_c wd_524 (wd_c wd_5 (wd_c wd_525 (wd_c wd_150 (wd_c wd_192 (wd_c wd_193 (wd_c wd_194 (wd_c wd_526 (wd_c wd_527 (wd_c wd_528 (wd_c wd_529 (wd_c wd_960 (wd_c wd_961 (wd_c wd_962 (wd_c wd_963 (wd_c wd_747 (wd_c wd_964 wd_n))))))))))))))))))))))))
set_option maxRecDepth 20000 in
theorem wd_x_X11_oneYear_r2 : GoodIn wsL_law wsX11_oneYear_r2 := (wd_c wd_162 (wd_c wd_153 (wd_c wd_161 (wd_c wd_731 (wd_c wd_732 (wd_c wd_733 (wd_c wd_734 (wd_c wd_735 (wd_c wd_736 (wd_c wd_737 (wd_c wd_738 (wd_c wd_496 (wd_c wd_497 (wd_c wd_498 (wd_c wd_499 (wd_c wd_739 (wd_c wd_740 (wd_c wd_741 (wd_c wd_742 (wd_c wd_743 (wd_c wd_744 (wd_c wd_745 (wd_c wd_746 (wd_c wd_748 wd_n))))))))))))))))))))))))
set_option maxRecDepth 20000 in
theorem wd_x_X11_oneYear_r3 : GoodIn wsL_law wsX11_oneYear_r3 := (wd_c wd_154 (wd_c wd_749 (wd_c wd_155 (wd_c wd_156 (wd_c wd_157 (wd_c wd_488 (wd_c wd_489 (wd_c wd_490 (wd_c wd_491 (wd_c wd_750 (wd_c wd_751 (wd_c wd_752 (wd_c wd_753 (wd_c wd_754 (wd_c wd_755 (wd_c wd_756 (wd_c wd_757 (wd_c wd_758 (wd_c wd_759 (wd_c wd_760 (wd_c wd_761 (wd_c wd_762 (wd_c wd_763 (wd_c wd_764 wd_n))))))))))))))))))))))))
set_option maxRecDepth 20000 in
theorem wd_x_X11_oneYear_r4 : GoodIn wsL_law wsX11_oneYear_r4 := (wd_c wd_765 (wd_c wd_158 (wd_c wd_766 (wd_c wd_767 (wd_c wd_768 (wd_c wd_769 (wd_c wd_770 (wd_c wd_771 (wd_c wd_772 (wd_c wd_773 (wd_c wd_774 (wd_c wd_775 (wd_c wd_776 (wd_c wd_159 (wd_c wd_806 (wd_c wd_807 (wd_c wd_808 (wd_c wd_809 (wd_c wd_965 (wd_c wd_966 (wd_c wd_967 (wd_c wd_968 (wd_c wd_830 (wd_c wd_831 wd_n))))))))))))))))))))))))
set_option maxRecDepth 20000 in
theorem wd_x_X11_oneYear_r5 : GoodIn wsL_law wsX11_oneYear_r5 := (wd_c wd_832 (wd_c wd_833 (wd_c wd_834 (wd_c wd_835 wd_n))))
set_option maxRecDepth 20000 in
theorem ggL_law_X11_oneYear : GoodIn wsL_law wsX11_oneYear := (wd_c wd_956 (goodIn_app (goodIn_app wd_x_X11_oneYear_r1 (goodIn_app wd_x_X11_oneYear_r2 (goodIn_app wd_x_X11_oneYear_r3 (goodIn_app wd_x_X11_oneYear_r4 wd_x_X11_oneYear_r5)))) wd_kX110))
theorem gL_law_X11_oneYear : GoodIn wsL_law (wsV RL 142 RX11 yX11_oneYear wsX11_oneYear) := goodIn_app (wd_c wd_953 (wd_c wd_954 (wd_c wd_955 (wd_c wd_5 wd_n)))) ggL_law_X11_oneYear
set_option maxRecDepth 20000 in
theorem wd_x_X10_tie_r1 : GoodIn wsL_law wsX10_tie_r1 := (wd_c wd_640 (wd_c wd_16 (wd_c wd_446 (wd_c wd_641 (wd_c wd_642 (wd_c wd_819 (wd_c wd_881 (wd_c wd_882 (wd_c wd_178 (wd_c wd_179 (wd_c wd_2 (wd_c wd_180 (wd_c wd_623 (wd_c wd_624 (wd_c wd_625 (wd_c wd_55 (wd_c wd_626 (wd_c wd_456 (wd_c wd_627 (wd_c wd_515 (wd_c wd_516 (wd_c wd_517 (wd_c wd_84 (wd_c wd_643 wd_n))))))))))))))))))))))))
set_option maxRecDepth 20000 in
theorem wd_x_X10_tie_r2 : GoodIn wsL_law wsX10_tie_r2 := (wd_c wd_644 (wd_c wd_645 (wd_c wd_646 (wd_c wd_39 (wd_c wd_447 (wd_c wd_37 (wd_c wd_647 (wd_c wd_648 (wd_c wd_649 (wd_c wd_59 (wd_c wd_650 (wd_c wd_472 (wd_c wd_95 (wd_c wd_100 (wd_c wd_651 (wd_c wd_652 (wd_c wd_653 (wd_c wd_654 (wd_c wd_655 (wd_c wd_656 (wd_c wd_657 (wd_c wd_36 (wd_c wd_658 (wd_c wd_659 wd_n))))))))))))))))))))))))
set_option maxRecDepth 20000 in
theorem wd_x_X10_tie_r3 : GoodIn wsL_law wsX10_tie_r3 := (wd_c wd_660 (wd_c wd_661 (wd_c wd_662 (wd_c wd_663 (wd_c wd_664 (wd_c wd_665 (wd_c wd_666 (wd_c wd_667 (wd_c wd_668 (wd_c wd_122 (wd_c wd_121 (wd_c wd_123 (wd_c wd_124 (wd_c wd_125 (wd_c wd_126 (wd_c wd_127 (wd_c wd_669 (wd_c wd_670 (wd_c wd_671 (wd_c wd_672 (wd_c wd_673 (wd_c wd_674 (wd_c wd_675 (wd_c wd_676 wd_n))))))))))))))))))))))))
set_option maxRecDepth 20000 in
theorem wd_x_X10_tie_r4 : GoodIn wsL_law wsX10_tie_r4 := (wd_c wd_677 (wd_c wd_678 (wd_c wd_250 (wd_c wd_251 (wd_c wd_252 (wd_c wd_679 (wd_c wd_680 (wd_c wd_681 (wd_c wd_682 (wd_c wd_683 (wd_c wd_684 (wd_c wd_685 (wd_c wd_686 (wd_c wd_687 (wd_c wd_344 (wd_c wd_345 (wd_c wd_688 (wd_c wd_689 (wd_c wd_690 (wd_c wd_691 (wd_c wd_692 (wd_c wd_130 (wd_c wd_133 (wd_c wd_693 wd_n))))))))))))))))))))))))
set_option maxRecDepth 20000 in
theorem wd_x_X10_tie_r5 : GoodIn wsL_law wsX10_tie_r5 := (wd_c wd_694 (wd_c wd_695 (wd_c wd_696 (wd_c wd_697 (wd_c wd_698 (wd_c wd_699 (wd_c wd_700 (wd_c wd_701 (wd_c wd_702 (wd_c wd_703 (wd_c wd_704 (wd_c wd_705 (wd_c wd_706 (wd_c wd_707 (wd_c wd_708 (wd_c wd_709 (wd_c wd_710 (wd_c wd_711 (wd_c wd_712 (wd_c wd_713 (wd_c wd_714 (wd_c wd_715 (wd_c wd_131 (wd_c wd_716 wd_n))))))))))))))))))))))))
set_option maxRecDepth 20000 in
theorem wd_x_X10_tie_r6 : GoodIn wsL_law wsX10_tie_r6 := (wd_c wd_717 (wd_c wd_718 (wd_c wd_719 (wd_c wd_720 (wd_c wd_721 (wd_c wd_722 (wd_c wd_723 (wd_c wd_949 (wd_c wd_950 (wd_c wd_951 (wd_c wd_952 (wd_c wd_815 (wd_c wd_787 (wd_c wd_788 (wd_c wd_789 (wd_c wd_790 (wd_c wd_791 (wd_c wd_792 (wd_c wd_793 wd_n)))))))))))))))))))
set_option maxRecDepth 20000 in
theorem ggL_law_X10_tie : GoodIn wsL_law wsX10_tie := (wd_c wd_972 (goodIn_app (goodIn_app (goodIn_app (goodIn_app (goodIn_app (goodIn_app wd_x_X10_tie_r1 (goodIn_app wd_x_X10_tie_r2 (goodIn_app wd_x_X10_tie_r3 (goodIn_app wd_x_X10_tie_r4 (goodIn_app wd_x_X10_tie_r5 wd_x_X10_tie_r6))))) wd_kX100) wd_kX80) wd_kX90) wd_kX00) wd_kX20))
theorem gL_law_X10_tie : GoodIn wsL_law (wsV RL 143 RX10 yX10_tie wsX10_tie) := goodIn_app (wd_c wd_969 (wd_c wd_970 (wd_c wd_971 (wd_c wd_2 wd_n)))) ggL_law_X10_tie
set_option maxRecDepth 20000 in
theorem wd_x_X11_tie_r1 : GoodIn wsL_law wsX11_tie_r1 := (wd_c wd_220 (wd_c wd_728 (wd_c wd_729 (wd_c wd_958 (wd_c wd_730 (wd_c wd_959 (wd_c wd_964 (wd_c wd_747 (wd_c wd_162 (wd_c wd_153 (wd_c wd_192 (wd_c wd_193 (wd_c wd_5 (wd_c wd_194 (wd_c wd_632 (wd_c wd_633 (wd_c wd_634 (wd_c wd_635 (wd_c wd_150 (wd_c wd_526 (wd_c wd_527 (wd_c wd_528 (wd_c wd_529 (wd_c wd_960 wd_n))))))))))))))))))))))))
set_option maxRecDepth 20000 in
theorem wd_x_X11_tie_r2 : GoodIn wsL_law wsX11_tie_r2 := (wd_c wd_961 (wd_c wd_962 (wd_c wd_963 (wd_c wd_161 (wd_c wd_731 (wd_c wd_732 (wd_c wd_733 (wd_c wd_734 (wd_c wd_735 (wd_c wd_736 (wd_c wd_737 (wd_c wd_738 (wd_c wd_496 (wd_c wd_497 (wd_c wd_498 (wd_c wd_499 (wd_c wd_739 (wd_c wd_740 (wd_c wd_741 (wd_c wd_742 (wd_c wd_743 (wd_c wd_744 (wd_c wd_745 (wd_c wd_746 wd_n))))))))))))))))))))))))
set_option maxRecDepth 20000 in
theorem wd_x_X11_tie_r3 : GoodIn wsL_law wsX11_tie_r3 := (wd_c wd_748 (wd_c wd_154 (wd_c wd_749 (wd_c wd_155 (wd_c wd_156 (wd_c wd_157 (wd_c wd_488 (wd_c wd_489 (wd_c wd_490 (wd_c wd_491 (wd_c wd_750 (wd_c wd_751 (wd_c wd_752 (wd_c wd_753 (wd_c wd_754 (wd_c wd_755 (wd_c wd_756 (wd_c wd_757 (wd_c wd_758 (wd_c wd_759 (wd_c wd_760 (wd_c wd_761 (wd_c wd_762 (wd_c wd_763 wd_n))))))))))))))))))))))))
set_option maxRecDepth 20000 in
theorem wd_x_X11_tie_r4 : GoodIn wsL_law wsX11_tie_r4 := (wd_c wd_764 (wd_c wd_765 (wd_c wd_158 (wd_c wd_766 (wd_c wd_767 (wd_c wd_768 (wd_c wd_769 (wd_c wd_770 (wd_c wd_771 (wd_c wd_772 (wd_c wd_773 (wd_c wd_774 (wd_c wd_775 (wd_c wd_776 (wd_c wd_159 (wd_c wd_806 (wd_c wd_807 (wd_c wd_808 (wd_c wd_809 (wd_c wd_965 (wd_c wd_966 (wd_c wd_967 (wd_c wd_968 wd_n)))))))))))))))))))))))
set_option maxRecDepth 20000 in
theorem ggL_law_X11_tie : GoodIn wsL_law wsX11_tie := (wd_c wd_976 (goodIn_app (goodIn_app wd_x_X11_tie_r1 (goodIn_app wd_x_X11_tie_r2 (goodIn_app wd_x_X11_tie_r3 wd_x_X11_tie_r4))) wd_kX110))
theorem gL_law_X11_tie : GoodIn wsL_law (wsV RL 146 RX11 yX11_tie wsX11_tie) := goodIn_app (wd_c wd_973 (wd_c wd_974 (wd_c wd_975 (wd_c wd_5 wd_n)))) ggL_law_X11_tie
set_option maxRecDepth 20000 in
theorem wd_x_X10_claim_r1 : GoodIn wsL_law wsX10_claim_r1 := (wd_c wd_21 (wd_c wd_29 (wd_c wd_282 (wd_c wd_16 (wd_c wd_617 (wd_c wd_981 (wd_c wd_982 (wd_c wd_983 (wd_c wd_984 (wd_c wd_20 (wd_c wd_985 (wd_c wd_306 (wd_c wd_986 (wd_c wd_307 (wd_c wd_987 (wd_c wd_988 (wd_c wd_989 (wd_c wd_990 (wd_c wd_991 (wd_c wd_992 (wd_c wd_993 (wd_c wd_994 (wd_c wd_995 (wd_c wd_996 wd_n))))))))))))))))))))))))
set_option maxRecDepth 20000 in
theorem wd_x_X10_claim_r2 : GoodIn wsL_law wsX10_claim_r2 := (wd_c wd_315 (wd_c wd_316 (wd_c wd_317 (wd_c wd_318 (wd_c wd_319 (wd_c wd_320 (wd_c wd_321 (wd_c wd_322 (wd_c wd_323 (wd_c wd_113 (wd_c wd_997 (wd_c wd_998 (wd_c wd_999 (wd_c wd_1000 (wd_c wd_1001 (wd_c wd_346 (wd_c wd_347 (wd_c wd_348 (wd_c wd_349 (wd_c wd_331 (wd_c wd_332 (wd_c wd_333 (wd_c wd_334 (wd_c wd_339 wd_n))))))))))))))))))))))))
set_option maxRecDepth 20000 in
theorem wd_x_X10_claim_r3 : GoodIn wsL_law wsX10_claim_r3 := (wd_c wd_340 (wd_c wd_341 (wd_c wd_342 (wd_c wd_343 (wd_c wd_344 (wd_c wd_251 (wd_c wd_345 (wd_c wd_179 (wd_c wd_2 (wd_c wd_180 (wd_c wd_335 (wd_c wd_336 (wd_c wd_337 (wd_c wd_338 (wd_c wd_1002 (wd_c wd_1003 (wd_c wd_1004 (wd_c wd_28 (wd_c wd_1005 (wd_c wd_104 (wd_c wd_105 (wd_c wd_106 (wd_c wd_107 (wd_c wd_108 wd_n))))))))))))))))))))))))
set_option maxRecDepth 20000 in
theorem wd_x_X10_claim_r4 : GoodIn wsL_law wsX10_claim_r4 := (wd_c wd_109 (wd_c wd_1006 (wd_c wd_1007 (wd_c wd_355 (wd_c wd_356 (wd_c wd_357 (wd_c wd_358 (wd_c wd_359 (wd_c wd_360 (wd_c wd_361 wd_n))))))))))
set_option maxRecDepth 20000 in
theorem ggL_law_X10_claim : GoodIn wsL_law wsX10_claim := (wd_c wd_980 (goodIn_app (goodIn_app (goodIn_app (goodIn_app (goodIn_app wd_x_X10_claim_r1 (goodIn_app wd_x_X10_claim_r2 (goodIn_app wd_x_X10_claim_r3 wd_x_X10_claim_r4))) wd_kX100) wd_kX60) wd_kX80) wd_kX10))
theorem gL_law_X10_claim : GoodIn wsL_law (wsV RL 147 RX10 yX10_claim wsX10_claim) := goodIn_app (wd_c wd_977 (wd_c wd_978 (wd_c wd_979 (wd_c wd_2 wd_n)))) ggL_law_X10_claim
set_option maxRecDepth 20000 in
theorem wd_x_X11_claim_r1 : GoodIn wsL_law wsX11_claim_r1 := (wd_c wd_295 (wd_c wd_366 (wd_c wd_150 (wd_c wd_152 (wd_c wd_1012 (wd_c wd_1013 (wd_c wd_1014 (wd_c wd_5 (wd_c wd_1015 (wd_c wd_1016 (wd_c wd_1017 (wd_c wd_1018 (wd_c wd_1019 (wd_c wd_151 (wd_c wd_393 (wd_c wd_394 (wd_c wd_377 (wd_c wd_378 (wd_c wd_379 (wd_c wd_380 (wd_c wd_381 (wd_c wd_382 (wd_c wd_383 (wd_c wd_384 wd_n))))))))))))))))))))))))
set_option maxRecDepth 20000 in
theorem wd_x_X11_claim_r2 : GoodIn wsL_law wsX11_claim_r2 := (wd_c wd_389 (wd_c wd_390 (wd_c wd_391 (wd_c wd_392 (wd_c wd_192 (wd_c wd_193 (wd_c wd_194 wd_n)))))))
set_option maxRecDepth 20000 in
theorem ggL_law_X11_claim : GoodIn wsL_law wsX11_claim := (wd_c wd_1011 (goodIn_app (goodIn_app wd_x_X11_claim_r1 wd_x_X11_claim_r2) wd_kX110))
theorem gL_law_X11_claim : GoodIn wsL_law (wsV RL 150 RX11 yX11_claim wsX11_claim) := goodIn_app (wd_c wd_1008 (wd_c wd_1009 (wd_c wd_1010 (wd_c wd_5 wd_n)))) ggL_law_X11_claim
set_option maxRecDepth 20000 in
theorem wd_x_X10_chance_r1 : GoodIn wsL_law wsX10_chance_r1 := (wd_c wd_640 (wd_c wd_16 (wd_c wd_446 (wd_c wd_641 (wd_c wd_642 (wd_c wd_819 (wd_c wd_43 (wd_c wd_981 (wd_c wd_1024 (wd_c wd_1025 (wd_c wd_1026 (wd_c wd_2 (wd_c wd_1027 (wd_c wd_617 (wd_c wd_178 (wd_c wd_179 (wd_c wd_180 (wd_c wd_449 (wd_c wd_450 (wd_c wd_451 (wd_c wd_623 (wd_c wd_624 (wd_c wd_625 (wd_c wd_55 wd_n))))))))))))))))))))))))
set_option maxRecDepth 20000 in
theorem wd_x_X10_chance_r2 : GoodIn wsL_law wsX10_chance_r2 := (wd_c wd_626 (wd_c wd_456 (wd_c wd_627 (wd_c wd_515 (wd_c wd_516 (wd_c wd_517 (wd_c wd_84 (wd_c wd_643 (wd_c wd_644 (wd_c wd_645 (wd_c wd_646 (wd_c wd_39 (wd_c wd_447 (wd_c wd_37 (wd_c wd_647 (wd_c wd_648 (wd_c wd_649 (wd_c wd_59 (wd_c wd_650 (wd_c wd_472 (wd_c wd_95 (wd_c wd_100 (wd_c wd_651 (wd_c wd_652 wd_n))))))))))))))))))))))))
set_option maxRecDepth 20000 in
theorem wd_x_X10_chance_r3 : GoodIn wsL_law wsX10_chance_r3 := (wd_c wd_653 (wd_c wd_654 (wd_c wd_655 (wd_c wd_656 (wd_c wd_657 (wd_c wd_36 (wd_c wd_658 (wd_c wd_659 (wd_c wd_660 (wd_c wd_661 (wd_c wd_662 (wd_c wd_663 (wd_c wd_664 (wd_c wd_665 (wd_c wd_666 (wd_c wd_667 (wd_c wd_668 (wd_c wd_122 (wd_c wd_121 (wd_c wd_123 (wd_c wd_124 (wd_c wd_125 (wd_c wd_126 (wd_c wd_127 wd_n))))))))))))))))))))))))
set_option maxRecDepth 20000 in
theorem wd_x_X10_chance_r4 : GoodIn wsL_law wsX10_chance_r4 := (wd_c wd_669 (wd_c wd_670 (wd_c wd_671 (wd_c wd_672 (wd_c wd_673 (wd_c wd_674 (wd_c wd_675 (wd_c wd_676 (wd_c wd_677 (wd_c wd_678 (wd_c wd_250 (wd_c wd_251 (wd_c wd_252 (wd_c wd_679 (wd_c wd_680 (wd_c wd_681 (wd_c wd_682 (wd_c wd_683 (wd_c wd_684 (wd_c wd_685 (wd_c wd_686 (wd_c wd_687 (wd_c wd_344 (wd_c wd_345 wd_n))))))))))))))))))))))))
set_option maxRecDepth 20000 in
theorem wd_x_X10_chance_r5 : GoodIn wsL_law wsX10_chance_r5 := (wd_c wd_688 (wd_c wd_689 (wd_c wd_690 (wd_c wd_691 (wd_c wd_692 (wd_c wd_130 (wd_c wd_133 (wd_c wd_693 (wd_c wd_694 (wd_c wd_695 (wd_c wd_696 (wd_c wd_697 (wd_c wd_698 (wd_c wd_699 (wd_c wd_700 (wd_c wd_701 (wd_c wd_702 (wd_c wd_703 (wd_c wd_704 (wd_c wd_705 (wd_c wd_706 (wd_c wd_707 (wd_c wd_708 (wd_c wd_709 wd_n))))))))))))))))))))))))
set_option maxRecDepth 20000 in
theorem wd_x_X10_chance_r6 : GoodIn wsL_law wsX10_chance_r6 := (wd_c wd_710 (wd_c wd_711 (wd_c wd_712 (wd_c wd_713 (wd_c wd_714 (wd_c wd_715 (wd_c wd_131 (wd_c wd_716 (wd_c wd_717 (wd_c wd_718 (wd_c wd_719 (wd_c wd_720 (wd_c wd_721 (wd_c wd_722 (wd_c wd_723 (wd_c wd_1028 (wd_c wd_1029 (wd_c wd_1030 (wd_c wd_42 (wd_c wd_1031 (wd_c wd_1032 (wd_c wd_144 (wd_c wd_1033 (wd_c wd_1034 wd_n))))))))))))))))))))))))
set_option maxRecDepth 20000 in
theorem wd_x_X10_chance_r7 : GoodIn wsL_law wsX10_chance_r7 := (wd_c wd_143 (wd_c wd_1035 (wd_c wd_1036 (wd_c wd_1037 (wd_c wd_1038 (wd_c wd_139 (wd_c wd_1039 (wd_c wd_140 (wd_c wd_141 (wd_c wd_1040 (wd_c wd_1041 (wd_c wd_142 (wd_c wd_1042 (wd_c wd_1043 (wd_c wd_1044 (wd_c wd_1045 (wd_c wd_1046 (wd_c wd_1047 (wd_c wd_1048 (wd_c wd_1049 (wd_c wd_1050 (wd_c wd_1051 (wd_c wd_28 (wd_c wd_1052 wd_n))))))))))))))))))))))))
set_option maxRecDepth 20000 in
theorem wd_x_X10_chance_r8 : GoodIn wsL_law wsX10_chance_r8 := (wd_c wd_104 (wd_c wd_1053 (wd_c wd_105 (wd_c wd_1054 (wd_c wd_1055 (wd_c wd_1056 (wd_c wd_1057 (wd_c wd_1058 (wd_c wd_1059 (wd_c wd_1060 (wd_c wd_1061 (wd_c wd_1062 (wd_c wd_1063 (wd_c wd_1064 (wd_c wd_1065 (wd_c wd_1066 (wd_c wd_1067 (wd_c wd_1068 (wd_c wd_1069 (wd_c wd_1070 (wd_c wd_1071 (wd_c wd_1072 (wd_c wd_1073 (wd_c wd_1074 wd_n))))))))))))))))))))))))
set_option maxRecDepth 20000 in
theorem wd_x_X10_chance_r9 : GoodIn wsL_law wsX10_chance_r9 := (wd_c wd_145 (wd_c wd_1075 (wd_c wd_1076 (wd_c wd_1077 (wd_c wd_1078 (wd_c wd_1079 (wd_c wd_359 (wd_c wd_360 (wd_c wd_361 (wd_c wd_1080 (wd_c wd_1081 (wd_c wd_1082 (wd_c wd_1083 (wd_c wd_1084 (wd_c wd_1085 (wd_c wd_1086 (wd_c wd_1087 (wd_c wd_1088 (wd_c wd_108 (wd_c wd_109 (wd_c wd_1006 (wd_c wd_1007 (wd_c wd_816 (wd_c wd_817 wd_n))))))))))))))))))))))))
set_option maxRecDepth 20000 in
theorem wd_x_X10_chance_r10 : GoodIn wsL_law wsX10_chance_r10 := (wd_c wd_818 (wd_c wd_820 (wd_c wd_821 (wd_c wd_822 (wd_c wd_823 (wd_c wd_824 (wd_c wd_825 wd_n)))))))
set_option maxRecDepth 20000 in
theorem ggL_law_X10_chance : GoodIn wsL_law wsX10_chance := (wd_c wd_1023 (goodIn_app (goodIn_app (goodIn_app (goodIn_app (goodIn_app (goodIn_app (goodIn_app (goodIn_app wd_x_X10_chance_r1 (goodIn_app wd_x_X10_chance_r2 (goodIn_app wd_x_X10_chance_r3 (goodIn_app wd_x_X10_chance_r4 (goodIn_app wd_x_X10_chance_r5 (goodIn_app wd_x_X10_chance_r6 (goodIn_app wd_x_X10_chance_r7 (goodIn_app wd_x_X10_chance_r8 (goodIn_app wd_x_X10_chance_r9 wd_x_X10_chance_r10))))))))) wd_kX100) wd_kX80) wd_kX90) wd_kX00) wd_kX20) wd_kX50) wd_kX10))
theorem gL_law_X10_chance : GoodIn wsL_law (wsV RL 151 RX10 yX10_chance wsX10_chance) := goodIn_app (wd_c wd_1020 (wd_c wd_1021 (wd_c wd_1022 (wd_c wd_2 wd_n)))) ggL_law_X10_chance
set_option maxRecDepth 20000 in
theorem wd_x_X11_chance_r1 : GoodIn wsL_law wsX11_chance_r1 := (wd_c wd_728 (wd_c wd_730 (wd_c wd_1093 (wd_c wd_1094 (wd_c wd_1095 (wd_c wd_5 (wd_c wd_1096 (wd_c wd_150 (wd_c wd_192 (wd_c wd_193 (wd_c wd_194 (wd_c wd_481 (wd_c wd_482 (wd_c wd_483 (wd_c wd_892 (wd_c wd_893 (wd_c wd_894 (wd_c wd_895 (wd_c wd_632 (wd_c wd_633 (wd_c wd_634 (wd_c wd_635 (wd_c wd_526 (wd_c wd_527 wd_n))))))))))))))))))))))))
set_option maxRecDepth 20000 in
theorem wd_x_X11_chance_r2 : GoodIn wsL_law wsX11_chance_r2 := (wd_c wd_528 (wd_c wd_529 (wd_c wd_731 (wd_c wd_732 (wd_c wd_733 (wd_c wd_734 (wd_c wd_735 (wd_c wd_736 (wd_c wd_737 (wd_c wd_738 (wd_c wd_496 (wd_c wd_497 (wd_c wd_498 (wd_c wd_499 (wd_c wd_739 (wd_c wd_740 (wd_c wd_741 (wd_c wd_742 (wd_c wd_743 (wd_c wd_744 (wd_c wd_745 (wd_c wd_746 (wd_c wd_747 (wd_c wd_748 wd_n))))))))))))))))))))))))
set_option maxRecDepth 20000 in
theorem wd_x_X11_chance_r3 : GoodIn wsL_law wsX11_chance_r3 := (wd_c wd_153 (wd_c wd_154 (wd_c wd_749 (wd_c wd_155 (wd_c wd_156 (wd_c wd_157 (wd_c wd_488 (wd_c wd_489 (wd_c wd_490 (wd_c wd_491 (wd_c wd_750 (wd_c wd_751 (wd_c wd_752 (wd_c wd_753 (wd_c wd_754 (wd_c wd_755 (wd_c wd_756 (wd_c wd_757 (wd_c wd_758 (wd_c wd_759 (wd_c wd_760 (wd_c wd_761 (wd_c wd_762 (wd_c wd_763 wd_n))))))))))))))))))))))))
set_option maxRecDepth 20000 in
theorem wd_x_X11_chance_r4 : GoodIn wsL_law wsX11_chance_r4 := (wd_c wd_764 (wd_c wd_765 (wd_c wd_158 (wd_c wd_766 (wd_c wd_767 (wd_c wd_768 (wd_c wd_769 (wd_c wd_770 (wd_c wd_771 (wd_c wd_772 (wd_c wd_773 (wd_c wd_774 (wd_c wd_775 (wd_c wd_776 (wd_c wd_159 (wd_c wd_1097 (wd_c wd_1098 (wd_c wd_1099 (wd_c wd_1100 (wd_c wd_164 (wd_c wd_163 (wd_c wd_1101 (wd_c wd_1102 (wd_c wd_1103 wd_n))))))))))))))))))))))))
set_option maxRecDepth 20000 in
theorem wd_x_X11_chance_r5 : GoodIn wsL_law wsX11_chance_r5 := (wd_c wd_1104 (wd_c wd_1105 (wd_c wd_1106 (wd_c wd_1107 (wd_c wd_1108 (wd_c wd_1109 (wd_c wd_1110 (wd_c wd_1111 (wd_c wd_1112 (wd_c wd_567 (wd_c wd_568 (wd_c wd_569 (wd_c wd_570 (wd_c wd_1113 (wd_c wd_1114 (wd_c wd_1115 (wd_c wd_1116 (wd_c wd_1117 (wd_c wd_1118 (wd_c wd_1119 (wd_c wd_1120 (wd_c wd_1121 (wd_c wd_1122 (wd_c wd_1123 wd_n))))))))))))))))))))))))
set_option maxRecDepth 20000 in
theorem wd_x_X11_chance_r6 : GoodIn wsL_law wsX11_chance_r6 := (wd_c wd_1124 (wd_c wd_1125 (wd_c wd_1126 (wd_c wd_1127 (wd_c wd_1128 (wd_c wd_1129 (wd_c wd_1130 (wd_c wd_1131 (wd_c wd_830 (wd_c wd_831 (wd_c wd_832 (wd_c wd_833 (wd_c wd_834 (wd_c wd_835 wd_n))))))))))))))
set_option maxRecDepth 20000 in
theorem ggL_law_X11_chance : GoodIn wsL_law wsX11_chance := (wd_c wd_1092 (goodIn_app (goodIn_app wd_x_X11_chance_r1 (goodIn_app wd_x_X11_chance_r2 (goodIn_app wd_x_X11_chance_r3 (goodIn_app wd_x_X11_chance_r4 (goodIn_app wd_x_X11_chance_r5 wd_x_X11_chance_r6))))) wd_kX110))
theorem gL_law_X11_chance : GoodIn wsL_law (wsV RL 154 RX11 yX11_chance wsX11_chance) := goodIn_app (wd_c wd_1089 (wd_c wd_1090 (wd_c wd_1091 (wd_c wd_5 wd_n)))) ggL_law_X11_chance
set_option maxRecDepth 20000 in
theorem wd_x_X10_holds_r1 : GoodIn wsL_law wsX10_holds_r1 := (wd_c wd_16 (wd_c wd_446 (wd_c wd_508 (wd_c wd_981 (wd_c wd_1024 (wd_c wd_1025 (wd_c wd_1026 (wd_c wd_2 (wd_c wd_1027 (wd_c wd_617 (wd_c wd_178 (wd_c wd_179 (wd_c wd_180 (wd_c wd_449 (wd_c wd_450 (wd_c wd_451 (wd_c wd_1136 (wd_c wd_1137 (wd_c wd_1138 (wd_c wd_28 (wd_c wd_1139 (wd_c wd_1140 (wd_c wd_1141 (wd_c wd_106 wd_n))))))))))))))))))))))))
set_option maxRecDepth 20000 in
theorem wd_x_X10_holds_r2 : GoodIn wsL_law wsX10_holds_r2 := (wd_c wd_107 (wd_c wd_1142 (wd_c wd_1050 (wd_c wd_1051 (wd_c wd_1052 (wd_c wd_104 (wd_c wd_1053 (wd_c wd_105 (wd_c wd_1054 (wd_c wd_1055 (wd_c wd_515 (wd_c wd_516 (wd_c wd_55 (wd_c wd_517 (wd_c wd_84 (wd_c wd_1143 (wd_c wd_1086 (wd_c wd_1087 (wd_c wd_1088 (wd_c wd_108 (wd_c wd_109 (wd_c wd_1006 (wd_c wd_1007 wd_n)))))))))))))))))))))))
set_option maxRecDepth 20000 in
theorem ggL_law_X10_holds : GoodIn wsL_law wsX10_holds := (wd_c wd_1135 (goodIn_app (goodIn_app (goodIn_app (goodIn_app (goodIn_app wd_x_X10_holds_r1 wd_x_X10_holds_r2) wd_kX100) wd_kX80) wd_kX00) wd_kX10))
theorem gL_law_X10_holds : GoodIn wsL_law (wsV RL 155 RX10 yX10_holds wsX10_holds) := goodIn_app (wd_c wd_1132 (wd_c wd_1133 (wd_c wd_1134 (wd_c wd_2 wd_n)))) ggL_law_X10_holds
set_option maxRecDepth 20000 in
theorem wd_x_X11_holds_r1 : GoodIn wsL_law wsX11_holds_r1 := (wd_c wd_150 (wd_c wd_1093 (wd_c wd_1094 (wd_c wd_1095 (wd_c wd_5 (wd_c wd_1096 (wd_c wd_192 (wd_c wd_193 (wd_c wd_194 (wd_c wd_481 (wd_c wd_482 (wd_c wd_483 (wd_c wd_526 (wd_c wd_527 (wd_c wd_528 (wd_c wd_529 (wd_c wd_1109 (wd_c wd_1110 (wd_c wd_1111 (wd_c wd_1112 (wd_c wd_567 (wd_c wd_568 (wd_c wd_569 (wd_c wd_570 wd_n))))))))))))))))))))))))
set_option maxRecDepth 20000 in
theorem wd_x_X11_holds_r2 : GoodIn wsL_law wsX11_holds_r2 := (wd_c wd_1124 (wd_c wd_1125 (wd_c wd_1126 (wd_c wd_1127 (wd_c wd_1128 (wd_c wd_1129 (wd_c wd_1130 (wd_c wd_1131 wd_n))))))))
set_option maxRecDepth 20000 in
theorem ggL_law_X11_holds : GoodIn wsL_law wsX11_holds := (wd_c wd_1147 (goodIn_app (goodIn_app wd_x_X11_holds_r1 wd_x_X11_holds_r2) wd_kX110))
theorem gL_law_X11_holds : GoodIn wsL_law (wsV RL 158 RX11 yX11_holds wsX11_holds) := goodIn_app (wd_c wd_1144 (wd_c wd_1145 (wd_c wd_1146 (wd_c wd_5 wd_n)))) ggL_law_X11_holds
set_option maxRecDepth 20000 in
theorem wd_x_X10_looked_r1 : GoodIn wsL_law wsX10_looked_r1 := (wd_c wd_16 (wd_c wd_446 (wd_c wd_642 (wd_c wd_981 (wd_c wd_43 (wd_c wd_1024 (wd_c wd_1025 (wd_c wd_1026 (wd_c wd_2 (wd_c wd_1027 (wd_c wd_617 (wd_c wd_178 (wd_c wd_179 (wd_c wd_180 (wd_c wd_449 (wd_c wd_450 (wd_c wd_451 (wd_c wd_623 (wd_c wd_624 (wd_c wd_625 (wd_c wd_55 (wd_c wd_626 (wd_c wd_456 (wd_c wd_627 wd_n))))))))))))))))))))))))
set_option maxRecDepth 20000 in
theorem wd_x_X10_looked_r2 : GoodIn wsL_law wsX10_looked_r2 := (wd_c wd_515 (wd_c wd_516 (wd_c wd_517 (wd_c wd_84 (wd_c wd_643 (wd_c wd_644 (wd_c wd_645 (wd_c wd_646 (wd_c wd_39 (wd_c wd_447 (wd_c wd_37 (wd_c wd_647 (wd_c wd_648 (wd_c wd_649 (wd_c wd_59 (wd_c wd_650 (wd_c wd_472 (wd_c wd_95 (wd_c wd_100 (wd_c wd_651 (wd_c wd_652 (wd_c wd_653 (wd_c wd_654 (wd_c wd_655 wd_n))))))))))))))))))))))))
set_option maxRecDepth 20000 in
theorem wd_x_X10_looked_r3 : GoodIn wsL_law wsX10_looked_r3 := (wd_c wd_656 (wd_c wd_657 (wd_c wd_36 (wd_c wd_658 (wd_c wd_659 (wd_c wd_660 (wd_c wd_661 (wd_c wd_662 (wd_c wd_663 (wd_c wd_664 (wd_c wd_665 (wd_c wd_666 (wd_c wd_667 (wd_c wd_668 (wd_c wd_122 (wd_c wd_121 (wd_c wd_123 (wd_c wd_124 (wd_c wd_125 (wd_c wd_126 (wd_c wd_127 (wd_c wd_669 (wd_c wd_670 (wd_c wd_671 wd_n))))))))))))))))))))))))
set_option maxRecDepth 20000 in
theorem wd_x_X10_looked_r4 : GoodIn wsL_law wsX10_looked_r4 := (wd_c wd_672 (wd_c wd_673 (wd_c wd_674 (wd_c wd_675 (wd_c wd_676 (wd_c wd_677 (wd_c wd_678 (wd_c wd_250 (wd_c wd_251 (wd_c wd_252 (wd_c wd_679 (wd_c wd_680 (wd_c wd_681 (wd_c wd_682 (wd_c wd_683 (wd_c wd_684 (wd_c wd_685 (wd_c wd_686 (wd_c wd_687 (wd_c wd_344 (wd_c wd_345 (wd_c wd_688 (wd_c wd_689 (wd_c wd_690 wd_n))))))))))))))))))))))))
set_option maxRecDepth 20000 in
theorem wd_x_X10_looked_r5 : GoodIn wsL_law wsX10_looked_r5 := (wd_c wd_691 (wd_c wd_692 (wd_c wd_130 (wd_c wd_133 (wd_c wd_693 (wd_c wd_694 (wd_c wd_695 (wd_c wd_696 (wd_c wd_697 (wd_c wd_698 (wd_c wd_699 (wd_c wd_700 (wd_c wd_701 (wd_c wd_702 (wd_c wd_703 (wd_c wd_704 (wd_c wd_705 (wd_c wd_706 (wd_c wd_707 (wd_c wd_708 (wd_c wd_709 (wd_c wd_710 (wd_c wd_711 (wd_c wd_712 wd_n))))))))))))))))))))))))
set_option maxRecDepth 20000 in
theorem wd_x_X10_looked_r6 : GoodIn wsL_law wsX10_looked_r6 := (wd_c wd_713 (wd_c wd_714 (wd_c wd_715 (wd_c wd_131 (wd_c wd_716 (wd_c wd_717 (wd_c wd_718 (wd_c wd_719 (wd_c wd_720 (wd_c wd_721 (wd_c wd_722 (wd_c wd_723 (wd_c wd_1152 (wd_c wd_1153 (wd_c wd_1154 (wd_c wd_28 (wd_c wd_1155 (wd_c wd_1006 (wd_c wd_107 (wd_c wd_1156 (wd_c wd_1028 (wd_c wd_1029 (wd_c wd_1030 (wd_c wd_42 wd_n))))))))))))))))))))))))
set_option maxRecDepth 20000 in
theorem wd_x_X10_looked_r7 : GoodIn wsL_law wsX10_looked_r7 := (wd_c wd_1031 (wd_c wd_1032 (wd_c wd_144 (wd_c wd_1033 (wd_c wd_1034 (wd_c wd_143 (wd_c wd_1035 (wd_c wd_1036 (wd_c wd_1037 (wd_c wd_1038 (wd_c wd_139 (wd_c wd_1039 (wd_c wd_140 (wd_c wd_141 (wd_c wd_1040 (wd_c wd_1041 (wd_c wd_142 (wd_c wd_1042 (wd_c wd_1043 (wd_c wd_1044 (wd_c wd_1045 (wd_c wd_1046 (wd_c wd_1047 (wd_c wd_1048 wd_n))))))))))))))))))))))))
set_option maxRecDepth 20000 in
theorem wd_x_X10_looked_r8 : GoodIn wsL_law wsX10_looked_r8 := (wd_c wd_1049 (wd_c wd_1050 (wd_c wd_1051 (wd_c wd_1052 (wd_c wd_104 (wd_c wd_1053 (wd_c wd_105 (wd_c wd_1054 (wd_c wd_1055 (wd_c wd_1056 (wd_c wd_1057 (wd_c wd_1058 (wd_c wd_1059 (wd_c wd_1060 (wd_c wd_1061 (wd_c wd_1062 (wd_c wd_1063 (wd_c wd_1064 (wd_c wd_1065 (wd_c wd_1066 (wd_c wd_1067 (wd_c wd_1068 (wd_c wd_1069 (wd_c wd_1070 wd_n))))))))))))))))))))))))
set_option maxRecDepth 20000 in
theorem wd_x_X10_looked_r9 : GoodIn wsL_law wsX10_looked_r9 := (wd_c wd_1071 (wd_c wd_1072 (wd_c wd_1073 (wd_c wd_1074 (wd_c wd_145 (wd_c wd_1075 (wd_c wd_1076 (wd_c wd_1077 (wd_c wd_1078 (wd_c wd_1079 (wd_c wd_359 (wd_c wd_360 (wd_c wd_361 (wd_c wd_1080 (wd_c wd_1081 (wd_c wd_1082 (wd_c wd_1083 (wd_c wd_1084 (wd_c wd_1085 (wd_c wd_1086 (wd_c wd_1087 (wd_c wd_1088 (wd_c wd_108 (wd_c wd_109 wd_n))))))))))))))))))))))))
set_option maxRecDepth 20000 in
theorem wd_x_X10_looked_r10 : GoodIn wsL_law wsX10_looked_r10 := (wd_c wd_1007 wd_n)
set_option maxRecDepth 20000 in
theorem ggL_law_X10_looked : GoodIn wsL_law wsX10_looked := (wd_c wd_1151 (goodIn_app (goodIn_app (goodIn_app (goodIn_app (goodIn_app (goodIn_app (goodIn_app (goodIn_app wd_x_X10_looked_r1 (goodIn_app wd_x_X10_looked_r2 (goodIn_app wd_x_X10_looked_r3 (goodIn_app wd_x_X10_looked_r4 (goodIn_app wd_x_X10_looked_r5 (goodIn_app wd_x_X10_looked_r6 (goodIn_app wd_x_X10_looked_r7 (goodIn_app wd_x_X10_looked_r8 (goodIn_app wd_x_X10_looked_r9 wd_x_X10_looked_r10))))))))) wd_kX100) wd_kX80) wd_kX90) wd_kX00) wd_kX20) wd_kX10) wd_kX50))
theorem gL_law_X10_looked : GoodIn wsL_law (wsV RL 159 RX10 yX10_looked wsX10_looked) := goodIn_app (wd_c wd_1148 (wd_c wd_1149 (wd_c wd_1150 (wd_c wd_2 wd_n)))) ggL_law_X10_looked
set_option maxRecDepth 20000 in
theorem wd_x_X11_looked_r1 : GoodIn wsL_law wsX11_looked_r1 := (wd_c wd_1161 (wd_c wd_150 (wd_c wd_730 (wd_c wd_1093 (wd_c wd_1094 (wd_c wd_1095 (wd_c wd_5 (wd_c wd_1096 (wd_c wd_192 (wd_c wd_193 (wd_c wd_194 (wd_c wd_481 (wd_c wd_482 (wd_c wd_483 (wd_c wd_892 (wd_c wd_893 (wd_c wd_894 (wd_c wd_895 (wd_c wd_632 (wd_c wd_633 (wd_c wd_634 (wd_c wd_635 (wd_c wd_526 (wd_c wd_527 wd_n))))))))))))))))))))))))
set_option maxRecDepth 20000 in
theorem wd_x_X11_looked_r2 : GoodIn wsL_law wsX11_looked_r2 := (wd_c wd_528 (wd_c wd_529 (wd_c wd_731 (wd_c wd_732 (wd_c wd_733 (wd_c wd_734 (wd_c wd_735 (wd_c wd_736 (wd_c wd_737 (wd_c wd_738 (wd_c wd_496 (wd_c wd_497 (wd_c wd_498 (wd_c wd_499 (wd_c wd_739 (wd_c wd_740 (wd_c wd_741 (wd_c wd_742 (wd_c wd_743 (wd_c wd_744 (wd_c wd_745 (wd_c wd_746 (wd_c wd_747 (wd_c wd_748 wd_n))))))))))))))))))))))))
set_option maxRecDepth 20000 in
theorem wd_x_X11_looked_r3 : GoodIn wsL_law wsX11_looked_r3 := (wd_c wd_153 (wd_c wd_154 (wd_c wd_749 (wd_c wd_155 (wd_c wd_156 (wd_c wd_157 (wd_c wd_488 (wd_c wd_489 (wd_c wd_490 (wd_c wd_491 (wd_c wd_750 (wd_c wd_751 (wd_c wd_752 (wd_c wd_753 (wd_c wd_754 (wd_c wd_755 (wd_c wd_756 (wd_c wd_757 (wd_c wd_758 (wd_c wd_759 (wd_c wd_760 (wd_c wd_761 (wd_c wd_762 (wd_c wd_763 wd_n))))))))))))))))))))))))
set_option maxRecDepth 20000 in
theorem wd_x_X11_looked_r4 : GoodIn wsL_law wsX11_looked_r4 := (wd_c wd_764 (wd_c wd_765 (wd_c wd_158 (wd_c wd_766 (wd_c wd_767 (wd_c wd_768 (wd_c wd_769 (wd_c wd_770 (wd_c wd_771 (wd_c wd_772 (wd_c wd_773 (wd_c wd_774 (wd_c wd_775 (wd_c wd_776 (wd_c wd_159 (wd_c wd_1097 (wd_c wd_1098 (wd_c wd_1099 (wd_c wd_1100 (wd_c wd_164 (wd_c wd_163 (wd_c wd_1101 (wd_c wd_1102 (wd_c wd_1103 wd_n))))))))))))))))))))))))
set_option maxRecDepth 20000 in
theorem wd_x_X11_looked_r5 : GoodIn wsL_law wsX11_looked_r5 := (wd_c wd_1104 (wd_c wd_1105 (wd_c wd_1106 (wd_c wd_1107 (wd_c wd_1108 (wd_c wd_1109 (wd_c wd_1110 (wd_c wd_1111 (wd_c wd_1112 (wd_c wd_567 (wd_c wd_568 (wd_c wd_569 (wd_c wd_570 (wd_c wd_1113 (wd_c wd_1114 (wd_c wd_1115 (wd_c wd_1116 (wd_c wd_1117 (wd_c wd_1118 (wd_c wd_1119 (wd_c wd_1120 (wd_c wd_1121 (wd_c wd_1122 (wd_c wd_1123 wd_n))))))))))))))))))))))))
set_option maxRecDepth 20000 in
theorem wd_x_X11_looked_r6 : GoodIn wsL_law wsX11_looked_r6 := (wd_c wd_1124 (wd_c wd_1125 (wd_c wd_1126 (wd_c wd_1127 (wd_c wd_1128 (wd_c wd_1129 (wd_c wd_1130 (wd_c wd_1131 wd_n))))))))
set_option maxRecDepth 20000 in
theorem ggL_law_X11_looked : GoodIn wsL_law wsX11_looked := (wd_c wd_1160 (goodIn_app (goodIn_app wd_x_X11_looked_r1 (goodIn_app wd_x_X11_looked_r2 (goodIn_app wd_x_X11_looked_r3 (goodIn_app wd_x_X11_looked_r4 (goodIn_app wd_x_X11_looked_r5 wd_x_X11_looked_r6))))) wd_kX110))
theorem gL_law_X11_looked : GoodIn wsL_law (wsV RL 162 RX11 yX11_looked wsX11_looked) := goodIn_app (wd_c wd_1157 (wd_c wd_1158 (wd_c wd_1159 (wd_c wd_5 wd_n)))) ggL_law_X11_looked
set_option maxRecDepth 20000 in
theorem ggL_law_X10_cause : GoodIn wsL_law wsX10_cause := (wd_c wd_1165 (goodIn_app (goodIn_app (wd_c wd_16 (wd_c wd_618 (wd_c wd_1166 (wd_c wd_1167 (wd_c wd_178 (wd_c wd_179 (wd_c wd_2 (wd_c wd_180 wd_n)))))))) wd_kX100) wd_kX80))
theorem gL_law_X10_cause : GoodIn wsL_law (wsV RL 163 RX10 yX10_cause wsX10_cause) := goodIn_app (wd_c wd_1162 (wd_c wd_1163 (wd_c wd_1164 (wd_c wd_2 wd_n)))) ggL_law_X10_cause
set_option maxRecDepth 20000 in
theorem ggL_law_X11_cause : GoodIn wsL_law wsX11_cause := (wd_c wd_1171 (goodIn_app (wd_c wd_1172 (wd_c wd_1173 (wd_c wd_150 (wd_c wd_192 (wd_c wd_193 (wd_c wd_5 (wd_c wd_194 wd_n))))))) wd_kX110))
theorem gL_law_X11_cause : GoodIn wsL_law (wsV RL 166 RX11 yX11_cause wsX11_cause) := goodIn_app (wd_c wd_1168 (wd_c wd_1169 (wd_c wd_1170 (wd_c wd_5 wd_n)))) ggL_law_X11_cause
set_option maxRecDepth 20000 in
theorem wd_x_X10_says_r1 : GoodIn wsL_law wsX10_says_r1 := (wd_c wd_16 (wd_c wd_446 (wd_c wd_561 (wd_c wd_562 (wd_c wd_618 (wd_c wd_840 (wd_c wd_841 (wd_c wd_842 (wd_c wd_2 (wd_c wd_843 (wd_c wd_510 (wd_c wd_511 (wd_c wd_512 (wd_c wd_513 (wd_c wd_448 (wd_c wd_449 (wd_c wd_450 (wd_c wd_451 (wd_c wd_178 (wd_c wd_179 (wd_c wd_180 (wd_c wd_1178 (wd_c wd_1179 (wd_c wd_1180 wd_n))))))))))))))))))))))))
set_option maxRecDepth 20000 in
theorem wd_x_X10_says_r2 : GoodIn wsL_law wsX10_says_r2 := (wd_c wd_15 (wd_c wd_1181 (wd_c wd_1182 (wd_c wd_64 (wd_c wd_65 (wd_c wd_900 (wd_c wd_901 (wd_c wd_412 (wd_c wd_902 (wd_c wd_903 (wd_c wd_904 (wd_c wd_905 wd_n))))))))))))
set_option maxRecDepth 20000 in
theorem ggL_law_X10_says : GoodIn wsL_law wsX10_says := (wd_c wd_1177 (goodIn_app (goodIn_app (goodIn_app (goodIn_app wd_x_X10_says_r1 wd_x_X10_says_r2) wd_kX100) wd_kX80) wd_kX00))
theorem gL_law_X10_says : GoodIn wsL_law (wsV RL 167 RX10 yX10_says wsX10_says) := goodIn_app (wd_c wd_1174 (wd_c wd_1175 (wd_c wd_1176 (wd_c wd_2 wd_n)))) ggL_law_X10_says
set_option maxRecDepth 20000 in
theorem wd_x_X11_says_r1 : GoodIn wsL_law wsX11_says_r1 := (wd_c wd_220 (wd_c wd_150 (wd_c wd_481 (wd_c wd_482 (wd_c wd_5 (wd_c wd_483 (wd_c wd_192 (wd_c wd_193 (wd_c wd_194 (wd_c wd_522 (wd_c wd_523 (wd_c wd_524 (wd_c wd_525 (wd_c wd_526 (wd_c wd_527 (wd_c wd_528 (wd_c wd_529 (wd_c wd_567 (wd_c wd_568 (wd_c wd_569 (wd_c wd_570 (wd_c wd_1187 (wd_c wd_1188 (wd_c wd_1189 wd_n))))))))))))))))))))))))
set_option maxRecDepth 20000 in
theorem wd_x_X11_says_r2 : GoodIn wsL_law wsX11_says_r2 := (wd_c wd_1190 (wd_c wd_910 (wd_c wd_911 (wd_c wd_912 wd_n))))
set_option maxRecDepth 20000 in
theorem ggL_law_X11_says : GoodIn wsL_law wsX11_says := (wd_c wd_1186 (goodIn_app (goodIn_app wd_x_X11_says_r1 wd_x_X11_says_r2) wd_kX110))
theorem gL_law_X11_says : GoodIn wsL_law (wsV RL 170 RX11 yX11_says wsX11_says) := goodIn_app (wd_c wd_1183 (wd_c wd_1184 (wd_c wd_1185 (wd_c wd_5 wd_n)))) ggL_law_X11_says
set_option maxRecDepth 20000 in
theorem wd_x_X10_image_r1 : GoodIn wsL_law wsX10_image_r1 := (wd_c wd_17 (wd_c wd_16 (wd_c wd_1195 (wd_c wd_1196 (wd_c wd_1197 (wd_c wd_1198 (wd_c wd_15 (wd_c wd_1199 (wd_c wd_50 (wd_c wd_52 (wd_c wd_60 (wd_c wd_56 (wd_c wd_62 (wd_c wd_64 (wd_c wd_65 (wd_c wd_1200 (wd_c wd_1182 (wd_c wd_1201 (wd_c wd_1202 (wd_c wd_1203 (wd_c wd_49 (wd_c wd_1204 (wd_c wd_70 (wd_c wd_71 wd_n))))))))))))))))))))))))
set_option maxRecDepth 20000 in
theorem wd_x_X10_image_r2 : GoodIn wsL_law wsX10_image_r2 := (wd_c wd_72 (wd_c wd_355 (wd_c wd_2 (wd_c wd_356 (wd_c wd_357 (wd_c wd_344 (wd_c wd_251 (wd_c wd_345 (wd_c wd_358 (wd_c wd_359 (wd_c wd_360 (wd_c wd_361 (wd_c wd_1205 (wd_c wd_351 (wd_c wd_352 (wd_c wd_24 (wd_c wd_353 (wd_c wd_76 (wd_c wd_77 (wd_c wd_78 (wd_c wd_79 (wd_c wd_80 (wd_c wd_354 (wd_c wd_1206 wd_n))))))))))))))))))))))))
set_option maxRecDepth 20000 in
theorem wd_x_X10_image_r3 : GoodIn wsL_law wsX10_image_r3 := (wd_c wd_1207 (wd_c wd_1208 (wd_c wd_59 (wd_c wd_1209 (wd_c wd_95 (wd_c wd_96 (wd_c wd_97 (wd_c wd_98 (wd_c wd_99 (wd_c wd_100 (wd_c wd_472 (wd_c wd_1210 (wd_c wd_1211 (wd_c wd_1212 (wd_c wd_55 (wd_c wd_1213 (wd_c wd_84 (wd_c wd_85 (wd_c wd_86 (wd_c wd_87 (wd_c wd_88 (wd_c wd_89 (wd_c wd_90 (wd_c wd_456 wd_n))))))))))))))))))))))))
set_option maxRecDepth 20000 in
theorem wd_x_X10_image_r4 : GoodIn wsL_law wsX10_image_r4 := (wd_c wd_457 (wd_c wd_91 (wd_c wd_458 (wd_c wd_1214 (wd_c wd_1003 (wd_c wd_1004 (wd_c wd_28 (wd_c wd_1005 (wd_c wd_104 (wd_c wd_105 (wd_c wd_106 (wd_c wd_107 (wd_c wd_108 (wd_c wd_109 (wd_c wd_1006 (wd_c wd_1007 wd_n))))))))))))))))
set_option maxRecDepth 20000 in
theorem ggL_law_X10_image : GoodIn wsL_law wsX10_image := (wd_c wd_1194 (goodIn_app (goodIn_app (goodIn_app (goodIn_app (goodIn_app (goodIn_app (goodIn_app (goodIn_app wd_x_X10_image_r1 (goodIn_app wd_x_X10_image_r2 (goodIn_app wd_x_X10_image_r3 wd_x_X10_image_r4))) wd_kX100) wd_kX80) wd_kX30) wd_kX40) wd_kX20) wd_kX00) wd_kX10))
theorem gL_law_X10_image : GoodIn wsL_law (wsV RL 171 RX10 yX10_image wsX10_image) := goodIn_app (wd_c wd_1191 (wd_c wd_1192 (wd_c wd_1193 (wd_c wd_2 wd_n)))) ggL_law_X10_image
set_option maxRecDepth 20000 in
theorem ggL_law_X11_image : GoodIn wsL_law wsX11_image := (wd_c wd_1218 (goodIn_app (wd_c wd_165 (wd_c wd_150 (wd_c wd_1219 wd_n))) wd_kX110))
theorem gL_law_X11_image : GoodIn wsL_law (wsV RL 174 RX11 yX11_image wsX11_image) := goodIn_app (wd_c wd_1215 (wd_c wd_1216 (wd_c wd_1217 (wd_c wd_5 wd_n)))) ggL_law_X11_image
set_option maxRecDepth 20000 in
theorem wd_x_X10_restore_r1 : GoodIn wsL_law wsX10_restore_r1 := (wd_c wd_1195 (wd_c wd_16 (wd_c wd_17 (wd_c wd_39 (wd_c wd_1196 (wd_c wd_1197 (wd_c wd_1198 (wd_c wd_15 (wd_c wd_1199 (wd_c wd_50 (wd_c wd_52 (wd_c wd_60 (wd_c wd_56 (wd_c wd_62 (wd_c wd_64 (wd_c wd_65 (wd_c wd_1200 (wd_c wd_1182 (wd_c wd_1201 (wd_c wd_1202 (wd_c wd_1203 (wd_c wd_49 (wd_c wd_1204 (wd_c wd_70 wd_n))))))))))))))))))))))))
set_option maxRecDepth 20000 in
theorem wd_x_X10_restore_r2 : GoodIn wsL_law wsX10_restore_r2 := (wd_c wd_71 (wd_c wd_72 (wd_c wd_355 (wd_c wd_2 (wd_c wd_356 (wd_c wd_357 (wd_c wd_344 (wd_c wd_251 (wd_c wd_345 (wd_c wd_358 (wd_c wd_359 (wd_c wd_360 (wd_c wd_361 (wd_c wd_1205 (wd_c wd_351 (wd_c wd_352 (wd_c wd_24 (wd_c wd_353 (wd_c wd_76 (wd_c wd_77 (wd_c wd_78 (wd_c wd_79 (wd_c wd_80 (wd_c wd_354 wd_n))))))))))))))))))))))))
set_option maxRecDepth 20000 in
theorem wd_x_X10_restore_r3 : GoodIn wsL_law wsX10_restore_r3 := (wd_c wd_1206 (wd_c wd_1207 (wd_c wd_1208 (wd_c wd_59 (wd_c wd_1209 (wd_c wd_95 (wd_c wd_96 (wd_c wd_97 (wd_c wd_98 (wd_c wd_99 (wd_c wd_100 (wd_c wd_472 (wd_c wd_1210 (wd_c wd_1211 (wd_c wd_1212 (wd_c wd_55 (wd_c wd_1213 (wd_c wd_84 (wd_c wd_85 (wd_c wd_86 (wd_c wd_87 (wd_c wd_88 (wd_c wd_89 (wd_c wd_90 wd_n))))))))))))))))))))))))
set_option maxRecDepth 20000 in
theorem wd_x_X10_restore_r4 : GoodIn wsL_law wsX10_restore_r4 := (wd_c wd_456 (wd_c wd_457 (wd_c wd_91 (wd_c wd_458 (wd_c wd_1214 (wd_c wd_1003 (wd_c wd_1004 (wd_c wd_28 (wd_c wd_1005 (wd_c wd_104 (wd_c wd_105 (wd_c wd_106 (wd_c wd_107 (wd_c wd_108 (wd_c wd_109 (wd_c wd_1006 (wd_c wd_1007 wd_n)))))))))))))))))
set_option maxRecDepth 20000 in
theorem ggL_law_X10_restore : GoodIn wsL_law wsX10_restore := (wd_c wd_1223 (goodIn_app (goodIn_app (goodIn_app (goodIn_app (goodIn_app (goodIn_app (goodIn_app (goodIn_app wd_x_X10_restore_r1 (goodIn_app wd_x_X10_restore_r2 (goodIn_app wd_x_X10_restore_r3 wd_x_X10_restore_r4))) wd_kX100) wd_kX80) wd_kX30) wd_kX40) wd_kX20) wd_kX00) wd_kX10))
theorem gL_law_X10_restore : GoodIn wsL_law (wsV RL 175 RX10 yX10_restore wsX10_restore) := goodIn_app (wd_c wd_1220 (wd_c wd_1221 (wd_c wd_1222 (wd_c wd_2 wd_n)))) ggL_law_X10_restore
set_option maxRecDepth 20000 in
theorem ggL_law_X11_restore : GoodIn wsL_law wsX11_restore := (wd_c wd_1227 (goodIn_app (wd_c wd_1219 (wd_c wd_150 (wd_c wd_165 wd_n))) wd_kX110))
theorem gL_law_X11_restore : GoodIn wsL_law (wsV RL 178 RX11 yX11_restore wsX11_restore) := goodIn_app (wd_c wd_1224 (wd_c wd_1225 (wd_c wd_1226 (wd_c wd_5 wd_n)))) ggL_law_X11_restore
set_option maxRecDepth 20000 in
theorem ggL_law_X10_sheet : GoodIn wsL_law wsX10_sheet := (wd_c wd_1231 (goodIn_app (goodIn_app (wd_c wd_33 (wd_c wd_206 (wd_c wd_207 (wd_c wd_2 (wd_c wd_208 (wd_c wd_178 (wd_c wd_179 (wd_c wd_180 (wd_c wd_1232 (wd_c wd_1233 (wd_c wd_1234 (wd_c wd_32 (wd_c wd_1235 (wd_c wd_213 (wd_c wd_214 (wd_c wd_215 (wd_c wd_117 (wd_c wd_1236 (wd_c wd_1237 (wd_c wd_695 (wd_c wd_1238 wd_n))))))))))))))))))))) wd_kX100) wd_kX70))
theorem gL_law_X10_sheet : GoodIn wsL_law (wsV RL 179 RX10 yX10_sheet wsX10_sheet) := goodIn_app (wd_c wd_1228 (wd_c wd_1229 (wd_c wd_1230 (wd_c wd_2 wd_n)))) ggL_law_X10_sheet
set_option maxRecDepth 20000 in
theorem ggL_law_X11_sheet : GoodIn wsL_law wsX11_sheet := (wd_c wd_1242 (goodIn_app (wd_c wd_166 (wd_c wd_167 (wd_c wd_168 (wd_c wd_222 (wd_c wd_223 (wd_c wd_5 (wd_c wd_224 (wd_c wd_225 (wd_c wd_220 (wd_c wd_192 (wd_c wd_193 (wd_c wd_194 wd_n)))))))))))) wd_kX110))
theorem gL_law_X11_sheet : GoodIn wsL_law (wsV RL 182 RX11 yX11_sheet wsX11_sheet) := goodIn_app (wd_c wd_1239 (wd_c wd_1240 (wd_c wd_1241 (wd_c wd_5 wd_n)))) ggL_law_X11_sheet
set_option maxRecDepth 20000 in
theorem ggL_law_X10_drop : GoodIn wsL_law wsX10_drop := (wd_c wd_1246 (goodIn_app (goodIn_app (wd_c wd_33 (wd_c wd_1247 (wd_c wd_1248 (wd_c wd_178 (wd_c wd_179 (wd_c wd_2 (wd_c wd_180 wd_n))))))) wd_kX100) wd_kX70))
theorem gL_law_X10_drop : GoodIn wsL_law (wsV RL 183 RX10 yX10_drop wsX10_drop) := goodIn_app (wd_c wd_1243 (wd_c wd_1244 (wd_c wd_1245 (wd_c wd_2 wd_n)))) ggL_law_X10_drop
set_option maxRecDepth 20000 in
theorem ggL_law_X11_drop : GoodIn wsL_law wsX11_drop := (wd_c wd_1252 (goodIn_app (wd_c wd_225 (wd_c wd_166 (wd_c wd_167 (wd_c wd_192 (wd_c wd_193 (wd_c wd_5 (wd_c wd_194 wd_n))))))) wd_kX110))
theorem gL_law_X11_drop : GoodIn wsL_law (wsV RL 186 RX11 yX11_drop wsX11_drop) := goodIn_app (wd_c wd_1249 (wd_c wd_1250 (wd_c wd_1251 (wd_c wd_5 wd_n)))) ggL_law_X11_drop
set_option maxRecDepth 20000 in
theorem ggL_law_X10_item : GoodIn wsL_law wsX10_item := (wd_c wd_1256 (goodIn_app (goodIn_app (wd_c wd_33 (wd_c wd_206 (wd_c wd_207 (wd_c wd_2 (wd_c wd_208 (wd_c wd_178 (wd_c wd_179 (wd_c wd_180 (wd_c wd_209 (wd_c wd_210 (wd_c wd_211 (wd_c wd_32 (wd_c wd_212 (wd_c wd_213 (wd_c wd_214 (wd_c wd_215 (wd_c wd_1257 (wd_c wd_1258 (wd_c wd_1259 (wd_c wd_1260 (wd_c wd_117 wd_n))))))))))))))))))))) wd_kX100) wd_kX70))
theorem gL_law_X10_item : GoodIn wsL_law (wsV RL 187 RX10 yX10_item wsX10_item) := goodIn_app (wd_c wd_1253 (wd_c wd_1254 (wd_c wd_1255 (wd_c wd_2 wd_n)))) ggL_law_X10_item
set_option maxRecDepth 20000 in
theorem ggL_law_X11_item : GoodIn wsL_law wsX11_item := (wd_c wd_1264 (goodIn_app (wd_c wd_168 (wd_c wd_222 (wd_c wd_223 (wd_c wd_5 (wd_c wd_224 (wd_c wd_225 (wd_c wd_220 (wd_c wd_192 (wd_c wd_193 (wd_c wd_194 (wd_c wd_226 (wd_c wd_227 (wd_c wd_228 (wd_c wd_229 (wd_c wd_166 (wd_c wd_167 wd_n)))))))))))))))) wd_kX110))
theorem gL_law_X11_item : GoodIn wsL_law (wsV RL 190 RX11 yX11_item wsX11_item) := goodIn_app (wd_c wd_1261 (wd_c wd_1262 (wd_c wd_1263 (wd_c wd_5 wd_n)))) ggL_law_X11_item
