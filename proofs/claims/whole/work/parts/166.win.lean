theorem goodIn_t {big ws : List Cond} (h : ∀ w ∈ ws, w ∈ big) (h2 : ws.all goodWord = true) : GoodIn big ws := fun w hw => ⟨h w hw, good_of_word (List.all_eq_true.mp h2 w hw)⟩
set_option maxRecDepth 20000 in
theorem win_wsX7_init_r1 : ∀ w ∈ wsX7_init_r1, w ∈ lw_tbl := (fm_c mw_24 (fm_c mw_23 (fm_c mw_22 (fm_c mw_21 (fm_c mw_20 (fm_c mw_19 (fm_c mw_18 (fm_c mw_17 (fm_c mw_16 (fm_c mw_15 (fm_c mw_14 (fm_c mw_13 (fm_c mw_12 (fm_c mw_11 (fm_c mw_10 (fm_c mw_9 (fm_c mw_8 (fm_c mw_7 (fm_c mw_6 (fm_c mw_5 (fm_c mw_4 (fm_c mw_3 (fm_c mw_2 (fm_c mw_1 ((fun _ h => absurd h List.not_mem_nil))))))))))))))))))))))))))
set_option maxRecDepth 20000 in
theorem win_wsX7_init_r2 : ∀ w ∈ wsX7_init_r2, w ∈ lw_tbl := (fm_c mw_48 (fm_c mw_47 (fm_c mw_46 (fm_c mw_45 (fm_c mw_44 (fm_c mw_43 (fm_c mw_42 (fm_c mw_41 (fm_c mw_40 (fm_c mw_39 (fm_c mw_38 (fm_c mw_37 (fm_c mw_36 (fm_c mw_35 (fm_c mw_34 (fm_c mw_33 (fm_c mw_32 (fm_c mw_31 (fm_c mw_30 (fm_c mw_29 (fm_c mw_28 (fm_c mw_27 (fm_c mw_26 (fm_c mw_25 ((fun _ h => absurd h List.not_mem_nil))))))))))))))))))))))))))
set_option maxRecDepth 20000 in
theorem win_wsX7_init_r3 : ∀ w ∈ wsX7_init_r3, w ∈ lw_tbl := (fm_c mw_72 (fm_c mw_71 (fm_c mw_70 (fm_c mw_69 (fm_c mw_68 (fm_c mw_67 (fm_c mw_66 (fm_c mw_65 (fm_c mw_64 (fm_c mw_63 (fm_c mw_62 (fm_c mw_61 (fm_c mw_60 (fm_c mw_59 (fm_c mw_58 (fm_c mw_57 (fm_c mw_56 (fm_c mw_55 (fm_c mw_54 (fm_c mw_53 (fm_c mw_52 (fm_c mw_51 (fm_c mw_50 (fm_c mw_49 ((fun _ h => absurd h List.not_mem_nil))))))))))))))))))))))))))
set_option maxRecDepth 20000 in
theorem win_wsX7_init_r4 : ∀ w ∈ wsX7_init_r4, w ∈ lw_tbl := (fm_c mw_96 (fm_c mw_95 (fm_c mw_94 (fm_c mw_93 (fm_c mw_92 (fm_c mw_91 (fm_c mw_90 (fm_c mw_89 (fm_c mw_88 (fm_c mw_87 (fm_c mw_86 (fm_c mw_85 (fm_c mw_84 (fm_c mw_83 (fm_c mw_82 (fm_c mw_81 (fm_c mw_80 (fm_c mw_79 (fm_c mw_78 (fm_c mw_77 (fm_c mw_76 (fm_c mw_75 (fm_c mw_74 (fm_c mw_73 ((fun _ h => absurd h List.not_mem_nil))))))))))))))))))))))))))
set_option maxRecDepth 20000 in
theorem win_wsX7_init_r5 : ∀ w ∈ wsX7_init_r5, w ∈ lw_tbl := (fm_c mw_109 (fm_c mw_108 (fm_c mw_107 (fm_c mw_106 (fm_c mw_105 (fm_c mw_104 (fm_c mw_103 (fm_c mw_102 (fm_c mw_101 (fm_c mw_100 (fm_c mw_99 (fm_c mw_98 (fm_c mw_97 ((fun _ h => absurd h List.not_mem_nil)))))))))))))))
set_option maxRecDepth 20000 in
theorem win_wsX7_init : ∀ w ∈ wsX7_init, w ∈ lw_tbl := (fm_c mw_0 (al_in (al_in (al_in (al_in (al_in (al_in (al_in (al_in (al_in win_wsX7_init_r1 (al_in win_wsX7_init_r2 (al_in win_wsX7_init_r3 (al_in win_wsX7_init_r4 win_wsX7_init_r5)))) wsL_in_wsX20) wsL_in_wsX70) wsL_in_wsX60) wsL_in_wsX30) wsL_in_wsX00) wsL_in_wsX40) wsL_in_wsX10) wsL_in_wsX50))
set_option maxRecDepth 20000 in
theorem win_wsX8_init : ∀ w ∈ wsX8_init, w ∈ lw_tbl := (fm_c mw_110 (al_in (fm_c mw_131 (fm_c mw_23 (fm_c mw_22 (fm_c mw_31 (fm_c mw_130 (fm_c mw_129 (fm_c mw_128 (fm_c mw_127 (fm_c mw_126 (fm_c mw_125 (fm_c mw_124 (fm_c mw_123 (fm_c mw_122 (fm_c mw_121 (fm_c mw_120 (fm_c mw_119 (fm_c mw_118 (fm_c mw_117 (fm_c mw_116 (fm_c mw_115 (fm_c mw_114 (fm_c mw_113 (fm_c mw_112 (fm_c mw_111 ((fun _ h => absurd h List.not_mem_nil)))))))))))))))))))))))))) wsL_in_wsX80))
set_option maxRecDepth 20000 in
theorem win_wsX7_feed : ∀ w ∈ wsX7_feed, w ∈ lw_tbl := (fm_c mw_132 (al_in (al_in (fm_c mw_6 (fm_c mw_137 (fm_c mw_136 (fm_c mw_135 (fm_c mw_134 (fm_c mw_7 (fm_c mw_133 (fm_c mw_90 (fm_c mw_87 ((fun _ h => absurd h List.not_mem_nil))))))))))) wsL_in_wsX70) wsL_in_wsX30))
set_option maxRecDepth 20000 in
theorem win_wsX8_feed : ∀ w ∈ wsX8_feed, w ∈ lw_tbl := (fm_c mw_142 (al_in (fm_c mw_143 (fm_c mw_124 ((fun _ h => absurd h List.not_mem_nil)))) wsL_in_wsX80))
set_option maxRecDepth 20000 in
theorem win_wsX7_end : ∀ w ∈ wsX7_end, w ∈ lw_tbl := (fm_c mw_148 (al_in (al_in (fm_c mw_6 (fm_c mw_137 (fm_c mw_151 (fm_c mw_150 (fm_c mw_138 (fm_c mw_149 ((fun _ h => absurd h List.not_mem_nil)))))))) wsL_in_wsX70) wsL_in_wsX30))
set_option maxRecDepth 20000 in
theorem win_wsX8_end : ∀ w ∈ wsX8_end, w ∈ lw_tbl := (fm_c mw_155 (al_in (fm_c mw_143 (fm_c mw_158 (fm_c mw_157 (fm_c mw_144 (fm_c mw_156 ((fun _ h => absurd h List.not_mem_nil))))))) wsL_in_wsX80))
set_option maxRecDepth 20000 in
theorem win_wsX7_text_r1 : ∀ w ∈ wsX7_text_r1, w ∈ lw_tbl := (fm_c mw_6 (fm_c mw_176 (fm_c mw_175 (fm_c mw_18 (fm_c mw_174 (fm_c mw_14 (fm_c mw_173 (fm_c mw_2 (fm_c mw_172 (fm_c mw_1 (fm_c mw_10 (fm_c mw_171 (fm_c mw_170 (fm_c mw_169 (fm_c mw_168 (fm_c mw_7 (fm_c mw_167 (fm_c mw_93 (fm_c mw_91 (fm_c mw_89 (fm_c mw_166 (fm_c mw_165 (fm_c mw_164 (fm_c mw_163 ((fun _ h => absurd h List.not_mem_nil))))))))))))))))))))))))))
set_option maxRecDepth 20000 in
theorem win_wsX7_text_r2 : ∀ w ∈ wsX7_text_r2, w ∈ lw_tbl := (fm_c mw_90 (fm_c mw_179 (fm_c mw_27 (fm_c mw_26 (fm_c mw_19 (fm_c mw_25 (fm_c mw_72 (fm_c mw_71 (fm_c mw_70 (fm_c mw_69 (fm_c mw_178 (fm_c mw_60 (fm_c mw_59 (fm_c mw_15 (fm_c mw_58 (fm_c mw_57 (fm_c mw_56 (fm_c mw_55 (fm_c mw_54 (fm_c mw_53 (fm_c mw_52 (fm_c mw_51 (fm_c mw_50 (fm_c mw_177 ((fun _ h => absurd h List.not_mem_nil))))))))))))))))))))))))))
set_option maxRecDepth 20000 in
theorem win_wsX7_text_r3 : ∀ w ∈ wsX7_text_r3, w ∈ lw_tbl := (fm_c mw_202 (fm_c mw_201 (fm_c mw_200 (fm_c mw_87 (fm_c mw_199 (fm_c mw_198 (fm_c mw_197 (fm_c mw_196 (fm_c mw_195 (fm_c mw_194 (fm_c mw_193 (fm_c mw_192 (fm_c mw_191 (fm_c mw_190 (fm_c mw_189 (fm_c mw_188 (fm_c mw_187 (fm_c mw_186 (fm_c mw_185 (fm_c mw_184 (fm_c mw_183 (fm_c mw_182 (fm_c mw_181 (fm_c mw_180 ((fun _ h => absurd h List.not_mem_nil))))))))))))))))))))))))))
set_option maxRecDepth 20000 in
theorem win_wsX7_text_r4 : ∀ w ∈ wsX7_text_r4, w ∈ lw_tbl := (fm_c mw_226 (fm_c mw_225 (fm_c mw_224 (fm_c mw_223 (fm_c mw_222 (fm_c mw_221 (fm_c mw_220 (fm_c mw_219 (fm_c mw_218 (fm_c mw_217 (fm_c mw_216 (fm_c mw_215 (fm_c mw_214 (fm_c mw_213 (fm_c mw_212 (fm_c mw_211 (fm_c mw_210 (fm_c mw_209 (fm_c mw_208 (fm_c mw_207 (fm_c mw_206 (fm_c mw_205 (fm_c mw_204 (fm_c mw_203 ((fun _ h => absurd h List.not_mem_nil))))))))))))))))))))))))))
set_option maxRecDepth 20000 in
theorem win_wsX7_text_r5 : ∀ w ∈ wsX7_text_r5, w ∈ lw_tbl := (fm_c mw_250 (fm_c mw_249 (fm_c mw_248 (fm_c mw_247 (fm_c mw_246 (fm_c mw_245 (fm_c mw_244 (fm_c mw_243 (fm_c mw_242 (fm_c mw_241 (fm_c mw_240 (fm_c mw_239 (fm_c mw_238 (fm_c mw_237 (fm_c mw_236 (fm_c mw_235 (fm_c mw_234 (fm_c mw_233 (fm_c mw_232 (fm_c mw_231 (fm_c mw_230 (fm_c mw_229 (fm_c mw_228 (fm_c mw_227 ((fun _ h => absurd h List.not_mem_nil))))))))))))))))))))))))))
set_option maxRecDepth 20000 in
theorem win_wsX7_text_r6 : ∀ w ∈ wsX7_text_r6, w ∈ lw_tbl := (fm_c mw_271 (fm_c mw_270 (fm_c mw_269 (fm_c mw_268 (fm_c mw_267 (fm_c mw_266 (fm_c mw_265 (fm_c mw_264 (fm_c mw_263 (fm_c mw_262 (fm_c mw_261 (fm_c mw_260 (fm_c mw_259 (fm_c mw_258 (fm_c mw_257 (fm_c mw_150 (fm_c mw_138 (fm_c mw_149 (fm_c mw_256 (fm_c mw_255 (fm_c mw_254 (fm_c mw_253 (fm_c mw_252 (fm_c mw_251 ((fun _ h => absurd h List.not_mem_nil))))))))))))))))))))))))))
set_option maxRecDepth 20000 in
theorem win_wsX7_text_r7 : ∀ w ∈ wsX7_text_r7, w ∈ lw_tbl := (fm_c mw_295 (fm_c mw_294 (fm_c mw_293 (fm_c mw_292 (fm_c mw_291 (fm_c mw_290 (fm_c mw_289 (fm_c mw_288 (fm_c mw_287 (fm_c mw_286 (fm_c mw_285 (fm_c mw_284 (fm_c mw_283 (fm_c mw_282 (fm_c mw_281 (fm_c mw_280 (fm_c mw_279 (fm_c mw_278 (fm_c mw_277 (fm_c mw_276 (fm_c mw_275 (fm_c mw_274 (fm_c mw_273 (fm_c mw_272 ((fun _ h => absurd h List.not_mem_nil))))))))))))))))))))))))))
set_option maxRecDepth 20000 in
theorem win_wsX7_text_r8 : ∀ w ∈ wsX7_text_r8, w ∈ lw_tbl := (fm_c mw_317 (fm_c mw_316 (fm_c mw_315 (fm_c mw_314 (fm_c mw_313 (fm_c mw_312 (fm_c mw_311 (fm_c mw_310 (fm_c mw_309 (fm_c mw_308 (fm_c mw_307 (fm_c mw_306 (fm_c mw_305 (fm_c mw_304 (fm_c mw_303 (fm_c mw_302 (fm_c mw_301 (fm_c mw_300 (fm_c mw_30 (fm_c mw_299 (fm_c mw_298 (fm_c mw_297 (fm_c mw_296 (fm_c mw_29 ((fun _ h => absurd h List.not_mem_nil))))))))))))))))))))))))))
set_option maxRecDepth 20000 in
theorem win_wsX7_text_r9 : ∀ w ∈ wsX7_text_r9, w ∈ lw_tbl := (fm_c mw_322 (fm_c mw_321 (fm_c mw_320 (fm_c mw_319 (fm_c mw_64 (fm_c mw_318 (fm_c mw_63 ((fun _ h => absurd h List.not_mem_nil)))))))))
set_option maxRecDepth 20000 in
theorem win_wsX7_text : ∀ w ∈ wsX7_text, w ∈ lw_tbl := (fm_c mw_162 (al_in (al_in (al_in (al_in (al_in (al_in win_wsX7_text_r1 (al_in win_wsX7_text_r2 (al_in win_wsX7_text_r3 (al_in win_wsX7_text_r4 (al_in win_wsX7_text_r5 (al_in win_wsX7_text_r6 (al_in win_wsX7_text_r7 (al_in win_wsX7_text_r8 win_wsX7_text_r9)))))))) wsL_in_wsX70) wsL_in_wsX30) wsL_in_wsX00) wsL_in_wsX20) wsL_in_wsX60))
set_option maxRecDepth 20000 in
theorem win_wsX8_text_r1 : ∀ w ∈ wsX8_text_r1, w ∈ lw_tbl := (fm_c mw_342 (fm_c mw_341 (fm_c mw_340 (fm_c mw_339 (fm_c mw_338 (fm_c mw_337 (fm_c mw_126 (fm_c mw_143 (fm_c mw_336 (fm_c mw_335 (fm_c mw_130 (fm_c mw_127 (fm_c mw_125 (fm_c mw_129 (fm_c mw_334 (fm_c mw_333 (fm_c mw_128 (fm_c mw_332 (fm_c mw_331 (fm_c mw_330 (fm_c mw_329 (fm_c mw_114 (fm_c mw_328 (fm_c mw_327 ((fun _ h => absurd h List.not_mem_nil))))))))))))))))))))))))))
set_option maxRecDepth 20000 in
theorem win_wsX8_text_r2 : ∀ w ∈ wsX8_text_r2, w ∈ lw_tbl := (fm_c mw_361 (fm_c mw_144 (fm_c mw_360 (fm_c mw_359 (fm_c mw_358 (fm_c mw_357 (fm_c mw_356 (fm_c mw_355 (fm_c mw_354 (fm_c mw_353 (fm_c mw_352 (fm_c mw_351 (fm_c mw_350 (fm_c mw_349 (fm_c mw_348 (fm_c mw_347 (fm_c mw_346 (fm_c mw_345 (fm_c mw_344 (fm_c mw_124 (fm_c mw_158 (fm_c mw_157 (fm_c mw_156 (fm_c mw_343 ((fun _ h => absurd h List.not_mem_nil))))))))))))))))))))))))))
set_option maxRecDepth 20000 in
theorem win_wsX8_text_r3 : ∀ w ∈ wsX8_text_r3, w ∈ lw_tbl := (fm_c mw_383 (fm_c mw_382 (fm_c mw_381 (fm_c mw_380 (fm_c mw_379 (fm_c mw_378 (fm_c mw_377 (fm_c mw_376 (fm_c mw_375 (fm_c mw_374 (fm_c mw_373 (fm_c mw_372 (fm_c mw_371 (fm_c mw_370 (fm_c mw_123 (fm_c mw_122 (fm_c mw_369 (fm_c mw_368 (fm_c mw_367 (fm_c mw_366 (fm_c mw_365 (fm_c mw_364 (fm_c mw_363 (fm_c mw_362 ((fun _ h => absurd h List.not_mem_nil))))))))))))))))))))))))))
set_option maxRecDepth 20000 in
theorem win_wsX8_text_r4 : ∀ w ∈ wsX8_text_r4, w ∈ lw_tbl := (fm_c mw_403 (fm_c mw_402 (fm_c mw_401 (fm_c mw_400 (fm_c mw_399 (fm_c mw_398 (fm_c mw_397 (fm_c mw_396 (fm_c mw_395 (fm_c mw_394 (fm_c mw_393 (fm_c mw_392 (fm_c mw_391 (fm_c mw_390 (fm_c mw_389 (fm_c mw_388 (fm_c mw_387 (fm_c mw_386 (fm_c mw_385 (fm_c mw_384 ((fun _ h => absurd h List.not_mem_nil))))))))))))))))))))))
set_option maxRecDepth 20000 in
theorem win_wsX8_text : ∀ w ∈ wsX8_text, w ∈ lw_tbl := (fm_c mw_326 (al_in (al_in win_wsX8_text_r1 (al_in win_wsX8_text_r2 (al_in win_wsX8_text_r3 win_wsX8_text_r4))) wsL_in_wsX80))
set_option maxRecDepth 20000 in
theorem win_wsX7_fault : ∀ w ∈ wsX7_fault, w ∈ lw_tbl := (fm_c mw_407 (al_in (al_in (fm_c mw_6 (fm_c mw_176 ((fun _ h => absurd h List.not_mem_nil)))) wsL_in_wsX70) wsL_in_wsX30))
set_option maxRecDepth 20000 in
theorem win_wsX8_fault : ∀ w ∈ wsX8_fault, w ∈ lw_tbl := (fm_c mw_411 (al_in (fm_c mw_336 ((fun _ h => absurd h List.not_mem_nil))) wsL_in_wsX80))
set_option maxRecDepth 20000 in
theorem win_wsX7_rule : ∀ w ∈ wsX7_rule, w ∈ lw_tbl := (fm_c mw_415 (al_in (al_in (al_in (fm_c mw_18 (fm_c mw_428 (fm_c mw_427 (fm_c mw_14 (fm_c mw_426 (fm_c mw_425 (fm_c mw_424 (fm_c mw_423 (fm_c mw_422 (fm_c mw_421 (fm_c mw_420 (fm_c mw_419 (fm_c mw_418 (fm_c mw_417 (fm_c mw_138 (fm_c mw_416 ((fun _ h => absurd h List.not_mem_nil)))))))))))))))))) wsL_in_wsX70) wsL_in_wsX20) wsL_in_wsX60))
set_option maxRecDepth 20000 in
theorem win_wsX8_rule : ∀ w ∈ wsX8_rule, w ∈ lw_tbl := (fm_c mw_432 (al_in (fm_c mw_129 (fm_c mw_334 (fm_c mw_130 (fm_c mw_331 (fm_c mw_128 (fm_c mw_436 (fm_c mw_435 (fm_c mw_434 (fm_c mw_144 (fm_c mw_433 ((fun _ h => absurd h List.not_mem_nil)))))))))))) wsL_in_wsX80))
set_option maxRecDepth 20000 in
theorem win_wsX7_door_r1 : ∀ w ∈ wsX7_door_r1, w ∈ lw_tbl := (fm_c mw_14 (fm_c mw_450 (fm_c mw_449 (fm_c mw_448 (fm_c mw_15 (fm_c mw_447 (fm_c mw_62 (fm_c mw_446 (fm_c mw_64 (fm_c mw_445 (fm_c mw_308 (fm_c mw_307 (fm_c mw_19 (fm_c mw_306 (fm_c mw_71 (fm_c mw_150 (fm_c mw_138 (fm_c mw_149 (fm_c mw_444 (fm_c mw_443 (fm_c mw_442 (fm_c mw_441 (fm_c mw_57 (fm_c mw_417 ((fun _ h => absurd h List.not_mem_nil))))))))))))))))))))))))))
set_option maxRecDepth 20000 in
theorem win_wsX7_door_r2 : ∀ w ∈ wsX7_door_r2, w ∈ lw_tbl := (fm_c mw_416 ((fun _ h => absurd h List.not_mem_nil)))
set_option maxRecDepth 20000 in
theorem win_wsX7_door : ∀ w ∈ wsX7_door, w ∈ lw_tbl := (fm_c mw_440 (al_in (al_in (al_in (al_in win_wsX7_door_r1 win_wsX7_door_r2) wsL_in_wsX70) wsL_in_wsX60) wsL_in_wsX20))
set_option maxRecDepth 20000 in
theorem win_wsX8_door : ∀ w ∈ wsX8_door, w ∈ lw_tbl := (fm_c mw_454 (al_in (fm_c mw_459 (fm_c mw_130 (fm_c mw_458 (fm_c mw_457 (fm_c mw_456 (fm_c mw_144 (fm_c mw_455 (fm_c mw_334 (fm_c mw_158 (fm_c mw_157 (fm_c mw_156 ((fun _ h => absurd h List.not_mem_nil))))))))))))) wsL_in_wsX80))
set_option maxRecDepth 20000 in
theorem win_wsX7_law : ∀ w ∈ wsX7_law, w ∈ lw_tbl := (fm_c mw_463 (al_in (al_in (fm_c mw_18 (fm_c mw_425 (fm_c mw_464 (fm_c mw_151 (fm_c mw_150 (fm_c mw_138 (fm_c mw_149 ((fun _ h => absurd h List.not_mem_nil))))))))) wsL_in_wsX70) wsL_in_wsX20))
set_option maxRecDepth 20000 in
theorem win_wsX8_law : ∀ w ∈ wsX8_law, w ∈ lw_tbl := (fm_c mw_468 (al_in (fm_c mw_331 (fm_c mw_127 (fm_c mw_158 (fm_c mw_157 (fm_c mw_144 (fm_c mw_156 ((fun _ h => absurd h List.not_mem_nil)))))))) wsL_in_wsX80))
set_option maxRecDepth 20000 in
theorem win_wsX7_doors_r1 : ∀ w ∈ wsX7_doors_r1, w ∈ lw_tbl := (fm_c mw_18 (fm_c mw_14 (fm_c mw_482 (fm_c mw_272 (fm_c mw_317 (fm_c mw_19 (fm_c mw_316 (fm_c mw_72 (fm_c mw_481 (fm_c mw_480 (fm_c mw_479 (fm_c mw_15 (fm_c mw_478 (fm_c mw_62 (fm_c mw_477 (fm_c mw_476 (fm_c mw_475 (fm_c mw_474 (fm_c mw_473 (fm_c mw_446 (fm_c mw_64 (fm_c mw_445 (fm_c mw_308 (fm_c mw_307 ((fun _ h => absurd h List.not_mem_nil))))))))))))))))))))))))))
set_option maxRecDepth 20000 in
theorem win_wsX7_doors_r2 : ∀ w ∈ wsX7_doors_r2, w ∈ lw_tbl := (fm_c mw_306 (fm_c mw_71 (fm_c mw_444 (fm_c mw_443 (fm_c mw_442 (fm_c mw_441 (fm_c mw_57 ((fun _ h => absurd h List.not_mem_nil)))))))))
set_option maxRecDepth 20000 in
theorem win_wsX7_doors : ∀ w ∈ wsX7_doors, w ∈ lw_tbl := (fm_c mw_472 (al_in (al_in (al_in (al_in win_wsX7_doors_r1 win_wsX7_doors_r2) wsL_in_wsX70) wsL_in_wsX20) wsL_in_wsX60))
set_option maxRecDepth 20000 in
theorem win_wsX8_doors : ∀ w ∈ wsX8_doors, w ∈ lw_tbl := (fm_c mw_486 (al_in (fm_c mw_130 (fm_c mw_498 (fm_c mw_497 (fm_c mw_496 (fm_c mw_144 (fm_c mw_495 (fm_c mw_129 (fm_c mw_158 (fm_c mw_157 (fm_c mw_156 (fm_c mw_494 (fm_c mw_493 (fm_c mw_492 (fm_c mw_491 (fm_c mw_334 (fm_c mw_490 (fm_c mw_489 (fm_c mw_488 (fm_c mw_487 ((fun _ h => absurd h List.not_mem_nil))))))))))))))))))))) wsL_in_wsX80))
set_option maxRecDepth 20000 in
theorem win_wsX7_bar : ∀ w ∈ wsX7_bar, w ∈ lw_tbl := (fm_c mw_502 (al_in (al_in (al_in (fm_c mw_18 (fm_c mw_14 (fm_c mw_505 (fm_c mw_504 (fm_c mw_308 (fm_c mw_307 (fm_c mw_19 (fm_c mw_306 (fm_c mw_71 (fm_c mw_503 (fm_c mw_443 (fm_c mw_442 (fm_c mw_15 (fm_c mw_441 (fm_c mw_57 (fm_c mw_418 (fm_c mw_417 (fm_c mw_138 (fm_c mw_416 ((fun _ h => absurd h List.not_mem_nil))))))))))))))))))))) wsL_in_wsX70) wsL_in_wsX60) wsL_in_wsX20))
set_option maxRecDepth 20000 in
theorem win_wsX8_bar : ∀ w ∈ wsX8_bar, w ∈ lw_tbl := (fm_c mw_509 (al_in (fm_c mw_458 (fm_c mw_457 (fm_c mw_456 (fm_c mw_144 (fm_c mw_455 (fm_c mw_334 (fm_c mw_158 (fm_c mw_157 (fm_c mw_156 (fm_c mw_513 (fm_c mw_512 (fm_c mw_511 (fm_c mw_510 (fm_c mw_130 ((fun _ h => absurd h List.not_mem_nil)))))))))))))))) wsL_in_wsX80))
set_option maxRecDepth 20000 in
theorem win_wsX7_period : ∀ w ∈ wsX7_period, w ∈ lw_tbl := (fm_c mw_517 (al_in (al_in (fm_c mw_14 (fm_c mw_426 (fm_c mw_151 (fm_c mw_150 (fm_c mw_138 (fm_c mw_149 ((fun _ h => absurd h List.not_mem_nil)))))))) wsL_in_wsX70) wsL_in_wsX60))
set_option maxRecDepth 20000 in
theorem win_wsX8_period : ∀ w ∈ wsX8_period, w ∈ lw_tbl := (fm_c mw_521 (al_in (fm_c mw_522 (fm_c mw_158 (fm_c mw_157 (fm_c mw_144 (fm_c mw_156 (fm_c mw_513 (fm_c mw_512 (fm_c mw_511 (fm_c mw_510 (fm_c mw_130 ((fun _ h => absurd h List.not_mem_nil)))))))))))) wsL_in_wsX80))
set_option maxRecDepth 20000 in
theorem win_wsX7_put : ∀ w ∈ wsX7_put, w ∈ lw_tbl := (fm_c mw_526 (al_in (al_in (al_in (fm_c mw_18 (fm_c mw_14 (fm_c mw_421 (fm_c mw_422 (fm_c mw_419 (fm_c mw_482 (fm_c mw_272 (fm_c mw_317 (fm_c mw_19 (fm_c mw_316 (fm_c mw_72 ((fun _ h => absurd h List.not_mem_nil))))))))))))) wsL_in_wsX70) wsL_in_wsX60) wsL_in_wsX20))
set_option maxRecDepth 20000 in
theorem win_wsX8_put : ∀ w ∈ wsX8_put, w ∈ lw_tbl := (fm_c mw_530 (al_in (fm_c mw_130 (fm_c mw_498 (fm_c mw_497 (fm_c mw_496 (fm_c mw_144 (fm_c mw_495 (fm_c mw_129 (fm_c mw_158 (fm_c mw_157 (fm_c mw_156 (fm_c mw_436 (fm_c mw_435 (fm_c mw_434 (fm_c mw_433 (fm_c mw_513 (fm_c mw_512 (fm_c mw_511 (fm_c mw_510 ((fun _ h => absurd h List.not_mem_nil)))))))))))))))))))) wsL_in_wsX80))
set_option maxRecDepth 20000 in
theorem win_wsX7_lurk : ∀ w ∈ wsX7_lurk, w ∈ lw_tbl := (fm_c mw_534 (al_in (al_in (al_in (fm_c mw_18 (fm_c mw_14 (fm_c mw_422 (fm_c mw_421 (fm_c mw_420 (fm_c mw_482 (fm_c mw_272 (fm_c mw_317 (fm_c mw_19 (fm_c mw_316 (fm_c mw_72 (fm_c mw_537 (fm_c mw_536 (fm_c mw_138 (fm_c mw_535 (fm_c mw_151 (fm_c mw_150 (fm_c mw_149 ((fun _ h => absurd h List.not_mem_nil)))))))))))))))))))) wsL_in_wsX70) wsL_in_wsX60) wsL_in_wsX20))
set_option maxRecDepth 20000 in
theorem win_wsX8_lurk : ∀ w ∈ wsX8_lurk, w ∈ lw_tbl := (fm_c mw_541 (al_in (fm_c mw_375 (fm_c mw_130 (fm_c mw_498 (fm_c mw_497 (fm_c mw_496 (fm_c mw_144 (fm_c mw_495 (fm_c mw_129 (fm_c mw_158 (fm_c mw_157 (fm_c mw_156 (fm_c mw_436 (fm_c mw_435 (fm_c mw_434 (fm_c mw_433 ((fun _ h => absurd h List.not_mem_nil))))))))))))))))) wsL_in_wsX80))
set_option maxRecDepth 20000 in
theorem win_wsX7_bite : ∀ w ∈ wsX7_bite, w ∈ lw_tbl := (fm_c mw_545 (al_in (al_in (fm_c mw_14 (fm_c mw_546 (fm_c mw_151 (fm_c mw_150 (fm_c mw_138 (fm_c mw_149 ((fun _ h => absurd h List.not_mem_nil)))))))) wsL_in_wsX70) wsL_in_wsX60))
set_option maxRecDepth 20000 in
theorem win_wsX8_bite : ∀ w ∈ wsX8_bite, w ∈ lw_tbl := (fm_c mw_550 (al_in (fm_c mw_130 (fm_c mw_158 (fm_c mw_157 (fm_c mw_144 (fm_c mw_156 (fm_c mw_513 (fm_c mw_512 (fm_c mw_511 (fm_c mw_510 ((fun _ h => absurd h List.not_mem_nil))))))))))) wsL_in_wsX80))
set_option maxRecDepth 20000 in
theorem win_wsX7_go_r1 : ∀ w ∈ wsX7_go_r1, w ∈ lw_tbl := (fm_c mw_14 (fm_c mw_419 (fm_c mw_422 (fm_c mw_559 (fm_c mw_558 (fm_c mw_557 (fm_c mw_138 (fm_c mw_556 (fm_c mw_18 (fm_c mw_423 (fm_c mw_504 (fm_c mw_308 (fm_c mw_307 (fm_c mw_19 (fm_c mw_306 (fm_c mw_71 (fm_c mw_555 (fm_c mw_475 (fm_c mw_474 (fm_c mw_15 (fm_c mw_473 (fm_c mw_62 (fm_c mw_446 (fm_c mw_64 ((fun _ h => absurd h List.not_mem_nil))))))))))))))))))))))))))
set_option maxRecDepth 20000 in
theorem win_wsX7_go_r2 : ∀ w ∈ wsX7_go_r2, w ∈ lw_tbl := (fm_c mw_445 (fm_c mw_444 (fm_c mw_443 (fm_c mw_442 (fm_c mw_441 (fm_c mw_57 (fm_c mw_569 (fm_c mw_568 (fm_c mw_567 (fm_c mw_566 (fm_c mw_55 (fm_c mw_52 (fm_c mw_565 (fm_c mw_63 (fm_c mw_54 (fm_c mw_53 (fm_c mw_50 (fm_c mw_476 (fm_c mw_564 (fm_c mw_563 (fm_c mw_562 (fm_c mw_561 (fm_c mw_51 (fm_c mw_560 ((fun _ h => absurd h List.not_mem_nil))))))))))))))))))))))))))
set_option maxRecDepth 20000 in
theorem win_wsX7_go_r3 : ∀ w ∈ wsX7_go_r3, w ∈ lw_tbl := (fm_c mw_588 (fm_c mw_587 (fm_c mw_586 (fm_c mw_477 (fm_c mw_585 (fm_c mw_480 (fm_c mw_479 (fm_c mw_478 (fm_c mw_584 (fm_c mw_583 (fm_c mw_582 (fm_c mw_581 (fm_c mw_580 (fm_c mw_579 (fm_c mw_578 (fm_c mw_577 (fm_c mw_576 (fm_c mw_575 (fm_c mw_574 (fm_c mw_573 (fm_c mw_572 (fm_c mw_571 (fm_c mw_570 (fm_c mw_56 ((fun _ h => absurd h List.not_mem_nil))))))))))))))))))))))))))
set_option maxRecDepth 20000 in
theorem win_wsX7_go_r4 : ∀ w ∈ wsX7_go_r4, w ∈ lw_tbl := (fm_c mw_599 (fm_c mw_598 (fm_c mw_597 (fm_c mw_596 (fm_c mw_595 (fm_c mw_594 (fm_c mw_593 (fm_c mw_592 (fm_c mw_591 (fm_c mw_590 (fm_c mw_589 (fm_c mw_311 (fm_c mw_310 (fm_c mw_305 (fm_c mw_304 ((fun _ h => absurd h List.not_mem_nil)))))))))))))))))
set_option maxRecDepth 20000 in
theorem win_wsX7_go : ∀ w ∈ wsX7_go, w ∈ lw_tbl := (fm_c mw_554 (al_in (al_in (al_in (al_in win_wsX7_go_r1 (al_in win_wsX7_go_r2 (al_in win_wsX7_go_r3 win_wsX7_go_r4))) wsL_in_wsX70) wsL_in_wsX60) wsL_in_wsX20))
set_option maxRecDepth 20000 in
theorem win_wsX8_go_r1 : ∀ w ∈ wsX8_go_r1, w ∈ lw_tbl := (fm_c mw_611 (fm_c mw_610 (fm_c mw_609 (fm_c mw_144 (fm_c mw_608 (fm_c mw_130 (fm_c mw_458 (fm_c mw_457 (fm_c mw_456 (fm_c mw_455 (fm_c mw_334 (fm_c mw_158 (fm_c mw_157 (fm_c mw_156 (fm_c mw_490 (fm_c mw_489 (fm_c mw_488 (fm_c mw_487 (fm_c mw_607 (fm_c mw_606 (fm_c mw_605 (fm_c mw_604 (fm_c mw_128 (fm_c mw_121 ((fun _ h => absurd h List.not_mem_nil))))))))))))))))))))))))))
set_option maxRecDepth 20000 in
theorem win_wsX8_go_r2 : ∀ w ∈ wsX8_go_r2, w ∈ lw_tbl := (fm_c mw_436 (fm_c mw_435 (fm_c mw_434 (fm_c mw_433 (fm_c mw_627 (fm_c mw_626 (fm_c mw_625 (fm_c mw_624 (fm_c mw_494 (fm_c mw_493 (fm_c mw_492 (fm_c mw_491 (fm_c mw_623 (fm_c mw_622 (fm_c mw_621 (fm_c mw_620 (fm_c mw_619 (fm_c mw_618 (fm_c mw_617 (fm_c mw_616 (fm_c mw_615 (fm_c mw_614 (fm_c mw_613 (fm_c mw_612 ((fun _ h => absurd h List.not_mem_nil))))))))))))))))))))))))))
set_option maxRecDepth 20000 in
theorem win_wsX8_go_r3 : ∀ w ∈ wsX8_go_r3, w ∈ lw_tbl := (fm_c mw_633 (fm_c mw_632 (fm_c mw_331 (fm_c mw_127 (fm_c mw_631 (fm_c mw_630 (fm_c mw_629 (fm_c mw_628 (fm_c mw_129 ((fun _ h => absurd h List.not_mem_nil)))))))))))
set_option maxRecDepth 20000 in
theorem win_wsX8_go : ∀ w ∈ wsX8_go, w ∈ lw_tbl := (fm_c mw_603 (al_in (al_in win_wsX8_go_r1 (al_in win_wsX8_go_r2 win_wsX8_go_r3)) wsL_in_wsX80))
set_option maxRecDepth 20000 in
theorem win_wsX7_dusk_r1 : ∀ w ∈ wsX7_dusk_r1, w ∈ lw_tbl := (fm_c mw_13 (fm_c mw_14 (fm_c mw_151 (fm_c mw_150 (fm_c mw_138 (fm_c mw_149 (fm_c mw_322 (fm_c mw_321 (fm_c mw_320 (fm_c mw_15 (fm_c mw_319 (fm_c mw_64 (fm_c mw_318 (fm_c mw_298 (fm_c mw_297 (fm_c mw_296 (fm_c mw_63 (fm_c mw_57 (fm_c mw_56 (fm_c mw_55 (fm_c mw_54 (fm_c mw_53 (fm_c mw_52 (fm_c mw_51 ((fun _ h => absurd h List.not_mem_nil))))))))))))))))))))))))))
set_option maxRecDepth 20000 in
theorem win_wsX7_dusk_r2 : ∀ w ∈ wsX7_dusk_r2, w ∈ lw_tbl := (fm_c mw_50 (fm_c mw_638 (fm_c mw_598 (fm_c mw_597 (fm_c mw_596 (fm_c mw_62 (fm_c mw_595 (fm_c mw_594 (fm_c mw_593 (fm_c mw_592 (fm_c mw_591 (fm_c mw_590 (fm_c mw_589 (fm_c mw_311 (fm_c mw_310 (fm_c mw_305 (fm_c mw_304 (fm_c mw_577 (fm_c mw_576 (fm_c mw_450 (fm_c mw_449 (fm_c mw_448 (fm_c mw_447 (fm_c mw_446 ((fun _ h => absurd h List.not_mem_nil))))))))))))))))))))))))))
set_option maxRecDepth 20000 in
theorem win_wsX7_dusk_r3 : ∀ w ∈ wsX7_dusk_r3, w ∈ lw_tbl := (fm_c mw_445 (fm_c mw_308 (fm_c mw_307 (fm_c mw_19 (fm_c mw_306 (fm_c mw_71 (fm_c mw_444 (fm_c mw_443 (fm_c mw_442 (fm_c mw_441 (fm_c mw_417 (fm_c mw_416 ((fun _ h => absurd h List.not_mem_nil))))))))))))))
set_option maxRecDepth 20000 in
theorem win_wsX7_dusk : ∀ w ∈ wsX7_dusk, w ∈ lw_tbl := (fm_c mw_637 (al_in (al_in (al_in (al_in win_wsX7_dusk_r1 (al_in win_wsX7_dusk_r2 win_wsX7_dusk_r3)) wsL_in_wsX70) wsL_in_wsX60) wsL_in_wsX20))
set_option maxRecDepth 20000 in
theorem win_wsX8_dusk_r1 : ∀ w ∈ wsX8_dusk_r1, w ∈ lw_tbl := (fm_c mw_643 (fm_c mw_459 (fm_c mw_121 (fm_c mw_158 (fm_c mw_157 (fm_c mw_144 (fm_c mw_156 (fm_c mw_458 (fm_c mw_457 (fm_c mw_456 (fm_c mw_455 (fm_c mw_334 (fm_c mw_617 (fm_c mw_616 (fm_c mw_615 (fm_c mw_614 (fm_c mw_130 (fm_c mw_613 (fm_c mw_612 (fm_c mw_633 (fm_c mw_632 (fm_c mw_331 (fm_c mw_127 (fm_c mw_631 ((fun _ h => absurd h List.not_mem_nil))))))))))))))))))))))))))
set_option maxRecDepth 20000 in
theorem win_wsX8_dusk_r2 : ∀ w ∈ wsX8_dusk_r2, w ∈ lw_tbl := (fm_c mw_630 (fm_c mw_629 (fm_c mw_628 (fm_c mw_129 ((fun _ h => absurd h List.not_mem_nil))))))
set_option maxRecDepth 20000 in
theorem win_wsX8_dusk : ∀ w ∈ wsX8_dusk, w ∈ lw_tbl := (fm_c mw_642 (al_in (al_in win_wsX8_dusk_r1 win_wsX8_dusk_r2) wsL_in_wsX80))
set_option maxRecDepth 20000 in
theorem win_wsX7_again_r1 : ∀ w ∈ wsX7_again_r1, w ∈ lw_tbl := (fm_c mw_13 (fm_c mw_14 (fm_c mw_322 (fm_c mw_321 (fm_c mw_320 (fm_c mw_15 (fm_c mw_319 (fm_c mw_64 (fm_c mw_318 (fm_c mw_298 (fm_c mw_297 (fm_c mw_296 (fm_c mw_63 (fm_c mw_57 (fm_c mw_56 (fm_c mw_55 (fm_c mw_54 (fm_c mw_53 (fm_c mw_52 (fm_c mw_51 (fm_c mw_50 (fm_c mw_638 (fm_c mw_598 (fm_c mw_597 ((fun _ h => absurd h List.not_mem_nil))))))))))))))))))))))))))
set_option maxRecDepth 20000 in
theorem win_wsX7_again_r2 : ∀ w ∈ wsX7_again_r2, w ∈ lw_tbl := (fm_c mw_596 (fm_c mw_62 (fm_c mw_595 (fm_c mw_594 (fm_c mw_593 (fm_c mw_592 (fm_c mw_591 (fm_c mw_590 (fm_c mw_589 (fm_c mw_311 (fm_c mw_138 (fm_c mw_310 (fm_c mw_305 (fm_c mw_304 (fm_c mw_577 (fm_c mw_576 (fm_c mw_651 (fm_c mw_650 (fm_c mw_649 (fm_c mw_648 (fm_c mw_477 ((fun _ h => absurd h List.not_mem_nil)))))))))))))))))))))))
set_option maxRecDepth 20000 in
theorem win_wsX7_again : ∀ w ∈ wsX7_again, w ∈ lw_tbl := (fm_c mw_647 (al_in (al_in (al_in (al_in win_wsX7_again_r1 win_wsX7_again_r2) wsL_in_wsX70) wsL_in_wsX60) wsL_in_wsX20))
set_option maxRecDepth 20000 in
theorem win_wsX8_again : ∀ w ∈ wsX8_again, w ∈ lw_tbl := (fm_c mw_655 (al_in (fm_c mw_334 (fm_c mw_121 (fm_c mw_130 (fm_c mw_617 (fm_c mw_616 (fm_c mw_615 (fm_c mw_144 (fm_c mw_614 (fm_c mw_613 (fm_c mw_612 (fm_c mw_633 (fm_c mw_632 (fm_c mw_331 (fm_c mw_127 (fm_c mw_631 (fm_c mw_630 (fm_c mw_629 (fm_c mw_628 (fm_c mw_129 ((fun _ h => absurd h List.not_mem_nil))))))))))))))))))))) wsL_in_wsX80))
set_option maxRecDepth 20000 in
theorem win_wsX7_thread : ∀ w ∈ wsX7_thread, w ∈ lw_tbl := (fm_c mw_659 (al_in (al_in (fm_c mw_14 (fm_c mw_546 (fm_c mw_660 ((fun _ h => absurd h List.not_mem_nil))))) wsL_in_wsX70) wsL_in_wsX60))
set_option maxRecDepth 20000 in
theorem win_wsX8_thread : ∀ w ∈ wsX8_thread, w ∈ lw_tbl := (fm_c mw_664 (al_in (fm_c mw_130 ((fun _ h => absurd h List.not_mem_nil))) wsL_in_wsX80))
set_option maxRecDepth 20000 in
theorem win_wsX7_leads_r1 : ∀ w ∈ wsX7_leads_r1, w ∈ lw_tbl := (fm_c mw_14 (fm_c mw_422 (fm_c mw_546 (fm_c mw_660 (fm_c mw_151 (fm_c mw_150 (fm_c mw_138 (fm_c mw_149 (fm_c mw_555 (fm_c mw_475 (fm_c mw_474 (fm_c mw_15 (fm_c mw_473 (fm_c mw_62 (fm_c mw_446 (fm_c mw_64 (fm_c mw_445 (fm_c mw_308 (fm_c mw_307 (fm_c mw_19 (fm_c mw_306 (fm_c mw_71 (fm_c mw_444 (fm_c mw_443 ((fun _ h => absurd h List.not_mem_nil))))))))))))))))))))))))))
set_option maxRecDepth 20000 in
theorem win_wsX7_leads_r2 : ∀ w ∈ wsX7_leads_r2, w ∈ lw_tbl := (fm_c mw_442 (fm_c mw_441 (fm_c mw_57 ((fun _ h => absurd h List.not_mem_nil)))))
set_option maxRecDepth 20000 in
theorem win_wsX7_leads : ∀ w ∈ wsX7_leads, w ∈ lw_tbl := (fm_c mw_668 (al_in (al_in (al_in (al_in win_wsX7_leads_r1 win_wsX7_leads_r2) wsL_in_wsX70) wsL_in_wsX60) wsL_in_wsX20))
set_option maxRecDepth 20000 in
theorem win_wsX8_leads : ∀ w ∈ wsX8_leads, w ∈ lw_tbl := (fm_c mw_672 (al_in (fm_c mw_130 (fm_c mw_158 (fm_c mw_157 (fm_c mw_144 (fm_c mw_156 (fm_c mw_490 (fm_c mw_489 (fm_c mw_488 (fm_c mw_487 ((fun _ h => absurd h List.not_mem_nil))))))))))) wsL_in_wsX80))
set_option maxRecDepth 20000 in
theorem win_wsX7_soonest_r1 : ∀ w ∈ wsX7_soonest_r1, w ∈ lw_tbl := (fm_c mw_18 (fm_c mw_14 (fm_c mw_419 (fm_c mw_45 (fm_c mw_13 (fm_c mw_482 (fm_c mw_272 (fm_c mw_317 (fm_c mw_19 (fm_c mw_316 (fm_c mw_72 (fm_c mw_151 (fm_c mw_150 (fm_c mw_138 (fm_c mw_149 (fm_c mw_682 (fm_c mw_681 (fm_c mw_680 (fm_c mw_46 (fm_c mw_679 (fm_c mw_108 (fm_c mw_74 (fm_c mw_678 (fm_c mw_677 ((fun _ h => absurd h List.not_mem_nil))))))))))))))))))))))))))
set_option maxRecDepth 20000 in
theorem win_wsX7_soonest_r2 : ∀ w ∈ wsX7_soonest_r2, w ∈ lw_tbl := (fm_c mw_688 (fm_c mw_321 (fm_c mw_320 (fm_c mw_15 (fm_c mw_319 (fm_c mw_64 (fm_c mw_318 (fm_c mw_298 (fm_c mw_297 (fm_c mw_296 (fm_c mw_63 (fm_c mw_57 (fm_c mw_56 (fm_c mw_55 (fm_c mw_54 (fm_c mw_53 (fm_c mw_52 (fm_c mw_51 (fm_c mw_50 (fm_c mw_687 (fm_c mw_686 (fm_c mw_685 (fm_c mw_684 (fm_c mw_683 ((fun _ h => absurd h List.not_mem_nil))))))))))))))))))))))))))
set_option maxRecDepth 20000 in
theorem win_wsX7_soonest_r3 : ∀ w ∈ wsX7_soonest_r3, w ∈ lw_tbl := (fm_c mw_705 (fm_c mw_704 (fm_c mw_703 (fm_c mw_73 (fm_c mw_109 (fm_c mw_702 (fm_c mw_701 (fm_c mw_700 (fm_c mw_699 (fm_c mw_698 (fm_c mw_697 (fm_c mw_696 (fm_c mw_695 (fm_c mw_694 (fm_c mw_693 (fm_c mw_692 (fm_c mw_691 (fm_c mw_107 (fm_c mw_690 (fm_c mw_689 (fm_c mw_563 (fm_c mw_562 (fm_c mw_561 (fm_c mw_560 ((fun _ h => absurd h List.not_mem_nil))))))))))))))))))))))))))
set_option maxRecDepth 20000 in
theorem win_wsX7_soonest_r4 : ∀ w ∈ wsX7_soonest_r4, w ∈ lw_tbl := (fm_c mw_588 (fm_c mw_587 (fm_c mw_586 (fm_c mw_62 (fm_c mw_477 (fm_c mw_476 (fm_c mw_475 (fm_c mw_474 (fm_c mw_473 (fm_c mw_446 (fm_c mw_445 (fm_c mw_308 (fm_c mw_307 (fm_c mw_306 (fm_c mw_71 (fm_c mw_444 (fm_c mw_443 (fm_c mw_442 (fm_c mw_441 (fm_c mw_585 (fm_c mw_480 (fm_c mw_479 (fm_c mw_478 (fm_c mw_584 ((fun _ h => absurd h List.not_mem_nil))))))))))))))))))))))))))
set_option maxRecDepth 20000 in
theorem win_wsX7_soonest_r5 : ∀ w ∈ wsX7_soonest_r5, w ∈ lw_tbl := (fm_c mw_583 (fm_c mw_582 (fm_c mw_581 (fm_c mw_580 (fm_c mw_579 (fm_c mw_578 (fm_c mw_577 (fm_c mw_576 (fm_c mw_575 (fm_c mw_574 (fm_c mw_711 (fm_c mw_710 (fm_c mw_709 (fm_c mw_708 (fm_c mw_707 (fm_c mw_706 (fm_c mw_572 (fm_c mw_571 (fm_c mw_570 (fm_c mw_599 (fm_c mw_598 (fm_c mw_597 (fm_c mw_596 (fm_c mw_595 ((fun _ h => absurd h List.not_mem_nil))))))))))))))))))))))))))
set_option maxRecDepth 20000 in
theorem win_wsX7_soonest_r6 : ∀ w ∈ wsX7_soonest_r6, w ∈ lw_tbl := (fm_c mw_594 (fm_c mw_593 (fm_c mw_592 (fm_c mw_591 (fm_c mw_590 (fm_c mw_589 (fm_c mw_311 (fm_c mw_310 (fm_c mw_305 (fm_c mw_304 ((fun _ h => absurd h List.not_mem_nil))))))))))))
set_option maxRecDepth 20000 in
theorem win_wsX7_soonest : ∀ w ∈ wsX7_soonest, w ∈ lw_tbl := (fm_c mw_676 (al_in (al_in (al_in (al_in (al_in win_wsX7_soonest_r1 (al_in win_wsX7_soonest_r2 (al_in win_wsX7_soonest_r3 (al_in win_wsX7_soonest_r4 (al_in win_wsX7_soonest_r5 win_wsX7_soonest_r6))))) wsL_in_wsX70) wsL_in_wsX60) wsL_in_wsX20) wsL_in_wsX40))
set_option maxRecDepth 20000 in
theorem win_wsX8_soonest_r1 : ∀ w ∈ wsX8_soonest_r1, w ∈ lw_tbl := (fm_c mw_725 (fm_c mw_724 (fm_c mw_130 (fm_c mw_118 (fm_c mw_498 (fm_c mw_497 (fm_c mw_496 (fm_c mw_144 (fm_c mw_495 (fm_c mw_129 (fm_c mw_158 (fm_c mw_157 (fm_c mw_156 (fm_c mw_723 (fm_c mw_722 (fm_c mw_721 (fm_c mw_720 (fm_c mw_119 (fm_c mw_719 (fm_c mw_718 (fm_c mw_717 (fm_c mw_716 (fm_c mw_120 (fm_c mw_121 ((fun _ h => absurd h List.not_mem_nil))))))))))))))))))))))))))
set_option maxRecDepth 20000 in
theorem win_wsX8_soonest_r2 : ∀ w ∈ wsX8_soonest_r2, w ∈ lw_tbl := (fm_c mw_617 (fm_c mw_616 (fm_c mw_615 (fm_c mw_614 (fm_c mw_613 (fm_c mw_612 (fm_c mw_633 (fm_c mw_632 (fm_c mw_331 (fm_c mw_127 (fm_c mw_631 (fm_c mw_630 (fm_c mw_629 (fm_c mw_628 (fm_c mw_436 (fm_c mw_435 (fm_c mw_434 (fm_c mw_433 (fm_c mw_731 (fm_c mw_730 (fm_c mw_729 (fm_c mw_728 (fm_c mw_727 (fm_c mw_726 ((fun _ h => absurd h List.not_mem_nil))))))))))))))))))))))))))
set_option maxRecDepth 20000 in
theorem win_wsX8_soonest_r3 : ∀ w ∈ wsX8_soonest_r3, w ∈ lw_tbl := (fm_c mw_732 (fm_c mw_458 (fm_c mw_457 (fm_c mw_456 (fm_c mw_455 (fm_c mw_334 (fm_c mw_490 (fm_c mw_489 (fm_c mw_488 (fm_c mw_487 (fm_c mw_627 (fm_c mw_626 (fm_c mw_625 (fm_c mw_624 (fm_c mw_494 (fm_c mw_493 (fm_c mw_492 (fm_c mw_491 (fm_c mw_623 (fm_c mw_622 (fm_c mw_621 (fm_c mw_620 (fm_c mw_619 (fm_c mw_618 ((fun _ h => absurd h List.not_mem_nil))))))))))))))))))))))))))
set_option maxRecDepth 20000 in
theorem win_wsX8_soonest_r4 : ∀ w ∈ wsX8_soonest_r4, w ∈ lw_tbl := (fm_c mw_740 (fm_c mw_739 (fm_c mw_738 (fm_c mw_737 (fm_c mw_736 (fm_c mw_735 (fm_c mw_734 (fm_c mw_733 ((fun _ h => absurd h List.not_mem_nil))))))))))
set_option maxRecDepth 20000 in
theorem win_wsX8_soonest : ∀ w ∈ wsX8_soonest, w ∈ lw_tbl := (fm_c mw_715 (al_in (al_in win_wsX8_soonest_r1 (al_in win_wsX8_soonest_r2 (al_in win_wsX8_soonest_r3 win_wsX8_soonest_r4))) wsL_in_wsX80))
set_option maxRecDepth 20000 in
theorem win_wsX7_alive_r1 : ∀ w ∈ wsX7_alive_r1, w ∈ lw_tbl := (fm_c mw_14 (fm_c mw_419 (fm_c mw_45 (fm_c mw_13 (fm_c mw_151 (fm_c mw_150 (fm_c mw_138 (fm_c mw_149 (fm_c mw_682 (fm_c mw_681 (fm_c mw_680 (fm_c mw_46 (fm_c mw_679 (fm_c mw_108 (fm_c mw_74 (fm_c mw_678 (fm_c mw_677 (fm_c mw_688 (fm_c mw_321 (fm_c mw_320 (fm_c mw_15 (fm_c mw_319 (fm_c mw_64 (fm_c mw_318 ((fun _ h => absurd h List.not_mem_nil))))))))))))))))))))))))))
set_option maxRecDepth 20000 in
theorem win_wsX7_alive_r2 : ∀ w ∈ wsX7_alive_r2, w ∈ lw_tbl := (fm_c mw_298 (fm_c mw_297 (fm_c mw_296 (fm_c mw_63 (fm_c mw_57 (fm_c mw_56 (fm_c mw_55 (fm_c mw_54 (fm_c mw_53 (fm_c mw_52 (fm_c mw_51 (fm_c mw_50 (fm_c mw_702 (fm_c mw_701 (fm_c mw_700 (fm_c mw_699 (fm_c mw_698 (fm_c mw_697 (fm_c mw_696 (fm_c mw_695 (fm_c mw_694 (fm_c mw_693 (fm_c mw_692 (fm_c mw_691 ((fun _ h => absurd h List.not_mem_nil))))))))))))))))))))))))))
set_option maxRecDepth 20000 in
theorem win_wsX7_alive_r3 : ∀ w ∈ wsX7_alive_r3, w ∈ lw_tbl := (fm_c mw_107 (fm_c mw_690 (fm_c mw_689 (fm_c mw_563 (fm_c mw_562 (fm_c mw_561 (fm_c mw_560 (fm_c mw_588 (fm_c mw_587 (fm_c mw_586 (fm_c mw_62 (fm_c mw_477 (fm_c mw_476 (fm_c mw_475 (fm_c mw_474 (fm_c mw_473 (fm_c mw_446 (fm_c mw_445 (fm_c mw_308 (fm_c mw_307 (fm_c mw_19 (fm_c mw_306 (fm_c mw_71 (fm_c mw_444 ((fun _ h => absurd h List.not_mem_nil))))))))))))))))))))))))))
set_option maxRecDepth 20000 in
theorem win_wsX7_alive_r4 : ∀ w ∈ wsX7_alive_r4, w ∈ lw_tbl := (fm_c mw_443 (fm_c mw_442 (fm_c mw_441 (fm_c mw_585 (fm_c mw_480 (fm_c mw_479 (fm_c mw_478 (fm_c mw_584 (fm_c mw_583 (fm_c mw_582 (fm_c mw_581 (fm_c mw_580 (fm_c mw_579 (fm_c mw_578 (fm_c mw_577 (fm_c mw_576 (fm_c mw_575 (fm_c mw_574 (fm_c mw_711 (fm_c mw_710 (fm_c mw_709 (fm_c mw_708 (fm_c mw_707 (fm_c mw_73 ((fun _ h => absurd h List.not_mem_nil))))))))))))))))))))))))))
set_option maxRecDepth 20000 in
theorem win_wsX7_alive_r5 : ∀ w ∈ wsX7_alive_r5, w ∈ lw_tbl := (fm_c mw_109 (fm_c mw_706 (fm_c mw_572 (fm_c mw_571 (fm_c mw_570 (fm_c mw_599 (fm_c mw_598 (fm_c mw_597 (fm_c mw_596 (fm_c mw_595 (fm_c mw_594 (fm_c mw_593 (fm_c mw_592 (fm_c mw_591 (fm_c mw_590 (fm_c mw_589 (fm_c mw_311 (fm_c mw_310 (fm_c mw_305 (fm_c mw_304 (fm_c mw_748 (fm_c mw_747 (fm_c mw_746 (fm_c mw_745 ((fun _ h => absurd h List.not_mem_nil))))))))))))))))))))))))))
set_option maxRecDepth 20000 in
theorem win_wsX7_alive : ∀ w ∈ wsX7_alive, w ∈ lw_tbl := (fm_c mw_744 (al_in (al_in (al_in (al_in (al_in win_wsX7_alive_r1 (al_in win_wsX7_alive_r2 (al_in win_wsX7_alive_r3 (al_in win_wsX7_alive_r4 win_wsX7_alive_r5)))) wsL_in_wsX70) wsL_in_wsX60) wsL_in_wsX40) wsL_in_wsX20))
set_option maxRecDepth 20000 in
theorem win_wsX8_alive_r1 : ∀ w ∈ wsX8_alive_r1, w ∈ lw_tbl := (fm_c mw_753 (fm_c mw_130 (fm_c mw_158 (fm_c mw_157 (fm_c mw_144 (fm_c mw_156 (fm_c mw_723 (fm_c mw_722 (fm_c mw_721 (fm_c mw_720 (fm_c mw_119 (fm_c mw_719 (fm_c mw_718 (fm_c mw_717 (fm_c mw_716 (fm_c mw_120 (fm_c mw_121 (fm_c mw_617 (fm_c mw_616 (fm_c mw_615 (fm_c mw_614 (fm_c mw_613 (fm_c mw_612 (fm_c mw_633 ((fun _ h => absurd h List.not_mem_nil))))))))))))))))))))))))))
set_option maxRecDepth 20000 in
theorem win_wsX8_alive_r2 : ∀ w ∈ wsX8_alive_r2, w ∈ lw_tbl := (fm_c mw_632 (fm_c mw_331 (fm_c mw_127 (fm_c mw_631 (fm_c mw_630 (fm_c mw_629 (fm_c mw_628 (fm_c mw_129 (fm_c mw_436 (fm_c mw_435 (fm_c mw_434 (fm_c mw_433 (fm_c mw_731 (fm_c mw_730 (fm_c mw_729 (fm_c mw_728 (fm_c mw_727 (fm_c mw_726 (fm_c mw_732 (fm_c mw_458 (fm_c mw_457 (fm_c mw_456 (fm_c mw_455 (fm_c mw_334 ((fun _ h => absurd h List.not_mem_nil))))))))))))))))))))))))))
set_option maxRecDepth 20000 in
theorem win_wsX8_alive_r3 : ∀ w ∈ wsX8_alive_r3, w ∈ lw_tbl := (fm_c mw_490 (fm_c mw_489 (fm_c mw_488 (fm_c mw_487 (fm_c mw_627 (fm_c mw_626 (fm_c mw_625 (fm_c mw_624 (fm_c mw_494 (fm_c mw_493 (fm_c mw_492 (fm_c mw_491 (fm_c mw_623 (fm_c mw_622 (fm_c mw_621 (fm_c mw_620 (fm_c mw_619 (fm_c mw_618 (fm_c mw_740 (fm_c mw_739 (fm_c mw_738 (fm_c mw_737 ((fun _ h => absurd h List.not_mem_nil))))))))))))))))))))))))
set_option maxRecDepth 20000 in
theorem win_wsX8_alive : ∀ w ∈ wsX8_alive, w ∈ lw_tbl := (fm_c mw_752 (al_in (al_in win_wsX8_alive_r1 (al_in win_wsX8_alive_r2 win_wsX8_alive_r3)) wsL_in_wsX80))
set_option maxRecDepth 20000 in
theorem win_wsX7_see_r1 : ∀ w ∈ wsX7_see_r1, w ∈ lw_tbl := (fm_c mw_18 (fm_c mw_2 (fm_c mw_172 (fm_c mw_151 (fm_c mw_150 (fm_c mw_138 (fm_c mw_149 (fm_c mw_504 (fm_c mw_308 (fm_c mw_307 (fm_c mw_19 (fm_c mw_306 (fm_c mw_71 (fm_c mw_482 (fm_c mw_272 (fm_c mw_317 (fm_c mw_316 (fm_c mw_72 (fm_c mw_761 (fm_c mw_760 (fm_c mw_759 (fm_c mw_3 (fm_c mw_758 (fm_c mw_78 ((fun _ h => absurd h List.not_mem_nil))))))))))))))))))))))))))
set_option maxRecDepth 20000 in
theorem win_wsX7_see_r2 : ∀ w ∈ wsX7_see_r2, w ∈ lw_tbl := (fm_c mw_81 (fm_c mw_80 (fm_c mw_79 ((fun _ h => absurd h List.not_mem_nil)))))
set_option maxRecDepth 20000 in
theorem win_wsX7_see : ∀ w ∈ wsX7_see, w ∈ lw_tbl := (fm_c mw_757 (al_in (al_in (al_in (al_in win_wsX7_see_r1 win_wsX7_see_r2) wsL_in_wsX70) wsL_in_wsX00) wsL_in_wsX20))
set_option maxRecDepth 20000 in
theorem win_wsX8_see : ∀ w ∈ wsX8_see, w ∈ lw_tbl := (fm_c mw_765 (al_in (fm_c mw_522 (fm_c mw_330 (fm_c mw_117 (fm_c mw_158 (fm_c mw_157 (fm_c mw_144 (fm_c mw_156 (fm_c mw_458 (fm_c mw_457 (fm_c mw_456 (fm_c mw_455 (fm_c mw_334 (fm_c mw_498 (fm_c mw_497 (fm_c mw_496 (fm_c mw_495 (fm_c mw_129 ((fun _ h => absurd h List.not_mem_nil))))))))))))))))))) wsL_in_wsX80))
set_option maxRecDepth 20000 in
theorem win_wsX7_forget : ∀ w ∈ wsX7_forget, w ∈ lw_tbl := (fm_c mw_769 (al_in (al_in (fm_c mw_2 (fm_c mw_773 (fm_c mw_772 (fm_c mw_771 (fm_c mw_3 (fm_c mw_770 (fm_c mw_78 (fm_c mw_150 (fm_c mw_138 (fm_c mw_149 ((fun _ h => absurd h List.not_mem_nil)))))))))))) wsL_in_wsX70) wsL_in_wsX00))
set_option maxRecDepth 20000 in
theorem win_wsX8_forget : ∀ w ∈ wsX8_forget, w ∈ lw_tbl := (fm_c mw_777 (al_in (fm_c mw_330 (fm_c mw_158 (fm_c mw_157 (fm_c mw_144 (fm_c mw_156 ((fun _ h => absurd h List.not_mem_nil))))))) wsL_in_wsX80))
set_option maxRecDepth 20000 in
theorem win_wsX7_laws_r1 : ∀ w ∈ wsX7_laws_r1, w ∈ lw_tbl := (fm_c mw_151 (fm_c mw_150 (fm_c mw_138 (fm_c mw_149 (fm_c mw_790 (fm_c mw_789 (fm_c mw_788 (fm_c mw_787 (fm_c mw_18 (fm_c mw_13 (fm_c mw_14 (fm_c mw_786 (fm_c mw_785 (fm_c mw_784 (fm_c mw_19 (fm_c mw_783 (fm_c mw_72 (fm_c mw_782 (fm_c mw_314 (fm_c mw_313 (fm_c mw_312 (fm_c mw_311 (fm_c mw_310 (fm_c mw_309 ((fun _ h => absurd h List.not_mem_nil))))))))))))))))))))))))))
set_option maxRecDepth 20000 in
theorem win_wsX7_laws_r2 : ∀ w ∈ wsX7_laws_r2, w ∈ lw_tbl := (fm_c mw_308 (fm_c mw_307 (fm_c mw_306 (fm_c mw_71 (fm_c mw_305 (fm_c mw_304 (fm_c mw_322 (fm_c mw_321 (fm_c mw_320 (fm_c mw_15 (fm_c mw_319 (fm_c mw_64 (fm_c mw_318 (fm_c mw_298 (fm_c mw_297 (fm_c mw_296 (fm_c mw_63 (fm_c mw_57 (fm_c mw_56 (fm_c mw_55 (fm_c mw_54 (fm_c mw_53 (fm_c mw_52 (fm_c mw_51 ((fun _ h => absurd h List.not_mem_nil))))))))))))))))))))))))))
set_option maxRecDepth 20000 in
theorem win_wsX7_laws_r3 : ∀ w ∈ wsX7_laws_r3, w ∈ lw_tbl := (fm_c mw_50 (fm_c mw_799 (fm_c mw_592 (fm_c mw_591 (fm_c mw_590 (fm_c mw_62 (fm_c mw_589 (fm_c mw_577 (fm_c mw_576 (fm_c mw_798 (fm_c mw_797 (fm_c mw_796 (fm_c mw_795 (fm_c mw_2 (fm_c mw_172 (fm_c mw_794 (fm_c mw_793 (fm_c mw_792 (fm_c mw_791 ((fun _ h => absurd h List.not_mem_nil)))))))))))))))))))))
set_option maxRecDepth 20000 in
theorem win_wsX7_laws : ∀ w ∈ wsX7_laws, w ∈ lw_tbl := (fm_c mw_781 (al_in (al_in (al_in (al_in (al_in win_wsX7_laws_r1 (al_in win_wsX7_laws_r2 win_wsX7_laws_r3)) wsL_in_wsX70) wsL_in_wsX20) wsL_in_wsX60) wsL_in_wsX00))
set_option maxRecDepth 20000 in
theorem win_wsX8_laws_r1 : ∀ w ∈ wsX8_laws_r1, w ∈ lw_tbl := (fm_c mw_459 (fm_c mw_158 (fm_c mw_157 (fm_c mw_144 (fm_c mw_156 (fm_c mw_813 (fm_c mw_812 (fm_c mw_811 (fm_c mw_810 (fm_c mw_330 (fm_c mw_117 (fm_c mw_121 (fm_c mw_809 (fm_c mw_808 (fm_c mw_807 (fm_c mw_806 (fm_c mw_129 (fm_c mw_458 (fm_c mw_457 (fm_c mw_456 (fm_c mw_455 (fm_c mw_334 (fm_c mw_805 (fm_c mw_804 ((fun _ h => absurd h List.not_mem_nil))))))))))))))))))))))))))
set_option maxRecDepth 20000 in
theorem win_wsX8_laws_r2 : ∀ w ∈ wsX8_laws_r2, w ∈ lw_tbl := (fm_c mw_815 (fm_c mw_814 (fm_c mw_617 (fm_c mw_616 (fm_c mw_615 (fm_c mw_614 (fm_c mw_130 (fm_c mw_631 (fm_c mw_630 (fm_c mw_629 (fm_c mw_628 ((fun _ h => absurd h List.not_mem_nil)))))))))))))
set_option maxRecDepth 20000 in
theorem win_wsX8_laws : ∀ w ∈ wsX8_laws, w ∈ lw_tbl := (fm_c mw_803 (al_in (al_in win_wsX8_laws_r1 win_wsX8_laws_r2) wsL_in_wsX80))
set_option maxRecDepth 20000 in
theorem win_wsX7_sure_r1 : ∀ w ∈ wsX7_sure_r1, w ∈ lw_tbl := (fm_c mw_18 (fm_c mw_151 (fm_c mw_150 (fm_c mw_138 (fm_c mw_149 (fm_c mw_504 (fm_c mw_308 (fm_c mw_307 (fm_c mw_19 (fm_c mw_306 (fm_c mw_71 (fm_c mw_790 (fm_c mw_789 (fm_c mw_788 (fm_c mw_787 (fm_c mw_13 (fm_c mw_14 (fm_c mw_786 (fm_c mw_785 (fm_c mw_784 (fm_c mw_783 (fm_c mw_72 (fm_c mw_782 (fm_c mw_314 ((fun _ h => absurd h List.not_mem_nil))))))))))))))))))))))))))
set_option maxRecDepth 20000 in
theorem win_wsX7_sure_r2 : ∀ w ∈ wsX7_sure_r2, w ∈ lw_tbl := (fm_c mw_313 (fm_c mw_312 (fm_c mw_311 (fm_c mw_310 (fm_c mw_309 (fm_c mw_305 (fm_c mw_304 (fm_c mw_322 (fm_c mw_321 (fm_c mw_320 (fm_c mw_15 (fm_c mw_319 (fm_c mw_64 (fm_c mw_318 (fm_c mw_298 (fm_c mw_297 (fm_c mw_296 (fm_c mw_63 (fm_c mw_57 (fm_c mw_56 (fm_c mw_55 (fm_c mw_54 (fm_c mw_53 (fm_c mw_52 ((fun _ h => absurd h List.not_mem_nil))))))))))))))))))))))))))
set_option maxRecDepth 20000 in
theorem win_wsX7_sure_r3 : ∀ w ∈ wsX7_sure_r3, w ∈ lw_tbl := (fm_c mw_51 (fm_c mw_50 (fm_c mw_799 (fm_c mw_592 (fm_c mw_591 (fm_c mw_590 (fm_c mw_62 (fm_c mw_589 (fm_c mw_577 (fm_c mw_576 (fm_c mw_798 (fm_c mw_797 (fm_c mw_796 (fm_c mw_795 (fm_c mw_2 (fm_c mw_172 (fm_c mw_794 (fm_c mw_793 (fm_c mw_792 (fm_c mw_791 (fm_c mw_823 (fm_c mw_822 (fm_c mw_821 (fm_c mw_820 ((fun _ h => absurd h List.not_mem_nil))))))))))))))))))))))))))
set_option maxRecDepth 20000 in
theorem win_wsX7_sure : ∀ w ∈ wsX7_sure, w ∈ lw_tbl := (fm_c mw_819 (al_in (al_in (al_in (al_in (al_in win_wsX7_sure_r1 (al_in win_wsX7_sure_r2 win_wsX7_sure_r3)) wsL_in_wsX70) wsL_in_wsX20) wsL_in_wsX60) wsL_in_wsX00))
set_option maxRecDepth 20000 in
theorem win_wsX8_sure_r1 : ∀ w ∈ wsX8_sure_r1, w ∈ lw_tbl := (fm_c mw_522 (fm_c mw_121 (fm_c mw_158 (fm_c mw_157 (fm_c mw_144 (fm_c mw_156 (fm_c mw_458 (fm_c mw_457 (fm_c mw_456 (fm_c mw_455 (fm_c mw_334 (fm_c mw_813 (fm_c mw_812 (fm_c mw_811 (fm_c mw_810 (fm_c mw_330 (fm_c mw_117 (fm_c mw_809 (fm_c mw_808 (fm_c mw_807 (fm_c mw_806 (fm_c mw_129 (fm_c mw_805 (fm_c mw_804 ((fun _ h => absurd h List.not_mem_nil))))))))))))))))))))))))))
set_option maxRecDepth 20000 in
theorem win_wsX8_sure_r2 : ∀ w ∈ wsX8_sure_r2, w ∈ lw_tbl := (fm_c mw_815 (fm_c mw_814 (fm_c mw_617 (fm_c mw_616 (fm_c mw_615 (fm_c mw_614 (fm_c mw_130 (fm_c mw_631 (fm_c mw_630 (fm_c mw_629 (fm_c mw_628 (fm_c mw_623 (fm_c mw_622 (fm_c mw_621 (fm_c mw_620 (fm_c mw_619 (fm_c mw_618 ((fun _ h => absurd h List.not_mem_nil)))))))))))))))))))
set_option maxRecDepth 20000 in
theorem win_wsX8_sure : ∀ w ∈ wsX8_sure, w ∈ lw_tbl := (fm_c mw_827 (al_in (al_in win_wsX8_sure_r1 win_wsX8_sure_r2) wsL_in_wsX80))
set_option maxRecDepth 20000 in
theorem win_wsX7_hear_r1 : ∀ w ∈ wsX7_hear_r1, w ∈ lw_tbl := (fm_c mw_18 (fm_c mw_1 (fm_c mw_172 (fm_c mw_151 (fm_c mw_150 (fm_c mw_138 (fm_c mw_149 (fm_c mw_482 (fm_c mw_272 (fm_c mw_317 (fm_c mw_19 (fm_c mw_316 (fm_c mw_72 (fm_c mw_418 (fm_c mw_417 (fm_c mw_416 (fm_c mw_761 (fm_c mw_760 (fm_c mw_759 (fm_c mw_3 (fm_c mw_758 (fm_c mw_78 (fm_c mw_81 (fm_c mw_80 ((fun _ h => absurd h List.not_mem_nil))))))))))))))))))))))))))
set_option maxRecDepth 20000 in
theorem win_wsX7_hear_r2 : ∀ w ∈ wsX7_hear_r2, w ∈ lw_tbl := (fm_c mw_79 ((fun _ h => absurd h List.not_mem_nil)))
set_option maxRecDepth 20000 in
theorem win_wsX7_hear : ∀ w ∈ wsX7_hear, w ∈ lw_tbl := (fm_c mw_831 (al_in (al_in (al_in (al_in win_wsX7_hear_r1 win_wsX7_hear_r2) wsL_in_wsX70) wsL_in_wsX00) wsL_in_wsX20))
set_option maxRecDepth 20000 in
theorem win_wsX8_hear : ∀ w ∈ wsX8_hear, w ∈ lw_tbl := (fm_c mw_835 (al_in (fm_c mw_836 (fm_c mw_329 (fm_c mw_116 (fm_c mw_158 (fm_c mw_157 (fm_c mw_144 (fm_c mw_156 (fm_c mw_498 (fm_c mw_497 (fm_c mw_496 (fm_c mw_495 (fm_c mw_129 ((fun _ h => absurd h List.not_mem_nil)))))))))))))) wsL_in_wsX80))
set_option maxRecDepth 20000 in
theorem win_wsX7_hush : ∀ w ∈ wsX7_hush, w ∈ lw_tbl := (fm_c mw_840 (al_in (al_in (fm_c mw_1 (fm_c mw_773 (fm_c mw_772 (fm_c mw_771 (fm_c mw_3 (fm_c mw_770 (fm_c mw_78 (fm_c mw_150 (fm_c mw_138 (fm_c mw_149 ((fun _ h => absurd h List.not_mem_nil)))))))))))) wsL_in_wsX70) wsL_in_wsX00))
set_option maxRecDepth 20000 in
theorem win_wsX8_hush : ∀ w ∈ wsX8_hush, w ∈ lw_tbl := (fm_c mw_844 (al_in (fm_c mw_329 (fm_c mw_158 (fm_c mw_157 (fm_c mw_144 (fm_c mw_156 ((fun _ h => absurd h List.not_mem_nil))))))) wsL_in_wsX80))
set_option maxRecDepth 20000 in
theorem win_wsX7_lair_r1 : ∀ w ∈ wsX7_lair_r1, w ∈ lw_tbl := (fm_c mw_18 (fm_c mw_428 (fm_c mw_14 (fm_c mw_422 (fm_c mw_537 (fm_c mw_536 (fm_c mw_138 (fm_c mw_535 (fm_c mw_151 (fm_c mw_150 (fm_c mw_149 (fm_c mw_852 (fm_c mw_851 (fm_c mw_850 (fm_c mw_849 (fm_c mw_13 (fm_c mw_322 (fm_c mw_321 (fm_c mw_320 (fm_c mw_15 (fm_c mw_319 (fm_c mw_64 (fm_c mw_318 (fm_c mw_298 ((fun _ h => absurd h List.not_mem_nil))))))))))))))))))))))))))
set_option maxRecDepth 20000 in
theorem win_wsX7_lair_r2 : ∀ w ∈ wsX7_lair_r2, w ∈ lw_tbl := (fm_c mw_297 (fm_c mw_296 (fm_c mw_63 (fm_c mw_57 (fm_c mw_56 (fm_c mw_55 (fm_c mw_54 (fm_c mw_53 (fm_c mw_52 (fm_c mw_51 (fm_c mw_50 (fm_c mw_853 (fm_c mw_563 (fm_c mw_562 (fm_c mw_561 (fm_c mw_560 (fm_c mw_588 (fm_c mw_587 (fm_c mw_586 (fm_c mw_62 (fm_c mw_477 (fm_c mw_476 (fm_c mw_475 (fm_c mw_474 ((fun _ h => absurd h List.not_mem_nil))))))))))))))))))))))))))
set_option maxRecDepth 20000 in
theorem win_wsX7_lair_r3 : ∀ w ∈ wsX7_lair_r3, w ∈ lw_tbl := (fm_c mw_473 (fm_c mw_446 (fm_c mw_445 (fm_c mw_308 (fm_c mw_307 (fm_c mw_19 (fm_c mw_306 (fm_c mw_71 (fm_c mw_444 (fm_c mw_443 (fm_c mw_442 (fm_c mw_441 (fm_c mw_585 (fm_c mw_480 (fm_c mw_479 (fm_c mw_478 (fm_c mw_584 (fm_c mw_583 (fm_c mw_582 (fm_c mw_581 (fm_c mw_580 (fm_c mw_579 (fm_c mw_578 (fm_c mw_577 ((fun _ h => absurd h List.not_mem_nil))))))))))))))))))))))))))
set_option maxRecDepth 20000 in
theorem win_wsX7_lair_r4 : ∀ w ∈ wsX7_lair_r4, w ∈ lw_tbl := (fm_c mw_576 (fm_c mw_575 (fm_c mw_574 (fm_c mw_856 (fm_c mw_572 (fm_c mw_571 (fm_c mw_570 (fm_c mw_599 (fm_c mw_598 (fm_c mw_597 (fm_c mw_596 (fm_c mw_595 (fm_c mw_594 (fm_c mw_593 (fm_c mw_592 (fm_c mw_591 (fm_c mw_590 (fm_c mw_589 (fm_c mw_311 (fm_c mw_310 (fm_c mw_305 (fm_c mw_304 (fm_c mw_855 (fm_c mw_854 ((fun _ h => absurd h List.not_mem_nil))))))))))))))))))))))))))
set_option maxRecDepth 20000 in
theorem win_wsX7_lair_r5 : ∀ w ∈ wsX7_lair_r5, w ∈ lw_tbl := (fm_c mw_858 (fm_c mw_857 (fm_c mw_1 (fm_c mw_172 (fm_c mw_792 (fm_c mw_794 (fm_c mw_791 (fm_c mw_418 (fm_c mw_417 (fm_c mw_416 ((fun _ h => absurd h List.not_mem_nil))))))))))))
set_option maxRecDepth 20000 in
theorem win_wsX7_lair : ∀ w ∈ wsX7_lair, w ∈ lw_tbl := (fm_c mw_848 (al_in (al_in (al_in (al_in (al_in win_wsX7_lair_r1 (al_in win_wsX7_lair_r2 (al_in win_wsX7_lair_r3 (al_in win_wsX7_lair_r4 win_wsX7_lair_r5)))) wsL_in_wsX70) wsL_in_wsX20) wsL_in_wsX60) wsL_in_wsX00))
set_option maxRecDepth 20000 in
theorem win_wsX8_lair_r1 : ∀ w ∈ wsX8_lair_r1, w ∈ lw_tbl := (fm_c mw_375 (fm_c mw_129 (fm_c mw_158 (fm_c mw_157 (fm_c mw_144 (fm_c mw_156 (fm_c mw_719 (fm_c mw_718 (fm_c mw_717 (fm_c mw_716 (fm_c mw_120 (fm_c mw_121 (fm_c mw_130 (fm_c mw_617 (fm_c mw_616 (fm_c mw_615 (fm_c mw_614 (fm_c mw_613 (fm_c mw_612 (fm_c mw_633 (fm_c mw_632 (fm_c mw_331 (fm_c mw_127 (fm_c mw_631 ((fun _ h => absurd h List.not_mem_nil))))))))))))))))))))))))))
set_option maxRecDepth 20000 in
theorem win_wsX8_lair_r2 : ∀ w ∈ wsX8_lair_r2, w ∈ lw_tbl := (fm_c mw_630 (fm_c mw_629 (fm_c mw_628 (fm_c mw_866 (fm_c mw_865 (fm_c mw_864 (fm_c mw_863 (fm_c mw_329 (fm_c mw_116 (fm_c mw_627 (fm_c mw_626 (fm_c mw_625 (fm_c mw_624 (fm_c mw_334 (fm_c mw_494 (fm_c mw_493 (fm_c mw_492 (fm_c mw_491 (fm_c mw_490 (fm_c mw_489 (fm_c mw_488 (fm_c mw_487 (fm_c mw_623 (fm_c mw_622 ((fun _ h => absurd h List.not_mem_nil))))))))))))))))))))))))))
set_option maxRecDepth 20000 in
theorem win_wsX8_lair_r3 : ∀ w ∈ wsX8_lair_r3, w ∈ lw_tbl := (fm_c mw_621 (fm_c mw_620 (fm_c mw_619 (fm_c mw_618 ((fun _ h => absurd h List.not_mem_nil))))))
set_option maxRecDepth 20000 in
theorem win_wsX8_lair : ∀ w ∈ wsX8_lair, w ∈ lw_tbl := (fm_c mw_862 (al_in (al_in win_wsX8_lair_r1 (al_in win_wsX8_lair_r2 win_wsX8_lair_r3)) wsL_in_wsX80))
set_option maxRecDepth 20000 in
theorem win_wsX7_wall_r1 : ∀ w ∈ wsX7_wall_r1, w ∈ lw_tbl := (fm_c mw_14 (fm_c mw_421 (fm_c mw_13 (fm_c mw_41 (fm_c mw_18 (fm_c mw_427 (fm_c mw_151 (fm_c mw_150 (fm_c mw_138 (fm_c mw_149 (fm_c mw_322 (fm_c mw_321 (fm_c mw_320 (fm_c mw_15 (fm_c mw_319 (fm_c mw_64 (fm_c mw_318 (fm_c mw_298 (fm_c mw_297 (fm_c mw_296 (fm_c mw_63 (fm_c mw_57 (fm_c mw_56 (fm_c mw_55 ((fun _ h => absurd h List.not_mem_nil))))))))))))))))))))))))))
set_option maxRecDepth 20000 in
theorem win_wsX7_wall_r2 : ∀ w ∈ wsX7_wall_r2, w ∈ lw_tbl := (fm_c mw_54 (fm_c mw_53 (fm_c mw_52 (fm_c mw_51 (fm_c mw_50 (fm_c mw_881 (fm_c mw_880 (fm_c mw_879 (fm_c mw_42 (fm_c mw_878 (fm_c mw_877 (fm_c mw_876 (fm_c mw_875 (fm_c mw_874 (fm_c mw_873 (fm_c mw_103 (fm_c mw_872 (fm_c mw_443 (fm_c mw_442 (fm_c mw_441 (fm_c mw_871 (fm_c mw_572 (fm_c mw_571 (fm_c mw_570 ((fun _ h => absurd h List.not_mem_nil))))))))))))))))))))))))))
set_option maxRecDepth 20000 in
theorem win_wsX7_wall_r3 : ∀ w ∈ wsX7_wall_r3, w ∈ lw_tbl := (fm_c mw_577 (fm_c mw_576 (fm_c mw_599 (fm_c mw_598 (fm_c mw_597 (fm_c mw_596 (fm_c mw_62 (fm_c mw_595 (fm_c mw_594 (fm_c mw_593 (fm_c mw_592 (fm_c mw_591 (fm_c mw_590 (fm_c mw_589 (fm_c mw_311 (fm_c mw_310 (fm_c mw_305 (fm_c mw_304 (fm_c mw_882 (fm_c mw_583 (fm_c mw_582 (fm_c mw_581 (fm_c mw_580 (fm_c mw_579 ((fun _ h => absurd h List.not_mem_nil))))))))))))))))))))))))))
set_option maxRecDepth 20000 in
theorem win_wsX7_wall_r4 : ∀ w ∈ wsX7_wall_r4, w ∈ lw_tbl := (fm_c mw_578 (fm_c mw_890 (fm_c mw_889 (fm_c mw_888 (fm_c mw_887 (fm_c mw_886 (fm_c mw_885 (fm_c mw_884 (fm_c mw_883 ((fun _ h => absurd h List.not_mem_nil)))))))))))
set_option maxRecDepth 20000 in
theorem win_wsX7_wall : ∀ w ∈ wsX7_wall, w ∈ lw_tbl := (fm_c mw_870 (al_in (al_in (al_in (al_in (al_in win_wsX7_wall_r1 (al_in win_wsX7_wall_r2 (al_in win_wsX7_wall_r3 win_wsX7_wall_r4))) wsL_in_wsX70) wsL_in_wsX60) wsL_in_wsX20) wsL_in_wsX10))
set_option maxRecDepth 20000 in
theorem win_wsX8_wall_r1 : ∀ w ∈ wsX8_wall_r1, w ∈ lw_tbl := (fm_c mw_334 (fm_c mw_158 (fm_c mw_157 (fm_c mw_144 (fm_c mw_156 (fm_c mw_436 (fm_c mw_435 (fm_c mw_434 (fm_c mw_433 (fm_c mw_130 (fm_c mw_719 (fm_c mw_718 (fm_c mw_717 (fm_c mw_716 (fm_c mw_120 (fm_c mw_121 (fm_c mw_617 (fm_c mw_616 (fm_c mw_615 (fm_c mw_614 (fm_c mw_613 (fm_c mw_612 (fm_c mw_633 (fm_c mw_632 ((fun _ h => absurd h List.not_mem_nil))))))))))))))))))))))))))
set_option maxRecDepth 20000 in
theorem win_wsX8_wall_r2 : ∀ w ∈ wsX8_wall_r2, w ∈ lw_tbl := (fm_c mw_331 (fm_c mw_127 (fm_c mw_631 (fm_c mw_630 (fm_c mw_629 (fm_c mw_628 (fm_c mw_129 (fm_c mw_623 (fm_c mw_622 (fm_c mw_621 (fm_c mw_898 (fm_c mw_897 (fm_c mw_896 (fm_c mw_895 (fm_c mw_490 (fm_c mw_489 (fm_c mw_488 (fm_c mw_487 ((fun _ h => absurd h List.not_mem_nil))))))))))))))))))))
set_option maxRecDepth 20000 in
theorem win_wsX8_wall : ∀ w ∈ wsX8_wall, w ∈ lw_tbl := (fm_c mw_894 (al_in (al_in win_wsX8_wall_r1 win_wsX8_wall_r2) wsL_in_wsX80))
set_option maxRecDepth 20000 in
theorem win_wsX7_walk_r1 : ∀ w ∈ wsX7_walk_r1, w ∈ lw_tbl := (fm_c mw_14 (fm_c mw_419 (fm_c mw_13 (fm_c mw_903 (fm_c mw_422 (fm_c mw_151 (fm_c mw_150 (fm_c mw_138 (fm_c mw_149 (fm_c mw_322 (fm_c mw_321 (fm_c mw_320 (fm_c mw_15 (fm_c mw_319 (fm_c mw_64 (fm_c mw_318 (fm_c mw_298 (fm_c mw_297 (fm_c mw_296 (fm_c mw_63 (fm_c mw_57 (fm_c mw_56 (fm_c mw_55 (fm_c mw_54 ((fun _ h => absurd h List.not_mem_nil))))))))))))))))))))))))))
set_option maxRecDepth 20000 in
theorem win_wsX7_walk_r2 : ∀ w ∈ wsX7_walk_r2, w ∈ lw_tbl := (fm_c mw_53 (fm_c mw_52 (fm_c mw_51 (fm_c mw_50 (fm_c mw_907 (fm_c mw_906 (fm_c mw_905 (fm_c mw_904 (fm_c mw_585 (fm_c mw_480 (fm_c mw_479 (fm_c mw_478 (fm_c mw_62 (fm_c mw_477 (fm_c mw_476 (fm_c mw_475 (fm_c mw_474 (fm_c mw_473 (fm_c mw_446 (fm_c mw_445 (fm_c mw_308 (fm_c mw_307 (fm_c mw_19 (fm_c mw_306 ((fun _ h => absurd h List.not_mem_nil))))))))))))))))))))))))))
set_option maxRecDepth 20000 in
theorem win_wsX7_walk_r3 : ∀ w ∈ wsX7_walk_r3, w ∈ lw_tbl := (fm_c mw_71 (fm_c mw_444 (fm_c mw_443 (fm_c mw_442 (fm_c mw_441 (fm_c mw_584 (fm_c mw_583 (fm_c mw_582 (fm_c mw_581 (fm_c mw_580 (fm_c mw_579 (fm_c mw_578 (fm_c mw_577 (fm_c mw_576 (fm_c mw_575 (fm_c mw_574 (fm_c mw_569 (fm_c mw_568 (fm_c mw_567 (fm_c mw_566 (fm_c mw_565 (fm_c mw_564 (fm_c mw_563 (fm_c mw_562 ((fun _ h => absurd h List.not_mem_nil))))))))))))))))))))))))))
set_option maxRecDepth 20000 in
theorem win_wsX7_walk_r4 : ∀ w ∈ wsX7_walk_r4, w ∈ lw_tbl := (fm_c mw_561 (fm_c mw_560 (fm_c mw_588 (fm_c mw_587 (fm_c mw_586 (fm_c mw_573 (fm_c mw_572 (fm_c mw_571 (fm_c mw_570 (fm_c mw_599 (fm_c mw_598 (fm_c mw_597 (fm_c mw_596 (fm_c mw_595 (fm_c mw_594 (fm_c mw_593 (fm_c mw_592 (fm_c mw_591 (fm_c mw_590 (fm_c mw_589 (fm_c mw_311 (fm_c mw_310 (fm_c mw_305 (fm_c mw_304 ((fun _ h => absurd h List.not_mem_nil))))))))))))))))))))))))))
set_option maxRecDepth 20000 in
theorem win_wsX7_walk_r5 : ∀ w ∈ wsX7_walk_r5, w ∈ lw_tbl := (fm_c mw_418 (fm_c mw_417 (fm_c mw_416 ((fun _ h => absurd h List.not_mem_nil)))))
set_option maxRecDepth 20000 in
theorem win_wsX7_walk : ∀ w ∈ wsX7_walk, w ∈ lw_tbl := (fm_c mw_902 (al_in (al_in (al_in (al_in win_wsX7_walk_r1 (al_in win_wsX7_walk_r2 (al_in win_wsX7_walk_r3 (al_in win_wsX7_walk_r4 win_wsX7_walk_r5)))) wsL_in_wsX70) wsL_in_wsX60) wsL_in_wsX20))
set_option maxRecDepth 20000 in
theorem win_wsX8_walk_r1 : ∀ w ∈ wsX8_walk_r1, w ∈ lw_tbl := (fm_c mw_643 (fm_c mw_130 (fm_c mw_916 (fm_c mw_158 (fm_c mw_157 (fm_c mw_144 (fm_c mw_156 (fm_c mw_915 (fm_c mw_914 (fm_c mw_913 (fm_c mw_912 (fm_c mw_494 (fm_c mw_493 (fm_c mw_492 (fm_c mw_491 (fm_c mw_334 (fm_c mw_490 (fm_c mw_489 (fm_c mw_488 (fm_c mw_487 (fm_c mw_623 (fm_c mw_622 (fm_c mw_621 (fm_c mw_620 ((fun _ h => absurd h List.not_mem_nil))))))))))))))))))))))))))
set_option maxRecDepth 20000 in
theorem win_wsX8_walk_r2 : ∀ w ∈ wsX8_walk_r2, w ∈ lw_tbl := (fm_c mw_619 (fm_c mw_618 (fm_c mw_607 (fm_c mw_606 (fm_c mw_605 (fm_c mw_604 (fm_c mw_128 (fm_c mw_121 (fm_c mw_436 (fm_c mw_435 (fm_c mw_434 (fm_c mw_433 (fm_c mw_627 (fm_c mw_626 (fm_c mw_625 (fm_c mw_624 (fm_c mw_617 (fm_c mw_616 (fm_c mw_615 (fm_c mw_614 (fm_c mw_613 (fm_c mw_612 (fm_c mw_633 (fm_c mw_632 ((fun _ h => absurd h List.not_mem_nil))))))))))))))))))))))))))
