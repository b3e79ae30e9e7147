/-! ### the words that constructors stand on -/
theorem zi_90 : Cond.initialized RX9 ∈ zT := zT_in (List.mem_of_getElem? (i := 90) (by decide +kernel)) rfl
theorem zi_91 : Cond.initialized "java/util/Arrays" ∈ zT := zT_in (List.mem_of_getElem? (i := 91) (by decide +kernel)) rfl
theorem zi_92 : Cond.initialized RX4 ∈ zT := zT_in (List.mem_of_getElem? (i := 92) (by decide +kernel)) rfl
theorem zi_93 : Cond.initialized RX3 ∈ zT := zT_in (List.mem_of_getElem? (i := 93) (by decide +kernel)) rfl
theorem zi_94 : Cond.initialized RX6 ∈ zT := zT_in (List.mem_of_getElem? (i := 94) (by decide +kernel)) rfl
theorem zi_95 : Cond.initialized RX5 ∈ zT := zT_in (List.mem_of_getElem? (i := 95) (by decide +kernel)) rfl
theorem zi_96 : Cond.initialized RX0 ∈ zT := zT_in (List.mem_of_getElem? (i := 96) (by decide +kernel)) rfl
theorem zi_97 : Cond.initialized RX8 ∈ zT := zT_in (List.mem_of_getElem? (i := 97) (by decide +kernel)) rfl
theorem zi_98 : Cond.initialized RX1 ∈ zT := zT_in (List.mem_of_getElem? (i := 98) (by decide +kernel)) rfl
theorem zi_99 : Cond.initialized RX2 ∈ zT := zT_in (List.mem_of_getElem? (i := 99) (by decide +kernel)) rfl
theorem zi_100 : Cond.initialized RX7 ∈ zT := zT_in (List.mem_of_getElem? (i := 100) (by decide +kernel)) rfl
theorem zi_109 : Cond.methodLink RX10 1 objectInit ∈ zT := zT_in (List.mem_of_getElem? (i := 109) (by decide +kernel)) rfl
theorem zi_110 : Cond.instanceMethod objectInit ∈ zT := zT_in (List.mem_of_getElem? (i := 110) (by decide +kernel)) rfl
theorem zi_111 : Cond.code objectInit ⟨#[0xb1]⟩ 1 none ∈ zT := zT_in (List.mem_of_getElem? (i := 111) rfl) rfl
theorem zi_112 : Cond.classLink RX10 7 RX9 ∈ zT := zT_in (List.mem_of_getElem? (i := 112) (by decide +kernel)) rfl
theorem zi_113 : Cond.instantiable RX9 12 ∈ zT := zT_in (List.mem_of_getElem? (i := 113) (by decide +kernel)) rfl
theorem zi_114 : Cond.methodLink RX10 9 yX9_init ∈ zT := zT_in (List.mem_of_getElem? (i := 114) (by decide +kernel)) rfl
theorem zi_115 : Cond.instanceMethod yX9_init ∈ zT := zT_in (List.mem_of_getElem? (i := 115) (by decide +kernel)) rfl
theorem zi_116 : Cond.code yX9_init cX9_init 2 none ∈ zT := zT_in (List.mem_of_getElem? (i := 116) rfl) rfl
theorem zi_117 : Cond.methodLink RX9 3 objectInit ∈ zT := zT_in (List.mem_of_getElem? (i := 117) (by decide +kernel)) rfl
theorem zi_118 : Cond.classLink RX9 36 RX4 ∈ zT := zT_in (List.mem_of_getElem? (i := 118) (by decide +kernel)) rfl
theorem zi_120 : Cond.methodLink RX9 52 yJ7_fill_53178 ∈ zT := zT_in (List.mem_of_getElem? (i := 120) (by decide +kernel)) rfl
theorem zi_121 : Cond.static yJ7_fill_53178 ∈ zT := zT_in (List.mem_of_getElem? (i := 121) (by decide +kernel)) rfl
theorem zi_122 : Cond.code yJ7_fill_53178 cJ7_fill_53178 4 none ∈ zT := zT_in (List.mem_of_getElem? (i := 122) rfl) rfl
theorem zi_123 : Cond.instantiable RX4 4 ∈ zT := zT_in (List.mem_of_getElem? (i := 123) (by decide +kernel)) rfl
theorem zi_125 : Cond.instanceMethod yX4_init ∈ zT := zT_in (List.mem_of_getElem? (i := 125) (by decide +kernel)) rfl
theorem zi_126 : Cond.code yX4_init cX4_init 1 none ∈ zT := zT_in (List.mem_of_getElem? (i := 126) rfl) rfl
theorem zi_127 : Cond.methodLink RX4 3 objectInit ∈ zT := zT_in (List.mem_of_getElem? (i := 127) (by decide +kernel)) rfl
theorem zi_128 : Cond.fieldLink RX4 9 "SwarmPlanner$Shape" "columns" "[I" ∈ zT := zT_in (List.mem_of_getElem? (i := 128) (by decide +kernel)) rfl
theorem zi_129 : Cond.fieldLink RX4 15 "SwarmPlanner$Shape" "rows" "[I" ∈ zT := zT_in (List.mem_of_getElem? (i := 129) (by decide +kernel)) rfl
theorem zi_130 : Cond.fieldLink RX4 18 "SwarmPlanner$Shape" "size" "I" ∈ zT := zT_in (List.mem_of_getElem? (i := 130) (by decide +kernel)) rfl
theorem zi_134 : Cond.fieldLink RX4 22 "SwarmPlanner$Shape" "anchor" "I" ∈ zT := zT_in (List.mem_of_getElem? (i := 134) (by decide +kernel)) rfl
theorem zi_147 : Cond.arrayClass .int ∈ zT := zT_in (List.mem_of_getElem? (i := 147) (by decide +kernel)) rfl
theorem zi_148 : Cond.fieldLink RX9 9 "SwarmPlanner$World" "holds" "[I" ∈ zT := zT_in (List.mem_of_getElem? (i := 148) (by decide +kernel)) rfl
theorem zi_154 : Cond.fieldLink RX9 15 "SwarmPlanner$World" "cellOf" "[I" ∈ zT := zT_in (List.mem_of_getElem? (i := 154) (by decide +kernel)) rfl
theorem zi_159 : Cond.fieldLink RX9 18 "SwarmPlanner$World" "reasonOf" "[I" ∈ zT := zT_in (List.mem_of_getElem? (i := 159) (by decide +kernel)) rfl
theorem zi_162 : Cond.fieldLink RX9 21 "SwarmPlanner$World" "waitsInRow" "[I" ∈ zT := zT_in (List.mem_of_getElem? (i := 162) (by decide +kernel)) rfl
theorem zi_165 : Cond.fieldLink RX9 24 "SwarmPlanner$World" "stepsOf" "[I" ∈ zT := zT_in (List.mem_of_getElem? (i := 165) (by decide +kernel)) rfl
theorem zi_167 : Cond.fieldLink RX9 27 "SwarmPlanner$World" "waitsOf" "[I" ∈ zT := zT_in (List.mem_of_getElem? (i := 167) (by decide +kernel)) rfl
theorem zi_169 : Cond.fieldLink RX9 30 "SwarmPlanner$World" "roundsOf" "[I" ∈ zT := zT_in (List.mem_of_getElem? (i := 169) (by decide +kernel)) rfl
theorem zi_172 : Cond.fieldLink RX9 33 "SwarmPlanner$World" "accounts" "[I" ∈ zT := zT_in (List.mem_of_getElem? (i := 172) (by decide +kernel)) rfl
theorem zi_175 : Cond.fieldLink RX9 38 "SwarmPlanner$World" "shapes" "[LSwarmPlanner$Shape;" ∈ zT := zT_in (List.mem_of_getElem? (i := 175) (by decide +kernel)) rfl
theorem zi_177 : Cond.fieldLink RX9 42 "SwarmPlanner$World" "named" "I" ∈ zT := zT_in (List.mem_of_getElem? (i := 177) (by decide +kernel)) rfl
theorem zi_179 : Cond.fieldLink RX9 46 "SwarmPlanner$World" "goal" "I" ∈ zT := zT_in (List.mem_of_getElem? (i := 179) (by decide +kernel)) rfl
theorem zi_182 : Cond.fieldLink RX9 49 "SwarmPlanner$World" "present" "I" ∈ zT := zT_in (List.mem_of_getElem? (i := 182) (by decide +kernel)) rfl
theorem zi_209 : Cond.classLink RX10 26 RX3 ∈ zT := zT_in (List.mem_of_getElem? (i := 209) (by decide +kernel)) rfl
theorem zi_210 : Cond.instantiable RX3 3 ∈ zT := zT_in (List.mem_of_getElem? (i := 210) (by decide +kernel)) rfl
theorem zi_211 : Cond.methodLink RX10 28 yX3_init ∈ zT := zT_in (List.mem_of_getElem? (i := 211) (by decide +kernel)) rfl
theorem zi_212 : Cond.instanceMethod yX3_init ∈ zT := zT_in (List.mem_of_getElem? (i := 212) (by decide +kernel)) rfl
theorem zi_213 : Cond.code yX3_init cX3_init 2 none ∈ zT := zT_in (List.mem_of_getElem? (i := 213) rfl) rfl
theorem zi_214 : Cond.methodLink RX3 3 objectInit ∈ zT := zT_in (List.mem_of_getElem? (i := 214) (by decide +kernel)) rfl
theorem zi_215 : Cond.classLink RX3 15 RX9 ∈ zT := zT_in (List.mem_of_getElem? (i := 215) (by decide +kernel)) rfl
theorem zi_217 : Cond.methodLink RX3 24 yX9_init ∈ zT := zT_in (List.mem_of_getElem? (i := 217) (by decide +kernel)) rfl
theorem zi_218 : Cond.fieldLink RX3 9 "SwarmPlanner$Past" "size" "I" ∈ zT := zT_in (List.mem_of_getElem? (i := 218) (by decide +kernel)) rfl
theorem zi_220 : Cond.fieldLink RX3 17 "SwarmPlanner$Past" "kept" "[LSwarmPlanner$World;" ∈ zT := zT_in (List.mem_of_getElem? (i := 220) (by decide +kernel)) rfl
theorem zi_221 : Cond.fieldLink RX3 21 "SwarmPlanner$Past" "next" "I" ∈ zT := zT_in (List.mem_of_getElem? (i := 221) (by decide +kernel)) rfl
theorem zi_229 : Cond.classLink RX10 33 RX6 ∈ zT := zT_in (List.mem_of_getElem? (i := 229) (by decide +kernel)) rfl
theorem zi_230 : Cond.instantiable RX6 2 ∈ zT := zT_in (List.mem_of_getElem? (i := 230) (by decide +kernel)) rfl
theorem zi_232 : Cond.instanceMethod yX6_init ∈ zT := zT_in (List.mem_of_getElem? (i := 232) (by decide +kernel)) rfl
theorem zi_233 : Cond.code yX6_init cX6_init 1 none ∈ zT := zT_in (List.mem_of_getElem? (i := 233) rfl) rfl
theorem zi_234 : Cond.methodLink RX6 3 objectInit ∈ zT := zT_in (List.mem_of_getElem? (i := 234) (by decide +kernel)) rfl
theorem zi_235 : Cond.fieldLink RX6 9 "SwarmPlanner$Tape" "length" "I" ∈ zT := zT_in (List.mem_of_getElem? (i := 235) (by decide +kernel)) rfl
theorem zi_239 : Cond.fieldLink RX6 15 "SwarmPlanner$Tape" "bytes" "[I" ∈ zT := zT_in (List.mem_of_getElem? (i := 239) (by decide +kernel)) rfl
theorem zi_245 : Cond.classLink RX10 40 RX5 ∈ zT := zT_in (List.mem_of_getElem? (i := 245) (by decide +kernel)) rfl
theorem zi_246 : Cond.instantiable RX5 3 ∈ zT := zT_in (List.mem_of_getElem? (i := 246) (by decide +kernel)) rfl
theorem zi_248 : Cond.instanceMethod yX5_init ∈ zT := zT_in (List.mem_of_getElem? (i := 248) (by decide +kernel)) rfl
theorem zi_249 : Cond.code yX5_init cX5_init 1 none ∈ zT := zT_in (List.mem_of_getElem? (i := 249) rfl) rfl
theorem zi_250 : Cond.methodLink RX5 3 objectInit ∈ zT := zT_in (List.mem_of_getElem? (i := 250) (by decide +kernel)) rfl
theorem zi_251 : Cond.classLink RX5 9 RX4 ∈ zT := zT_in (List.mem_of_getElem? (i := 251) (by decide +kernel)) rfl
theorem zi_253 : Cond.fieldLink RX5 12 "SwarmPlanner$ShapeText" "draft" "LSwarmPlanner$Shape;" ∈ zT := zT_in (List.mem_of_getElem? (i := 253) (by decide +kernel)) rfl
theorem zi_255 : Cond.fieldLink RX5 18 "SwarmPlanner$ShapeText" "column" "I" ∈ zT := zT_in (List.mem_of_getElem? (i := 255) (by decide +kernel)) rfl
theorem zi_256 : Cond.fieldLink RX5 22 "SwarmPlanner$ShapeText" "row" "I" ∈ zT := zT_in (List.mem_of_getElem? (i := 256) (by decide +kernel)) rfl
theorem zi_264 : Cond.classLink RX10 47 RX0 ∈ zT := zT_in (List.mem_of_getElem? (i := 264) (by decide +kernel)) rfl
theorem zi_265 : Cond.instantiable RX0 5 ∈ zT := zT_in (List.mem_of_getElem? (i := 265) (by decide +kernel)) rfl
theorem zi_267 : Cond.instanceMethod yX0_init ∈ zT := zT_in (List.mem_of_getElem? (i := 267) (by decide +kernel)) rfl
theorem zi_268 : Cond.code yX0_init cX0_init 1 none ∈ zT := zT_in (List.mem_of_getElem? (i := 268) rfl) rfl
theorem zi_269 : Cond.methodLink RX0 3 objectInit ∈ zT := zT_in (List.mem_of_getElem? (i := 269) (by decide +kernel)) rfl
theorem zi_270 : Cond.fieldLink RX0 9 "SwarmPlanner$CommandText" "kind" "[I" ∈ zT := zT_in (List.mem_of_getElem? (i := 270) (by decide +kernel)) rfl
theorem zi_272 : Cond.fieldLink RX0 15 "SwarmPlanner$CommandText" "first" "[I" ∈ zT := zT_in (List.mem_of_getElem? (i := 272) (by decide +kernel)) rfl
theorem zi_274 : Cond.fieldLink RX0 18 "SwarmPlanner$CommandText" "second" "[I" ∈ zT := zT_in (List.mem_of_getElem? (i := 274) (by decide +kernel)) rfl
theorem zi_276 : Cond.fieldLink RX0 21 "SwarmPlanner$CommandText" "size" "I" ∈ zT := zT_in (List.mem_of_getElem? (i := 276) (by decide +kernel)) rfl
theorem zi_278 : Cond.fieldLink RX0 25 "SwarmPlanner$CommandText" "at" "I" ∈ zT := zT_in (List.mem_of_getElem? (i := 278) (by decide +kernel)) rfl
theorem zi_290 : Cond.classLink RX10 54 RX8 ∈ zT := zT_in (List.mem_of_getElem? (i := 290) (by decide +kernel)) rfl
theorem zi_291 : Cond.instantiable RX8 4 ∈ zT := zT_in (List.mem_of_getElem? (i := 291) (by decide +kernel)) rfl
theorem zi_292 : Cond.methodLink RX10 56 yX8_init ∈ zT := zT_in (List.mem_of_getElem? (i := 292) (by decide +kernel)) rfl
theorem zi_293 : Cond.instanceMethod yX8_init ∈ zT := zT_in (List.mem_of_getElem? (i := 293) (by decide +kernel)) rfl
theorem zi_294 : Cond.code yX8_init cX8_init 2 none ∈ zT := zT_in (List.mem_of_getElem? (i := 294) rfl) rfl
theorem zi_295 : Cond.methodLink RX8 3 objectInit ∈ zT := zT_in (List.mem_of_getElem? (i := 295) (by decide +kernel)) rfl
theorem zi_296 : Cond.classLink RX8 9 ("[" ++ (FieldType.array .int).toString) ∈ zT := zT_in (List.mem_of_getElem? (i := 296) (by decide +kernel)) rfl
theorem zi_298 : Cond.fieldLink RX8 24 "SwarmPlanner$Ways" "world" "LSwarmPlanner$World;" ∈ zT := zT_in (List.mem_of_getElem? (i := 298) (by decide +kernel)) rfl
theorem zi_299 : Cond.fieldLink RX8 11 "SwarmPlanner$Ways" "distances" "[[I" ∈ zT := zT_in (List.mem_of_getElem? (i := 299) (by decide +kernel)) rfl
theorem zi_300 : Cond.fieldLink RX8 16 "SwarmPlanner$Ways" "known" "[Z" ∈ zT := zT_in (List.mem_of_getElem? (i := 300) (by decide +kernel)) rfl
theorem zi_301 : Cond.fieldLink RX8 20 "SwarmPlanner$Ways" "queue" "[I" ∈ zT := zT_in (List.mem_of_getElem? (i := 301) (by decide +kernel)) rfl
theorem zi_311 : Cond.arrayClass .boolean ∈ zT := zT_in (List.mem_of_getElem? (i := 311) (by decide +kernel)) rfl
theorem zi_312 : Cond.classLink RX10 63 RX1 ∈ zT := zT_in (List.mem_of_getElem? (i := 312) (by decide +kernel)) rfl
theorem zi_313 : Cond.instantiable RX1 13 ∈ zT := zT_in (List.mem_of_getElem? (i := 313) (by decide +kernel)) rfl
theorem zi_314 : Cond.methodLink RX10 65 yX1_init ∈ zT := zT_in (List.mem_of_getElem? (i := 314) (by decide +kernel)) rfl
theorem zi_315 : Cond.instanceMethod yX1_init ∈ zT := zT_in (List.mem_of_getElem? (i := 315) (by decide +kernel)) rfl
theorem zi_316 : Cond.code yX1_init cX1_init 3 none ∈ zT := zT_in (List.mem_of_getElem? (i := 316) rfl) rfl
theorem zi_317 : Cond.methodLink RX1 3 objectInit ∈ zT := zT_in (List.mem_of_getElem? (i := 317) (by decide +kernel)) rfl
theorem zi_318 : Cond.classLink RX1 31 RX2 ∈ zT := zT_in (List.mem_of_getElem? (i := 318) (by decide +kernel)) rfl
theorem zi_319 : Cond.instantiable RX2 7 ∈ zT := zT_in (List.mem_of_getElem? (i := 319) (by decide +kernel)) rfl
theorem zi_321 : Cond.instanceMethod yX2_init ∈ zT := zT_in (List.mem_of_getElem? (i := 321) (by decide +kernel)) rfl
theorem zi_322 : Cond.code yX2_init cX2_init 1 none ∈ zT := zT_in (List.mem_of_getElem? (i := 322) rfl) rfl
theorem zi_323 : Cond.methodLink RX2 1 objectInit ∈ zT := zT_in (List.mem_of_getElem? (i := 323) (by decide +kernel)) rfl
theorem zi_324 : Cond.classLink RX2 9 ("[" ++ (FieldType.array .long).toString) ∈ zT := zT_in (List.mem_of_getElem? (i := 324) (by decide +kernel)) rfl
theorem zi_326 : Cond.fieldLink RX2 11 "SwarmPlanner$Match" "price" "[[J" ∈ zT := zT_in (List.mem_of_getElem? (i := 326) (by decide +kernel)) rfl
theorem zi_328 : Cond.fieldLink RX2 14 "SwarmPlanner$Match" "rowAt" "[I" ∈ zT := zT_in (List.mem_of_getElem? (i := 328) (by decide +kernel)) rfl
theorem zi_330 : Cond.fieldLink RX2 18 "SwarmPlanner$Match" "rowShare" "[J" ∈ zT := zT_in (List.mem_of_getElem? (i := 330) (by decide +kernel)) rfl
theorem zi_331 : Cond.fieldLink RX2 22 "SwarmPlanner$Match" "columnShare" "[J" ∈ zT := zT_in (List.mem_of_getElem? (i := 331) (by decide +kernel)) rfl
theorem zi_332 : Cond.fieldLink RX2 25 "SwarmPlanner$Match" "slack" "[J" ∈ zT := zT_in (List.mem_of_getElem? (i := 332) (by decide +kernel)) rfl
theorem zi_333 : Cond.fieldLink RX2 28 "SwarmPlanner$Match" "cameFrom" "[I" ∈ zT := zT_in (List.mem_of_getElem? (i := 333) (by decide +kernel)) rfl
theorem zi_334 : Cond.fieldLink RX2 31 "SwarmPlanner$Match" "reached" "[Z" ∈ zT := zT_in (List.mem_of_getElem? (i := 334) (by decide +kernel)) rfl
theorem zi_350 : Cond.arrayClass .long ∈ zT := zT_in (List.mem_of_getElem? (i := 350) (by decide +kernel)) rfl
theorem zi_351 : Cond.fieldLink RX1 9 "SwarmPlanner$Giving" "slotOf" "[I" ∈ zT := zT_in (List.mem_of_getElem? (i := 351) (by decide +kernel)) rfl
theorem zi_353 : Cond.fieldLink RX1 15 "SwarmPlanner$Giving" "placeOf" "[I" ∈ zT := zT_in (List.mem_of_getElem? (i := 353) (by decide +kernel)) rfl
theorem zi_356 : Cond.fieldLink RX1 18 "SwarmPlanner$Giving" "placeOfSlot" "[I" ∈ zT := zT_in (List.mem_of_getElem? (i := 356) (by decide +kernel)) rfl
theorem zi_358 : Cond.fieldLink RX1 21 "SwarmPlanner$Giving" "openSlots" "I" ∈ zT := zT_in (List.mem_of_getElem? (i := 358) (by decide +kernel)) rfl
theorem zi_360 : Cond.fieldLink RX1 25 "SwarmPlanner$Giving" "given" "I" ∈ zT := zT_in (List.mem_of_getElem? (i := 360) (by decide +kernel)) rfl
theorem zi_362 : Cond.fieldLink RX1 28 "SwarmPlanner$Giving" "sum" "I" ∈ zT := zT_in (List.mem_of_getElem? (i := 362) (by decide +kernel)) rfl
theorem zi_364 : Cond.fieldLink RX1 50 "SwarmPlanner$Giving" "world" "LSwarmPlanner$World;" ∈ zT := zT_in (List.mem_of_getElem? (i := 364) (by decide +kernel)) rfl
theorem zi_365 : Cond.fieldLink RX1 54 "SwarmPlanner$Giving" "ways" "LSwarmPlanner$Ways;" ∈ zT := zT_in (List.mem_of_getElem? (i := 365) (by decide +kernel)) rfl
theorem zi_366 : Cond.fieldLink RX1 34 "SwarmPlanner$Giving" "match" "LSwarmPlanner$Match;" ∈ zT := zT_in (List.mem_of_getElem? (i := 366) (by decide +kernel)) rfl
theorem zi_367 : Cond.fieldLink RX1 38 "SwarmPlanner$Giving" "followers" "[I" ∈ zT := zT_in (List.mem_of_getElem? (i := 367) (by decide +kernel)) rfl
theorem zi_368 : Cond.fieldLink RX1 41 "SwarmPlanner$Giving" "followerCount" "I" ∈ zT := zT_in (List.mem_of_getElem? (i := 368) (by decide +kernel)) rfl
theorem zi_369 : Cond.fieldLink RX1 44 "SwarmPlanner$Giving" "open" "[I" ∈ zT := zT_in (List.mem_of_getElem? (i := 369) (by decide +kernel)) rfl
theorem zi_370 : Cond.fieldLink RX1 47 "SwarmPlanner$Giving" "leastBySet" "[I" ∈ zT := zT_in (List.mem_of_getElem? (i := 370) (by decide +kernel)) rfl
theorem zi_398 : Cond.classLink RX10 72 RX7 ∈ zT := zT_in (List.mem_of_getElem? (i := 398) (by decide +kernel)) rfl
theorem zi_399 : Cond.instantiable RX7 6 ∈ zT := zT_in (List.mem_of_getElem? (i := 399) (by decide +kernel)) rfl
theorem zi_400 : Cond.methodLink RX10 74 yX7_init ∈ zT := zT_in (List.mem_of_getElem? (i := 400) (by decide +kernel)) rfl
theorem zi_401 : Cond.instanceMethod yX7_init ∈ zT := zT_in (List.mem_of_getElem? (i := 401) (by decide +kernel)) rfl
theorem zi_402 : Cond.code yX7_init cX7_init 4 none ∈ zT := zT_in (List.mem_of_getElem? (i := 402) rfl) rfl
theorem zi_403 : Cond.methodLink RX7 3 objectInit ∈ zT := zT_in (List.mem_of_getElem? (i := 403) (by decide +kernel)) rfl
theorem zi_404 : Cond.fieldLink RX7 22 "SwarmPlanner$Turns" "world" "LSwarmPlanner$World;" ∈ zT := zT_in (List.mem_of_getElem? (i := 404) (by decide +kernel)) rfl
theorem zi_405 : Cond.fieldLink RX7 26 "SwarmPlanner$Turns" "ways" "LSwarmPlanner$Ways;" ∈ zT := zT_in (List.mem_of_getElem? (i := 405) (by decide +kernel)) rfl
theorem zi_406 : Cond.fieldLink RX7 30 "SwarmPlanner$Turns" "giving" "LSwarmPlanner$Giving;" ∈ zT := zT_in (List.mem_of_getElem? (i := 406) (by decide +kernel)) rfl
theorem zi_407 : Cond.fieldLink RX7 9 "SwarmPlanner$Turns" "line" "[I" ∈ zT := zT_in (List.mem_of_getElem? (i := 407) (by decide +kernel)) rfl
theorem zi_408 : Cond.fieldLink RX7 15 "SwarmPlanner$Turns" "farFromPlace" "[I" ∈ zT := zT_in (List.mem_of_getElem? (i := 408) (by decide +kernel)) rfl
theorem zi_409 : Cond.fieldLink RX7 18 "SwarmPlanner$Turns" "lined" "I" ∈ zT := zT_in (List.mem_of_getElem? (i := 409) (by decide +kernel)) rfl
theorem zi_423 : Cond.fieldLink RX10 10 "SwarmPlanner" "world" "LSwarmPlanner$World;" ∈ zT := zT_in (List.mem_of_getElem? (i := 423) (by decide +kernel)) rfl
theorem zi_424 : Cond.fieldLink RX10 16 "SwarmPlanner" "spare" "LSwarmPlanner$World;" ∈ zT := zT_in (List.mem_of_getElem? (i := 424) (by decide +kernel)) rfl
theorem zi_425 : Cond.fieldLink RX10 19 "SwarmPlanner" "picture" "LSwarmPlanner$World;" ∈ zT := zT_in (List.mem_of_getElem? (i := 425) (by decide +kernel)) rfl
theorem zi_426 : Cond.fieldLink RX10 22 "SwarmPlanner" "pictured" "Z" ∈ zT := zT_in (List.mem_of_getElem? (i := 426) (by decide +kernel)) rfl
theorem zi_427 : Cond.fieldLink RX10 29 "SwarmPlanner" "past" "LSwarmPlanner$Past;" ∈ zT := zT_in (List.mem_of_getElem? (i := 427) (by decide +kernel)) rfl
theorem zi_428 : Cond.fieldLink RX10 36 "SwarmPlanner" "tape" "LSwarmPlanner$Tape;" ∈ zT := zT_in (List.mem_of_getElem? (i := 428) (by decide +kernel)) rfl
theorem zi_429 : Cond.fieldLink RX10 43 "SwarmPlanner" "shapeText" "LSwarmPlanner$ShapeText;" ∈ zT := zT_in (List.mem_of_getElem? (i := 429) (by decide +kernel)) rfl
theorem zi_430 : Cond.fieldLink RX10 50 "SwarmPlanner" "commandText" "LSwarmPlanner$CommandText;" ∈ zT := zT_in (List.mem_of_getElem? (i := 430) (by decide +kernel)) rfl
theorem zi_431 : Cond.fieldLink RX10 59 "SwarmPlanner" "ways" "LSwarmPlanner$Ways;" ∈ zT := zT_in (List.mem_of_getElem? (i := 431) (by decide +kernel)) rfl
theorem zi_432 : Cond.fieldLink RX10 68 "SwarmPlanner" "giving" "LSwarmPlanner$Giving;" ∈ zT := zT_in (List.mem_of_getElem? (i := 432) (by decide +kernel)) rfl
theorem zi_433 : Cond.fieldLink RX10 77 "SwarmPlanner" "turns" "LSwarmPlanner$Turns;" ∈ zT := zT_in (List.mem_of_getElem? (i := 433) (by decide +kernel)) rfl
theorem zi_434 : Cond.fieldLink RX10 81 "SwarmPlanner" "refusedFor" "I" ∈ zT := zT_in (List.mem_of_getElem? (i := 434) (by decide +kernel)) rfl
theorem zi_435 : Cond.fieldLink RX10 85 "SwarmPlanner" "refusedCommand" "I" ∈ zT := zT_in (List.mem_of_getElem? (i := 435) (by decide +kernel)) rfl
theorem zi_947 : Cond.methodLink RX11 3 objectInit ∈ zT := zT_in (List.mem_of_getElem? (i := 947) (by decide +kernel)) rfl
theorem zi_948 : Cond.fieldLink RX11 9 "SwarmPlannerModel" "all" "[I" ∈ zT := zT_in (List.mem_of_getElem? (i := 948) (by decide +kernel)) rfl
theorem zi_951 : Cond.fieldLink RX11 13 "SwarmPlannerModel" "far" "[I" ∈ zT := zT_in (List.mem_of_getElem? (i := 951) (by decide +kernel)) rfl
theorem zi_952 : Cond.fieldLink RX11 16 "SwarmPlannerModel" "queue" "[I" ∈ zT := zT_in (List.mem_of_getElem? (i := 952) (by decide +kernel)) rfl
theorem zi_953 : Cond.fieldLink RX11 19 "SwarmPlannerModel" "places" "[I" ∈ zT := zT_in (List.mem_of_getElem? (i := 953) (by decide +kernel)) rfl
theorem zi_954 : Cond.fieldLink RX11 22 "SwarmPlannerModel" "worths" "[I" ∈ zT := zT_in (List.mem_of_getElem? (i := 954) (by decide +kernel)) rfl
theorem zi_955 : Cond.fieldLink RX11 25 "SwarmPlannerModel" "slotOf" "[I" ∈ zT := zT_in (List.mem_of_getElem? (i := 955) (by decide +kernel)) rfl
theorem zi_958 : Cond.fieldLink RX11 28 "SwarmPlannerModel" "worthOf" "[I" ∈ zT := zT_in (List.mem_of_getElem? (i := 958) (by decide +kernel)) rfl
theorem zi_959 : Cond.fieldLink RX11 31 "SwarmPlannerModel" "turns" "[I" ∈ zT := zT_in (List.mem_of_getElem? (i := 959) (by decide +kernel)) rfl
theorem zi_960 : Cond.fieldLink RX11 34 "SwarmPlannerModel" "turnFar" "[I" ∈ zT := zT_in (List.mem_of_getElem? (i := 960) (by decide +kernel)) rfl
theorem zi_961 : Cond.fieldLink RX11 37 "SwarmPlannerModel" "cellsWere" "[I" ∈ zT := zT_in (List.mem_of_getElem? (i := 961) (by decide +kernel)) rfl
theorem zi_962 : Cond.fieldLink RX11 40 "SwarmPlannerModel" "tape" "[I" ∈ zT := zT_in (List.mem_of_getElem? (i := 962) (by decide +kernel)) rfl
theorem zi_966 : Cond.fieldLink RX11 43 "SwarmPlannerModel" "read" "[I" ∈ zT := zT_in (List.mem_of_getElem? (i := 966) (by decide +kernel)) rfl
theorem zi_967 : Cond.fieldLink RX11 46 "SwarmPlannerModel" "orders" "[I" ∈ zT := zT_in (List.mem_of_getElem? (i := 967) (by decide +kernel)) rfl
theorem zj_124 : Cond.methodLinkNest RX9 58 yX4_init "SwarmPlanner" ∈ lw_tbl := List.mem_of_getElem? (i := 124) (by decide +kernel)
theorem zj_231 : Cond.methodLinkNest RX10 35 yX6_init "SwarmPlanner" ∈ lw_tbl := List.mem_of_getElem? (i := 231) (by decide +kernel)
theorem zj_247 : Cond.methodLinkNest RX10 42 yX5_init "SwarmPlanner" ∈ lw_tbl := List.mem_of_getElem? (i := 247) (by decide +kernel)
theorem zj_252 : Cond.methodLinkNest RX5 11 yX4_init "SwarmPlanner" ∈ lw_tbl := List.mem_of_getElem? (i := 252) (by decide +kernel)
theorem zj_266 : Cond.methodLinkNest RX10 49 yX0_init "SwarmPlanner" ∈ lw_tbl := List.mem_of_getElem? (i := 266) (by decide +kernel)
theorem zj_320 : Cond.methodLinkNest RX1 33 yX2_init "SwarmPlanner" ∈ lw_tbl := List.mem_of_getElem? (i := 320) (by decide +kernel)
theorem zdf_0 : ∀ j, j < 5 → defaultValue (tyX0 j) = vp_V [.null, .null, .null, .int (Int32.ofInt 0), .int (Int32.ofInt 0)] j := fun j hj => by rcases (show j = 0 ∨ j = 1 ∨ j = 2 ∨ j = 3 ∨ j = 4 by omega) with rfl | rfl | rfl | rfl | rfl <;> rfl
theorem zdf_1 : ∀ j, j < 13 → defaultValue (tyX1 j) = vp_V [.null, .null, .null, .int (Int32.ofInt 0), .int (Int32.ofInt 0), .int (Int32.ofInt 0), .null, .null, .null, .null, .int (Int32.ofInt 0), .null, .null] j := fun j hj => by rcases (show j = 0 ∨ j = 1 ∨ j = 2 ∨ j = 3 ∨ j = 4 ∨ j = 5 ∨ j = 6 ∨ j = 7 ∨ j = 8 ∨ j = 9 ∨ j = 10 ∨ j = 11 ∨ j = 12 by omega) with rfl | rfl | rfl | rfl | rfl | rfl | rfl | rfl | rfl | rfl | rfl | rfl | rfl <;> rfl
theorem zdf_2 : ∀ j, j < 7 → defaultValue (tyX2 j) = vp_V [.null, .null, .null, .null, .null, .null, .null] j := fun j hj => by rcases (show j = 0 ∨ j = 1 ∨ j = 2 ∨ j = 3 ∨ j = 4 ∨ j = 5 ∨ j = 6 by omega) with rfl | rfl | rfl | rfl | rfl | rfl | rfl <;> rfl
theorem zdf_3 : ∀ j, j < 3 → defaultValue (tyX3 j) = vp_V [.int (Int32.ofInt 0), .null, .int (Int32.ofInt 0)] j := fun j hj => by rcases (show j = 0 ∨ j = 1 ∨ j = 2 by omega) with rfl | rfl | rfl <;> rfl
theorem zdf_4 : ∀ j, j < 4 → defaultValue (tyX4 j) = vp_V [.null, .null, .int (Int32.ofInt 0), .int (Int32.ofInt 0)] j := fun j hj => by rcases (show j = 0 ∨ j = 1 ∨ j = 2 ∨ j = 3 by omega) with rfl | rfl | rfl | rfl <;> rfl
theorem zdf_5 : ∀ j, j < 3 → defaultValue (tyX5 j) = vp_V [.null, .int (Int32.ofInt 0), .int (Int32.ofInt 0)] j := fun j hj => by rcases (show j = 0 ∨ j = 1 ∨ j = 2 by omega) with rfl | rfl | rfl <;> rfl
theorem zdf_6 : ∀ j, j < 2 → defaultValue (tyX6 j) = vp_V [.int (Int32.ofInt 0), .null] j := fun j hj => by rcases (show j = 0 ∨ j = 1 by omega) with rfl | rfl <;> rfl
theorem zdf_7 : ∀ j, j < 6 → defaultValue (tyX7 j) = vp_V [.null, .null, .null, .null, .null, .int (Int32.ofInt 0)] j := fun j hj => by rcases (show j = 0 ∨ j = 1 ∨ j = 2 ∨ j = 3 ∨ j = 4 ∨ j = 5 by omega) with rfl | rfl | rfl | rfl | rfl | rfl <;> rfl
theorem zdf_8 : ∀ j, j < 4 → defaultValue (tyX8 j) = vp_V [.null, .null, .null, .null] j := fun j hj => by rcases (show j = 0 ∨ j = 1 ∨ j = 2 ∨ j = 3 by omega) with rfl | rfl | rfl | rfl <;> rfl
theorem zdf_9 : ∀ j, j < 12 → defaultValue (tyX9 j) = vp_V [.null, .null, .null, .null, .null, .null, .null, .null, .null, .int (Int32.ofInt 0), .int (Int32.ofInt 0), .int (Int32.ofInt 0)] j := fun j hj => by rcases (show j = 0 ∨ j = 1 ∨ j = 2 ∨ j = 3 ∨ j = 4 ∨ j = 5 ∨ j = 6 ∨ j = 7 ∨ j = 8 ∨ j = 9 ∨ j = 10 ∨ j = 11 by omega) with rfl | rfl | rfl | rfl | rfl | rfl | rfl | rfl | rfl | rfl | rfl | rfl <;> rfl
theorem zdf_10 : ∀ j, j < 13 → defaultValue (tyX10 j) = vp_V [.null, .null, .null, .int (Int32.ofInt 0), .null, .null, .null, .null, .null, .null, .null, .int (Int32.ofInt 0), .int (Int32.ofInt 0)] j := fun j hj => by rcases (show j = 0 ∨ j = 1 ∨ j = 2 ∨ j = 3 ∨ j = 4 ∨ j = 5 ∨ j = 6 ∨ j = 7 ∨ j = 8 ∨ j = 9 ∨ j = 10 ∨ j = 11 ∨ j = 12 by omega) with rfl | rfl | rfl | rfl | rfl | rfl | rfl | rfl | rfl | rfl | rfl | rfl | rfl <;> rfl
theorem zdf_11 : ∀ j, j < 25 → defaultValue (tyX11 j) = vp_V [.null, .int (Int32.ofInt 0), .int (Int32.ofInt 0), .null, .null, .null, .null, .null, .int (Int32.ofInt 0), .int (Int32.ofInt 0), .null, .null, .null, .null, .null, .int (Int32.ofInt 0), .int (Int32.ofInt 0), .int (Int32.ofInt 0), .null, .null, .int (Int32.ofInt 0), .int (Int32.ofInt 0), .int (Int32.ofInt 0), .int (Int32.ofInt 0), .int (Int32.ofInt 0)] j := fun j hj => by rcases (show j = 0 ∨ j = 1 ∨ j = 2 ∨ j = 3 ∨ j = 4 ∨ j = 5 ∨ j = 6 ∨ j = 7 ∨ j = 8 ∨ j = 9 ∨ j = 10 ∨ j = 11 ∨ j = 12 ∨ j = 13 ∨ j = 14 ∨ j = 15 ∨ j = 16 ∨ j = 17 ∨ j = 18 ∨ j = 19 ∨ j = 20 ∨ j = 21 ∨ j = 22 ∨ j = 23 ∨ j = 24 by omega) with rfl | rfl | rfl | rfl | rfl | rfl | rfl | rfl | rfl | rfl | rfl | rfl | rfl | rfl | rfl | rfl | rfl | rfl | rfl | rfl | rfl | rfl | rfl | rfl | rfl <;> rfl
theorem zgoodS {own : String} {idx : Nat} {y : MethodName} {b : ByteArray} {k : Nat} {r : Option FieldType} (h1 : Cond.methodLink own idx y ∈ zT) (h2 : Cond.static y ∈ zT) (h3 : Cond.initialized y.cls ∈ zT) (h4 : Cond.code y b k r ∈ zT) : GoodIn zT (va_wsS own idx y (Cond.code y b k r :: zT)) := by
  intro w hw
  rcases List.mem_append.mp hw with hw | hw
  · simp only [List.mem_cons, List.not_mem_nil, or_false] at hw
    rcases hw with rfl | rfl | rfl
    · exact zgoodT h1
    · exact zgoodT h2
    · exact zgoodT h3
  · exact zgoodC h4 w hw
theorem zn_i (n : Nat) (h : n < 2147483648) : ¬ Int32.ofInt (n : Int) < 0 ∧ (Int32.ofInt (n : Int)).toNatClampNeg = n := by
  refine ⟨fun z => ?_, ?_⟩
  · have z : Int32.ofInt (n : Int) < Int32.ofInt 0 := z
    rw [zlt32 ⟨by omega, by omega⟩ ⟨by omega, by omega⟩] at z
    omega
  · rw [znat (by omega) (by omega), Int.toNat_natCast]
