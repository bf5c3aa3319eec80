section Anew
variable {p : Program} {l : Launch} {e : Env} {R : Room} {s : State} {m : MethodId} {args : Array Value} {below : List Frame} {meth : Method} {c : Code} {H : Heap} {locs : List Loc} {cells slots : Nat} {Q : State → Prop}
variable {cc : ByteArray} {n : Nat} {ret : Option FieldType} {y0 : MethodName} {D : va_G} {T : List (ClassId × FieldType)} {A : Nat → Prop} {pc : Nat} {ls : Array Slot} {rest : List Value} {ws : va_W}
theorem r_anew (C : Cx p s m args meth c cc n ret y0 D T A) (hP : va_P D CL ws H) (hD : va_D A ws) (hS : va_S A s.heap H locs) {Cn : String} {idx : Nat} (hcl : Cond.classLink y0.cls idx Cn ∈ Big) (hover : va_AO Cn s) {k : Int32} {N' : Nat} (hn : ¬ k < 0) (hN : k.toNatClampNeg = N') (hbytes : N' * 4 ≤ 536870912) (hcells : cells + 1 ≤ R.cells) (hslots : slots + N' ≤ R.slots) (hdg : decode cc pc = .ok (.anewarray idx, 3))
    (kk : ∀ (q : Nat) (cA : ClassId) (H1 : Heap), va_K D CL (T ++ [(cA, .object Cn)]) s → va_P D CL (ws ++ [(q, .inl (cA, N', .inr (.inr (.inr (.inr (fun _ => none))))))]) H1 → va_D A (ws ++ [(q, .inl (cA, N', .inr (.inr (.inr (.inr (fun _ => none))))))]) → va_S A s.heap H1 locs → W p l e R s m args below meth c H1 locs (cells + 1) (slots + N') Q (F0 m (pc + 3) ls (.ref q :: rest))) : W p l e R s m args below meth c H locs cells slots Q (F0 m pc ls (.int k :: rest)) := by
  obtain ⟨hx, hb, -, hown, hts, hK, hA, -⟩ := C
  exact va_newq hx hb hown (hts _ hcl) hover hK hP hD hS hA hn hN hbytes hcells hslots hdg kk
end Anew

theorem w_306 : Cond.methodLink RX6 3 objectInit ∈ Big := big_t 74 (by decide +kernel) rfl
theorem w_307 : Cond.instanceMethod objectInit ∈ Big := big_t 34 (by decide +kernel) rfl
theorem w_308 : Cond.code objectInit ⟨#[0xb1]⟩ 1 none ∈ Big := big_t 35 (by decide +kernel) rfl
theorem w_309 : Cond.fieldLink RX6 9 "GalleryGuards$Plan" "vertexCount" "I" ∈ Big := big_t 75 (by decide +kernel) rfl
theorem w_310 : Cond.fieldLink RX6 15 "GalleryGuards$Plan" "guardCount" "I" ∈ Big := big_t 81 (by decide +kernel) rfl
theorem w_311 : Cond.fieldLink RX6 18 "GalleryGuards$Plan" "treasureCount" "I" ∈ Big := big_t 86 (by decide +kernel) rfl
theorem w_312 : Cond.arrayClass .int ∈ Big := big_t 68 (by decide +kernel) rfl
theorem w_313 : Cond.fieldLink RX6 21 "GalleryGuards$Plan" "vertexXs" "[I" ∈ Big := big_t 91 (by decide +kernel) rfl
theorem w_314 : Cond.fieldLink RX6 25 "GalleryGuards$Plan" "vertexYs" "[I" ∈ Big := big_t 92 (by decide +kernel) rfl
theorem w_315 : Cond.fieldLink RX6 28 "GalleryGuards$Plan" "guardXs" "[I" ∈ Big := big_t 93 (by decide +kernel) rfl
theorem w_316 : Cond.fieldLink RX6 31 "GalleryGuards$Plan" "guardYs" "[I" ∈ Big := big_t 94 (by decide +kernel) rfl
theorem w_317 : Cond.fieldLink RX6 34 "GalleryGuards$Plan" "guardReaches" "[I" ∈ Big := big_t 95 (by decide +kernel) rfl
theorem w_318 : Cond.fieldLink RX6 37 "GalleryGuards$Plan" "treasureXs" "[I" ∈ Big := big_t 96 (by decide +kernel) rfl
theorem w_319 : Cond.fieldLink RX6 40 "GalleryGuards$Plan" "treasureYs" "[I" ∈ Big := big_t 97 (by decide +kernel) rfl
theorem w_320 : Cond.fieldLink RX6 43 "GalleryGuards$Plan" "treasureValues" "[I" ∈ Big := big_t 98 (by decide +kernel) rfl
theorem w_321 : Cond.methodLink RX2 3 objectInit ∈ Big := big_t 41 (by decide +kernel) rfl
theorem w_322 : Cond.lays RX2 "GalleryGuards$Input" "size" "I" ∈ Big := big_t 53 (by decide +kernel) rfl
theorem w_323 : Cond.lays RX2 "GalleryGuards$Input" "tokenKind" "I" ∈ Big := big_t 55 (by decide +kernel) rfl
theorem w_324 : Cond.lays RX2 "GalleryGuards$Input" "tokenStart" "I" ∈ Big := big_t 57 (by decide +kernel) rfl
theorem w_325 : Cond.lays RX2 "GalleryGuards$Input" "numbe\x72" "I" ∈ Big := big_t 59 (by decide +kernel) rfl
theorem w_326 : Cond.lays RX2 "GalleryGuards$Input" "tokenEnd" "I" ∈ Big := big_t 61 (by decide +kernel) rfl
theorem w_327 : Cond.lays RX2 "GalleryGuards$Input" "textEnd" "I" ∈ Big := big_t 63 (by decide +kernel) rfl
theorem w_328 : Cond.laysFinal RX2 "GalleryGuards$Input" "bytes" "[I" ∈ Big := big_t 65 (by decide +kernel) rfl
theorem w_329 : Cond.fieldLink RX2 9 "GalleryGuards$Input" "size" "I" ∈ Big := big_t 42 (by decide +kernel) rfl
theorem w_330 : Cond.fieldLink RX2 15 "GalleryGuards$Input" "tokenKind" "I" ∈ Big := big_t 44 (by decide +kernel) rfl
theorem w_331 : Cond.fieldLink RX2 18 "GalleryGuards$Input" "tokenStart" "I" ∈ Big := big_t 46 (by decide +kernel) rfl
theorem w_332 : Cond.fieldLink RX2 21 "GalleryGuards$Input" "numbe\x72" "I" ∈ Big := big_t 48 (by decide +kernel) rfl
theorem w_333 : Cond.fieldLink RX2 24 "GalleryGuards$Input" "tokenEnd" "I" ∈ Big := big_t 50 (by decide +kernel) rfl
theorem w_334 : Cond.fieldLink RX2 27 "GalleryGuards$Input" "textEnd" "I" ∈ Big := big_t 51 (by decide +kernel) rfl
theorem w_335 : Cond.fieldLink RX2 30 "GalleryGuards$Input" "bytes" "[I" ∈ Big := big_t 52 (by decide +kernel) rfl
theorem w_336 : Cond.methodLink RX3 3 objectInit ∈ Big := big_t 127 (by decide +kernel) rfl
theorem w_337 : Cond.lays RX3 "GalleryGuards$Lattice" "count" "I" ∈ Big := big_t 138 (by decide +kernel) rfl
theorem w_338 : Cond.lays RX3 "GalleryGuards$Lattice" "rim" "J" ∈ Big := big_t 140 (by decide +kernel) rfl
theorem w_339 : Cond.laysFinal RX3 "GalleryGuards$Lattice" "xs" "[I" ∈ Big := big_t 142 (by decide +kernel) rfl
theorem w_340 : Cond.laysFinal RX3 "GalleryGuards$Lattice" "ys" "[I" ∈ Big := big_t 144 (by decide +kernel) rfl
theorem w_341 : Cond.laysFinal RX3 "GalleryGuards$Lattice" "numbers" "[I" ∈ Big := big_t 146 (by decide +kernel) rfl
theorem w_342 : Cond.fieldLink RX3 9 "GalleryGuards$Lattice" "count" "I" ∈ Big := big_t 128 (by decide +kernel) rfl
theorem w_343 : Cond.fieldLink RX3 15 "GalleryGuards$Lattice" "rim" "J" ∈ Big := big_t 133 (by decide +kernel) rfl
theorem w_344 : Cond.fieldLink RX3 19 "GalleryGuards$Lattice" "xs" "[I" ∈ Big := big_t 135 (by decide +kernel) rfl
theorem w_345 : Cond.fieldLink RX3 23 "GalleryGuards$Lattice" "ys" "[I" ∈ Big := big_t 136 (by decide +kernel) rfl
theorem w_346 : Cond.fieldLink RX3 26 "GalleryGuards$Lattice" "numbers" "[I" ∈ Big := big_t 137 (by decide +kernel) rfl
theorem w_347 : Cond.methodLink RX5 3 objectInit ∈ Big := big_t 154 (by decide +kernel) rfl
theorem w_348 : Cond.laysFinal RX5 "GalleryGuards$Parse\x72" "input" "LGalleryGuards$Input;" ∈ Big := big_t 160 (by decide +kernel) rfl
theorem w_349 : Cond.laysFinal RX5 "GalleryGuards$Parse\x72" "draft" "LGalleryGuards$Plan;" ∈ Big := big_t 162 (by decide +kernel) rfl
theorem w_350 : Cond.laysFinal RX5 "GalleryGuards$Parse\x72" "lattice" "LGalleryGuards$Lattice;" ∈ Big := big_t 164 (by decide +kernel) rfl
theorem w_351 : Cond.lays RX5 "GalleryGuards$Parse\x72" "readX" "I" ∈ Big := big_t 166 (by decide +kernel) rfl
theorem w_352 : Cond.lays RX5 "GalleryGuards$Parse\x72" "readY" "I" ∈ Big := big_t 168 (by decide +kernel) rfl
theorem w_353 : Cond.fieldLink RX5 9 "GalleryGuards$Parse\x72" "readX" "I" ∈ Big := big_t 158 (by decide +kernel) rfl
theorem w_354 : Cond.fieldLink RX5 15 "GalleryGuards$Parse\x72" "readY" "I" ∈ Big := big_t 159 (by decide +kernel) rfl
theorem w_355 : Cond.fieldLink RX5 18 "GalleryGuards$Parse\x72" "input" "LGalleryGuards$Input;" ∈ Big := big_t 155 (by decide +kernel) rfl
theorem w_356 : Cond.fieldLink RX5 22 "GalleryGuards$Parse\x72" "draft" "LGalleryGuards$Plan;" ∈ Big := big_t 156 (by decide +kernel) rfl
theorem w_357 : Cond.fieldLink RX5 26 "GalleryGuards$Parse\x72" "lattice" "LGalleryGuards$Lattice;" ∈ Big := big_t 157 (by decide +kernel) rfl
theorem w_358 : Cond.methodLink RX7 3 objectInit ∈ Big := big_t 176 (by decide +kernel) rfl
theorem w_359 : Cond.arrayClass .long ∈ Big := big_t 190 (by decide +kernel) rfl
theorem w_360 : Cond.laysFinal RX7 "GalleryGuards$Sight" "plan" "LGalleryGuards$Plan;" ∈ Big := big_t 181 (by decide +kernel) rfl
theorem w_361 : Cond.laysFinal RX7 "GalleryGuards$Sight" "lattice" "LGalleryGuards$Lattice;" ∈ Big := big_t 183 (by decide +kernel) rfl
theorem w_362 : Cond.laysFinal RX7 "GalleryGuards$Sight" "rows" "[J" ∈ Big := big_t 185 (by decide +kernel) rfl
theorem w_363 : Cond.lays RX7 "GalleryGuards$Sight" "known" "Z" ∈ Big := big_t 187 (by decide +kernel) rfl
theorem w_364 : Cond.fieldLink RX7 9 "GalleryGuards$Sight" "rows" "[J" ∈ Big := big_t 179 (by decide +kernel) rfl
theorem w_365 : Cond.fieldLink RX7 15 "GalleryGuards$Sight" "known" "Z" ∈ Big := big_t 180 (by decide +kernel) rfl
theorem w_366 : Cond.fieldLink RX7 19 "GalleryGuards$Sight" "plan" "LGalleryGuards$Plan;" ∈ Big := big_t 177 (by decide +kernel) rfl
theorem w_367 : Cond.fieldLink RX7 23 "GalleryGuards$Sight" "lattice" "LGalleryGuards$Lattice;" ∈ Big := big_t 178 (by decide +kernel) rfl
theorem w_368 : Cond.methodLink RX9 3 objectInit ∈ Big := big_t 196 (by decide +kernel) rfl
theorem w_369 : Cond.laysFinal RX9 "GalleryGuards$Triangulation" "plan" "LGalleryGuards$Plan;" ∈ Big := big_t 206 (by decide +kernel) rfl
theorem w_370 : Cond.laysFinal RX9 "GalleryGuards$Triangulation" "cut" "[I" ∈ Big := big_t 208 (by decide +kernel) rfl
theorem w_371 : Cond.laysFinal RX9 "GalleryGuards$Triangulation" "low" "[I" ∈ Big := big_t 210 (by decide +kernel) rfl
theorem w_372 : Cond.laysFinal RX9 "GalleryGuards$Triangulation" "middle" "[I" ∈ Big := big_t 212 (by decide +kernel) rfl
theorem w_373 : Cond.laysFinal RX9 "GalleryGuards$Triangulation" "high" "[I" ∈ Big := big_t 214 (by decide +kernel) rfl
theorem w_374 : Cond.laysFinal RX9 "GalleryGuards$Triangulation" "colours" "[I" ∈ Big := big_t 216 (by decide +kernel) rfl
theorem w_375 : Cond.laysFinal RX9 "GalleryGuards$Triangulation" "ring" "[I" ∈ Big := big_t 218 (by decide +kernel) rfl
theorem w_376 : Cond.lays RX9 "GalleryGuards$Triangulation" "ringSize" "I" ∈ Big := big_t 220 (by decide +kernel) rfl
theorem w_377 : Cond.lays RX9 "GalleryGuards$Triangulation" "known" "Z" ∈ Big := big_t 222 (by decide +kernel) rfl
theorem w_378 : Cond.fieldLink RX9 9 "GalleryGuards$Triangulation" "cut" "[I" ∈ Big := big_t 198 (by decide +kernel) rfl
theorem w_379 : Cond.fieldLink RX9 15 "GalleryGuards$Triangulation" "low" "[I" ∈ Big := big_t 199 (by decide +kernel) rfl
theorem w_380 : Cond.fieldLink RX9 18 "GalleryGuards$Triangulation" "middle" "[I" ∈ Big := big_t 200 (by decide +kernel) rfl
theorem w_381 : Cond.fieldLink RX9 21 "GalleryGuards$Triangulation" "high" "[I" ∈ Big := big_t 201 (by decide +kernel) rfl
theorem w_382 : Cond.fieldLink RX9 24 "GalleryGuards$Triangulation" "colours" "[I" ∈ Big := big_t 202 (by decide +kernel) rfl
theorem w_383 : Cond.fieldLink RX9 27 "GalleryGuards$Triangulation" "ring" "[I" ∈ Big := big_t 203 (by decide +kernel) rfl
theorem w_384 : Cond.fieldLink RX9 30 "GalleryGuards$Triangulation" "ringSize" "I" ∈ Big := big_t 204 (by decide +kernel) rfl
theorem w_385 : Cond.fieldLink RX9 34 "GalleryGuards$Triangulation" "known" "Z" ∈ Big := big_t 205 (by decide +kernel) rfl
theorem w_386 : Cond.fieldLink RX9 38 "GalleryGuards$Triangulation" "plan" "LGalleryGuards$Plan;" ∈ Big := big_t 197 (by decide +kernel) rfl
theorem w_387 : Cond.methodLink RX0 3 objectInit ∈ Big := big_t 230 (by decide +kernel) rfl
theorem w_388 : Cond.laysFinal RX0 "GalleryGuards$CoverSearch" "plan" "LGalleryGuards$Plan;" ∈ Big := big_t 240 (by decide +kernel) rfl
theorem w_389 : Cond.laysFinal RX0 "GalleryGuards$CoverSearch" "lattice" "LGalleryGuards$Lattice;" ∈ Big := big_t 242 (by decide +kernel) rfl
theorem w_390 : Cond.laysFinal RX0 "GalleryGuards$CoverSearch" "sight" "LGalleryGuards$Sight;" ∈ Big := big_t 244 (by decide +kernel) rfl
theorem w_391 : Cond.laysFinal RX0 "GalleryGuards$CoverSearch" "views" "[J" ∈ Big := big_t 246 (by decide +kernel) rfl
theorem w_392 : Cond.laysFinal RX0 "GalleryGuards$CoverSearch" "fromHereOn" "[J" ∈ Big := big_t 248 (by decide +kernel) rfl
theorem w_393 : Cond.laysFinal RX0 "GalleryGuards$CoverSearch" "picked" "[I" ∈ Big := big_t 250 (by decide +kernel) rfl
theorem w_394 : Cond.lays RX0 "GalleryGuards$CoverSearch" "vertexSet" "I" ∈ Big := big_t 252 (by decide +kernel) rfl
theorem w_395 : Cond.lays RX0 "GalleryGuards$CoverSearch" "edgeSet" "I" ∈ Big := big_t 254 (by decide +kernel) rfl
theorem w_396 : Cond.lays RX0 "GalleryGuards$CoverSearch" "pickedCount" "I" ∈ Big := big_t 256 (by decide +kernel) rfl
theorem w_397 : Cond.fieldLink RX0 9 "GalleryGuards$CoverSearch" "views" "[J" ∈ Big := big_t 234 (by decide +kernel) rfl
theorem w_398 : Cond.fieldLink RX0 15 "GalleryGuards$CoverSearch" "fromHereOn" "[J" ∈ Big := big_t 235 (by decide +kernel) rfl
theorem w_399 : Cond.fieldLink RX0 18 "GalleryGuards$CoverSearch" "picked" "[I" ∈ Big := big_t 236 (by decide +kernel) rfl
theorem w_400 : Cond.fieldLink RX0 22 "GalleryGuards$CoverSearch" "vertexSet" "I" ∈ Big := big_t 237 (by decide +kernel) rfl
theorem w_401 : Cond.fieldLink RX0 26 "GalleryGuards$CoverSearch" "edgeSet" "I" ∈ Big := big_t 238 (by decide +kernel) rfl
theorem w_402 : Cond.fieldLink RX0 29 "GalleryGuards$CoverSearch" "pickedCount" "I" ∈ Big := big_t 239 (by decide +kernel) rfl
theorem w_403 : Cond.fieldLink RX0 32 "GalleryGuards$CoverSearch" "plan" "LGalleryGuards$Plan;" ∈ Big := big_t 231 (by decide +kernel) rfl
theorem w_404 : Cond.fieldLink RX0 36 "GalleryGuards$CoverSearch" "lattice" "LGalleryGuards$Lattice;" ∈ Big := big_t 232 (by decide +kernel) rfl
theorem w_405 : Cond.fieldLink RX0 40 "GalleryGuards$CoverSearch" "sight" "LGalleryGuards$Sight;" ∈ Big := big_t 233 (by decide +kernel) rfl
theorem w_406 : Cond.methodLink RX8 3 objectInit ∈ Big := big_t 264 (by decide +kernel) rfl
theorem w_407 : Cond.laysFinal RX8 "GalleryGuards$SpreadSearch" "sight" "LGalleryGuards$Sight;" ∈ Big := big_t 270 (by decide +kernel) rfl
theorem w_408 : Cond.laysFinal RX8 "GalleryGuards$SpreadSearch" "sharing" "[J" ∈ Big := big_t 272 (by decide +kernel) rfl
theorem w_409 : Cond.laysFinal RX8 "GalleryGuards$SpreadSearch" "picked" "[I" ∈ Big := big_t 274 (by decide +kernel) rfl
theorem w_410 : Cond.lays RX8 "GalleryGuards$SpreadSearch" "pickedCount" "I" ∈ Big := big_t 276 (by decide +kernel) rfl
theorem w_411 : Cond.lays RX8 "GalleryGuards$SpreadSearch" "hiddenCount" "I" ∈ Big := big_t 278 (by decide +kernel) rfl
theorem w_412 : Cond.fieldLink RX8 9 "GalleryGuards$SpreadSearch" "sharing" "[J" ∈ Big := big_t 266 (by decide +kernel) rfl
theorem w_413 : Cond.fieldLink RX8 15 "GalleryGuards$SpreadSearch" "picked" "[I" ∈ Big := big_t 267 (by decide +kernel) rfl
theorem w_414 : Cond.fieldLink RX8 19 "GalleryGuards$SpreadSearch" "pickedCount" "I" ∈ Big := big_t 268 (by decide +kernel) rfl
theorem w_415 : Cond.fieldLink RX8 23 "GalleryGuards$SpreadSearch" "hiddenCount" "I" ∈ Big := big_t 269 (by decide +kernel) rfl
theorem w_416 : Cond.fieldLink RX8 26 "GalleryGuards$SpreadSearch" "sight" "LGalleryGuards$Sight;" ∈ Big := big_t 265 (by decide +kernel) rfl
theorem w_417 : Cond.methodLink RX10 3 objectInit ∈ Big := big_t 286 (by decide +kernel) rfl
theorem w_418 : Cond.laysFinal RX10 "GalleryGuards$Watch" "plan" "LGalleryGuards$Plan;" ∈ Big := big_t 290 (by decide +kernel) rfl
theorem w_419 : Cond.laysFinal RX10 "GalleryGuards$Watch" "lattice" "LGalleryGuards$Lattice;" ∈ Big := big_t 292 (by decide +kernel) rfl
theorem w_420 : Cond.laysFinal RX10 "GalleryGuards$Watch" "sight" "LGalleryGuards$Sight;" ∈ Big := big_t 294 (by decide +kernel) rfl
theorem w_421 : Cond.fieldLink RX10 9 "GalleryGuards$Watch" "plan" "LGalleryGuards$Plan;" ∈ Big := big_t 287 (by decide +kernel) rfl
theorem w_422 : Cond.fieldLink RX10 15 "GalleryGuards$Watch" "lattice" "LGalleryGuards$Lattice;" ∈ Big := big_t 288 (by decide +kernel) rfl
theorem w_423 : Cond.fieldLink RX10 19 "GalleryGuards$Watch" "sight" "LGalleryGuards$Sight;" ∈ Big := big_t 289 (by decide +kernel) rfl
theorem w_424 : Cond.methodLink RX1 3 objectInit ∈ Big := big_t 302 (by decide +kernel) rfl
theorem w_425 : Cond.lays RX1 "GalleryGuards$History" "size" "I" ∈ Big := big_t 310 (by decide +kernel) rfl
theorem w_426 : Cond.lays RX1 "GalleryGuards$History" "oldest" "I" ∈ Big := big_t 312 (by decide +kernel) rfl
theorem w_427 : Cond.laysFinal RX1 "GalleryGuards$History" "past" "[LGalleryGuards$Plan;" ∈ Big := big_t 314 (by decide +kernel) rfl
theorem w_428 : Cond.fieldLink RX1 9 "GalleryGuards$History" "size" "I" ∈ Big := big_t 306 (by decide +kernel) rfl
theorem w_429 : Cond.fieldLink RX1 15 "GalleryGuards$History" "oldest" "I" ∈ Big := big_t 308 (by decide +kernel) rfl
theorem w_430 : Cond.classLink RX1 18 RX6 ∈ Big := big_t 303 (by decide +kernel) rfl
theorem w_431 : Cond.fieldLink RX1 20 "GalleryGuards$History" "past" "[LGalleryGuards$Plan;" ∈ Big := big_t 309 (by decide +kernel) rfl
theorem w_432 : Cond.instantiable RX6 11 ∈ Big := big_t 70 (by decide +kernel) rfl
theorem w_433 : Cond.initialized RX6 ∈ Big := big_t 3 (by decide +kernel) rfl
theorem w_434 : Cond.instanceMethod yX6_init ∈ Big := big_t 72 (by decide +kernel) rfl
theorem w_435 : Cond.code yX6_init cX6_init 1 none ∈ Big := big_t 73 (by decide +kernel) rfl
theorem w_436 : Cond.methodLink RX11 3 objectInit ∈ Big := big_t 33 (by decide +kernel) rfl
theorem w_437 : Cond.classLink RX11 9 RX2 ∈ Big := big_t 36 (by decide +kernel) rfl
theorem w_438 : Cond.instantiable RX2 7 ∈ Big := big_t 37 (by decide +kernel) rfl
theorem w_439 : Cond.initialized RX2 ∈ Big := big_t 2 (by decide +kernel) rfl
theorem w_440 : Cond.instanceMethod yX2_init ∈ Big := big_t 39 (by decide +kernel) rfl
theorem w_441 : Cond.code yX2_init cX2_init 1 none ∈ Big := big_t 40 (by decide +kernel) rfl
theorem w_442 : Cond.fieldLink RX11 12 "GalleryGuards" "input" "LGalleryGuards$Input;" ∈ Big := big_t 317 (by decide +kernel) rfl
theorem w_443 : Cond.classLink RX11 16 RX6 ∈ Big := big_t 69 (by decide +kernel) rfl
theorem w_444 : Cond.fieldLink RX11 23 "GalleryGuards" "draft" "LGalleryGuards$Plan;" ∈ Big := big_t 320 (by decide +kernel) rfl
theorem w_445 : Cond.classLink RX11 26 RX3 ∈ Big := big_t 122 (by decide +kernel) rfl
theorem w_446 : Cond.instantiable RX3 5 ∈ Big := big_t 123 (by decide +kernel) rfl
theorem w_447 : Cond.initialized RX3 ∈ Big := big_t 4 (by decide +kernel) rfl
theorem w_448 : Cond.instanceMethod yX3_init ∈ Big := big_t 125 (by decide +kernel) rfl
theorem w_449 : Cond.code yX3_init cX3_init 1 none ∈ Big := big_t 126 (by decide +kernel) rfl
theorem w_450 : Cond.fieldLink RX11 29 "GalleryGuards" "lattice" "LGalleryGuards$Lattice;" ∈ Big := big_t 321 (by decide +kernel) rfl
theorem w_451 : Cond.fieldLink RX11 33 "GalleryGuards" "draftLattice" "LGalleryGuards$Lattice;" ∈ Big := big_t 322 (by decide +kernel) rfl
theorem w_452 : Cond.classLink RX11 36 RX5 ∈ Big := big_t 149 (by decide +kernel) rfl
theorem w_453 : Cond.instantiable RX5 5 ∈ Big := big_t 150 (by decide +kernel) rfl
theorem w_454 : Cond.initialized RX5 ∈ Big := big_t 5 (by decide +kernel) rfl
theorem w_455 : Cond.methodLink RX11 38 yX5_init ∈ Big := big_t 151 (by decide +kernel) rfl
theorem w_456 : Cond.instanceMethod yX5_init ∈ Big := big_t 152 (by decide +kernel) rfl
theorem w_457 : Cond.code yX5_init cX5_init 4 none ∈ Big := big_t 153 (by decide +kernel) rfl
theorem w_458 : Cond.fieldLink RX11 41 "GalleryGuards" "parse\x72" "LGalleryGuards$Parser;" ∈ Big := big_t 318 (by decide +kernel) rfl
theorem w_459 : Cond.classLink RX11 45 RX7 ∈ Big := big_t 171 (by decide +kernel) rfl
theorem w_460 : Cond.instantiable RX7 4 ∈ Big := big_t 172 (by decide +kernel) rfl
theorem w_461 : Cond.initialized RX7 ∈ Big := big_t 6 (by decide +kernel) rfl
theorem w_462 : Cond.methodLink RX11 47 yX7_init ∈ Big := big_t 173 (by decide +kernel) rfl
theorem w_463 : Cond.instanceMethod yX7_init ∈ Big := big_t 174 (by decide +kernel) rfl
theorem w_464 : Cond.code yX7_init cX7_init 3 none ∈ Big := big_t 175 (by decide +kernel) rfl
theorem w_465 : Cond.fieldLink RX11 50 "GalleryGuards" "sight" "LGalleryGuards$Sight;" ∈ Big := big_t 323 (by decide +kernel) rfl
theorem w_466 : Cond.classLink RX11 54 RX9 ∈ Big := big_t 191 (by decide +kernel) rfl
theorem w_467 : Cond.instantiable RX9 9 ∈ Big := big_t 192 (by decide +kernel) rfl
theorem w_468 : Cond.initialized RX9 ∈ Big := big_t 7 (by decide +kernel) rfl
theorem w_469 : Cond.methodLink RX11 56 yX9_init ∈ Big := big_t 193 (by decide +kernel) rfl
theorem w_470 : Cond.instanceMethod yX9_init ∈ Big := big_t 194 (by decide +kernel) rfl
theorem w_471 : Cond.code yX9_init cX9_init 2 none ∈ Big := big_t 195 (by decide +kernel) rfl
theorem w_472 : Cond.fieldLink RX11 59 "GalleryGuards" "triangulation" "LGalleryGuards$Triangulation;" ∈ Big := big_t 324 (by decide +kernel) rfl
theorem w_473 : Cond.classLink RX11 63 RX0 ∈ Big := big_t 225 (by decide +kernel) rfl
theorem w_474 : Cond.instantiable RX0 9 ∈ Big := big_t 226 (by decide +kernel) rfl
theorem w_475 : Cond.initialized RX0 ∈ Big := big_t 8 (by decide +kernel) rfl
theorem w_476 : Cond.methodLink RX11 65 yX0_init ∈ Big := big_t 227 (by decide +kernel) rfl
theorem w_477 : Cond.instanceMethod yX0_init ∈ Big := big_t 228 (by decide +kernel) rfl
theorem w_478 : Cond.code yX0_init cX0_init 4 none ∈ Big := big_t 229 (by decide +kernel) rfl
theorem w_479 : Cond.fieldLink RX11 68 "GalleryGuards" "covers" "LGalleryGuards$CoverSearch;" ∈ Big := big_t 325 (by decide +kernel) rfl
theorem w_480 : Cond.classLink RX11 72 RX8 ∈ Big := big_t 259 (by decide +kernel) rfl
theorem w_481 : Cond.instantiable RX8 5 ∈ Big := big_t 260 (by decide +kernel) rfl
theorem w_482 : Cond.initialized RX8 ∈ Big := big_t 9 (by decide +kernel) rfl
theorem w_483 : Cond.methodLink RX11 74 yX8_init ∈ Big := big_t 261 (by decide +kernel) rfl
theorem w_484 : Cond.instanceMethod yX8_init ∈ Big := big_t 262 (by decide +kernel) rfl
theorem w_485 : Cond.code yX8_init cX8_init 2 none ∈ Big := big_t 263 (by decide +kernel) rfl
theorem w_486 : Cond.fieldLink RX11 77 "GalleryGuards" "spreads" "LGalleryGuards$SpreadSearch;" ∈ Big := big_t 326 (by decide +kernel) rfl
theorem w_487 : Cond.classLink RX11 81 RX10 ∈ Big := big_t 281 (by decide +kernel) rfl
theorem w_488 : Cond.instantiable RX10 3 ∈ Big := big_t 282 (by decide +kernel) rfl
theorem w_489 : Cond.initialized RX10 ∈ Big := big_t 10 (by decide +kernel) rfl
theorem w_490 : Cond.methodLink RX11 83 yX10_init ∈ Big := big_t 283 (by decide +kernel) rfl
theorem w_491 : Cond.instanceMethod yX10_init ∈ Big := big_t 284 (by decide +kernel) rfl
theorem w_492 : Cond.code yX10_init cX10_init 4 none ∈ Big := big_t 285 (by decide +kernel) rfl
theorem w_493 : Cond.fieldLink RX11 84 "GalleryGuards" "watch" "LGalleryGuards$Watch;" ∈ Big := big_t 327 (by decide +kernel) rfl
theorem w_494 : Cond.classLink RX11 88 RX1 ∈ Big := big_t 297 (by decide +kernel) rfl
theorem w_495 : Cond.instantiable RX1 3 ∈ Big := big_t 298 (by decide +kernel) rfl
theorem w_496 : Cond.initialized RX1 ∈ Big := big_t 11 (by decide +kernel) rfl
theorem w_497 : Cond.methodLink RX11 90 yX1_init ∈ Big := big_t 299 (by decide +kernel) rfl
theorem w_498 : Cond.instanceMethod yX1_init ∈ Big := big_t 300 (by decide +kernel) rfl
theorem w_499 : Cond.code yX1_init cX1_init 2 none ∈ Big := big_t 301 (by decide +kernel) rfl
theorem w_500 : Cond.fieldLink RX11 91 "GalleryGuards" "history" "LGalleryGuards$History;" ∈ Big := big_t 328 (by decide +kernel) rfl
theorem w_501 : Cond.fieldLink RX11 95 "GalleryGuards" "firstSaved" "LGalleryGuards$Plan;" ∈ Big := big_t 329 (by decide +kernel) rfl
theorem w_502 : Cond.fieldLink RX11 98 "GalleryGuards" "secondSaved" "LGalleryGuards$Plan;" ∈ Big := big_t 330 (by decide +kernel) rfl
theorem w_503 : Cond.fieldLink RX11 101 "GalleryGuards" "drawn" "[I" ∈ Big := big_t 331 (by decide +kernel) rfl
theorem w_504 : Cond.fieldLink RX11 105 "GalleryGuards" "hasDrawn" "Z" ∈ Big := big_t 332 (by decide +kernel) rfl
theorem w_505 : Cond.fieldLink RX11 109 "GalleryGuards" "errorCode" "I" ∈ Big := big_t 333 (by decide +kernel) rfl
theorem w_506 : Cond.fieldLink RX11 113 "GalleryGuards" "errorAt" "I" ∈ Big := big_t 334 (by decide +kernel) rfl
theorem w_507 : Cond.methodLink RX12 1 objectInit ∈ Big := big_t 1504 (by decide +kernel) rfl
theorem w_508 : Cond.fieldLink RX12 13 "GalleryGuardsModel" "stores" "[I" ∈ Big := big_t 1508 (by decide +kernel) rfl
theorem w_509 : Cond.arrayClass .boolean ∈ Big := big_t 1629 (by decide +kernel) rfl
theorem w_510 : Cond.fieldLink RX12 20 "GalleryGuardsModel" "buffe\x72" "[I" ∈ Big := big_t 1511 (by decide +kernel) rfl
theorem w_511 : Cond.fieldLink RX12 27 "GalleryGuardsModel" "word" "[I" ∈ Big := big_t 1519 (by decide +kernel) rfl
theorem w_512 : Cond.fieldLink RX12 30 "GalleryGuardsModel" "\x72" "[I" ∈ Big := big_t 1524 (by decide +kernel) rfl
theorem w_513 : Cond.fieldLink RX12 33 "GalleryGuardsModel" "px" "[I" ∈ Big := big_t 1526 (by decide +kernel) rfl
theorem w_514 : Cond.fieldLink RX12 36 "GalleryGuardsModel" "py" "[I" ∈ Big := big_t 1527 (by decide +kernel) rfl
theorem w_515 : Cond.fieldLink RX12 39 "GalleryGuardsModel" "numberAt" "[I" ∈ Big := big_t 1528 (by decide +kernel) rfl
theorem w_516 : Cond.fieldLink RX12 42 "GalleryGuardsModel" "wayX" "[J" ∈ Big := big_t 1529 (by decide +kernel) rfl
theorem w_517 : Cond.fieldLink RX12 46 "GalleryGuardsModel" "wayY" "[J" ∈ Big := big_t 1530 (by decide +kernel) rfl
theorem w_518 : Cond.fieldLink RX12 49 "GalleryGuardsModel" "wayFa\x72" "[J" ∈ Big := big_t 1531 (by decide +kernel) rfl
theorem w_519 : Cond.fieldLink RX12 52 "GalleryGuardsModel" "sight" "[J" ∈ Big := big_t 1533 (by decide +kernel) rfl
theorem w_520 : Cond.fieldLink RX12 55 "GalleryGuardsModel" "edgeSight" "[J" ∈ Big := big_t 1534 (by decide +kernel) rfl
theorem w_521 : Cond.fieldLink RX12 58 "GalleryGuardsModel" "links" "[I" ∈ Big := big_t 1535 (by decide +kernel) rfl
theorem w_522 : Cond.fieldLink RX12 61 "GalleryGuardsModel" "ring" "[I" ∈ Big := big_t 1536 (by decide +kernel) rfl
theorem w_523 : Cond.fieldLink RX12 64 "GalleryGuardsModel" "corners" "[I" ∈ Big := big_t 1537 (by decide +kernel) rfl
theorem w_524 : Cond.fieldLink RX12 67 "GalleryGuardsModel" "colours" "[I" ∈ Big := big_t 1538 (by decide +kernel) rfl
theorem w_525 : Cond.fieldLink RX12 70 "GalleryGuardsModel" "guardSet" "[I" ∈ Big := big_t 1540 (by decide +kernel) rfl
theorem w_526 : Cond.fieldLink RX12 73 "GalleryGuardsModel" "witnessSet" "[I" ∈ Big := big_t 1542 (by decide +kernel) rfl
theorem w_527 : Cond.fieldLink RX12 76 "GalleryGuardsModel" "map" "[I" ∈ Big := big_t 1544 (by decide +kernel) rfl
theorem w_528 : Cond.fieldLink RX11 116 "GalleryGuards$Input" "size" "I" ∈ Big := big_t 43 (by decide +kernel) rfl
theorem w_529 : Cond.fieldLink RX11 262 "GalleryGuards$Plan" "guardCount" "I" ∈ Big := big_t 85 (by decide +kernel) rfl
theorem w_530 : Cond.fieldLink RX11 295 "GalleryGuards$Plan" "treasureCount" "I" ∈ Big := big_t 90 (by decide +kernel) rfl
theorem w_531 : Cond.fieldLink RX11 149 "GalleryGuards$Lattice" "count" "I" ∈ Big := big_t 129 (by decide +kernel) rfl
theorem w_532 : Cond.fieldLink RX11 348 "GalleryGuards$History" "size" "I" ∈ Big := big_t 307 (by decide +kernel) rfl
theorem w_533 : Cond.methodLink RL 163 yX11_undo ∈ Big := big_t 1471 (by decide +kernel) rfl
theorem w_534 : Cond.instanceMethod yX11_undo ∈ Big := big_t 1472 (by decide +kernel) rfl
theorem w_535 : Cond.selects RX11 yX11_undo yX11_undo ∈ Big := big_t 1473 (by decide +kernel) rfl
theorem w_536 : Cond.code yX11_undo cX11_undo 1 (some .int) ∈ Big := big_t 1474 (by decide +kernel) rfl
theorem w_537 : Cond.classLink RX11 123 "java/lang/IndexOutOfBoundsException" ∈ Big := big_t 421 (by decide +kernel) rfl
theorem w_538 : Cond.initialized "java/lang/IndexOutOfBoundsException" ∈ Big := big_t 16 (by decide +kernel) rfl
theorem w_539 : Cond.methodLink RX11 158 yX11_needIndex ∈ Big := big_t 737 (by decide +kernel) rfl
theorem w_540 : Cond.static yX11_needIndex ∈ Big := big_t 738 (by decide +kernel) rfl
theorem w_541 : Cond.code yX11_needIndex cX11_needIndex 2 none ∈ Big := big_t 739 (by decide +kernel) rfl
theorem w_542 : Cond.methodLink RL 138 yX11_drawnByte ∈ Big := big_t 1371 (by decide +kernel) rfl
theorem w_543 : Cond.instanceMethod yX11_drawnByte ∈ Big := big_t 1372 (by decide +kernel) rfl
theorem w_544 : Cond.selects RX11 yX11_drawnByte yX11_drawnByte ∈ Big := big_t 1373 (by decide +kernel) rfl
theorem w_545 : Cond.code yX11_drawnByte cX11_drawnByte 2 (some .int) ∈ Big := big_t 1374 (by decide +kernel) rfl
theorem w_546 : Cond.classLink RL 13 "java/lang/IndexOutOfBoundsException" ∈ Big := big_t 415 (by decide +kernel) rfl
theorem w_547 : Cond.methodLink RX11 354 yX11_savedIn ∈ Big := big_t 1487 (by decide +kernel) rfl
theorem w_548 : Cond.instanceMethod yX11_savedIn ∈ Big := big_t 1489 (by decide +kernel) rfl
theorem w_549 : Cond.selects RX11 yX11_savedIn yX11_savedIn ∈ Big := big_s 34 (y := yX11_savedIn) (k := 18) (by decide +kernel)
theorem w_550 : Cond.code yX11_savedIn cX11_savedIn 2 (some (.object "GalleryGuards$Plan")) ∈ Big := big_t 1490 (by decide +kernel) rfl
theorem w_551 : Cond.methodLink RL 169 yX11_restore ∈ Big := big_t 1494 (by decide +kernel) rfl
theorem w_552 : Cond.instanceMethod yX11_restore ∈ Big := big_t 1495 (by decide +kernel) rfl
theorem w_553 : Cond.selects RX11 yX11_restore yX11_restore ∈ Big := big_t 1496 (by decide +kernel) rfl
theorem w_554 : Cond.code yX11_restore cX11_restore 2 (some .int) ∈ Big := big_t 1497 (by decide +kernel) rfl
theorem fg_X6_9 : Fg RX6 9 5 0 (.int) false true := ⟨_, _, _, _, kc_X6, by decide, w_309, by decide +kernel, rfl, fun _ => rfl⟩
theorem fg_X6_15 : Fg RX6 15 5 1 (.int) false true := ⟨_, _, _, _, kc_X6, by decide, w_310, by decide +kernel, rfl, fun _ => rfl⟩
theorem fg_X6_18 : Fg RX6 18 5 2 (.int) false true := ⟨_, _, _, _, kc_X6, by decide, w_311, by decide +kernel, rfl, fun _ => rfl⟩
theorem fg_X6_21 : Fg RX6 21 5 3 (.array .int) true true := ⟨_, _, _, _, kc_X6, by decide, w_313, by decide +kernel, rfl, fun _ => rfl⟩
theorem fg_X6_25 : Fg RX6 25 5 4 (.array .int) true true := ⟨_, _, _, _, kc_X6, by decide, w_314, by decide +kernel, rfl, fun _ => rfl⟩
theorem fg_X6_28 : Fg RX6 28 5 5 (.array .int) true true := ⟨_, _, _, _, kc_X6, by decide, w_315, by decide +kernel, rfl, fun _ => rfl⟩
theorem fg_X6_31 : Fg RX6 31 5 6 (.array .int) true true := ⟨_, _, _, _, kc_X6, by decide, w_316, by decide +kernel, rfl, fun _ => rfl⟩
theorem fg_X6_34 : Fg RX6 34 5 7 (.array .int) true true := ⟨_, _, _, _, kc_X6, by decide, w_317, by decide +kernel, rfl, fun _ => rfl⟩
theorem fg_X6_37 : Fg RX6 37 5 8 (.array .int) true true := ⟨_, _, _, _, kc_X6, by decide, w_318, by decide +kernel, rfl, fun _ => rfl⟩
theorem fg_X6_40 : Fg RX6 40 5 9 (.array .int) true true := ⟨_, _, _, _, kc_X6, by decide, w_319, by decide +kernel, rfl, fun _ => rfl⟩
theorem fg_X6_43 : Fg RX6 43 5 10 (.array .int) true true := ⟨_, _, _, _, kc_X6, by decide, w_320, by decide +kernel, rfl, fun _ => rfl⟩
theorem kc_X2 : Kc 2 RX2 TX2 7 tyX2 := ⟨rfl, big_ws (lt_s (lt_s (lt_s (lt_s (lt_s (lt_s (lt_s lt_0 w_322) w_323) w_324) w_325) w_326) w_327) w_328), tyX2_ok, nmX2⟩
theorem fg_X2_9 : Fg RX2 9 2 0 (.int) false true := ⟨_, _, _, _, kc_X2, by decide, w_329, by decide +kernel, rfl, fun _ => rfl⟩
theorem fg_X2_15 : Fg RX2 15 2 1 (.int) false true := ⟨_, _, _, _, kc_X2, by decide, w_330, by decide +kernel, rfl, fun _ => rfl⟩
theorem fg_X2_18 : Fg RX2 18 2 2 (.int) false true := ⟨_, _, _, _, kc_X2, by decide, w_331, by decide +kernel, rfl, fun _ => rfl⟩
theorem fg_X2_21 : Fg RX2 21 2 3 (.int) false true := ⟨_, _, _, _, kc_X2, by decide, w_332, by decide +kernel, rfl, fun _ => rfl⟩
theorem fg_X2_24 : Fg RX2 24 2 4 (.int) false true := ⟨_, _, _, _, kc_X2, by decide, w_333, by decide +kernel, rfl, fun _ => rfl⟩
theorem fg_X2_27 : Fg RX2 27 2 5 (.int) false true := ⟨_, _, _, _, kc_X2, by decide, w_334, by decide +kernel, rfl, fun _ => rfl⟩
theorem fg_X2_30 : Fg RX2 30 2 6 (.array .int) true true := ⟨_, _, _, _, kc_X2, by decide, w_335, by decide +kernel, rfl, fun _ => rfl⟩
theorem kc_X3 : Kc 3 RX3 TX3 5 tyX3 := ⟨rfl, big_ws (lt_s (lt_s (lt_s (lt_s (lt_s lt_0 w_337) w_338) w_339) w_340) w_341), tyX3_ok, nmX3⟩
theorem fg_X3_9 : Fg RX3 9 3 0 (.int) false true := ⟨_, _, _, _, kc_X3, by decide, w_342, by decide +kernel, rfl, fun _ => rfl⟩
theorem fg_X3_15 : Fg RX3 15 3 1 (.long) false true := ⟨_, _, _, _, kc_X3, by decide, w_343, by decide +kernel, rfl, fun _ => rfl⟩
theorem fg_X3_19 : Fg RX3 19 3 2 (.array .int) true true := ⟨_, _, _, _, kc_X3, by decide, w_344, by decide +kernel, rfl, fun _ => rfl⟩
theorem fg_X3_23 : Fg RX3 23 3 3 (.array .int) true true := ⟨_, _, _, _, kc_X3, by decide, w_345, by decide +kernel, rfl, fun _ => rfl⟩
theorem fg_X3_26 : Fg RX3 26 3 4 (.array .int) true true := ⟨_, _, _, _, kc_X3, by decide, w_346, by decide +kernel, rfl, fun _ => rfl⟩
theorem kc_X5 : Kc 4 RX5 TX5 5 tyX5 := ⟨rfl, big_ws (lt_s (lt_s (lt_s (lt_s (lt_s lt_0 w_348) w_349) w_350) w_351) w_352), tyX5_ok, nmX5⟩
theorem fg_X5_9 : Fg RX5 9 4 3 (.int) false true := ⟨_, _, _, _, kc_X5, by decide, w_353, by decide +kernel, rfl, fun _ => rfl⟩
theorem fg_X5_15 : Fg RX5 15 4 4 (.int) false true := ⟨_, _, _, _, kc_X5, by decide, w_354, by decide +kernel, rfl, fun _ => rfl⟩
theorem fg_X5_18 : Fg RX5 18 4 0 (.object "GalleryGuards$Input") true true := ⟨_, _, _, _, kc_X5, by decide, w_355, by decide +kernel, rfl, fun _ => rfl⟩
theorem fg_X5_22 : Fg RX5 22 4 1 (.object "GalleryGuards$Plan") true true := ⟨_, _, _, _, kc_X5, by decide, w_356, by decide +kernel, rfl, fun _ => rfl⟩
theorem fg_X5_26 : Fg RX5 26 4 2 (.object "GalleryGuards$Lattice") true true := ⟨_, _, _, _, kc_X5, by decide, w_357, by decide +kernel, rfl, fun _ => rfl⟩
theorem kc_X7 : Kc 6 RX7 TX7 4 tyX7 := ⟨rfl, big_ws (lt_s (lt_s (lt_s (lt_s lt_0 w_360) w_361) w_362) w_363), tyX7_ok, nmX7⟩
theorem fg_X7_9 : Fg RX7 9 6 2 (.array .long) true true := ⟨_, _, _, _, kc_X7, by decide, w_364, by decide +kernel, rfl, fun _ => rfl⟩
theorem fg_X7_15 : Fg RX7 15 6 3 (.boolean) false true := ⟨_, _, _, _, kc_X7, by decide, w_365, by decide +kernel, rfl, fun _ => rfl⟩
theorem fg_X7_19 : Fg RX7 19 6 0 (.object "GalleryGuards$Plan") true true := ⟨_, _, _, _, kc_X7, by decide, w_366, by decide +kernel, rfl, fun _ => rfl⟩
theorem fg_X7_23 : Fg RX7 23 6 1 (.object "GalleryGuards$Lattice") true true := ⟨_, _, _, _, kc_X7, by decide, w_367, by decide +kernel, rfl, fun _ => rfl⟩
theorem kc_X9 : Kc 8 RX9 TX9 9 tyX9 := ⟨rfl, big_ws (lt_s (lt_s (lt_s (lt_s (lt_s (lt_s (lt_s (lt_s (lt_s lt_0 w_369) w_370) w_371) w_372) w_373) w_374) w_375) w_376) w_377), tyX9_ok, nmX9⟩
theorem fg_X9_9 : Fg RX9 9 8 1 (.array .int) true true := ⟨_, _, _, _, kc_X9, by decide, w_378, by decide +kernel, rfl, fun _ => rfl⟩
theorem fg_X9_15 : Fg RX9 15 8 2 (.array .int) true true := ⟨_, _, _, _, kc_X9, by decide, w_379, by decide +kernel, rfl, fun _ => rfl⟩
theorem fg_X9_18 : Fg RX9 18 8 3 (.array .int) true true := ⟨_, _, _, _, kc_X9, by decide, w_380, by decide +kernel, rfl, fun _ => rfl⟩
theorem fg_X9_21 : Fg RX9 21 8 4 (.array .int) true true := ⟨_, _, _, _, kc_X9, by decide, w_381, by decide +kernel, rfl, fun _ => rfl⟩
theorem fg_X9_24 : Fg RX9 24 8 5 (.array .int) true true := ⟨_, _, _, _, kc_X9, by decide, w_382, by decide +kernel, rfl, fun _ => rfl⟩
theorem fg_X9_27 : Fg RX9 27 8 6 (.array .int) true true := ⟨_, _, _, _, kc_X9, by decide, w_383, by decide +kernel, rfl, fun _ => rfl⟩
theorem fg_X9_30 : Fg RX9 30 8 7 (.int) false true := ⟨_, _, _, _, kc_X9, by decide, w_384, by decide +kernel, rfl, fun _ => rfl⟩
theorem fg_X9_34 : Fg RX9 34 8 8 (.boolean) false true := ⟨_, _, _, _, kc_X9, by decide, w_385, by decide +kernel, rfl, fun _ => rfl⟩
theorem fg_X9_38 : Fg RX9 38 8 0 (.object "GalleryGuards$Plan") true true := ⟨_, _, _, _, kc_X9, by decide, w_386, by decide +kernel, rfl, fun _ => rfl⟩
theorem kc_X0 : Kc 0 RX0 TX0 9 tyX0 := ⟨rfl, big_ws (lt_s (lt_s (lt_s (lt_s (lt_s (lt_s (lt_s (lt_s (lt_s lt_0 w_388) w_389) w_390) w_391) w_392) w_393) w_394) w_395) w_396), tyX0_ok, nmX0⟩
theorem fg_X0_9 : Fg RX0 9 0 3 (.array .long) true true := ⟨_, _, _, _, kc_X0, by decide, w_397, by decide +kernel, rfl, fun _ => rfl⟩
theorem fg_X0_15 : Fg RX0 15 0 4 (.array .long) true true := ⟨_, _, _, _, kc_X0, by decide, w_398, by decide +kernel, rfl, fun _ => rfl⟩
theorem fg_X0_18 : Fg RX0 18 0 5 (.array .int) true true := ⟨_, _, _, _, kc_X0, by decide, w_399, by decide +kernel, rfl, fun _ => rfl⟩
theorem fg_X0_22 : Fg RX0 22 0 6 (.int) false true := ⟨_, _, _, _, kc_X0, by decide, w_400, by decide +kernel, rfl, fun _ => rfl⟩
theorem fg_X0_26 : Fg RX0 26 0 7 (.int) false true := ⟨_, _, _, _, kc_X0, by decide, w_401, by decide +kernel, rfl, fun _ => rfl⟩
theorem fg_X0_29 : Fg RX0 29 0 8 (.int) false true := ⟨_, _, _, _, kc_X0, by decide, w_402, by decide +kernel, rfl, fun _ => rfl⟩
theorem fg_X0_32 : Fg RX0 32 0 0 (.object "GalleryGuards$Plan") true true := ⟨_, _, _, _, kc_X0, by decide, w_403, by decide +kernel, rfl, fun _ => rfl⟩
theorem fg_X0_36 : Fg RX0 36 0 1 (.object "GalleryGuards$Lattice") true true := ⟨_, _, _, _, kc_X0, by decide, w_404, by decide +kernel, rfl, fun _ => rfl⟩
theorem fg_X0_40 : Fg RX0 40 0 2 (.object "GalleryGuards$Sight") true true := ⟨_, _, _, _, kc_X0, by decide, w_405, by decide +kernel, rfl, fun _ => rfl⟩
theorem kc_X8 : Kc 7 RX8 TX8 5 tyX8 := ⟨rfl, big_ws (lt_s (lt_s (lt_s (lt_s (lt_s lt_0 w_407) w_408) w_409) w_410) w_411), tyX8_ok, nmX8⟩
theorem fg_X8_9 : Fg RX8 9 7 1 (.array .long) true true := ⟨_, _, _, _, kc_X8, by decide, w_412, by decide +kernel, rfl, fun _ => rfl⟩
theorem fg_X8_15 : Fg RX8 15 7 2 (.array .int) true true := ⟨_, _, _, _, kc_X8, by decide, w_413, by decide +kernel, rfl, fun _ => rfl⟩
theorem fg_X8_19 : Fg RX8 19 7 3 (.int) false true := ⟨_, _, _, _, kc_X8, by decide, w_414, by decide +kernel, rfl, fun _ => rfl⟩
theorem fg_X8_23 : Fg RX8 23 7 4 (.int) false true := ⟨_, _, _, _, kc_X8, by decide, w_415, by decide +kernel, rfl, fun _ => rfl⟩
theorem fg_X8_26 : Fg RX8 26 7 0 (.object "GalleryGuards$Sight") true true := ⟨_, _, _, _, kc_X8, by decide, w_416, by decide +kernel, rfl, fun _ => rfl⟩
theorem kc_X10 : Kc 9 RX10 TX10 3 tyX10 := ⟨rfl, big_ws (lt_s (lt_s (lt_s lt_0 w_418) w_419) w_420), tyX10_ok, nmX10⟩
theorem fg_X10_9 : Fg RX10 9 9 0 (.object "GalleryGuards$Plan") true true := ⟨_, _, _, _, kc_X10, by decide, w_421, by decide +kernel, rfl, fun _ => rfl⟩
theorem fg_X10_15 : Fg RX10 15 9 1 (.object "GalleryGuards$Lattice") true true := ⟨_, _, _, _, kc_X10, by decide, w_422, by decide +kernel, rfl, fun _ => rfl⟩
theorem fg_X10_19 : Fg RX10 19 9 2 (.object "GalleryGuards$Sight") true true := ⟨_, _, _, _, kc_X10, by decide, w_423, by decide +kernel, rfl, fun _ => rfl⟩
theorem kc_X1 : Kc 1 RX1 TX1 3 tyX1 := ⟨rfl, big_ws (lt_s (lt_s (lt_s lt_0 w_425) w_426) w_427), tyX1_ok, nmX1⟩
theorem fg_X1_9 : Fg RX1 9 1 0 (.int) false true := ⟨_, _, _, _, kc_X1, by decide, w_428, by decide +kernel, rfl, fun _ => rfl⟩
theorem fg_X1_15 : Fg RX1 15 1 1 (.int) false true := ⟨_, _, _, _, kc_X1, by decide, w_429, by decide +kernel, rfl, fun _ => rfl⟩
theorem fg_X1_20 : Fg RX1 20 1 2 (.array (.object "GalleryGuards$Plan")) true true := ⟨_, _, _, _, kc_X1, by decide, w_431, by decide +kernel, rfl, fun _ => rfl⟩
theorem nw_X1_18 : Nw RX1 18 5 11 [.int 0, .int 0, .int 0, .null, .null, .null, .null, .null, .null, .null, .null] := ⟨_, _, _, kc_X6, w_430, w_432, w_433, (lt_s (lt_s (lt_s (lt_s (lt_s (lt_s (lt_s (lt_s (lt_s (lt_s (lt_s lt_0 rfl) rfl) rfl) rfl) rfl) rfl) rfl) rfl) rfl) rfl) rfl)⟩
theorem cd_yX6_init : Cd yX6_init 0 := ⟨by decide +kernel, by decide +kernel, by decide +kernel⟩
theorem cI_X1_24 : CIN RX1 24 yX6_init cX6_init 1 0 := ⟨by decide, w_434, w_433, w_435, rfl, cd_yX6_init⟩
theorem nw_X11_9 : Nw RX11 9 2 7 [.int 0, .int 0, .int 0, .int 0, .int 0, .int 0, .null] := ⟨_, _, _, kc_X2, w_437, w_438, w_439, (lt_s (lt_s (lt_s (lt_s (lt_s (lt_s (lt_s lt_0 rfl) rfl) rfl) rfl) rfl) rfl) rfl)⟩
theorem cd_yX2_init : Cd yX2_init 0 := ⟨by decide +kernel, by decide +kernel, by decide +kernel⟩
theorem cI_X11_11 : CIN RX11 11 yX2_init cX2_init 1 0 := ⟨by decide, w_440, w_439, w_441, rfl, cd_yX2_init⟩
theorem fg_X11_12 : Fg RX11 12 10 0 (.object "GalleryGuards$Input") true true := ⟨_, _, _, _, kc_X11, by decide, w_442, by decide +kernel, rfl, fun _ => rfl⟩
theorem nw_X11_16 : Nw RX11 16 5 11 [.int 0, .int 0, .int 0, .null, .null, .null, .null, .null, .null, .null, .null] := ⟨_, _, _, kc_X6, w_443, w_432, w_433, (lt_s (lt_s (lt_s (lt_s (lt_s (lt_s (lt_s (lt_s (lt_s (lt_s (lt_s lt_0 rfl) rfl) rfl) rfl) rfl) rfl) rfl) rfl) rfl) rfl) rfl)⟩
theorem cI_X11_18 : CIN RX11 18 yX6_init cX6_init 1 0 := ⟨by decide, w_434, w_433, w_435, rfl, cd_yX6_init⟩
theorem fg_X11_23 : Fg RX11 23 10 3 (.object "GalleryGuards$Plan") true true := ⟨_, _, _, _, kc_X11, by decide, w_444, by decide +kernel, rfl, fun _ => rfl⟩
theorem nw_X11_26 : Nw RX11 26 3 5 [.int 0, .long 0, .null, .null, .null] := ⟨_, _, _, kc_X3, w_445, w_446, w_447, (lt_s (lt_s (lt_s (lt_s (lt_s lt_0 rfl) rfl) rfl) rfl) rfl)⟩
theorem cd_yX3_init : Cd yX3_init 0 := ⟨by decide +kernel, by decide +kernel, by decide +kernel⟩
theorem cI_X11_28 : CIN RX11 28 yX3_init cX3_init 1 0 := ⟨by decide, w_448, w_447, w_449, rfl, cd_yX3_init⟩
theorem fg_X11_29 : Fg RX11 29 10 4 (.object "GalleryGuards$Lattice") true true := ⟨_, _, _, _, kc_X11, by decide, w_450, by decide +kernel, rfl, fun _ => rfl⟩
theorem fg_X11_33 : Fg RX11 33 10 5 (.object "GalleryGuards$Lattice") true true := ⟨_, _, _, _, kc_X11, by decide, w_451, by decide +kernel, rfl, fun _ => rfl⟩
theorem nw_X11_36 : Nw RX11 36 4 5 [.null, .null, .null, .int 0, .int 0] := ⟨_, _, _, kc_X5, w_452, w_453, w_454, (lt_s (lt_s (lt_s (lt_s (lt_s lt_0 rfl) rfl) rfl) rfl) rfl)⟩
theorem cd_yX5_init : Cd yX5_init 3 := ⟨by decide +kernel, by decide +kernel, by decide +kernel⟩
theorem cI_X11_38 : CI RX11 38 yX5_init cX5_init 4 3 := ⟨w_455, w_456, w_454, w_457, rfl, cd_yX5_init⟩
theorem fg_X11_41 : Fg RX11 41 10 1 (.object "GalleryGuards$Parse\x72") true true := ⟨_, _, _, _, kc_X11, by decide, w_458, by decide +kernel, rfl, fun _ => rfl⟩
theorem nw_X11_45 : Nw RX11 45 6 4 [.null, .null, .null, .int 0] := ⟨_, _, _, kc_X7, w_459, w_460, w_461, (lt_s (lt_s (lt_s (lt_s lt_0 rfl) rfl) rfl) rfl)⟩
theorem cd_yX7_init : Cd yX7_init 2 := ⟨by decide +kernel, by decide +kernel, by decide +kernel⟩
theorem cI_X11_47 : CI RX11 47 yX7_init cX7_init 3 2 := ⟨w_462, w_463, w_461, w_464, rfl, cd_yX7_init⟩
theorem fg_X11_50 : Fg RX11 50 10 6 (.object "GalleryGuards$Sight") true true := ⟨_, _, _, _, kc_X11, by decide, w_465, by decide +kernel, rfl, fun _ => rfl⟩
theorem nw_X11_54 : Nw RX11 54 8 9 [.null, .null, .null, .null, .null, .null, .null, .int 0, .int 0] := ⟨_, _, _, kc_X9, w_466, w_467, w_468, (lt_s (lt_s (lt_s (lt_s (lt_s (lt_s (lt_s (lt_s (lt_s lt_0 rfl) rfl) rfl) rfl) rfl) rfl) rfl) rfl) rfl)⟩
theorem cd_yX9_init : Cd yX9_init 1 := ⟨by decide +kernel, by decide +kernel, by decide +kernel⟩
theorem cI_X11_56 : CI RX11 56 yX9_init cX9_init 2 1 := ⟨w_469, w_470, w_468, w_471, rfl, cd_yX9_init⟩
theorem fg_X11_59 : Fg RX11 59 10 7 (.object "GalleryGuards$Triangulation") true true := ⟨_, _, _, _, kc_X11, by decide, w_472, by decide +kernel, rfl, fun _ => rfl⟩
theorem nw_X11_63 : Nw RX11 63 0 9 [.null, .null, .null, .null, .null, .null, .int 0, .int 0, .int 0] := ⟨_, _, _, kc_X0, w_473, w_474, w_475, (lt_s (lt_s (lt_s (lt_s (lt_s (lt_s (lt_s (lt_s (lt_s lt_0 rfl) rfl) rfl) rfl) rfl) rfl) rfl) rfl) rfl)⟩
theorem cd_yX0_init : Cd yX0_init 3 := ⟨by decide +kernel, by decide +kernel, by decide +kernel⟩
theorem cI_X11_65 : CI RX11 65 yX0_init cX0_init 4 3 := ⟨w_476, w_477, w_475, w_478, rfl, cd_yX0_init⟩
theorem fg_X11_68 : Fg RX11 68 10 8 (.object "GalleryGuards$CoverSearch") true true := ⟨_, _, _, _, kc_X11, by decide, w_479, by decide +kernel, rfl, fun _ => rfl⟩
theorem nw_X11_72 : Nw RX11 72 7 5 [.null, .null, .null, .int 0, .int 0] := ⟨_, _, _, kc_X8, w_480, w_481, w_482, (lt_s (lt_s (lt_s (lt_s (lt_s lt_0 rfl) rfl) rfl) rfl) rfl)⟩
theorem cd_yX8_init : Cd yX8_init 1 := ⟨by decide +kernel, by decide +kernel, by decide +kernel⟩
theorem cI_X11_74 : CI RX11 74 yX8_init cX8_init 2 1 := ⟨w_483, w_484, w_482, w_485, rfl, cd_yX8_init⟩
theorem fg_X11_77 : Fg RX11 77 10 9 (.object "GalleryGuards$SpreadSearch") true true := ⟨_, _, _, _, kc_X11, by decide, w_486, by decide +kernel, rfl, fun _ => rfl⟩
theorem nw_X11_81 : Nw RX11 81 9 3 [.null, .null, .null] := ⟨_, _, _, kc_X10, w_487, w_488, w_489, (lt_s (lt_s (lt_s lt_0 rfl) rfl) rfl)⟩
theorem cd_yX10_init : Cd yX10_init 3 := ⟨by decide +kernel, by decide +kernel, by decide +kernel⟩
theorem cI_X11_83 : CI RX11 83 yX10_init cX10_init 4 3 := ⟨w_490, w_491, w_489, w_492, rfl, cd_yX10_init⟩
theorem fg_X11_84 : Fg RX11 84 10 10 (.object "GalleryGuards$Watch") true true := ⟨_, _, _, _, kc_X11, by decide, w_493, by decide +kernel, rfl, fun _ => rfl⟩
theorem nw_X11_88 : Nw RX11 88 1 3 [.int 0, .int 0, .null] := ⟨_, _, _, kc_X1, w_494, w_495, w_496, (lt_s (lt_s (lt_s lt_0 rfl) rfl) rfl)⟩
theorem cd_yX1_init : Cd yX1_init 0 := ⟨by decide +kernel, by decide +kernel, by decide +kernel⟩
theorem cI_X11_90 : CI RX11 90 yX1_init cX1_init 2 0 := ⟨w_497, w_498, w_496, w_499, rfl, cd_yX1_init⟩
theorem fg_X11_91 : Fg RX11 91 10 11 (.object "GalleryGuards$History") true true := ⟨_, _, _, _, kc_X11, by decide, w_500, by decide +kernel, rfl, fun _ => rfl⟩
theorem fg_X11_95 : Fg RX11 95 10 12 (.object "GalleryGuards$Plan") true true := ⟨_, _, _, _, kc_X11, by decide, w_501, by decide +kernel, rfl, fun _ => rfl⟩
theorem fg_X11_98 : Fg RX11 98 10 13 (.object "GalleryGuards$Plan") true true := ⟨_, _, _, _, kc_X11, by decide, w_502, by decide +kernel, rfl, fun _ => rfl⟩
theorem fg_X11_101 : Fg RX11 101 10 14 (.array .int) true true := ⟨_, _, _, _, kc_X11, by decide, w_503, by decide +kernel, rfl, fun _ => rfl⟩
theorem fg_X11_105 : Fg RX11 105 10 15 (.boolean) false true := ⟨_, _, _, _, kc_X11, by decide, w_504, by decide +kernel, rfl, fun _ => rfl⟩
theorem fg_X11_109 : Fg RX11 109 10 16 (.int) false true := ⟨_, _, _, _, kc_X11, by decide, w_505, by decide +kernel, rfl, fun _ => rfl⟩
theorem fg_X11_113 : Fg RX11 113 10 17 (.int) false true := ⟨_, _, _, _, kc_X11, by decide, w_506, by decide +kernel, rfl, fun _ => rfl⟩
theorem fg_X12_13 : Fg RX12 13 11 3 (.array .int) true true := ⟨_, _, _, _, kc_X12, by decide, w_508, by decide +kernel, rfl, fun _ => rfl⟩
theorem fg_X12_20 : Fg RX12 20 11 6 (.array .int) true true := ⟨_, _, _, _, kc_X12, by decide, w_510, by decide +kernel, rfl, fun _ => rfl⟩
theorem fg_X12_27 : Fg RX12 27 11 14 (.array .int) true true := ⟨_, _, _, _, kc_X12, by decide, w_511, by decide +kernel, rfl, fun _ => rfl⟩
theorem fg_X12_30 : Fg RX12 30 11 19 (.array .int) true true := ⟨_, _, _, _, kc_X12, by decide, w_512, by decide +kernel, rfl, fun _ => rfl⟩
theorem fg_X12_33 : Fg RX12 33 11 21 (.array .int) true true := ⟨_, _, _, _, kc_X12, by decide, w_513, by decide +kernel, rfl, fun _ => rfl⟩
theorem fg_X12_36 : Fg RX12 36 11 22 (.array .int) true true := ⟨_, _, _, _, kc_X12, by decide, w_514, by decide +kernel, rfl, fun _ => rfl⟩
theorem fg_X12_39 : Fg RX12 39 11 23 (.array .int) true true := ⟨_, _, _, _, kc_X12, by decide, w_515, by decide +kernel, rfl, fun _ => rfl⟩
theorem fg_X12_42 : Fg RX12 42 11 24 (.array .long) true true := ⟨_, _, _, _, kc_X12, by decide, w_516, by decide +kernel, rfl, fun _ => rfl⟩
theorem fg_X12_46 : Fg RX12 46 11 25 (.array .long) true true := ⟨_, _, _, _, kc_X12, by decide, w_517, by decide +kernel, rfl, fun _ => rfl⟩
theorem fg_X12_49 : Fg RX12 49 11 26 (.array .long) true true := ⟨_, _, _, _, kc_X12, by decide, w_518, by decide +kernel, rfl, fun _ => rfl⟩
theorem fg_X12_52 : Fg RX12 52 11 28 (.array .long) true true := ⟨_, _, _, _, kc_X12, by decide, w_519, by decide +kernel, rfl, fun _ => rfl⟩
theorem fg_X12_55 : Fg RX12 55 11 29 (.array .long) true true := ⟨_, _, _, _, kc_X12, by decide, w_520, by decide +kernel, rfl, fun _ => rfl⟩
theorem fg_X12_58 : Fg RX12 58 11 30 (.array .int) true true := ⟨_, _, _, _, kc_X12, by decide, w_521, by decide +kernel, rfl, fun _ => rfl⟩
theorem fg_X12_61 : Fg RX12 61 11 31 (.array .int) true true := ⟨_, _, _, _, kc_X12, by decide, w_522, by decide +kernel, rfl, fun _ => rfl⟩
theorem fg_X12_64 : Fg RX12 64 11 32 (.array .int) true true := ⟨_, _, _, _, kc_X12, by decide, w_523, by decide +kernel, rfl, fun _ => rfl⟩
theorem fg_X12_67 : Fg RX12 67 11 33 (.array .int) true true := ⟨_, _, _, _, kc_X12, by decide, w_524, by decide +kernel, rfl, fun _ => rfl⟩
theorem fg_X12_70 : Fg RX12 70 11 35 (.array .int) true true := ⟨_, _, _, _, kc_X12, by decide, w_525, by decide +kernel, rfl, fun _ => rfl⟩
theorem fg_X12_73 : Fg RX12 73 11 37 (.array .int) true true := ⟨_, _, _, _, kc_X12, by decide, w_526, by decide +kernel, rfl, fun _ => rfl⟩
theorem fg_X12_76 : Fg RX12 76 11 39 (.array .int) true true := ⟨_, _, _, _, kc_X12, by decide, w_527, by decide +kernel, rfl, fun _ => rfl⟩
theorem fg_X11_116 : Fg RX11 116 2 0 (.int) false false := ⟨_, _, _, _, kc_X2, by decide, w_528, by decide +kernel, rfl, fun h => nomatch h⟩
theorem fg_X11_262 : Fg RX11 262 5 1 (.int) false false := ⟨_, _, _, _, kc_X6, by decide, w_529, by decide +kernel, rfl, fun h => nomatch h⟩
theorem fg_X11_295 : Fg RX11 295 5 2 (.int) false false := ⟨_, _, _, _, kc_X6, by decide, w_530, by decide +kernel, rfl, fun h => nomatch h⟩
theorem fg_X11_149 : Fg RX11 149 3 0 (.int) false false := ⟨_, _, _, _, kc_X3, by decide, w_531, by decide +kernel, rfl, fun h => nomatch h⟩
theorem fg_X11_348 : Fg RX11 348 1 0 (.int) false false := ⟨_, _, _, _, kc_X1, by decide, w_532, by decide +kernel, rfl, fun h => nomatch h⟩
theorem cd_yX11_undo : Cd yX11_undo 0 := ⟨by decide +kernel, by decide +kernel, by decide +kernel⟩
theorem cV_L_163 : CV RL 163 yX11_undo cX11_undo 1 (some .int) 0 := ⟨w_533, w_534, w_535, w_36, w_536, cd_yX11_undo⟩
theorem cd_yX11_needIndex : Cd yX11_needIndex 2 := ⟨by decide +kernel, by decide +kernel, by decide +kernel⟩
theorem cS_X11_158 : CS RX11 158 yX11_needIndex cX11_needIndex 2 none 2 := ⟨w_539, w_540, w_36, w_541, cd_yX11_needIndex⟩
theorem cd_yX11_drawnByte : Cd yX11_drawnByte 1 := ⟨by decide +kernel, by decide +kernel, by decide +kernel⟩
theorem cV_L_138 : CV RL 138 yX11_drawnByte cX11_drawnByte 2 (some .int) 1 := ⟨w_542, w_543, w_544, w_36, w_545, cd_yX11_drawnByte⟩
theorem cd_yX11_savedIn : Cd yX11_savedIn 1 := ⟨by decide +kernel, by decide +kernel, by decide +kernel⟩
theorem cV_X11_354 : CV RX11 354 yX11_savedIn cX11_savedIn 2 (some (.object "GalleryGuards$Plan")) 1 := ⟨w_547, w_548, w_549, w_36, w_550, cd_yX11_savedIn⟩
theorem cd_yX11_restore : Cd yX11_restore 1 := ⟨by decide +kernel, by decide +kernel, by decide +kernel⟩
theorem cV_L_169 : CV RL 169 yX11_restore cX11_restore 2 (some .int) 1 := ⟨w_551, w_552, w_553, w_36, w_554, cd_yX11_restore⟩
theorem dL_drawnByte_0 : decode cL_drawnByte 0 = .ok (.aload_n 2, 1) := by decide +kernel
theorem dL_drawnByte_1 : decode cL_drawnByte 1 = .ok (.iconst 0, 1) := by decide +kernel
theorem dL_drawnByte_2 : decode cL_drawnByte 2 = .ok (.aload_n 0, 1) := by decide +kernel
theorem dL_drawnByte_3 : decode cL_drawnByte 3 = .ok (.iload_n 1, 1) := by decide +kernel
theorem dL_drawnByte_4 : decode cL_drawnByte 4 = .ok (.invokevirtual 138, 3) := by decide +kernel
theorem dL_drawnByte_12 : decode cL_drawnByte 12 = .ok (.astore_n 3, 1) := by decide +kernel
theorem dL_drawnByte_13 : decode cL_drawnByte 13 = .ok (.iconst 1, 1) := by decide +kernel
theorem dL_drawnByte_14 : decode cL_drawnByte 14 = .ok (.ireturn, 1) := by decide +kernel
theorem dL_restore_0 : decode cL_restore 0 = .ok (.aload_n 2, 1) := by decide +kernel
theorem dL_restore_1 : decode cL_restore 1 = .ok (.iconst 0, 1) := by decide +kernel
theorem dL_restore_2 : decode cL_restore 2 = .ok (.aload_n 0, 1) := by decide +kernel
theorem dL_restore_3 : decode cL_restore 3 = .ok (.iload_n 1, 1) := by decide +kernel
theorem dL_restore_4 : decode cL_restore 4 = .ok (.invokevirtual 169, 3) := by decide +kernel
theorem dL_restore_12 : decode cL_restore 12 = .ok (.astore_n 3, 1) := by decide +kernel
theorem dL_restore_13 : decode cL_restore 13 = .ok (.iconst 1, 1) := by decide +kernel
theorem dL_restore_14 : decode cL_restore 14 = .ok (.ireturn, 1) := by decide +kernel
theorem dL_restore_15 : decode cL_restore 15 = .ok (.astore_n 3, 1) := by decide +kernel
theorem dL_restore_16 : decode cL_restore 16 = .ok (.iconst 2, 1) := by decide +kernel
theorem dL_restore_17 : decode cL_restore 17 = .ok (.ireturn, 1) := by decide +kernel
theorem dL_undo_0 : decode cL_undo 0 = .ok (.aload_n 1, 1) := by decide +kernel
theorem dL_undo_1 : decode cL_undo 1 = .ok (.iconst 0, 1) := by decide +kernel
theorem dL_undo_2 : decode cL_undo 2 = .ok (.aload_n 0, 1) := by decide +kernel
theorem dL_undo_3 : decode cL_undo 3 = .ok (.invokevirtual 163, 3) := by decide +kernel
theorem dL_undo_11 : decode cL_undo 11 = .ok (.astore_n 2, 1) := by decide +kernel
theorem dL_undo_12 : decode cL_undo 12 = .ok (.iconst 1, 1) := by decide +kernel
theorem dL_undo_13 : decode cL_undo 13 = .ok (.ireturn, 1) := by decide +kernel
theorem dX0_init_0 : decode cX0_init 0 = .ok (.aload_n 0, 1) := by decide +kernel
theorem dX0_init_1 : decode cX0_init 1 = .ok (.invokespecial 3, 3) := by decide +kernel
theorem dX0_init_4 : decode cX0_init 4 = .ok (.aload_n 0, 1) := by decide +kernel
theorem dX0_init_5 : decode cX0_init 5 = .ok (.bipush 12, 2) := by decide +kernel
theorem dX0_init_7 : decode cX0_init 7 = .ok (.newarray .long, 2) := by decide +kernel
theorem dX0_init_9 : decode cX0_init 9 = .ok (.putfield 9, 3) := by decide +kernel
theorem dX0_init_12 : decode cX0_init 12 = .ok (.aload_n 0, 1) := by decide +kernel
theorem dX0_init_13 : decode cX0_init 13 = .ok (.bipush 65, 2) := by decide +kernel
theorem dX0_init_15 : decode cX0_init 15 = .ok (.newarray .long, 2) := by decide +kernel
theorem dX0_init_17 : decode cX0_init 17 = .ok (.putfield 15, 3) := by decide +kernel
theorem dX0_init_20 : decode cX0_init 20 = .ok (.aload_n 0, 1) := by decide +kernel
theorem dX0_init_21 : decode cX0_init 21 = .ok (.iconst 4, 1) := by decide +kernel
theorem dX0_init_22 : decode cX0_init 22 = .ok (.newarray .int, 2) := by decide +kernel
theorem dX0_init_24 : decode cX0_init 24 = .ok (.putfield 18, 3) := by decide +kernel
theorem dX0_init_27 : decode cX0_init 27 = .ok (.aload_n 0, 1) := by decide +kernel
theorem dX0_init_28 : decode cX0_init 28 = .ok (.iconst 0, 1) := by decide +kernel
theorem dX0_init_29 : decode cX0_init 29 = .ok (.putfield 22, 3) := by decide +kernel
theorem dX0_init_32 : decode cX0_init 32 = .ok (.aload_n 0, 1) := by decide +kernel
theorem dX0_init_33 : decode cX0_init 33 = .ok (.iconst 0, 1) := by decide +kernel
theorem dX0_init_34 : decode cX0_init 34 = .ok (.putfield 26, 3) := by decide +kernel
theorem dX0_init_37 : decode cX0_init 37 = .ok (.aload_n 0, 1) := by decide +kernel
theorem dX0_init_38 : decode cX0_init 38 = .ok (.iconst 0, 1) := by decide +kernel
theorem dX0_init_39 : decode cX0_init 39 = .ok (.putfield 29, 3) := by decide +kernel
theorem dX0_init_42 : decode cX0_init 42 = .ok (.aload_n 0, 1) := by decide +kernel
theorem dX0_init_43 : decode cX0_init 43 = .ok (.aload_n 1, 1) := by decide +kernel
theorem dX0_init_44 : decode cX0_init 44 = .ok (.putfield 32, 3) := by decide +kernel
theorem dX0_init_47 : decode cX0_init 47 = .ok (.aload_n 0, 1) := by decide +kernel
theorem dX0_init_48 : decode cX0_init 48 = .ok (.aload_n 2, 1) := by decide +kernel
theorem dX0_init_49 : decode cX0_init 49 = .ok (.putfield 36, 3) := by decide +kernel
theorem dX0_init_52 : decode cX0_init 52 = .ok (.aload_n 0, 1) := by decide +kernel
theorem dX0_init_53 : decode cX0_init 53 = .ok (.aload_n 3, 1) := by decide +kernel
theorem dX0_init_54 : decode cX0_init 54 = .ok (.putfield 40, 3) := by decide +kernel
theorem dX0_init_57 : decode cX0_init 57 = .ok (.return_, 1) := by decide +kernel
theorem dX10_init_0 : decode cX10_init 0 = .ok (.aload_n 0, 1) := by decide +kernel
theorem dX10_init_1 : decode cX10_init 1 = .ok (.invokespecial 3, 3) := by decide +kernel
theorem dX10_init_4 : decode cX10_init 4 = .ok (.aload_n 0, 1) := by decide +kernel
theorem dX10_init_5 : decode cX10_init 5 = .ok (.aload_n 1, 1) := by decide +kernel
theorem dX10_init_6 : decode cX10_init 6 = .ok (.putfield 9, 3) := by decide +kernel
theorem dX10_init_9 : decode cX10_init 9 = .ok (.aload_n 0, 1) := by decide +kernel
theorem dX10_init_10 : decode cX10_init 10 = .ok (.aload_n 2, 1) := by decide +kernel
theorem dX10_init_11 : decode cX10_init 11 = .ok (.putfield 15, 3) := by decide +kernel
theorem dX10_init_14 : decode cX10_init 14 = .ok (.aload_n 0, 1) := by decide +kernel
theorem dX10_init_15 : decode cX10_init 15 = .ok (.aload_n 3, 1) := by decide +kernel
theorem dX10_init_16 : decode cX10_init 16 = .ok (.putfield 19, 3) := by decide +kernel
theorem dX10_init_19 : decode cX10_init 19 = .ok (.return_, 1) := by decide +kernel
theorem dX11_buffered_0 : decode cX11_buffered 0 = .ok (.aload_n 0, 1) := by decide +kernel
theorem dX11_buffered_1 : decode cX11_buffered 1 = .ok (.getfield 12, 3) := by decide +kernel
theorem dX11_buffered_4 : decode cX11_buffered 4 = .ok (.getfield 116, 3) := by decide +kernel
theorem dX11_buffered_7 : decode cX11_buffered 7 = .ok (.ireturn, 1) := by decide +kernel
theorem dX11_drawnByte_0 : decode cX11_drawnByte 0 = .ok (.iload_n 1, 1) := by decide +kernel
theorem dX11_drawnByte_1 : decode cX11_drawnByte 1 = .ok (.aload_n 0, 1) := by decide +kernel
theorem dX11_drawnByte_2 : decode cX11_drawnByte 2 = .ok (.getfield 105, 3) := by decide +kernel
theorem dX11_drawnByte_5 : decode cX11_drawnByte 5 = .ok (.ifCond .eq 8, 3) := by decide +kernel
theorem dX11_drawnByte_13 : decode cX11_drawnByte 13 = .ok (.iconst 0, 1) := by decide +kernel
theorem dX11_drawnByte_14 : decode cX11_drawnByte 14 = .ok (.invokestatic 158, 3) := by decide +kernel
theorem dX11_errorPosition_0 : decode cX11_errorPosition 0 = .ok (.aload_n 0, 1) := by decide +kernel
theorem dX11_errorPosition_1 : decode cX11_errorPosition 1 = .ok (.getfield 113, 3) := by decide +kernel
theorem dX11_errorPosition_4 : decode cX11_errorPosition 4 = .ok (.ireturn, 1) := by decide +kernel
theorem dX11_guards_0 : decode cX11_guards 0 = .ok (.aload_n 0, 1) := by decide +kernel
theorem dX11_guards_1 : decode cX11_guards 1 = .ok (.getfield 19, 3) := by decide +kernel
theorem dX11_guards_4 : decode cX11_guards 4 = .ok (.getfield 262, 3) := by decide +kernel
theorem dX11_guards_7 : decode cX11_guards 7 = .ok (.ireturn, 1) := by decide +kernel
theorem dX11_init_0 : decode cX11_init 0 = .ok (.aload_n 0, 1) := by decide +kernel
theorem dX11_init_1 : decode cX11_init 1 = .ok (.invokespecial 3, 3) := by decide +kernel
theorem dX11_init_4 : decode cX11_init 4 = .ok (.aload_n 0, 1) := by decide +kernel
theorem dX11_init_5 : decode cX11_init 5 = .ok (.new 9, 3) := by decide +kernel
theorem dX11_init_8 : decode cX11_init 8 = .ok (.dup, 1) := by decide +kernel
theorem dX11_init_9 : decode cX11_init 9 = .ok (.invokespecial 11, 3) := by decide +kernel
theorem dX11_init_12 : decode cX11_init 12 = .ok (.putfield 12, 3) := by decide +kernel
theorem dX11_init_15 : decode cX11_init 15 = .ok (.aload_n 0, 1) := by decide +kernel
theorem dX11_init_16 : decode cX11_init 16 = .ok (.new 16, 3) := by decide +kernel
theorem dX11_init_19 : decode cX11_init 19 = .ok (.dup, 1) := by decide +kernel
theorem dX11_init_20 : decode cX11_init 20 = .ok (.invokespecial 18, 3) := by decide +kernel
theorem dX11_init_23 : decode cX11_init 23 = .ok (.putfield 19, 3) := by decide +kernel
theorem dX11_init_26 : decode cX11_init 26 = .ok (.aload_n 0, 1) := by decide +kernel
theorem dX11_init_27 : decode cX11_init 27 = .ok (.new 16, 3) := by decide +kernel
theorem dX11_init_30 : decode cX11_init 30 = .ok (.dup, 1) := by decide +kernel
theorem dX11_init_31 : decode cX11_init 31 = .ok (.invokespecial 18, 3) := by decide +kernel
theorem dX11_init_34 : decode cX11_init 34 = .ok (.putfield 23, 3) := by decide +kernel
theorem dX11_init_37 : decode cX11_init 37 = .ok (.aload_n 0, 1) := by decide +kernel
theorem dX11_init_38 : decode cX11_init 38 = .ok (.new 26, 3) := by decide +kernel
theorem dX11_init_41 : decode cX11_init 41 = .ok (.dup, 1) := by decide +kernel
theorem dX11_init_42 : decode cX11_init 42 = .ok (.invokespecial 28, 3) := by decide +kernel
theorem dX11_init_45 : decode cX11_init 45 = .ok (.putfield 29, 3) := by decide +kernel
theorem dX11_init_48 : decode cX11_init 48 = .ok (.aload_n 0, 1) := by decide +kernel
theorem dX11_init_49 : decode cX11_init 49 = .ok (.new 26, 3) := by decide +kernel
theorem dX11_init_52 : decode cX11_init 52 = .ok (.dup, 1) := by decide +kernel
theorem dX11_init_53 : decode cX11_init 53 = .ok (.invokespecial 28, 3) := by decide +kernel
theorem dX11_init_56 : decode cX11_init 56 = .ok (.putfield 33, 3) := by decide +kernel
theorem dX11_init_59 : decode cX11_init 59 = .ok (.aload_n 0, 1) := by decide +kernel
theorem dX11_init_60 : decode cX11_init 60 = .ok (.new 36, 3) := by decide +kernel
theorem dX11_init_63 : decode cX11_init 63 = .ok (.dup, 1) := by decide +kernel
theorem dX11_init_64 : decode cX11_init 64 = .ok (.aload_n 0, 1) := by decide +kernel
theorem dX11_init_65 : decode cX11_init 65 = .ok (.getfield 12, 3) := by decide +kernel
theorem dX11_init_68 : decode cX11_init 68 = .ok (.aload_n 0, 1) := by decide +kernel
theorem dX11_init_69 : decode cX11_init 69 = .ok (.getfield 23, 3) := by decide +kernel
theorem dX11_init_72 : decode cX11_init 72 = .ok (.aload_n 0, 1) := by decide +kernel
theorem dX11_init_73 : decode cX11_init 73 = .ok (.getfield 33, 3) := by decide +kernel
theorem dX11_init_76 : decode cX11_init 76 = .ok (.invokespecial 38, 3) := by decide +kernel
theorem dX11_init_79 : decode cX11_init 79 = .ok (.putfield 41, 3) := by decide +kernel
theorem dX11_init_82 : decode cX11_init 82 = .ok (.aload_n 0, 1) := by decide +kernel
theorem dX11_init_83 : decode cX11_init 83 = .ok (.new 45, 3) := by decide +kernel
theorem dX11_init_86 : decode cX11_init 86 = .ok (.dup, 1) := by decide +kernel
theorem dX11_init_87 : decode cX11_init 87 = .ok (.aload_n 0, 1) := by decide +kernel
theorem dX11_init_88 : decode cX11_init 88 = .ok (.getfield 19, 3) := by decide +kernel
theorem dX11_init_91 : decode cX11_init 91 = .ok (.aload_n 0, 1) := by decide +kernel
theorem dX11_init_92 : decode cX11_init 92 = .ok (.getfield 29, 3) := by decide +kernel
theorem dX11_init_95 : decode cX11_init 95 = .ok (.invokespecial 47, 3) := by decide +kernel
theorem dX11_init_98 : decode cX11_init 98 = .ok (.putfield 50, 3) := by decide +kernel
theorem dX11_init_101 : decode cX11_init 101 = .ok (.aload_n 0, 1) := by decide +kernel
theorem dX11_init_102 : decode cX11_init 102 = .ok (.new 54, 3) := by decide +kernel
theorem dX11_init_105 : decode cX11_init 105 = .ok (.dup, 1) := by decide +kernel
theorem dX11_init_106 : decode cX11_init 106 = .ok (.aload_n 0, 1) := by decide +kernel
theorem dX11_init_107 : decode cX11_init 107 = .ok (.getfield 19, 3) := by decide +kernel
theorem dX11_init_110 : decode cX11_init 110 = .ok (.invokespecial 56, 3) := by decide +kernel
theorem dX11_init_113 : decode cX11_init 113 = .ok (.putfield 59, 3) := by decide +kernel
theorem dX11_init_116 : decode cX11_init 116 = .ok (.aload_n 0, 1) := by decide +kernel
theorem dX11_init_117 : decode cX11_init 117 = .ok (.new 63, 3) := by decide +kernel
theorem dX11_init_120 : decode cX11_init 120 = .ok (.dup, 1) := by decide +kernel
theorem dX11_init_121 : decode cX11_init 121 = .ok (.aload_n 0, 1) := by decide +kernel
theorem dX11_init_122 : decode cX11_init 122 = .ok (.getfield 19, 3) := by decide +kernel
theorem dX11_init_125 : decode cX11_init 125 = .ok (.aload_n 0, 1) := by decide +kernel
theorem dX11_init_126 : decode cX11_init 126 = .ok (.getfield 29, 3) := by decide +kernel
theorem dX11_init_129 : decode cX11_init 129 = .ok (.aload_n 0, 1) := by decide +kernel
theorem dX11_init_130 : decode cX11_init 130 = .ok (.getfield 50, 3) := by decide +kernel
theorem dX11_init_133 : decode cX11_init 133 = .ok (.invokespecial 65, 3) := by decide +kernel
theorem dX11_init_136 : decode cX11_init 136 = .ok (.putfield 68, 3) := by decide +kernel
theorem dX11_init_139 : decode cX11_init 139 = .ok (.aload_n 0, 1) := by decide +kernel
theorem dX11_init_140 : decode cX11_init 140 = .ok (.new 72, 3) := by decide +kernel
theorem dX11_init_143 : decode cX11_init 143 = .ok (.dup, 1) := by decide +kernel
theorem dX11_init_144 : decode cX11_init 144 = .ok (.aload_n 0, 1) := by decide +kernel
theorem dX11_init_145 : decode cX11_init 145 = .ok (.getfield 50, 3) := by decide +kernel
theorem dX11_init_148 : decode cX11_init 148 = .ok (.invokespecial 74, 3) := by decide +kernel
theorem dX11_init_151 : decode cX11_init 151 = .ok (.putfield 77, 3) := by decide +kernel
theorem dX11_init_154 : decode cX11_init 154 = .ok (.aload_n 0, 1) := by decide +kernel
theorem dX11_init_155 : decode cX11_init 155 = .ok (.new 81, 3) := by decide +kernel
theorem dX11_init_158 : decode cX11_init 158 = .ok (.dup, 1) := by decide +kernel
theorem dX11_init_159 : decode cX11_init 159 = .ok (.aload_n 0, 1) := by decide +kernel
theorem dX11_init_160 : decode cX11_init 160 = .ok (.getfield 19, 3) := by decide +kernel
theorem dX11_init_163 : decode cX11_init 163 = .ok (.aload_n 0, 1) := by decide +kernel
theorem dX11_init_164 : decode cX11_init 164 = .ok (.getfield 29, 3) := by decide +kernel
theorem dX11_init_167 : decode cX11_init 167 = .ok (.aload_n 0, 1) := by decide +kernel
theorem dX11_init_168 : decode cX11_init 168 = .ok (.getfield 50, 3) := by decide +kernel
theorem dX11_init_171 : decode cX11_init 171 = .ok (.invokespecial 83, 3) := by decide +kernel
theorem dX11_init_174 : decode cX11_init 174 = .ok (.putfield 84, 3) := by decide +kernel
theorem dX11_init_177 : decode cX11_init 177 = .ok (.aload_n 0, 1) := by decide +kernel
theorem dX11_init_178 : decode cX11_init 178 = .ok (.new 88, 3) := by decide +kernel
theorem dX11_init_181 : decode cX11_init 181 = .ok (.dup, 1) := by decide +kernel
theorem dX11_init_182 : decode cX11_init 182 = .ok (.invokespecial 90, 3) := by decide +kernel
theorem dX11_init_185 : decode cX11_init 185 = .ok (.putfield 91, 3) := by decide +kernel
theorem dX11_init_188 : decode cX11_init 188 = .ok (.aload_n 0, 1) := by decide +kernel
theorem dX11_init_189 : decode cX11_init 189 = .ok (.new 16, 3) := by decide +kernel
theorem dX11_init_192 : decode cX11_init 192 = .ok (.dup, 1) := by decide +kernel
theorem dX11_init_193 : decode cX11_init 193 = .ok (.invokespecial 18, 3) := by decide +kernel
theorem dX11_init_196 : decode cX11_init 196 = .ok (.putfield 95, 3) := by decide +kernel
theorem dX11_init_199 : decode cX11_init 199 = .ok (.aload_n 0, 1) := by decide +kernel
theorem dX11_init_200 : decode cX11_init 200 = .ok (.new 16, 3) := by decide +kernel
theorem dX11_init_203 : decode cX11_init 203 = .ok (.dup, 1) := by decide +kernel
theorem dX11_init_204 : decode cX11_init 204 = .ok (.invokespecial 18, 3) := by decide +kernel
theorem dX11_init_207 : decode cX11_init 207 = .ok (.putfield 98, 3) := by decide +kernel
theorem dX11_init_210 : decode cX11_init 210 = .ok (.aload_n 0, 1) := by decide +kernel
theorem dX11_init_211 : decode cX11_init 211 = .ok (.bipush 16, 2) := by decide +kernel
theorem dX11_init_213 : decode cX11_init 213 = .ok (.newarray .int, 2) := by decide +kernel
theorem dX11_init_215 : decode cX11_init 215 = .ok (.putfield 101, 3) := by decide +kernel
theorem dX11_init_218 : decode cX11_init 218 = .ok (.aload_n 0, 1) := by decide +kernel
theorem dX11_init_219 : decode cX11_init 219 = .ok (.iconst 0, 1) := by decide +kernel
theorem dX11_init_220 : decode cX11_init 220 = .ok (.putfield 105, 3) := by decide +kernel
theorem dX11_init_223 : decode cX11_init 223 = .ok (.aload_n 0, 1) := by decide +kernel
theorem dX11_init_224 : decode cX11_init 224 = .ok (.iconst 0, 1) := by decide +kernel
theorem dX11_init_225 : decode cX11_init 225 = .ok (.putfield 109, 3) := by decide +kernel
theorem dX11_init_228 : decode cX11_init 228 = .ok (.aload_n 0, 1) := by decide +kernel
theorem dX11_init_229 : decode cX11_init 229 = .ok (.iconst (-1), 1) := by decide +kernel
theorem dX11_init_230 : decode cX11_init 230 = .ok (.putfield 113, 3) := by decide +kernel
theorem dX11_init_233 : decode cX11_init 233 = .ok (.return_, 1) := by decide +kernel
theorem dX11_needIndex_0 : decode cX11_needIndex 0 = .ok (.iload_n 0, 1) := by decide +kernel
theorem dX11_needIndex_1 : decode cX11_needIndex 1 = .ok (.ifCond .lt 8, 3) := by decide +kernel
theorem dX11_needIndex_4 : decode cX11_needIndex 4 = .ok (.iload_n 0, 1) := by decide +kernel
theorem dX11_needIndex_5 : decode cX11_needIndex 5 = .ok (.iload_n 1, 1) := by decide +kernel
theorem dX11_needIndex_6 : decode cX11_needIndex 6 = .ok (.if_icmp .lt 14, 3) := by decide +kernel
theorem dX11_needIndex_9 : decode cX11_needIndex 9 = .ok (.new 123, 3) := by decide +kernel
theorem dX11_needIndex_12 : decode cX11_needIndex 12 = .ok (.dup, 1) := by decide +kernel
theorem dX11_needIndex_13 : decode cX11_needIndex 13 = .ok (.ldc_w 362, 3) := by decide +kernel
theorem dX11_needIndex_16 : decode cX11_needIndex 16 = .ok (.invokespecial 127, 3) := by decide +kernel
theorem dX11_needIndex_19 : decode cX11_needIndex 19 = .ok (.athrow, 1) := by decide +kernel
theorem dX11_needIndex_20 : decode cX11_needIndex 20 = .ok (.return_, 1) := by decide +kernel
theorem dX11_parseError_0 : decode cX11_parseError 0 = .ok (.aload_n 0, 1) := by decide +kernel
theorem dX11_parseError_1 : decode cX11_parseError 1 = .ok (.getfield 109, 3) := by decide +kernel
theorem dX11_parseError_4 : decode cX11_parseError 4 = .ok (.ireturn, 1) := by decide +kernel
theorem dX11_points_0 : decode cX11_points 0 = .ok (.aload_n 0, 1) := by decide +kernel
theorem dX11_points_1 : decode cX11_points 1 = .ok (.getfield 29, 3) := by decide +kernel
theorem dX11_points_4 : decode cX11_points 4 = .ok (.getfield 149, 3) := by decide +kernel
theorem dX11_points_7 : decode cX11_points 7 = .ok (.ireturn, 1) := by decide +kernel
theorem dX11_restore_0 : decode cX11_restore 0 = .ok (.iload_n 1, 1) := by decide +kernel
theorem dX11_restore_1 : decode cX11_restore 1 = .ok (.iconst 2, 1) := by decide +kernel
theorem dX11_restore_2 : decode cX11_restore 2 = .ok (.invokestatic 158, 3) := by decide +kernel
theorem dX11_restore_5 : decode cX11_restore 5 = .ok (.aload_n 0, 1) := by decide +kernel
theorem dX11_restore_6 : decode cX11_restore 6 = .ok (.iload_n 1, 1) := by decide +kernel
theorem dX11_restore_7 : decode cX11_restore 7 = .ok (.invokevirtual 354, 3) := by decide +kernel
theorem dX11_restore_10 : decode cX11_restore 10 = .ok (.getfield 152, 3) := by decide +kernel
theorem dX11_restore_13 : decode cX11_restore 13 = .ok (.ifCond .ne 14, 3) := by decide +kernel
theorem dX11_restore_16 : decode cX11_restore 16 = .ok (.new 311, 3) := by decide +kernel
theorem dX11_restore_19 : decode cX11_restore 19 = .ok (.dup, 1) := by decide +kernel
theorem dX11_restore_20 : decode cX11_restore 20 = .ok (.ldc_w 358, 3) := by decide +kernel
theorem dX11_restore_23 : decode cX11_restore 23 = .ok (.invokespecial 315, 3) := by decide +kernel
theorem dX11_restore_26 : decode cX11_restore 26 = .ok (.athrow, 1) := by decide +kernel
theorem dX11_savedIn_0 : decode cX11_savedIn 0 = .ok (.iload_n 1, 1) := by decide +kernel
theorem dX11_savedIn_1 : decode cX11_savedIn 1 = .ok (.ifCond .ne 10, 3) := by decide +kernel
theorem dX11_savedIn_4 : decode cX11_savedIn 4 = .ok (.aload_n 0, 1) := by decide +kernel
theorem dX11_savedIn_5 : decode cX11_savedIn 5 = .ok (.getfield 95, 3) := by decide +kernel
theorem dX11_savedIn_8 : decode cX11_savedIn 8 = .ok (.goto 7, 3) := by decide +kernel
theorem dX11_savedIn_11 : decode cX11_savedIn 11 = .ok (.aload_n 0, 1) := by decide +kernel
theorem dX11_savedIn_12 : decode cX11_savedIn 12 = .ok (.getfield 98, 3) := by decide +kernel
theorem dX11_savedIn_15 : decode cX11_savedIn 15 = .ok (.areturn, 1) := by decide +kernel
theorem dX11_treasures_0 : decode cX11_treasures 0 = .ok (.aload_n 0, 1) := by decide +kernel
theorem dX11_treasures_1 : decode cX11_treasures 1 = .ok (.getfield 19, 3) := by decide +kernel
theorem dX11_treasures_4 : decode cX11_treasures 4 = .ok (.getfield 295, 3) := by decide +kernel
theorem dX11_treasures_7 : decode cX11_treasures 7 = .ok (.ireturn, 1) := by decide +kernel
theorem dX11_undo_0 : decode cX11_undo 0 = .ok (.aload_n 0, 1) := by decide +kernel
theorem dX11_undo_1 : decode cX11_undo 1 = .ok (.getfield 91, 3) := by decide +kernel
theorem dX11_undo_4 : decode cX11_undo 4 = .ok (.getfield 348, 3) := by decide +kernel
theorem dX11_undo_7 : decode cX11_undo 7 = .ok (.ifCond .ne 14, 3) := by decide +kernel
theorem dX11_undo_10 : decode cX11_undo 10 = .ok (.new 311, 3) := by decide +kernel
theorem dX11_undo_13 : decode cX11_undo 13 = .ok (.dup, 1) := by decide +kernel
theorem dX11_undo_14 : decode cX11_undo 14 = .ok (.ldc_w 349, 3) := by decide +kernel
theorem dX11_undo_17 : decode cX11_undo 17 = .ok (.invokespecial 315, 3) := by decide +kernel
theorem dX11_undo_20 : decode cX11_undo 20 = .ok (.athrow, 1) := by decide +kernel
theorem dX11_undoable_0 : decode cX11_undoable 0 = .ok (.aload_n 0, 1) := by decide +kernel
theorem dX11_undoable_1 : decode cX11_undoable 1 = .ok (.getfield 91, 3) := by decide +kernel
theorem dX11_undoable_4 : decode cX11_undoable 4 = .ok (.getfield 348, 3) := by decide +kernel
theorem dX11_undoable_7 : decode cX11_undoable 7 = .ok (.ireturn, 1) := by decide +kernel
theorem dX11_vertices_0 : decode cX11_vertices 0 = .ok (.aload_n 0, 1) := by decide +kernel
theorem dX11_vertices_1 : decode cX11_vertices 1 = .ok (.getfield 19, 3) := by decide +kernel
theorem dX11_vertices_4 : decode cX11_vertices 4 = .ok (.getfield 152, 3) := by decide +kernel
theorem dX11_vertices_7 : decode cX11_vertices 7 = .ok (.ireturn, 1) := by decide +kernel
theorem dX12_init_0 : decode cX12_init 0 = .ok (.aload_n 0, 1) := by decide +kernel
theorem dX12_init_1 : decode cX12_init 1 = .ok (.invokespecial 1, 3) := by decide +kernel
theorem dX12_init_4 : decode cX12_init 4 = .ok (.aload_n 0, 1) := by decide +kernel
theorem dX12_init_5 : decode cX12_init 5 = .ok (.bipush 63, 2) := by decide +kernel
theorem dX12_init_7 : decode cX12_init 7 = .ok (.newarray .int, 2) := by decide +kernel
theorem dX12_init_9 : decode cX12_init 9 = .ok (.putfield 7, 3) := by decide +kernel
theorem dX12_init_12 : decode cX12_init 12 = .ok (.aload_n 0, 1) := by decide +kernel
theorem dX12_init_13 : decode cX12_init 13 = .ok (.sipush 693, 3) := by decide +kernel
theorem dX12_init_16 : decode cX12_init 16 = .ok (.newarray .int, 2) := by decide +kernel
theorem dX12_init_18 : decode cX12_init 18 = .ok (.putfield 13, 3) := by decide +kernel
theorem dX12_init_21 : decode cX12_init 21 = .ok (.aload_n 0, 1) := by decide +kernel
theorem dX12_init_22 : decode cX12_init 22 = .ok (.iconst 2, 1) := by decide +kernel
theorem dX12_init_23 : decode cX12_init 23 = .ok (.newarray .boolean, 2) := by decide +kernel
theorem dX12_init_25 : decode cX12_init 25 = .ok (.putfield 16, 3) := by decide +kernel
theorem dX12_init_28 : decode cX12_init 28 = .ok (.aload_n 0, 1) := by decide +kernel
theorem dX12_init_29 : decode cX12_init 29 = .ok (.sipush 600, 3) := by decide +kernel
theorem dX12_init_32 : decode cX12_init 32 = .ok (.newarray .int, 2) := by decide +kernel
theorem dX12_init_34 : decode cX12_init 34 = .ok (.putfield 20, 3) := by decide +kernel
theorem dX12_init_37 : decode cX12_init 37 = .ok (.aload_n 0, 1) := by decide +kernel
theorem dX12_init_38 : decode cX12_init 38 = .ok (.iconst (-1), 1) := by decide +kernel
theorem dX12_init_39 : decode cX12_init 39 = .ok (.putfield 23, 3) := by decide +kernel
theorem dX12_init_42 : decode cX12_init 42 = .ok (.aload_n 0, 1) := by decide +kernel
theorem dX12_init_43 : decode cX12_init 43 = .ok (.bipush 8, 2) := by decide +kernel
theorem dX12_init_45 : decode cX12_init 45 = .ok (.newarray .int, 2) := by decide +kernel
theorem dX12_init_47 : decode cX12_init 47 = .ok (.putfield 27, 3) := by decide +kernel
theorem dX12_init_50 : decode cX12_init 50 = .ok (.aload_n 0, 1) := by decide +kernel
theorem dX12_init_51 : decode cX12_init 51 = .ok (.bipush 63, 2) := by decide +kernel
theorem dX12_init_53 : decode cX12_init 53 = .ok (.newarray .int, 2) := by decide +kernel
theorem dX12_init_55 : decode cX12_init 55 = .ok (.putfield 30, 3) := by decide +kernel
theorem dX12_init_58 : decode cX12_init 58 = .ok (.aload_n 0, 1) := by decide +kernel
theorem dX12_init_59 : decode cX12_init 59 = .ok (.bipush 64, 2) := by decide +kernel
theorem dX12_init_61 : decode cX12_init 61 = .ok (.newarray .int, 2) := by decide +kernel
theorem dX12_init_63 : decode cX12_init 63 = .ok (.putfield 33, 3) := by decide +kernel
theorem dX12_init_66 : decode cX12_init 66 = .ok (.aload_n 0, 1) := by decide +kernel
theorem dX12_init_67 : decode cX12_init 67 = .ok (.bipush 64, 2) := by decide +kernel
theorem dX12_init_69 : decode cX12_init 69 = .ok (.newarray .int, 2) := by decide +kernel
theorem dX12_init_71 : decode cX12_init 71 = .ok (.putfield 36, 3) := by decide +kernel
theorem dX12_init_74 : decode cX12_init 74 = .ok (.aload_n 0, 1) := by decide +kernel
theorem dX12_init_75 : decode cX12_init 75 = .ok (.sipush 256, 3) := by decide +kernel
theorem dX12_init_78 : decode cX12_init 78 = .ok (.newarray .int, 2) := by decide +kernel
theorem dX12_init_80 : decode cX12_init 80 = .ok (.putfield 39, 3) := by decide +kernel
theorem dX12_init_83 : decode cX12_init 83 = .ok (.aload_n 0, 1) := by decide +kernel
theorem dX12_init_84 : decode cX12_init 84 = .ok (.bipush 14, 2) := by decide +kernel
theorem dX12_init_86 : decode cX12_init 86 = .ok (.newarray .long, 2) := by decide +kernel
theorem dX12_init_88 : decode cX12_init 88 = .ok (.putfield 42, 3) := by decide +kernel
theorem dX12_init_91 : decode cX12_init 91 = .ok (.aload_n 0, 1) := by decide +kernel
theorem dX12_init_92 : decode cX12_init 92 = .ok (.bipush 14, 2) := by decide +kernel
theorem dX12_init_94 : decode cX12_init 94 = .ok (.newarray .long, 2) := by decide +kernel
theorem dX12_init_96 : decode cX12_init 96 = .ok (.putfield 46, 3) := by decide +kernel
theorem dX12_init_99 : decode cX12_init 99 = .ok (.aload_n 0, 1) := by decide +kernel
theorem dX12_init_100 : decode cX12_init 100 = .ok (.bipush 14, 2) := by decide +kernel
theorem dX12_init_102 : decode cX12_init 102 = .ok (.newarray .long, 2) := by decide +kernel
theorem dX12_init_104 : decode cX12_init 104 = .ok (.putfield 49, 3) := by decide +kernel
theorem dX12_init_107 : decode cX12_init 107 = .ok (.aload_n 0, 1) := by decide +kernel
theorem dX12_init_108 : decode cX12_init 108 = .ok (.bipush 64, 2) := by decide +kernel
theorem dX12_init_110 : decode cX12_init 110 = .ok (.newarray .long, 2) := by decide +kernel
theorem dX12_init_112 : decode cX12_init 112 = .ok (.putfield 52, 3) := by decide +kernel
theorem dX12_init_115 : decode cX12_init 115 = .ok (.aload_n 0, 1) := by decide +kernel
theorem dX12_init_116 : decode cX12_init 116 = .ok (.bipush 12, 2) := by decide +kernel
theorem dX12_init_118 : decode cX12_init 118 = .ok (.newarray .long, 2) := by decide +kernel
theorem dX12_init_120 : decode cX12_init 120 = .ok (.putfield 55, 3) := by decide +kernel
theorem dX12_init_123 : decode cX12_init 123 = .ok (.aload_n 0, 1) := by decide +kernel
theorem dX12_init_124 : decode cX12_init 124 = .ok (.bipush 64, 2) := by decide +kernel
theorem dX12_init_126 : decode cX12_init 126 = .ok (.newarray .int, 2) := by decide +kernel
theorem dX12_init_128 : decode cX12_init 128 = .ok (.putfield 58, 3) := by decide +kernel
theorem dX12_init_131 : decode cX12_init 131 = .ok (.aload_n 0, 1) := by decide +kernel
theorem dX12_init_132 : decode cX12_init 132 = .ok (.bipush 12, 2) := by decide +kernel
theorem dX12_init_134 : decode cX12_init 134 = .ok (.newarray .int, 2) := by decide +kernel
theorem dX12_init_136 : decode cX12_init 136 = .ok (.putfield 61, 3) := by decide +kernel
theorem dX12_init_139 : decode cX12_init 139 = .ok (.aload_n 0, 1) := by decide +kernel
theorem dX12_init_140 : decode cX12_init 140 = .ok (.bipush 30, 2) := by decide +kernel
theorem dX12_init_142 : decode cX12_init 142 = .ok (.newarray .int, 2) := by decide +kernel
theorem dX12_init_144 : decode cX12_init 144 = .ok (.putfield 64, 3) := by decide +kernel
theorem dX12_init_147 : decode cX12_init 147 = .ok (.aload_n 0, 1) := by decide +kernel
theorem dX12_init_148 : decode cX12_init 148 = .ok (.bipush 12, 2) := by decide +kernel
theorem dX12_init_150 : decode cX12_init 150 = .ok (.newarray .int, 2) := by decide +kernel
theorem dX12_init_152 : decode cX12_init 152 = .ok (.putfield 67, 3) := by decide +kernel
theorem dX12_init_155 : decode cX12_init 155 = .ok (.aload_n 0, 1) := by decide +kernel
theorem dX12_init_156 : decode cX12_init 156 = .ok (.iconst 4, 1) := by decide +kernel
theorem dX12_init_157 : decode cX12_init 157 = .ok (.newarray .int, 2) := by decide +kernel
theorem dX12_init_159 : decode cX12_init 159 = .ok (.putfield 70, 3) := by decide +kernel
theorem dX12_init_162 : decode cX12_init 162 = .ok (.aload_n 0, 1) := by decide +kernel
theorem dX12_init_163 : decode cX12_init 163 = .ok (.iconst 4, 1) := by decide +kernel
theorem dX12_init_164 : decode cX12_init 164 = .ok (.newarray .int, 2) := by decide +kernel
theorem dX12_init_166 : decode cX12_init 166 = .ok (.putfield 73, 3) := by decide +kernel
theorem dX12_init_169 : decode cX12_init 169 = .ok (.aload_n 0, 1) := by decide +kernel
theorem dX12_init_170 : decode cX12_init 170 = .ok (.bipush 16, 2) := by decide +kernel
theorem dX12_init_172 : decode cX12_init 172 = .ok (.newarray .int, 2) := by decide +kernel
theorem dX12_init_174 : decode cX12_init 174 = .ok (.putfield 76, 3) := by decide +kernel
theorem dX12_init_177 : decode cX12_init 177 = .ok (.return_, 1) := by decide +kernel
theorem dX1_init_0 : decode cX1_init 0 = .ok (.aload_n 0, 1) := by decide +kernel
theorem dX1_init_1 : decode cX1_init 1 = .ok (.invokespecial 3, 3) := by decide +kernel
theorem dX1_init_4 : decode cX1_init 4 = .ok (.aload_n 0, 1) := by decide +kernel
theorem dX1_init_5 : decode cX1_init 5 = .ok (.iconst 0, 1) := by decide +kernel
theorem dX1_init_6 : decode cX1_init 6 = .ok (.putfield 9, 3) := by decide +kernel
theorem dX1_init_9 : decode cX1_init 9 = .ok (.aload_n 0, 1) := by decide +kernel
theorem dX1_init_10 : decode cX1_init 10 = .ok (.iconst 0, 1) := by decide +kernel
theorem dX1_init_11 : decode cX1_init 11 = .ok (.putfield 15, 3) := by decide +kernel
theorem dX1_init_14 : decode cX1_init 14 = .ok (.aload_n 0, 1) := by decide +kernel
theorem dX1_init_15 : decode cX1_init 15 = .ok (.bipush 8, 2) := by decide +kernel
theorem dX1_init_17 : decode cX1_init 17 = .ok (.anewarray 18, 3) := by decide +kernel
theorem dX1_init_20 : decode cX1_init 20 = .ok (.putfield 20, 3) := by decide +kernel
theorem dX1_init_23 : decode cX1_init 23 = .ok (.iconst 0, 1) := by decide +kernel
theorem dX1_init_24 : decode cX1_init 24 = .ok (.istore_n 1, 1) := by decide +kernel
theorem dX1_init_25 : decode cX1_init 25 = .ok (.iload_n 1, 1) := by decide +kernel
theorem dX1_init_26 : decode cX1_init 26 = .ok (.bipush 8, 2) := by decide +kernel
theorem dX1_init_28 : decode cX1_init 28 = .ok (.if_icmp .ge 22, 3) := by decide +kernel
theorem dX1_init_31 : decode cX1_init 31 = .ok (.aload_n 0, 1) := by decide +kernel
theorem dX1_init_32 : decode cX1_init 32 = .ok (.getfield 20, 3) := by decide +kernel
theorem dX1_init_35 : decode cX1_init 35 = .ok (.iload_n 1, 1) := by decide +kernel
theorem dX1_init_36 : decode cX1_init 36 = .ok (.new 18, 3) := by decide +kernel
theorem dX1_init_39 : decode cX1_init 39 = .ok (.dup, 1) := by decide +kernel
theorem dX1_init_40 : decode cX1_init 40 = .ok (.invokespecial 24, 3) := by decide +kernel
theorem dX1_init_43 : decode cX1_init 43 = .ok (.aastore, 1) := by decide +kernel
theorem dX1_init_44 : decode cX1_init 44 = .ok (.iinc 1 1, 3) := by decide +kernel
theorem dX1_init_47 : decode cX1_init 47 = .ok (.goto (-22), 3) := by decide +kernel
theorem dX1_init_50 : decode cX1_init 50 = .ok (.return_, 1) := by decide +kernel
theorem dX2_init_0 : decode cX2_init 0 = .ok (.aload_n 0, 1) := by decide +kernel
theorem dX2_init_1 : decode cX2_init 1 = .ok (.invokespecial 3, 3) := by decide +kernel
theorem dX2_init_4 : decode cX2_init 4 = .ok (.aload_n 0, 1) := by decide +kernel
theorem dX2_init_5 : decode cX2_init 5 = .ok (.iconst 0, 1) := by decide +kernel
theorem dX2_init_6 : decode cX2_init 6 = .ok (.putfield 9, 3) := by decide +kernel
theorem dX2_init_9 : decode cX2_init 9 = .ok (.aload_n 0, 1) := by decide +kernel
theorem dX2_init_10 : decode cX2_init 10 = .ok (.iconst 0, 1) := by decide +kernel
theorem dX2_init_11 : decode cX2_init 11 = .ok (.putfield 15, 3) := by decide +kernel
theorem dX2_init_14 : decode cX2_init 14 = .ok (.aload_n 0, 1) := by decide +kernel
theorem dX2_init_15 : decode cX2_init 15 = .ok (.iconst 0, 1) := by decide +kernel
theorem dX2_init_16 : decode cX2_init 16 = .ok (.putfield 18, 3) := by decide +kernel
theorem dX2_init_19 : decode cX2_init 19 = .ok (.aload_n 0, 1) := by decide +kernel
theorem dX2_init_20 : decode cX2_init 20 = .ok (.iconst 0, 1) := by decide +kernel
theorem dX2_init_21 : decode cX2_init 21 = .ok (.putfield 21, 3) := by decide +kernel
theorem dX2_init_24 : decode cX2_init 24 = .ok (.aload_n 0, 1) := by decide +kernel
theorem dX2_init_25 : decode cX2_init 25 = .ok (.iconst 0, 1) := by decide +kernel
theorem dX2_init_26 : decode cX2_init 26 = .ok (.putfield 24, 3) := by decide +kernel
theorem dX2_init_29 : decode cX2_init 29 = .ok (.aload_n 0, 1) := by decide +kernel
theorem dX2_init_30 : decode cX2_init 30 = .ok (.iconst 0, 1) := by decide +kernel
theorem dX2_init_31 : decode cX2_init 31 = .ok (.putfield 27, 3) := by decide +kernel
theorem dX2_init_34 : decode cX2_init 34 = .ok (.aload_n 0, 1) := by decide +kernel
theorem dX2_init_35 : decode cX2_init 35 = .ok (.sipush 600, 3) := by decide +kernel
theorem dX2_init_38 : decode cX2_init 38 = .ok (.newarray .int, 2) := by decide +kernel
theorem dX2_init_40 : decode cX2_init 40 = .ok (.putfield 30, 3) := by decide +kernel
theorem dX2_init_43 : decode cX2_init 43 = .ok (.return_, 1) := by decide +kernel
theorem dX3_init_0 : decode cX3_init 0 = .ok (.aload_n 0, 1) := by decide +kernel
theorem dX3_init_1 : decode cX3_init 1 = .ok (.invokespecial 3, 3) := by decide +kernel
theorem dX3_init_4 : decode cX3_init 4 = .ok (.aload_n 0, 1) := by decide +kernel
theorem dX3_init_5 : decode cX3_init 5 = .ok (.iconst 0, 1) := by decide +kernel
theorem dX3_init_6 : decode cX3_init 6 = .ok (.putfield 9, 3) := by decide +kernel
theorem dX3_init_9 : decode cX3_init 9 = .ok (.aload_n 0, 1) := by decide +kernel
theorem dX3_init_10 : decode cX3_init 10 = .ok (.lconst 0, 1) := by decide +kernel
theorem dX3_init_11 : decode cX3_init 11 = .ok (.putfield 15, 3) := by decide +kernel
theorem dX3_init_14 : decode cX3_init 14 = .ok (.aload_n 0, 1) := by decide +kernel
theorem dX3_init_15 : decode cX3_init 15 = .ok (.bipush 64, 2) := by decide +kernel
theorem dX3_init_17 : decode cX3_init 17 = .ok (.newarray .int, 2) := by decide +kernel
theorem dX3_init_19 : decode cX3_init 19 = .ok (.putfield 19, 3) := by decide +kernel
theorem dX3_init_22 : decode cX3_init 22 = .ok (.aload_n 0, 1) := by decide +kernel
theorem dX3_init_23 : decode cX3_init 23 = .ok (.bipush 64, 2) := by decide +kernel
theorem dX3_init_25 : decode cX3_init 25 = .ok (.newarray .int, 2) := by decide +kernel
theorem dX3_init_27 : decode cX3_init 27 = .ok (.putfield 23, 3) := by decide +kernel
theorem dX3_init_30 : decode cX3_init 30 = .ok (.aload_n 0, 1) := by decide +kernel
theorem dX3_init_31 : decode cX3_init 31 = .ok (.sipush 256, 3) := by decide +kernel
theorem dX3_init_34 : decode cX3_init 34 = .ok (.newarray .int, 2) := by decide +kernel
theorem dX3_init_36 : decode cX3_init 36 = .ok (.putfield 26, 3) := by decide +kernel
theorem dX3_init_39 : decode cX3_init 39 = .ok (.return_, 1) := by decide +kernel
theorem dX5_init_0 : decode cX5_init 0 = .ok (.aload_n 0, 1) := by decide +kernel
theorem dX5_init_1 : decode cX5_init 1 = .ok (.invokespecial 3, 3) := by decide +kernel
theorem dX5_init_4 : decode cX5_init 4 = .ok (.aload_n 0, 1) := by decide +kernel
theorem dX5_init_5 : decode cX5_init 5 = .ok (.iconst 0, 1) := by decide +kernel
theorem dX5_init_6 : decode cX5_init 6 = .ok (.putfield 9, 3) := by decide +kernel
theorem dX5_init_9 : decode cX5_init 9 = .ok (.aload_n 0, 1) := by decide +kernel
theorem dX5_init_10 : decode cX5_init 10 = .ok (.iconst 0, 1) := by decide +kernel
theorem dX5_init_11 : decode cX5_init 11 = .ok (.putfield 15, 3) := by decide +kernel
theorem dX5_init_14 : decode cX5_init 14 = .ok (.aload_n 0, 1) := by decide +kernel
theorem dX5_init_15 : decode cX5_init 15 = .ok (.aload_n 1, 1) := by decide +kernel
theorem dX5_init_16 : decode cX5_init 16 = .ok (.putfield 18, 3) := by decide +kernel
theorem dX5_init_19 : decode cX5_init 19 = .ok (.aload_n 0, 1) := by decide +kernel
theorem dX5_init_20 : decode cX5_init 20 = .ok (.aload_n 2, 1) := by decide +kernel
theorem dX5_init_21 : decode cX5_init 21 = .ok (.putfield 22, 3) := by decide +kernel
theorem dX5_init_24 : decode cX5_init 24 = .ok (.aload_n 0, 1) := by decide +kernel
theorem dX5_init_25 : decode cX5_init 25 = .ok (.aload_n 3, 1) := by decide +kernel
theorem dX5_init_26 : decode cX5_init 26 = .ok (.putfield 26, 3) := by decide +kernel
theorem dX5_init_29 : decode cX5_init 29 = .ok (.return_, 1) := by decide +kernel
theorem dX6_init_0 : decode cX6_init 0 = .ok (.aload_n 0, 1) := by decide +kernel
theorem dX6_init_1 : decode cX6_init 1 = .ok (.invokespecial 3, 3) := by decide +kernel
theorem dX6_init_4 : decode cX6_init 4 = .ok (.aload_n 0, 1) := by decide +kernel
theorem dX6_init_5 : decode cX6_init 5 = .ok (.iconst 0, 1) := by decide +kernel
theorem dX6_init_6 : decode cX6_init 6 = .ok (.putfield 9, 3) := by decide +kernel
theorem dX6_init_9 : decode cX6_init 9 = .ok (.aload_n 0, 1) := by decide +kernel
theorem dX6_init_10 : decode cX6_init 10 = .ok (.iconst 0, 1) := by decide +kernel
theorem dX6_init_11 : decode cX6_init 11 = .ok (.putfield 15, 3) := by decide +kernel
theorem dX6_init_14 : decode cX6_init 14 = .ok (.aload_n 0, 1) := by decide +kernel
theorem dX6_init_15 : decode cX6_init 15 = .ok (.iconst 0, 1) := by decide +kernel
theorem dX6_init_16 : decode cX6_init 16 = .ok (.putfield 18, 3) := by decide +kernel
theorem dX6_init_19 : decode cX6_init 19 = .ok (.aload_n 0, 1) := by decide +kernel
theorem dX6_init_20 : decode cX6_init 20 = .ok (.bipush 12, 2) := by decide +kernel
theorem dX6_init_22 : decode cX6_init 22 = .ok (.newarray .int, 2) := by decide +kernel
theorem dX6_init_24 : decode cX6_init 24 = .ok (.putfield 21, 3) := by decide +kernel
theorem dX6_init_27 : decode cX6_init 27 = .ok (.aload_n 0, 1) := by decide +kernel
theorem dX6_init_28 : decode cX6_init 28 = .ok (.bipush 12, 2) := by decide +kernel
theorem dX6_init_30 : decode cX6_init 30 = .ok (.newarray .int, 2) := by decide +kernel
theorem dX6_init_32 : decode cX6_init 32 = .ok (.putfield 25, 3) := by decide +kernel
theorem dX6_init_35 : decode cX6_init 35 = .ok (.aload_n 0, 1) := by decide +kernel
theorem dX6_init_36 : decode cX6_init 36 = .ok (.bipush 6, 2) := by decide +kernel
theorem dX6_init_38 : decode cX6_init 38 = .ok (.newarray .int, 2) := by decide +kernel
theorem dX6_init_40 : decode cX6_init 40 = .ok (.putfield 28, 3) := by decide +kernel
theorem dX6_init_43 : decode cX6_init 43 = .ok (.aload_n 0, 1) := by decide +kernel
theorem dX6_init_44 : decode cX6_init 44 = .ok (.bipush 6, 2) := by decide +kernel
theorem dX6_init_46 : decode cX6_init 46 = .ok (.newarray .int, 2) := by decide +kernel
theorem dX6_init_48 : decode cX6_init 48 = .ok (.putfield 31, 3) := by decide +kernel
theorem dX6_init_51 : decode cX6_init 51 = .ok (.aload_n 0, 1) := by decide +kernel
theorem dX6_init_52 : decode cX6_init 52 = .ok (.bipush 6, 2) := by decide +kernel
theorem dX6_init_54 : decode cX6_init 54 = .ok (.newarray .int, 2) := by decide +kernel
theorem dX6_init_56 : decode cX6_init 56 = .ok (.putfield 34, 3) := by decide +kernel
theorem dX6_init_59 : decode cX6_init 59 = .ok (.aload_n 0, 1) := by decide +kernel
theorem dX6_init_60 : decode cX6_init 60 = .ok (.bipush 6, 2) := by decide +kernel
theorem dX6_init_62 : decode cX6_init 62 = .ok (.newarray .int, 2) := by decide +kernel
theorem dX6_init_64 : decode cX6_init 64 = .ok (.putfield 37, 3) := by decide +kernel
theorem dX6_init_67 : decode cX6_init 67 = .ok (.aload_n 0, 1) := by decide +kernel
theorem dX6_init_68 : decode cX6_init 68 = .ok (.bipush 6, 2) := by decide +kernel
theorem dX6_init_70 : decode cX6_init 70 = .ok (.newarray .int, 2) := by decide +kernel
theorem dX6_init_72 : decode cX6_init 72 = .ok (.putfield 40, 3) := by decide +kernel
theorem dX6_init_75 : decode cX6_init 75 = .ok (.aload_n 0, 1) := by decide +kernel
theorem dX6_init_76 : decode cX6_init 76 = .ok (.bipush 6, 2) := by decide +kernel
theorem dX6_init_78 : decode cX6_init 78 = .ok (.newarray .int, 2) := by decide +kernel
theorem dX6_init_80 : decode cX6_init 80 = .ok (.putfield 43, 3) := by decide +kernel
theorem dX6_init_83 : decode cX6_init 83 = .ok (.return_, 1) := by decide +kernel
theorem dX7_init_0 : decode cX7_init 0 = .ok (.aload_n 0, 1) := by decide +kernel
theorem dX7_init_1 : decode cX7_init 1 = .ok (.invokespecial 3, 3) := by decide +kernel
theorem dX7_init_4 : decode cX7_init 4 = .ok (.aload_n 0, 1) := by decide +kernel
theorem dX7_init_5 : decode cX7_init 5 = .ok (.bipush 64, 2) := by decide +kernel
theorem dX7_init_7 : decode cX7_init 7 = .ok (.newarray .long, 2) := by decide +kernel
theorem dX7_init_9 : decode cX7_init 9 = .ok (.putfield 9, 3) := by decide +kernel
theorem dX7_init_12 : decode cX7_init 12 = .ok (.aload_n 0, 1) := by decide +kernel
theorem dX7_init_13 : decode cX7_init 13 = .ok (.iconst 0, 1) := by decide +kernel
theorem dX7_init_14 : decode cX7_init 14 = .ok (.putfield 15, 3) := by decide +kernel
theorem dX7_init_17 : decode cX7_init 17 = .ok (.aload_n 0, 1) := by decide +kernel
theorem dX7_init_18 : decode cX7_init 18 = .ok (.aload_n 1, 1) := by decide +kernel
theorem dX7_init_19 : decode cX7_init 19 = .ok (.putfield 19, 3) := by decide +kernel
theorem dX7_init_22 : decode cX7_init 22 = .ok (.aload_n 0, 1) := by decide +kernel
theorem dX7_init_23 : decode cX7_init 23 = .ok (.aload_n 2, 1) := by decide +kernel
theorem dX7_init_24 : decode cX7_init 24 = .ok (.putfield 23, 3) := by decide +kernel
theorem dX7_init_27 : decode cX7_init 27 = .ok (.return_, 1) := by decide +kernel
theorem dX8_init_0 : decode cX8_init 0 = .ok (.aload_n 0, 1) := by decide +kernel
theorem dX8_init_1 : decode cX8_init 1 = .ok (.invokespecial 3, 3) := by decide +kernel
theorem dX8_init_4 : decode cX8_init 4 = .ok (.aload_n 0, 1) := by decide +kernel
theorem dX8_init_5 : decode cX8_init 5 = .ok (.bipush 64, 2) := by decide +kernel
theorem dX8_init_7 : decode cX8_init 7 = .ok (.newarray .long, 2) := by decide +kernel
theorem dX8_init_9 : decode cX8_init 9 = .ok (.putfield 9, 3) := by decide +kernel
theorem dX8_init_12 : decode cX8_init 12 = .ok (.aload_n 0, 1) := by decide +kernel
theorem dX8_init_13 : decode cX8_init 13 = .ok (.iconst 4, 1) := by decide +kernel
theorem dX8_init_14 : decode cX8_init 14 = .ok (.newarray .int, 2) := by decide +kernel
theorem dX8_init_16 : decode cX8_init 16 = .ok (.putfield 15, 3) := by decide +kernel
theorem dX8_init_19 : decode cX8_init 19 = .ok (.aload_n 0, 1) := by decide +kernel
theorem dX8_init_20 : decode cX8_init 20 = .ok (.iconst 0, 1) := by decide +kernel
theorem dX8_init_21 : decode cX8_init 21 = .ok (.putfield 19, 3) := by decide +kernel
theorem dX8_init_24 : decode cX8_init 24 = .ok (.aload_n 0, 1) := by decide +kernel
theorem dX8_init_25 : decode cX8_init 25 = .ok (.iconst 0, 1) := by decide +kernel
theorem dX8_init_26 : decode cX8_init 26 = .ok (.putfield 23, 3) := by decide +kernel
theorem dX8_init_29 : decode cX8_init 29 = .ok (.aload_n 0, 1) := by decide +kernel
theorem dX8_init_30 : decode cX8_init 30 = .ok (.aload_n 1, 1) := by decide +kernel
theorem dX8_init_31 : decode cX8_init 31 = .ok (.putfield 26, 3) := by decide +kernel
theorem dX8_init_34 : decode cX8_init 34 = .ok (.return_, 1) := by decide +kernel
theorem dX9_init_0 : decode cX9_init 0 = .ok (.aload_n 0, 1) := by decide +kernel
theorem dX9_init_1 : decode cX9_init 1 = .ok (.invokespecial 3, 3) := by decide +kernel
theorem dX9_init_4 : decode cX9_init 4 = .ok (.aload_n 0, 1) := by decide +kernel
theorem dX9_init_5 : decode cX9_init 5 = .ok (.bipush 10, 2) := by decide +kernel
theorem dX9_init_7 : decode cX9_init 7 = .ok (.newarray .int, 2) := by decide +kernel
theorem dX9_init_9 : decode cX9_init 9 = .ok (.putfield 9, 3) := by decide +kernel
theorem dX9_init_12 : decode cX9_init 12 = .ok (.aload_n 0, 1) := by decide +kernel
theorem dX9_init_13 : decode cX9_init 13 = .ok (.bipush 10, 2) := by decide +kernel
theorem dX9_init_15 : decode cX9_init 15 = .ok (.newarray .int, 2) := by decide +kernel
theorem dX9_init_17 : decode cX9_init 17 = .ok (.putfield 15, 3) := by decide +kernel
theorem dX9_init_20 : decode cX9_init 20 = .ok (.aload_n 0, 1) := by decide +kernel
theorem dX9_init_21 : decode cX9_init 21 = .ok (.bipush 10, 2) := by decide +kernel
theorem dX9_init_23 : decode cX9_init 23 = .ok (.newarray .int, 2) := by decide +kernel
theorem dX9_init_25 : decode cX9_init 25 = .ok (.putfield 18, 3) := by decide +kernel
theorem dX9_init_28 : decode cX9_init 28 = .ok (.aload_n 0, 1) := by decide +kernel
theorem dX9_init_29 : decode cX9_init 29 = .ok (.bipush 10, 2) := by decide +kernel
theorem dX9_init_31 : decode cX9_init 31 = .ok (.newarray .int, 2) := by decide +kernel
theorem dX9_init_33 : decode cX9_init 33 = .ok (.putfield 21, 3) := by decide +kernel
theorem dX9_init_36 : decode cX9_init 36 = .ok (.aload_n 0, 1) := by decide +kernel
theorem dX9_init_37 : decode cX9_init 37 = .ok (.bipush 12, 2) := by decide +kernel
theorem dX9_init_39 : decode cX9_init 39 = .ok (.newarray .int, 2) := by decide +kernel
theorem dX9_init_41 : decode cX9_init 41 = .ok (.putfield 24, 3) := by decide +kernel
theorem dX9_init_44 : decode cX9_init 44 = .ok (.aload_n 0, 1) := by decide +kernel
theorem dX9_init_45 : decode cX9_init 45 = .ok (.bipush 12, 2) := by decide +kernel
theorem dX9_init_47 : decode cX9_init 47 = .ok (.newarray .int, 2) := by decide +kernel
theorem dX9_init_49 : decode cX9_init 49 = .ok (.putfield 27, 3) := by decide +kernel
theorem dX9_init_52 : decode cX9_init 52 = .ok (.aload_n 0, 1) := by decide +kernel
theorem dX9_init_53 : decode cX9_init 53 = .ok (.iconst 0, 1) := by decide +kernel
theorem dX9_init_54 : decode cX9_init 54 = .ok (.putfield 30, 3) := by decide +kernel
theorem dX9_init_57 : decode cX9_init 57 = .ok (.aload_n 0, 1) := by decide +kernel
theorem dX9_init_58 : decode cX9_init 58 = .ok (.iconst 0, 1) := by decide +kernel
theorem dX9_init_59 : decode cX9_init 59 = .ok (.putfield 34, 3) := by decide +kernel
theorem dX9_init_62 : decode cX9_init 62 = .ok (.aload_n 0, 1) := by decide +kernel
theorem dX9_init_63 : decode cX9_init 63 = .ok (.aload_n 1, 1) := by decide +kernel
theorem dX9_init_64 : decode cX9_init 64 = .ok (.putfield 38, 3) := by decide +kernel
theorem dX9_init_67 : decode cX9_init 67 = .ok (.return_, 1) := by decide +kernel
