-- X6_worthOf
set_option maxRecDepth 100000 in
def ctr_350 : CTR := (62, [.inr (some 25), .inl (-2147483648, 2147483647)], some (.inl (-2147483648, 2147483647)), [], [], 1, 0, [], [], [])
set_option maxRecDepth 100000 in
theorem cok_350 {KO : List Nat} (hK : KOK KO) : cOk KD0 KO G0 ctr_350 := chk_ok (G0_xOK hK.1) (chkS_ok (show chkS sgl0 [] ctr_350 = true by decide +kernel) hK.2) fm_n (show chk KD0 G0 (aX KD0) nX 2000 2 [] ctr_350 = true by decide +kernel)
-- X10_valueIn
set_option maxRecDepth 100000 in
def ctr_351 : CTR := (113, [.inr (some 34), .inr none], some (.inl (-2147483648, 2147483647)), [], [], 3, 0, [(5, [(0, .inr (some 34)), (1, .inr none), (3, .inl (-2147483648, 2147483647)), (4, .inl (0, 6))], [], [], 12, [((4, none), -2)], [])], [], [])
set_option maxRecDepth 100000 in
theorem cok_351 {KO : List Nat} (hK : KOK KO) : cOk KD0 KO G0 ctr_351 := chk_ok (G0_xOK hK.1) (chkS_ok (show chkS sgl0 [ctr_63, ctr_348, ctr_350] ctr_351 = true by decide +kernel) hK.2) (fm_c (cok_63 hK) (fm_c (cok_348 hK) (fm_c (cok_350 hK) fm_n))) (show chk KD0 G0 (aX KD0) nX 2000 16 [ctr_63, ctr_348, ctr_350] ctr_351 = true by decide +kernel)
-- X11_watchedValue
set_option maxRecDepth 100000 in
def ctr_352 : CTR := (159, [.inr (some 36)], some (.inl (-2147483648, 2147483647)), ["java/lang/IllegalStateException"], [(12, 0), (30, 3)], 7, 0, [], [], [])
set_option maxRecDepth 100000 in
theorem cok_352 {KO : List Nat} (hK : KOK KO) : cOk KD0 KO G0 ctr_352 := chk_ok (G0_xOK hK.1) (chkS_ok (show chkS sgl0 [ctr_46, ctr_86, ctr_335, ctr_351] ctr_352 = true by decide +kernel) hK.2) (fm_c (cok_46 hK) (fm_c (cok_86 hK) (fm_c (cok_335 hK) (fm_c (cok_351 hK) fm_n)))) (show chk KD0 G0 (aX KD0) nX 2000 2 [ctr_46, ctr_86, ctr_335, ctr_351] ctr_352 = true by decide +kernel)
-- X10_valueAfterBestMove
set_option maxRecDepth 100000 in
def ctr_353 : CTR := (114, [.inr (some 34)], some (.inl (-2147483648, 2147483647)), [], [], 5, 0, [(12, [(0, .inr (some 34)), (1, .inl (-2147483648, 2147483647)), (2, .inl (0, 7))], [], [], 1054, [((2, none), -132)], []), (32, [(0, .inr (some 34)), (1, .inl (-2147483648, 2147483647)), (2, .inl (0, 6)), (3, .inr none), (5, .inl (0, 64))], [], [], 1052, [((2, none), -132), ((5, none), -2)], [])], [], [])
set_option maxRecDepth 100000 in
theorem cok_353 {KO : List Nat} (hK : KOK KO) : cOk KD0 KO G0 ctr_353 := chk_ok (G0_xOK hK.1) (chkS_ok (show chkS sgl0 [ctr_330, ctr_332, ctr_335, ctr_351] ctr_353 = true by decide +kernel) hK.2) (fm_c (cok_330 hK) (fm_c (cok_332 hK) (fm_c (cok_335 hK) (fm_c (cok_351 hK) fm_n)))) (show chk KD0 G0 (aX KD0) nX 2000 1058 [ctr_330, ctr_332, ctr_335, ctr_351] ctr_353 = true by decide +kernel)
-- X11_bestValue
set_option maxRecDepth 100000 in
def ctr_354 : CTR := (160, [.inr (some 36)], some (.inl (-2147483648, 2147483647)), ["java/lang/IllegalStateException"], [(12, 0), (30, 3)], 7, 0, [], [], [])
set_option maxRecDepth 100000 in
theorem cok_354 {KO : List Nat} (hK : KOK KO) : cOk KD0 KO G0 ctr_354 := chk_ok (G0_xOK hK.1) (chkS_ok (show chkS sgl0 [ctr_46, ctr_86, ctr_353] ctr_354 = true by decide +kernel) hK.2) (fm_c (cok_46 hK) (fm_c (cok_86 hK) (fm_c (cok_353 hK) fm_n))) (show chk KD0 G0 (aX KD0) nX 2000 2 [ctr_46, ctr_86, ctr_353] ctr_354 = true by decide +kernel)
-- X6_hasGuardAt
set_option maxRecDepth 100000 in
def ctr_355 : CTR := (59, [.inr (some 25), .inl (-2147483648, 2147483647), .inl (-2147483648, 2147483647)], some (.inl (0, 1)), [], [], 1, 0, [(2, [(0, .inr (some 25)), (1, .inl (-2147483648, 2147483647)), (2, .inl (-2147483648, 2147483647)), (3, .inl (0, 6))], [], [], 12, [((3, none), -2)], [])], [], [])
set_option maxRecDepth 100000 in
theorem cok_355 {KO : List Nat} (hK : KOK KO) : cOk KD0 KO G0 ctr_355 := chk_ok (G0_xOK hK.1) (chkS_ok (show chkS sgl0 [] ctr_355 = true by decide +kernel) hK.2) fm_n (show chk KD0 G0 (aX KD0) nX 2000 16 [] ctr_355 = true by decide +kernel)
-- X6_hasTreasureAt
set_option maxRecDepth 100000 in
def ctr_356 : CTR := (64, [.inr (some 25), .inl (-2147483648, 2147483647), .inl (-2147483648, 2147483647)], some (.inl (0, 1)), [], [], 1, 0, [(2, [(0, .inr (some 25)), (1, .inl (-2147483648, 2147483647)), (2, .inl (-2147483648, 2147483647)), (3, .inl (0, 6))], [], [], 12, [((3, none), -2)], [])], [], [])
set_option maxRecDepth 100000 in
theorem cok_356 {KO : List Nat} (hK : KOK KO) : cOk KD0 KO G0 ctr_356 := chk_ok (G0_xOK hK.1) (chkS_ok (show chkS sgl0 [] ctr_356 = true by decide +kernel) hK.2) fm_n (show chk KD0 G0 (aX KD0) nX 2000 16 [] ctr_356 = true by decide +kernel)
-- X6_hasCornerAt
set_option maxRecDepth 100000 in
def ctr_357 : CTR := (51, [.inr (some 25), .inl (-2147483648, 2147483647), .inl (-2147483648, 2147483647)], some (.inl (0, 1)), [], [], 1, 0, [(2, [(0, .inr (some 25)), (1, .inl (-2147483648, 2147483647)), (2, .inl (-2147483648, 2147483647)), (3, .inl (0, 12))], [], [], 24, [((3, none), -2)], [])], [], [])
set_option maxRecDepth 100000 in
theorem cok_357 {KO : List Nat} (hK : KOK KO) : cOk KD0 KO G0 ctr_357 := chk_ok (G0_xOK hK.1) (chkS_ok (show chkS sgl0 [] ctr_357 = true by decide +kernel) hK.2) fm_n (show chk KD0 G0 (aX KD0) nX 2000 28 [] ctr_357 = true by decide +kernel)
-- X11_signAt
set_option maxRecDepth 100000 in
def ctr_358 : CTR := (181, [.inr (some 36), .inl (-2147483648, 2147483647), .inl (-2147483648, 2147483647), .inr none], some (.inl (32, 86)), [], [], 2, 0, [], [], [])
set_option maxRecDepth 100000 in
theorem cok_358 {KO : List Nat} (hK : KOK KO) : cOk KD0 KO G0 ctr_358 := chk_ok (G0_xOK hK.1) (chkS_ok (show chkS sgl0 [ctr_9, ctr_63, ctr_355, ctr_356, ctr_357] ctr_358 = true by decide +kernel) hK.2) (fm_c (cok_9 hK) (fm_c (cok_63 hK) (fm_c (cok_355 hK) (fm_c (cok_356 hK) (fm_c (cok_357 hK) fm_n))))) (show chk KD0 G0 (aX KD0) nX 2000 2 [ctr_9, ctr_63, ctr_355, ctr_356, ctr_357] ctr_358 = true by decide +kernel)
-- X11_draw
set_option maxRecDepth 100000 in
def ctr_359 : CTR := (161, [.inr (some 36), .inl (-2147483648, 2147483647)], some (.inl (-2147483648, 2147483647)), ["java/lang/IllegalArgumentException", "java/lang/IllegalStateException"], [(12, 0), (24, 0), (30, 3), (36, 15)], 7, 0, [(33, [(0, .inr (some 36)), (1, .inl (-2147483648, 2147483647)), (2, .inr none), (4, .inl (-2147483648, 2147483647)), (5, .inl (0, 16))], [], [], 32, [((5, none), -2)], [])], [], [])
set_option maxRecDepth 100000 in
theorem cok_359 {KO : List Nat} (hK : KOK KO) : cOk KD0 KO G0 ctr_359 := chk_ok (G0_xOK hK.1) (chkS_ok (show chkS sgl0 [ctr_9, ctr_46, ctr_86, ctr_106, ctr_335, ctr_358] ctr_359 = true by decide +kernel) hK.2) (fm_c (cok_9 hK) (fm_c (cok_46 hK) (fm_c (cok_86 hK) (fm_c (cok_106 hK) (fm_c (cok_335 hK) (fm_c (cok_358 hK) fm_n)))))) (show chk KD0 G0 (aX KD0) nX 2000 36 [ctr_9, ctr_46, ctr_86, ctr_106, ctr_335, ctr_358] ctr_359 = true by decide +kernel)
-- X11_drawnByte
set_option maxRecDepth 100000 in
def ctr_360 : CTR := (162, [.inr (some 36), .inl (-2147483648, 2147483647)], some (.inl (-2147483648, 2147483647)), ["java/lang/IndexOutOfBoundsException"], [], 2, 0, [], [], [])
set_option maxRecDepth 100000 in
theorem cok_360 {KO : List Nat} (hK : KOK KO) : cOk KD0 KO G0 ctr_360 := chk_ok (G0_xOK hK.1) (chkS_ok (show chkS sgl0 [] ctr_360 = true by decide +kernel) hK.2) fm_n (show chk KD0 G0 (aX KD0) nX 2000 2 [] ctr_360 = true by decide +kernel)
-- X1_keep
set_option maxRecDepth 100000 in
def ctr_361 : CTR := (9, [.inr (some 35), .inr (some 25)], none, [], [(4, 0), (5, 0), (6, 0), (7, 0), (8, 0), (9, 0), (10, 0), (11, 0), (25, 0), (25, 1), (25, 2), (35, 0), (35, 1)], 2, 0, [], [], [])
set_option maxRecDepth 100000 in
theorem cok_361 {KO : List Nat} (hK : KOK KO) : cOk KD0 KO G0 ctr_361 := chk_ok (G0_xOK hK.1) (chkS_ok (show chkS sgl0 [ctr_35] ctr_361 = true by decide +kernel) hK.2) (fm_c (cok_35 hK) fm_n) (show chk KD0 G0 (aX KD0) nX 2000 2 [ctr_35] ctr_361 = true by decide +kernel)
-- X11_addGuard
set_option maxRecDepth 100000 in
def ctr_362 : CTR := (163, [.inr (some 36), .inl (-2147483648, 2147483647), .inl (-2147483648, 2147483647)], some (.inl (-1, 5)), ["java/lang/IllegalArgumentException", "java/lang/IllegalStateException", "java/lang/IndexOutOfBoundsException"], [(4, 0), (5, 0), (6, 0), (7, 0), (8, 0), (9, 0), (10, 0), (11, 0), (25, 0), (25, 1), (25, 2), (35, 0), (35, 1)], 3, 0, [], [], [])
set_option maxRecDepth 100000 in
theorem cok_362 {KO : List Nat} (hK : KOK KO) : cOk KD0 KO G0 ctr_362 := chk_ok (G0_xOK hK.1) (chkS_ok (show chkS sgl0 [ctr_27, ctr_46, ctr_56, ctr_58, ctr_106, ctr_361] ctr_362 = true by decide +kernel) hK.2) (fm_c (cok_27 hK) (fm_c (cok_46 hK) (fm_c (cok_56 hK) (fm_c (cok_58 hK) (fm_c (cok_106 hK) (fm_c (cok_361 hK) fm_n)))))) (show chk KD0 G0 (aX KD0) nX 2000 2 [ctr_27, ctr_46, ctr_56, ctr_58, ctr_106, ctr_361] ctr_362 = true by decide +kernel)
-- X6_dropGuard
set_option maxRecDepth 100000 in
def ctr_363 : CTR := (58, [.inr (some 25), .inl (-2147483648, 2147483647)], none, [], [(6, 0), (7, 0), (8, 0), (25, 1)], 1, 0, [(15, [(0, .inr (some 25)), (1, .inl (0, 5)), (2, .inl (0, 5))], [], [(0, 1, (1, 6))], 10, [((2, none), -2)], [])], [], [])
set_option maxRecDepth 100000 in
theorem cok_363 {KO : List Nat} (hK : KOK KO) : cOk KD0 KO G0 ctr_363 := chk_ok (G0_xOK hK.1) (chkS_ok (show chkS sgl0 [] ctr_363 = true by decide +kernel) hK.2) fm_n (show chk KD0 G0 (aX KD0) nX 2000 14 [] ctr_363 = true by decide +kernel)
-- X11_removeGuard
set_option maxRecDepth 100000 in
def ctr_364 : CTR := (164, [.inr (some 36), .inl (-2147483648, 2147483647)], some (.inl (0, 6)), ["java/lang/IllegalStateException", "java/lang/IndexOutOfBoundsException"], [(4, 0), (5, 0), (6, 0), (7, 0), (8, 0), (9, 0), (10, 0), (11, 0), (25, 0), (25, 1), (25, 2), (35, 0), (35, 1)], 3, 0, [], [], [])
set_option maxRecDepth 100000 in
theorem cok_364 {KO : List Nat} (hK : KOK KO) : cOk KD0 KO G0 ctr_364 := chk_ok (G0_xOK hK.1) (chkS_ok (show chkS sgl0 [ctr_46, ctr_361, ctr_363] ctr_364 = true by decide +kernel) hK.2) (fm_c (cok_46 hK) (fm_c (cok_361 hK) (fm_c (cok_363 hK) fm_n))) (show chk KD0 G0 (aX KD0) nX 2000 2 [ctr_46, ctr_361, ctr_363] ctr_364 = true by decide +kernel)
-- X6_postGuard
set_option maxRecDepth 100000 in
def ctr_365 : CTR := (56, [.inr (some 25), .inl (-2147483648, 2147483647), .inl (-2147483648, 2147483647), .inl (-2147483648, 2147483647)], none, [], [(6, 0), (7, 0)], 1, 0, [], [], [])
set_option maxRecDepth 100000 in
theorem cok_365 {KO : List Nat} (hK : KOK KO) : cOk KD0 KO G0 ctr_365 := chk_ok (G0_xOK hK.1) (chkS_ok (show chkS sgl0 [] ctr_365 = true by decide +kernel) hK.2) fm_n (show chk KD0 G0 (aX KD0) nX 2000 2 [] ctr_365 = true by decide +kernel)
-- X11_moveGuard
set_option maxRecDepth 100000 in
def ctr_366 : CTR := (165, [.inr (some 36), .inl (-2147483648, 2147483647), .inl (-2147483648, 2147483647)], some (.inl (-2147483648, 2147483647)), ["java/lang/IllegalStateException", "java/lang/IndexOutOfBoundsException"], [(4, 0), (5, 0), (6, 0), (7, 0), (8, 0), (9, 0), (10, 0), (11, 0), (25, 0), (25, 1), (25, 2), (35, 0), (35, 1)], 3, 0, [], [], [])
set_option maxRecDepth 100000 in
theorem cok_366 {KO : List Nat} (hK : KOK KO) : cOk KD0 KO G0 ctr_366 := chk_ok (G0_xOK hK.1) (chkS_ok (show chkS sgl0 [ctr_46, ctr_56, ctr_58, ctr_328, ctr_361, ctr_365] ctr_366 = true by decide +kernel) hK.2) (fm_c (cok_46 hK) (fm_c (cok_56 hK) (fm_c (cok_58 hK) (fm_c (cok_328 hK) (fm_c (cok_361 hK) (fm_c (cok_365 hK) fm_n)))))) (show chk KD0 G0 (aX KD0) nX 2000 2 [ctr_46, ctr_56, ctr_58, ctr_328, ctr_361, ctr_365] ctr_366 = true by decide +kernel)
-- X6_giveReach
set_option maxRecDepth 100000 in
def ctr_367 : CTR := (57, [.inr (some 25), .inl (-2147483648, 2147483647), .inl (-2147483648, 2147483647)], none, [], [(8, 0)], 1, 0, [], [], [])
set_option maxRecDepth 100000 in
theorem cok_367 {KO : List Nat} (hK : KOK KO) : cOk KD0 KO G0 ctr_367 := chk_ok (G0_xOK hK.1) (chkS_ok (show chkS sgl0 [] ctr_367 = true by decide +kernel) hK.2) fm_n (show chk KD0 G0 (aX KD0) nX 2000 2 [] ctr_367 = true by decide +kernel)
-- X11_setRange
set_option maxRecDepth 100000 in
def ctr_368 : CTR := (166, [.inr (some 36), .inl (-2147483648, 2147483647), .inl (-2147483648, 2147483647)], some (.inl (-2147483648, 2147483647)), ["java/lang/IllegalArgumentException", "java/lang/IllegalStateException", "java/lang/IndexOutOfBoundsException"], [(4, 0), (5, 0), (6, 0), (7, 0), (8, 0), (9, 0), (10, 0), (11, 0), (25, 0), (25, 1), (25, 2), (35, 0), (35, 1)], 3, 0, [], [], [])
set_option maxRecDepth 100000 in
theorem cok_368 {KO : List Nat} (hK : KOK KO) : cOk KD0 KO G0 ctr_368 := chk_ok (G0_xOK hK.1) (chkS_ok (show chkS sgl0 [ctr_46, ctr_106, ctr_330, ctr_361, ctr_367] ctr_368 = true by decide +kernel) hK.2) (fm_c (cok_46 hK) (fm_c (cok_106 hK) (fm_c (cok_330 hK) (fm_c (cok_361 hK) (fm_c (cok_367 hK) fm_n))))) (show chk KD0 G0 (aX KD0) nX 2000 2 [ctr_46, ctr_106, ctr_330, ctr_361, ctr_367] ctr_368 = true by decide +kernel)
-- X6_shiftCorner
set_option maxRecDepth 100000 in
def ctr_369 : CTR := (49, [.inr (some 25), .inl (-2147483648, 2147483647), .inl (-2147483648, 2147483647), .inl (-2147483648, 2147483647)], none, [], [(4, 0), (5, 0)], 1, 0, [], [], [])
set_option maxRecDepth 100000 in
theorem cok_369 {KO : List Nat} (hK : KOK KO) : cOk KD0 KO G0 ctr_369 := chk_ok (G0_xOK hK.1) (chkS_ok (show chkS sgl0 [] ctr_369 = true by decide +kernel) hK.2) fm_n (show chk KD0 G0 (aX KD0) nX 2000 2 [] ctr_369 = true by decide +kernel)
-- X3_holdsAllOf
set_option maxRecDepth 100000 in
def ctr_370 : CTR := (22, [.inr (some 28), .inr (some 25)], some (.inl (0, 1)), [], [], 2, 0, [(2, [(0, .inr (some 28)), (1, .inr (some 25)), (2, .inl (0, 6))], [], [], 26, [((2, none), -2)], []), (38, [(0, .inr (some 28)), (1, .inr (some 25)), (2, .inl (0, 6))], [], [(1, 1, (0, 6))], 12, [((2, none), -2)], [])], [], [])
set_option maxRecDepth 100000 in
theorem cok_370 {KO : List Nat} (hK : KOK KO) : cOk KD0 KO G0 ctr_370 := chk_ok (G0_xOK hK.1) (chkS_ok (show chkS sgl0 [ctr_9, ctr_326, ctr_327, ctr_346, ctr_347] ctr_370 = true by decide +kernel) hK.2) (fm_c (cok_9 hK) (fm_c (cok_326 hK) (fm_c (cok_327 hK) (fm_c (cok_346 hK) (fm_c (cok_347 hK) fm_n))))) (show chk KD0 G0 (aX KD0) nX 2000 30 [ctr_9, ctr_326, ctr_327, ctr_346, ctr_347] ctr_370 = true by decide +kernel)
-- X11_adoptDraft
set_option maxRecDepth 100000 in
def ctr_371 : CTR := (179, [.inr (some 36)], some (.inl (0, 64)), ["java/lang/IllegalArgumentException"], [(1, 0), (2, 0), (3, 0), (4, 0), (5, 0), (6, 0), (7, 0), (8, 0), (9, 0), (10, 0), (11, 0), (25, 0), (25, 1), (25, 2), (28, 0), (28, 1), (30, 3), (31, 8), (32, 6), (32, 7), (32, 8), (33, 3), (33, 4), (35, 0), (35, 1)], 6, 0, [], [], [])
set_option maxRecDepth 100000 in
theorem cok_371 {KO : List Nat} (hK : KOK KO) : cOk KD0 KO G0 ctr_371 := chk_ok (G0_xOK hK.1) (chkS_ok (show chkS sgl0 [ctr_21, ctr_24, ctr_40, ctr_361, ctr_370] ctr_371 = true by decide +kernel) hK.2) (fm_c (cok_21 hK) (fm_c (cok_24 hK) (fm_c (cok_40 hK) (fm_c (cok_361 hK) (fm_c (cok_370 hK) fm_n))))) (show chk KD0 G0 (aX KD0) nX 2000 2 [ctr_21, ctr_24, ctr_40, ctr_361, ctr_370] ctr_371 = true by decide +kernel)
-- X11_moveVertex
set_option maxRecDepth 100000 in
def ctr_372 : CTR := (167, [.inr (some 36), .inl (-2147483648, 2147483647), .inl (-2147483648, 2147483647), .inl (-2147483648, 2147483647)], some (.inl (0, 64)), ["java/lang/IllegalArgumentException", "java/lang/IllegalStateException", "java/lang/IndexOutOfBoundsException"], [(1, 0), (2, 0), (3, 0), (4, 0), (5, 0), (6, 0), (7, 0), (8, 0), (9, 0), (10, 0), (11, 0), (25, 0), (25, 1), (25, 2), (28, 0), (28, 1), (30, 3), (31, 8), (32, 6), (32, 7), (32, 8), (33, 3), (33, 4), (35, 0), (35, 1)], 7, 0, [], [], [])
set_option maxRecDepth 100000 in
theorem cok_372 {KO : List Nat} (hK : KOK KO) : cOk KD0 KO G0 ctr_372 := chk_ok (G0_xOK hK.1) (chkS_ok (show chkS sgl0 [ctr_35, ctr_46, ctr_106, ctr_369, ctr_371] ctr_372 = true by decide +kernel) hK.2) (fm_c (cok_35 hK) (fm_c (cok_46 hK) (fm_c (cok_106 hK) (fm_c (cok_369 hK) (fm_c (cok_371 hK) fm_n))))) (show chk KD0 G0 (aX KD0) nX 2000 2 [ctr_35, ctr_46, ctr_106, ctr_369, ctr_371] ctr_372 = true by decide +kernel)
-- X11_insertVertex
set_option maxRecDepth 100000 in
def ctr_373 : CTR := (168, [.inr (some 36), .inl (-2147483648, 2147483647), .inl (-2147483648, 2147483647), .inl (-2147483648, 2147483647)], some (.inl (0, 64)), ["java/lang/IllegalArgumentException", "java/lang/IllegalStateException", "java/lang/IndexOutOfBoundsException"], [(1, 0), (2, 0), (3, 0), (4, 0), (5, 0), (6, 0), (7, 0), (8, 0), (9, 0), (10, 0), (11, 0), (25, 0), (25, 1), (25, 2), (28, 0), (28, 1), (30, 3), (31, 8), (32, 6), (32, 7), (32, 8), (33, 3), (33, 4), (35, 0), (35, 1)], 7, 0, [], [], [])
set_option maxRecDepth 100000 in
theorem cok_373 {KO : List Nat} (hK : KOK KO) : cOk KD0 KO G0 ctr_373 := chk_ok (G0_xOK hK.1) (chkS_ok (show chkS sgl0 [ctr_11, ctr_35, ctr_46, ctr_106, ctr_371] ctr_373 = true by decide +kernel) hK.2) (fm_c (cok_11 hK) (fm_c (cok_35 hK) (fm_c (cok_46 hK) (fm_c (cok_106 hK) (fm_c (cok_371 hK) fm_n))))) (show chk KD0 G0 (aX KD0) nX 2000 2 [ctr_11, ctr_35, ctr_46, ctr_106, ctr_371] ctr_373 = true by decide +kernel)
-- X6_dropCorner
set_option maxRecDepth 100000 in
def ctr_374 : CTR := (50, [.inr (some 25), .inl (-2147483648, 2147483647)], none, [], [(4, 0), (5, 0), (25, 0)], 1, 0, [(15, [(0, .inr (some 25)), (1, .inl (0, 11)), (2, .inl (0, 11))], [], [(0, 0, (1, 12))], 22, [((2, none), -2)], [])], [], [])
set_option maxRecDepth 100000 in
theorem cok_374 {KO : List Nat} (hK : KOK KO) : cOk KD0 KO G0 ctr_374 := chk_ok (G0_xOK hK.1) (chkS_ok (show chkS sgl0 [] ctr_374 = true by decide +kernel) hK.2) fm_n (show chk KD0 G0 (aX KD0) nX 2000 26 [] ctr_374 = true by decide +kernel)
