-- X11_guards
set_option maxRecDepth 100000 in
def ctr_325 : CTR := (148, [.inr (some 36)], some (.inl (0, 6)), [], [], 1, 0, [], [], [])
set_option maxRecDepth 100000 in
theorem cok_325 {KO : List Nat} (hK : KOK KO) : cOk KD0 KO G0 ctr_325 := chk_ok (G0_xOK hK.1) (chkS_ok (show chkS sgl0 [] ctr_325 = true by decide +kernel) hK.2) fm_n (show chk KD0 G0 (aX KD0) nX 2000 2 [] ctr_325 = true by decide +kernel)
-- X6_guardX
set_option maxRecDepth 100000 in
def ctr_326 : CTR := (52, [.inr (some 25), .inl (-2147483648, 2147483647)], some (.inl (-2147483648, 2147483647)), [], [], 1, 0, [], [], [])
set_option maxRecDepth 100000 in
theorem cok_326 {KO : List Nat} (hK : KOK KO) : cOk KD0 KO G0 ctr_326 := chk_ok (G0_xOK hK.1) (chkS_ok (show chkS sgl0 [] ctr_326 = true by decide +kernel) hK.2) fm_n (show chk KD0 G0 (aX KD0) nX 2000 2 [] ctr_326 = true by decide +kernel)
-- X6_guardY
set_option maxRecDepth 100000 in
def ctr_327 : CTR := (53, [.inr (some 25), .inl (-2147483648, 2147483647)], some (.inl (-2147483648, 2147483647)), [], [], 1, 0, [], [], [])
set_option maxRecDepth 100000 in
theorem cok_327 {KO : List Nat} (hK : KOK KO) : cOk KD0 KO G0 ctr_327 := chk_ok (G0_xOK hK.1) (chkS_ok (show chkS sgl0 [] ctr_327 = true by decide +kernel) hK.2) fm_n (show chk KD0 G0 (aX KD0) nX 2000 2 [] ctr_327 = true by decide +kernel)
-- X10_postOf
set_option maxRecDepth 100000 in
def ctr_328 : CTR := (104, [.inr (some 34), .inl (-2147483648, 2147483647)], some (.inl (-2147483648, 2147483647)), [], [], 2, 0, [], [], [])
set_option maxRecDepth 100000 in
theorem cok_328 {KO : List Nat} (hK : KOK KO) : cOk KD0 KO G0 ctr_328 := chk_ok (G0_xOK hK.1) (chkS_ok (show chkS sgl0 [ctr_9, ctr_326, ctr_327] ctr_328 = true by decide +kernel) hK.2) (fm_c (cok_9 hK) (fm_c (cok_326 hK) (fm_c (cok_327 hK) fm_n))) (show chk KD0 G0 (aX KD0) nX 2000 2 [ctr_9, ctr_326, ctr_327] ctr_328 = true by decide +kernel)
-- X11_guardAt
set_option maxRecDepth 100000 in
def ctr_329 : CTR := (149, [.inr (some 36), .inl (-2147483648, 2147483647)], some (.inl (-2147483648, 2147483647)), ["java/lang/IllegalStateException", "java/lang/IndexOutOfBoundsException"], [], 3, 0, [], [], [])
set_option maxRecDepth 100000 in
theorem cok_329 {KO : List Nat} (hK : KOK KO) : cOk KD0 KO G0 ctr_329 := chk_ok (G0_xOK hK.1) (chkS_ok (show chkS sgl0 [ctr_46, ctr_328] ctr_329 = true by decide +kernel) hK.2) (fm_c (cok_46 hK) (fm_c (cok_328 hK) fm_n)) (show chk KD0 G0 (aX KD0) nX 2000 2 [ctr_46, ctr_328] ctr_329 = true by decide +kernel)
-- X6_reachOf
set_option maxRecDepth 100000 in
def ctr_330 : CTR := (54, [.inr (some 25), .inl (-2147483648, 2147483647)], some (.inl (-2147483648, 2147483647)), [], [], 1, 0, [], [], [])
set_option maxRecDepth 100000 in
theorem cok_330 {KO : List Nat} (hK : KOK KO) : cOk KD0 KO G0 ctr_330 := chk_ok (G0_xOK hK.1) (chkS_ok (show chkS sgl0 [] ctr_330 = true by decide +kernel) hK.2) fm_n (show chk KD0 G0 (aX KD0) nX 2000 2 [] ctr_330 = true by decide +kernel)
-- X11_guardRange
set_option maxRecDepth 100000 in
def ctr_331 : CTR := (150, [.inr (some 36), .inl (-2147483648, 2147483647)], some (.inl (-2147483648, 2147483647)), ["java/lang/IllegalStateException", "java/lang/IndexOutOfBoundsException"], [], 2, 0, [], [], [])
set_option maxRecDepth 100000 in
theorem cok_331 {KO : List Nat} (hK : KOK KO) : cOk KD0 KO G0 ctr_331 := chk_ok (G0_xOK hK.1) (chkS_ok (show chkS sgl0 [ctr_46, ctr_330] ctr_331 = true by decide +kernel) hK.2) (fm_c (cok_46 hK) (fm_c (cok_330 hK) fm_n)) (show chk KD0 G0 (aX KD0) nX 2000 2 [ctr_46, ctr_330] ctr_331 = true by decide +kernel)
-- X10_within
set_option maxRecDepth 100000 in
def ctr_332 : CTR := (106, [.inr (some 34), .inl (-2147483648, 2147483647), .inl (-2147483648, 2147483647)], some (.inr none), [], [], 2, 0, [(15, [(0, .inr (some 34)), (1, .inl (-2147483648, 2147483647)), (2, .inl (-2147483648, 2147483647)), (3, .inr none), (5, .inr none), (7, .inl (0, 64))], [], [], 128, [((7, none), -2)], [])], [], [])
set_option maxRecDepth 100000 in
theorem cok_332 {KO : List Nat} (hK : KOK KO) : cOk KD0 KO G0 ctr_332 := chk_ok (G0_xOK hK.1) (chkS_ok (show chkS sgl0 [ctr_56, ctr_58, ctr_63, ctr_87] ctr_332 = true by decide +kernel) hK.2) (fm_c (cok_56 hK) (fm_c (cok_58 hK) (fm_c (cok_63 hK) (fm_c (cok_87 hK) fm_n)))) (show chk KD0 G0 (aX KD0) nX 2000 132 [ctr_56, ctr_58, ctr_63, ctr_87] ctr_332 = true by decide +kernel)
-- X10_byGuard
set_option maxRecDepth 100000 in
def ctr_333 : CTR := (107, [.inr (some 34), .inl (-2147483648, 2147483647)], some (.inr none), [], [], 3, 0, [], [], [])
set_option maxRecDepth 100000 in
theorem cok_333 {KO : List Nat} (hK : KOK KO) : cOk KD0 KO G0 ctr_333 := chk_ok (G0_xOK hK.1) (chkS_ok (show chkS sgl0 [ctr_328, ctr_330, ctr_332] ctr_333 = true by decide +kernel) hK.2) (fm_c (cok_328 hK) (fm_c (cok_330 hK) (fm_c (cok_332 hK) fm_n))) (show chk KD0 G0 (aX KD0) nX 2000 2 [ctr_328, ctr_330, ctr_332] ctr_333 = true by decide +kernel)
-- X11_watched
set_option maxRecDepth 100000 in
def ctr_334 : CTR := (151, [.inr (some 36), .inl (-2147483648, 2147483647)], some (.inr none), ["java/lang/IllegalStateException", "java/lang/IndexOutOfBoundsException"], [(12, 0), (30, 3)], 7, 0, [], [], [])
set_option maxRecDepth 100000 in
theorem cok_334 {KO : List Nat} (hK : KOK KO) : cOk KD0 KO G0 ctr_334 := chk_ok (G0_xOK hK.1) (chkS_ok (show chkS sgl0 [ctr_46, ctr_86, ctr_333] ctr_334 = true by decide +kernel) hK.2) (fm_c (cok_46 hK) (fm_c (cok_86 hK) (fm_c (cok_333 hK) fm_n))) (show chk KD0 G0 (aX KD0) nX 2000 2 [ctr_46, ctr_86, ctr_333] ctr_334 = true by decide +kernel)
-- X10_byAllBut
set_option maxRecDepth 100000 in
def ctr_335 : CTR := (108, [.inr (some 34), .inl (-2147483648, 2147483647)], some (.inr none), [], [], 4, 0, [(5, [(0, .inr (some 34)), (1, .inl (-2147483648, 2147483647)), (2, .inr none), (4, .inl (0, 6))], [], [], 12, [((4, none), -2)], [])], [], [])
set_option maxRecDepth 100000 in
theorem cok_335 {KO : List Nat} (hK : KOK KO) : cOk KD0 KO G0 ctr_335 := chk_ok (G0_xOK hK.1) (chkS_ok (show chkS sgl0 [ctr_333] ctr_335 = true by decide +kernel) hK.2) (fm_c (cok_333 hK) fm_n) (show chk KD0 G0 (aX KD0) nX 2000 16 [ctr_333] ctr_335 = true by decide +kernel)
-- X11_unwatched
set_option maxRecDepth 100000 in
def ctr_336 : CTR := (152, [.inr (some 36)], some (.inr none), ["java/lang/IllegalStateException"], [(12, 0), (30, 3)], 7, 0, [], [], [])
set_option maxRecDepth 100000 in
theorem cok_336 {KO : List Nat} (hK : KOK KO) : cOk KD0 KO G0 ctr_336 := chk_ok (G0_xOK hK.1) (chkS_ok (show chkS sgl0 [ctr_46, ctr_86, ctr_91, ctr_335] ctr_336 = true by decide +kernel) hK.2) (fm_c (cok_46 hK) (fm_c (cok_86 hK) (fm_c (cok_91 hK) (fm_c (cok_335 hK) fm_n)))) (show chk KD0 G0 (aX KD0) nX 2000 2 [ctr_46, ctr_86, ctr_91, ctr_335] ctr_336 = true by decide +kernel)
-- X10_guardsOn
set_option maxRecDepth 100000 in
def ctr_337 : CTR := (109, [.inr (some 34), .inl (-2147483648, 2147483647)], some (.inl (-2147483648, 2147483647)), [], [], 4, 0, [(4, [(0, .inr (some 34)), (1, .inl (-2147483648, 2147483647)), (2, .inl (-2147483648, 2147483647)), (3, .inl (0, 6))], [], [], 12, [((3, none), -2)], [])], [], [])
set_option maxRecDepth 100000 in
theorem cok_337 {KO : List Nat} (hK : KOK KO) : cOk KD0 KO G0 ctr_337 := chk_ok (G0_xOK hK.1) (chkS_ok (show chkS sgl0 [ctr_63, ctr_333] ctr_337 = true by decide +kernel) hK.2) (fm_c (cok_63 hK) (fm_c (cok_333 hK) fm_n)) (show chk KD0 G0 (aX KD0) nX 2000 16 [ctr_63, ctr_333] ctr_337 = true by decide +kernel)
-- X11_watchers
set_option maxRecDepth 100000 in
def ctr_338 : CTR := (153, [.inr (some 36), .inl (-2147483648, 2147483647)], some (.inl (-2147483648, 2147483647)), ["java/lang/IllegalStateException", "java/lang/IndexOutOfBoundsException"], [(12, 0), (30, 3)], 7, 0, [], [], [])
set_option maxRecDepth 100000 in
theorem cok_338 {KO : List Nat} (hK : KOK KO) : cOk KD0 KO G0 ctr_338 := chk_ok (G0_xOK hK.1) (chkS_ok (show chkS sgl0 [ctr_46, ctr_86, ctr_337] ctr_338 = true by decide +kernel) hK.2) (fm_c (cok_46 hK) (fm_c (cok_86 hK) (fm_c (cok_337 hK) fm_n))) (show chk KD0 G0 (aX KD0) nX 2000 2 [ctr_46, ctr_86, ctr_337] ctr_338 = true by decide +kernel)
-- X10_spareGuards
set_option maxRecDepth 100000 in
def ctr_339 : CTR := (110, [.inr (some 34)], some (.inl (-2147483648, 2147483647)), [], [], 5, 0, [(11, [(0, .inr (some 34)), (1, .inr none), (3, .inl (-2147483648, 2147483647)), (4, .inl (0, 6))], [], [], 12, [((4, none), -2)], [])], [], [])
set_option maxRecDepth 100000 in
theorem cok_339 {KO : List Nat} (hK : KOK KO) : cOk KD0 KO G0 ctr_339 := chk_ok (G0_xOK hK.1) (chkS_ok (show chkS sgl0 [ctr_335] ctr_339 = true by decide +kernel) hK.2) (fm_c (cok_335 hK) fm_n) (show chk KD0 G0 (aX KD0) nX 2000 16 [ctr_335] ctr_339 = true by decide +kernel)
-- X11_redundantGuards
set_option maxRecDepth 100000 in
def ctr_340 : CTR := (154, [.inr (some 36)], some (.inl (-2147483648, 2147483647)), ["java/lang/IllegalStateException"], [(12, 0), (30, 3)], 7, 0, [], [], [])
set_option maxRecDepth 100000 in
theorem cok_340 {KO : List Nat} (hK : KOK KO) : cOk KD0 KO G0 ctr_340 := chk_ok (G0_xOK hK.1) (chkS_ok (show chkS sgl0 [ctr_46, ctr_86, ctr_339] ctr_340 = true by decide +kernel) hK.2) (fm_c (cok_46 hK) (fm_c (cok_86 hK) (fm_c (cok_339 hK) fm_n))) (show chk KD0 G0 (aX KD0) nX 2000 2 [ctr_46, ctr_86, ctr_339] ctr_340 = true by decide +kernel)
-- X10_bestPostFor
set_option maxRecDepth 100000 in
def ctr_341 : CTR := (111, [.inr (some 34), .inr none], some (.inl (0, 63)), [], [], 2, 0, [(5, [(0, .inr (some 34)), (1, .inr none), (3, .inl (0, 63)), (4, .inl (1, 64))], [], [], 128, [((4, none), -2)], [])], [], [])
set_option maxRecDepth 100000 in
theorem cok_341 {KO : List Nat} (hK : KOK KO) : cOk KD0 KO G0 ctr_341 := chk_ok (G0_xOK hK.1) (chkS_ok (show chkS sgl0 [ctr_87, ctr_289] ctr_341 = true by decide +kernel) hK.2) (fm_c (cok_87 hK) (fm_c (cok_289 hK) fm_n)) (show chk KD0 G0 (aX KD0) nX 2000 130 [ctr_87, ctr_289] ctr_341 = true by decide +kernel)
-- X11_bestPoint
set_option maxRecDepth 100000 in
def ctr_342 : CTR := (155, [.inr (some 36)], some (.inl (0, 63)), ["java/lang/IllegalStateException"], [(12, 0), (30, 3)], 7, 0, [], [], [])
set_option maxRecDepth 100000 in
theorem cok_342 {KO : List Nat} (hK : KOK KO) : cOk KD0 KO G0 ctr_342 := chk_ok (G0_xOK hK.1) (chkS_ok (show chkS sgl0 [ctr_46, ctr_86, ctr_91, ctr_335, ctr_341] ctr_342 = true by decide +kernel) hK.2) (fm_c (cok_46 hK) (fm_c (cok_86 hK) (fm_c (cok_91 hK) (fm_c (cok_335 hK) (fm_c (cok_341 hK) fm_n))))) (show chk KD0 G0 (aX KD0) nX 2000 2 [ctr_46, ctr_86, ctr_91, ctr_335, ctr_341] ctr_342 = true by decide +kernel)
-- X10_greedyCount
set_option maxRecDepth 100000 in
def ctr_343 : CTR := (112, [.inr (some 34)], some (.inl (-2147483648, 2147483647)), [], [], 5, 0, [(23, [(0, .inr (some 34)), (1, .inr none), (3, .inl (-2147483648, 2147483647)), (4, .inl (0, 64))], [], [], 128, [((4, none), -2)], [])], [], [])
set_option maxRecDepth 100000 in
theorem cok_343 {KO : List Nat} (hK : KOK KO) : cOk KD0 KO G0 ctr_343 := chk_ok (G0_xOK hK.1) (chkS_ok (show chkS sgl0 [ctr_87, ctr_91, ctr_335, ctr_341] ctr_343 = true by decide +kernel) hK.2) (fm_c (cok_87 hK) (fm_c (cok_91 hK) (fm_c (cok_335 hK) (fm_c (cok_341 hK) fm_n)))) (show chk KD0 G0 (aX KD0) nX 2000 132 [ctr_87, ctr_91, ctr_335, ctr_341] ctr_343 = true by decide +kernel)
-- X11_greedyGuards
set_option maxRecDepth 100000 in
def ctr_344 : CTR := (156, [.inr (some 36)], some (.inl (-2147483648, 2147483647)), ["java/lang/IllegalStateException"], [(12, 0), (30, 3)], 7, 0, [], [], [])
set_option maxRecDepth 100000 in
theorem cok_344 {KO : List Nat} (hK : KOK KO) : cOk KD0 KO G0 ctr_344 := chk_ok (G0_xOK hK.1) (chkS_ok (show chkS sgl0 [ctr_46, ctr_86, ctr_343] ctr_344 = true by decide +kernel) hK.2) (fm_c (cok_46 hK) (fm_c (cok_86 hK) (fm_c (cok_343 hK) fm_n))) (show chk KD0 G0 (aX KD0) nX 2000 2 [ctr_46, ctr_86, ctr_343] ctr_344 = true by decide +kernel)
-- X11_treasures
set_option maxRecDepth 100000 in
def ctr_345 : CTR := (157, [.inr (some 36)], some (.inl (0, 6)), [], [], 1, 0, [], [], [])
set_option maxRecDepth 100000 in
theorem cok_345 {KO : List Nat} (hK : KOK KO) : cOk KD0 KO G0 ctr_345 := chk_ok (G0_xOK hK.1) (chkS_ok (show chkS sgl0 [] ctr_345 = true by decide +kernel) hK.2) fm_n (show chk KD0 G0 (aX KD0) nX 2000 2 [] ctr_345 = true by decide +kernel)
-- X6_treasureX
set_option maxRecDepth 100000 in
def ctr_346 : CTR := (60, [.inr (some 25), .inl (-2147483648, 2147483647)], some (.inl (-2147483648, 2147483647)), [], [], 1, 0, [], [], [])
set_option maxRecDepth 100000 in
theorem cok_346 {KO : List Nat} (hK : KOK KO) : cOk KD0 KO G0 ctr_346 := chk_ok (G0_xOK hK.1) (chkS_ok (show chkS sgl0 [] ctr_346 = true by decide +kernel) hK.2) fm_n (show chk KD0 G0 (aX KD0) nX 2000 2 [] ctr_346 = true by decide +kernel)
-- X6_treasureY
set_option maxRecDepth 100000 in
def ctr_347 : CTR := (61, [.inr (some 25), .inl (-2147483648, 2147483647)], some (.inl (-2147483648, 2147483647)), [], [], 1, 0, [], [], [])
set_option maxRecDepth 100000 in
theorem cok_347 {KO : List Nat} (hK : KOK KO) : cOk KD0 KO G0 ctr_347 := chk_ok (G0_xOK hK.1) (chkS_ok (show chkS sgl0 [] ctr_347 = true by decide +kernel) hK.2) fm_n (show chk KD0 G0 (aX KD0) nX 2000 2 [] ctr_347 = true by decide +kernel)
-- X10_placeOfTreasure
set_option maxRecDepth 100000 in
def ctr_348 : CTR := (105, [.inr (some 34), .inl (-2147483648, 2147483647)], some (.inl (-2147483648, 2147483647)), [], [], 2, 0, [], [], [])
set_option maxRecDepth 100000 in
theorem cok_348 {KO : List Nat} (hK : KOK KO) : cOk KD0 KO G0 ctr_348 := chk_ok (G0_xOK hK.1) (chkS_ok (show chkS sgl0 [ctr_9, ctr_346, ctr_347] ctr_348 = true by decide +kernel) hK.2) (fm_c (cok_9 hK) (fm_c (cok_346 hK) (fm_c (cok_347 hK) fm_n))) (show chk KD0 G0 (aX KD0) nX 2000 2 [ctr_9, ctr_346, ctr_347] ctr_348 = true by decide +kernel)
-- X11_treasureAt
set_option maxRecDepth 100000 in
def ctr_349 : CTR := (158, [.inr (some 36), .inl (-2147483648, 2147483647)], some (.inl (-2147483648, 2147483647)), ["java/lang/IllegalStateException", "java/lang/IndexOutOfBoundsException"], [], 3, 0, [], [], [])
set_option maxRecDepth 100000 in
theorem cok_349 {KO : List Nat} (hK : KOK KO) : cOk KD0 KO G0 ctr_349 := chk_ok (G0_xOK hK.1) (chkS_ok (show chkS sgl0 [ctr_46, ctr_348] ctr_349 = true by decide +kernel) hK.2) (fm_c (cok_46 hK) (fm_c (cok_348 hK) fm_n)) (show chk KD0 G0 (aX KD0) nX 2000 2 [ctr_46, ctr_348] ctr_349 = true by decide +kernel)
