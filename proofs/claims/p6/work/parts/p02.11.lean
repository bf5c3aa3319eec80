-- X11_redundantGuards
set_option maxRecDepth 100000 in
def ctr_275 : CTR := (154, [.inr (some 36)], some (.inl (-2147483648, 2147483647)), ["java/lang/IllegalStateException"], [(12, 0), (30, 3)], 7, 0, [])
set_option maxRecDepth 100000 in
theorem cok_275 {KO : List Nat} (hK : KOS KO) : cOk KD0 KO G0 ctr_275 := chk_ok (G0_xOK hK) (fm_c (cok_46 hK) (fm_c (cok_86 hK) (fm_c (cok_274 hK) fm_n))) (show chk KD0 G0 (aX KD0) nX 2000 2 [ctr_46, ctr_86, ctr_274] ctr_275 = true by decide +kernel)
-- X10_bestPostFor
set_option maxRecDepth 100000 in
def ctr_276 : CTR := (111, [.inr (some 34), .inr none], some (.inl (0, 63)), [], [], 2, 0, [(5, [(0, .inr (some 34)), (1, .inr none), (3, .inl (0, 63)), (4, .inl (1, 64))], [], [], 128, [(4, -2)])])
set_option maxRecDepth 100000 in
theorem cok_276 {KO : List Nat} (hK : KOS KO) : cOk KD0 KO G0 ctr_276 := chk_ok (G0_xOK hK) (fm_c (cok_87 hK) (fm_c (cok_224 hK) fm_n)) (show chk KD0 G0 (aX KD0) nX 2000 130 [ctr_87, ctr_224] ctr_276 = true by decide +kernel)
-- X11_bestPoint
set_option maxRecDepth 100000 in
def ctr_277 : CTR := (155, [.inr (some 36)], some (.inl (0, 63)), ["java/lang/IllegalStateException"], [(12, 0), (30, 3)], 7, 0, [])
set_option maxRecDepth 100000 in
theorem cok_277 {KO : List Nat} (hK : KOS KO) : cOk KD0 KO G0 ctr_277 := chk_ok (G0_xOK hK) (fm_c (cok_46 hK) (fm_c (cok_86 hK) (fm_c (cok_91 hK) (fm_c (cok_270 hK) (fm_c (cok_276 hK) fm_n))))) (show chk KD0 G0 (aX KD0) nX 2000 2 [ctr_46, ctr_86, ctr_91, ctr_270, ctr_276] ctr_277 = true by decide +kernel)
-- X10_greedyCount
set_option maxRecDepth 100000 in
def ctr_278 : CTR := (112, [.inr (some 34)], some (.inl (-2147483648, 2147483647)), [], [], 5, 0, [(23, [(0, .inr (some 34)), (1, .inr none), (3, .inl (-2147483648, 2147483647)), (4, .inl (0, 64))], [], [], 128, [(4, -2)])])
set_option maxRecDepth 100000 in
theorem cok_278 {KO : List Nat} (hK : KOS KO) : cOk KD0 KO G0 ctr_278 := chk_ok (G0_xOK hK) (fm_c (cok_87 hK) (fm_c (cok_91 hK) (fm_c (cok_270 hK) (fm_c (cok_276 hK) fm_n)))) (show chk KD0 G0 (aX KD0) nX 2000 132 [ctr_87, ctr_91, ctr_270, ctr_276] ctr_278 = true by decide +kernel)
-- X11_greedyGuards
set_option maxRecDepth 100000 in
def ctr_279 : CTR := (156, [.inr (some 36)], some (.inl (-2147483648, 2147483647)), ["java/lang/IllegalStateException"], [(12, 0), (30, 3)], 7, 0, [])
set_option maxRecDepth 100000 in
theorem cok_279 {KO : List Nat} (hK : KOS KO) : cOk KD0 KO G0 ctr_279 := chk_ok (G0_xOK hK) (fm_c (cok_46 hK) (fm_c (cok_86 hK) (fm_c (cok_278 hK) fm_n))) (show chk KD0 G0 (aX KD0) nX 2000 2 [ctr_46, ctr_86, ctr_278] ctr_279 = true by decide +kernel)
-- X11_treasures
set_option maxRecDepth 100000 in
def ctr_280 : CTR := (157, [.inr (some 36)], some (.inl (0, 6)), [], [], 1, 0, [])
set_option maxRecDepth 100000 in
theorem cok_280 {KO : List Nat} (hK : KOS KO) : cOk KD0 KO G0 ctr_280 := chk_ok (G0_xOK hK) fm_n (show chk KD0 G0 (aX KD0) nX 2000 2 [] ctr_280 = true by decide +kernel)
-- X6_treasureX
set_option maxRecDepth 100000 in
def ctr_281 : CTR := (60, [.inr (some 25), .inl (-2147483648, 2147483647)], some (.inl (-2147483648, 2147483647)), [], [], 1, 0, [])
set_option maxRecDepth 100000 in
theorem cok_281 {KO : List Nat} (hK : KOS KO) : cOk KD0 KO G0 ctr_281 := chk_ok (G0_xOK hK) fm_n (show chk KD0 G0 (aX KD0) nX 2000 2 [] ctr_281 = true by decide +kernel)
-- X6_treasureY
set_option maxRecDepth 100000 in
def ctr_282 : CTR := (61, [.inr (some 25), .inl (-2147483648, 2147483647)], some (.inl (-2147483648, 2147483647)), [], [], 1, 0, [])
set_option maxRecDepth 100000 in
theorem cok_282 {KO : List Nat} (hK : KOS KO) : cOk KD0 KO G0 ctr_282 := chk_ok (G0_xOK hK) fm_n (show chk KD0 G0 (aX KD0) nX 2000 2 [] ctr_282 = true by decide +kernel)
-- X10_placeOfTreasure
set_option maxRecDepth 100000 in
def ctr_283 : CTR := (105, [.inr (some 34), .inl (-2147483648, 2147483647)], some (.inl (-2147483648, 2147483647)), [], [], 2, 0, [])
set_option maxRecDepth 100000 in
theorem cok_283 {KO : List Nat} (hK : KOS KO) : cOk KD0 KO G0 ctr_283 := chk_ok (G0_xOK hK) (fm_c (cok_9 hK) (fm_c (cok_281 hK) (fm_c (cok_282 hK) fm_n))) (show chk KD0 G0 (aX KD0) nX 2000 2 [ctr_9, ctr_281, ctr_282] ctr_283 = true by decide +kernel)
-- X11_treasureAt
set_option maxRecDepth 100000 in
def ctr_284 : CTR := (158, [.inr (some 36), .inl (-2147483648, 2147483647)], some (.inl (-2147483648, 2147483647)), ["java/lang/IllegalStateException", "java/lang/IndexOutOfBoundsException"], [], 3, 0, [])
set_option maxRecDepth 100000 in
theorem cok_284 {KO : List Nat} (hK : KOS KO) : cOk KD0 KO G0 ctr_284 := chk_ok (G0_xOK hK) (fm_c (cok_46 hK) (fm_c (cok_283 hK) fm_n)) (show chk KD0 G0 (aX KD0) nX 2000 2 [ctr_46, ctr_283] ctr_284 = true by decide +kernel)
-- X6_worthOf
set_option maxRecDepth 100000 in
def ctr_285 : CTR := (62, [.inr (some 25), .inl (-2147483648, 2147483647)], some (.inl (-2147483648, 2147483647)), [], [], 1, 0, [])
set_option maxRecDepth 100000 in
theorem cok_285 {KO : List Nat} (hK : KOS KO) : cOk KD0 KO G0 ctr_285 := chk_ok (G0_xOK hK) fm_n (show chk KD0 G0 (aX KD0) nX 2000 2 [] ctr_285 = true by decide +kernel)
-- X10_valueIn
set_option maxRecDepth 100000 in
def ctr_286 : CTR := (113, [.inr (some 34), .inr none], some (.inl (-2147483648, 2147483647)), [], [], 3, 0, [(5, [(0, .inr (some 34)), (1, .inr none), (3, .inl (-2147483648, 2147483647)), (4, .inl (0, 6))], [], [], 12, [(4, -2)])])
set_option maxRecDepth 100000 in
theorem cok_286 {KO : List Nat} (hK : KOS KO) : cOk KD0 KO G0 ctr_286 := chk_ok (G0_xOK hK) (fm_c (cok_63 hK) (fm_c (cok_283 hK) (fm_c (cok_285 hK) fm_n))) (show chk KD0 G0 (aX KD0) nX 2000 16 [ctr_63, ctr_283, ctr_285] ctr_286 = true by decide +kernel)
-- X11_watchedValue
set_option maxRecDepth 100000 in
def ctr_287 : CTR := (159, [.inr (some 36)], some (.inl (-2147483648, 2147483647)), ["java/lang/IllegalStateException"], [(12, 0), (30, 3)], 7, 0, [])
set_option maxRecDepth 100000 in
theorem cok_287 {KO : List Nat} (hK : KOS KO) : cOk KD0 KO G0 ctr_287 := chk_ok (G0_xOK hK) (fm_c (cok_46 hK) (fm_c (cok_86 hK) (fm_c (cok_270 hK) (fm_c (cok_286 hK) fm_n)))) (show chk KD0 G0 (aX KD0) nX 2000 2 [ctr_46, ctr_86, ctr_270, ctr_286] ctr_287 = true by decide +kernel)
-- X10_valueAfterBestMove
set_option maxRecDepth 100000 in
def ctr_288 : CTR := (114, [.inr (some 34)], some (.inl (-2147483648, 2147483647)), [], [], 5, 0, [(12, [(0, .inr (some 34)), (1, .inl (-2147483648, 2147483647)), (2, .inl (0, 7))], [], [], 1054, [(2, -132)]), (32, [(0, .inr (some 34)), (1, .inl (-2147483648, 2147483647)), (2, .inl (0, 6)), (3, .inr none), (5, .inl (0, 64))], [], [], 1052, [(2, -132), (5, -2)])])
set_option maxRecDepth 100000 in
theorem cok_288 {KO : List Nat} (hK : KOS KO) : cOk KD0 KO G0 ctr_288 := chk_ok (G0_xOK hK) (fm_c (cok_265 hK) (fm_c (cok_267 hK) (fm_c (cok_270 hK) (fm_c (cok_286 hK) fm_n)))) (show chk KD0 G0 (aX KD0) nX 2000 1058 [ctr_265, ctr_267, ctr_270, ctr_286] ctr_288 = true by decide +kernel)
-- X11_bestValue
set_option maxRecDepth 100000 in
def ctr_289 : CTR := (160, [.inr (some 36)], some (.inl (-2147483648, 2147483647)), ["java/lang/IllegalStateException"], [(12, 0), (30, 3)], 7, 0, [])
set_option maxRecDepth 100000 in
theorem cok_289 {KO : List Nat} (hK : KOS KO) : cOk KD0 KO G0 ctr_289 := chk_ok (G0_xOK hK) (fm_c (cok_46 hK) (fm_c (cok_86 hK) (fm_c (cok_288 hK) fm_n))) (show chk KD0 G0 (aX KD0) nX 2000 2 [ctr_46, ctr_86, ctr_288] ctr_289 = true by decide +kernel)
-- X6_hasGuardAt
set_option maxRecDepth 100000 in
def ctr_290 : CTR := (59, [.inr (some 25), .inl (-2147483648, 2147483647), .inl (-2147483648, 2147483647)], some (.inl (0, 1)), [], [], 1, 0, [(2, [(0, .inr (some 25)), (1, .inl (-2147483648, 2147483647)), (2, .inl (-2147483648, 2147483647)), (3, .inl (0, 6))], [], [], 12, [(3, -2)])])
set_option maxRecDepth 100000 in
theorem cok_290 {KO : List Nat} (hK : KOS KO) : cOk KD0 KO G0 ctr_290 := chk_ok (G0_xOK hK) fm_n (show chk KD0 G0 (aX KD0) nX 2000 16 [] ctr_290 = true by decide +kernel)
-- X6_hasTreasureAt
set_option maxRecDepth 100000 in
def ctr_291 : CTR := (64, [.inr (some 25), .inl (-2147483648, 2147483647), .inl (-2147483648, 2147483647)], some (.inl (0, 1)), [], [], 1, 0, [(2, [(0, .inr (some 25)), (1, .inl (-2147483648, 2147483647)), (2, .inl (-2147483648, 2147483647)), (3, .inl (0, 6))], [], [], 12, [(3, -2)])])
set_option maxRecDepth 100000 in
theorem cok_291 {KO : List Nat} (hK : KOS KO) : cOk KD0 KO G0 ctr_291 := chk_ok (G0_xOK hK) fm_n (show chk KD0 G0 (aX KD0) nX 2000 16 [] ctr_291 = true by decide +kernel)
-- X6_hasCornerAt
set_option maxRecDepth 100000 in
def ctr_292 : CTR := (51, [.inr (some 25), .inl (-2147483648, 2147483647), .inl (-2147483648, 2147483647)], some (.inl (0, 1)), [], [], 1, 0, [(2, [(0, .inr (some 25)), (1, .inl (-2147483648, 2147483647)), (2, .inl (-2147483648, 2147483647)), (3, .inl (0, 12))], [], [], 24, [(3, -2)])])
set_option maxRecDepth 100000 in
theorem cok_292 {KO : List Nat} (hK : KOS KO) : cOk KD0 KO G0 ctr_292 := chk_ok (G0_xOK hK) fm_n (show chk KD0 G0 (aX KD0) nX 2000 28 [] ctr_292 = true by decide +kernel)
-- X11_signAt
set_option maxRecDepth 100000 in
def ctr_293 : CTR := (181, [.inr (some 36), .inl (-2147483648, 2147483647), .inl (-2147483648, 2147483647), .inr none], some (.inl (32, 86)), [], [], 2, 0, [])
set_option maxRecDepth 100000 in
theorem cok_293 {KO : List Nat} (hK : KOS KO) : cOk KD0 KO G0 ctr_293 := chk_ok (G0_xOK hK) (fm_c (cok_9 hK) (fm_c (cok_63 hK) (fm_c (cok_290 hK) (fm_c (cok_291 hK) (fm_c (cok_292 hK) fm_n))))) (show chk KD0 G0 (aX KD0) nX 2000 2 [ctr_9, ctr_63, ctr_290, ctr_291, ctr_292] ctr_293 = true by decide +kernel)
-- X11_draw
set_option maxRecDepth 100000 in
def ctr_294 : CTR := (161, [.inr (some 36), .inl (-2147483648, 2147483647)], some (.inl (-2147483648, 2147483647)), ["java/lang/IllegalArgumentException", "java/lang/IllegalStateException"], [(12, 0), (24, 0), (30, 3), (36, 15)], 7, 0, [(33, [(0, .inr (some 36)), (1, .inl (-2147483648, 2147483647)), (2, .inr none), (4, .inl (-2147483648, 2147483647)), (5, .inl (0, 16))], [], [], 32, [(5, -2)])])
set_option maxRecDepth 100000 in
theorem cok_294 {KO : List Nat} (hK : KOS KO) : cOk KD0 KO G0 ctr_294 := chk_ok (G0_xOK hK) (fm_c (cok_9 hK) (fm_c (cok_46 hK) (fm_c (cok_86 hK) (fm_c (cok_106 hK) (fm_c (cok_270 hK) (fm_c (cok_293 hK) fm_n)))))) (show chk KD0 G0 (aX KD0) nX 2000 36 [ctr_9, ctr_46, ctr_86, ctr_106, ctr_270, ctr_293] ctr_294 = true by decide +kernel)
-- X11_drawnByte
set_option maxRecDepth 100000 in
def ctr_295 : CTR := (162, [.inr (some 36), .inl (-2147483648, 2147483647)], some (.inl (-2147483648, 2147483647)), ["java/lang/IndexOutOfBoundsException"], [], 2, 0, [])
set_option maxRecDepth 100000 in
theorem cok_295 {KO : List Nat} (hK : KOS KO) : cOk KD0 KO G0 ctr_295 := chk_ok (G0_xOK hK) fm_n (show chk KD0 G0 (aX KD0) nX 2000 2 [] ctr_295 = true by decide +kernel)
-- X1_keep
set_option maxRecDepth 100000 in
def ctr_296 : CTR := (9, [.inr (some 35), .inr (some 25)], none, [], [(4, 0), (5, 0), (6, 0), (7, 0), (8, 0), (9, 0), (10, 0), (11, 0), (25, 0), (25, 1), (25, 2), (35, 0), (35, 1)], 2, 0, [])
set_option maxRecDepth 100000 in
theorem cok_296 {KO : List Nat} (hK : KOS KO) : cOk KD0 KO G0 ctr_296 := chk_ok (G0_xOK hK) (fm_c (cok_35 hK) fm_n) (show chk KD0 G0 (aX KD0) nX 2000 2 [ctr_35] ctr_296 = true by decide +kernel)
-- X11_addGuard
set_option maxRecDepth 100000 in
def ctr_297 : CTR := (163, [.inr (some 36), .inl (-2147483648, 2147483647), .inl (-2147483648, 2147483647)], some (.inl (-1, 5)), ["java/lang/IllegalArgumentException", "java/lang/IllegalStateException", "java/lang/IndexOutOfBoundsException"], [(4, 0), (5, 0), (6, 0), (7, 0), (8, 0), (9, 0), (10, 0), (11, 0), (25, 0), (25, 1), (25, 2), (35, 0), (35, 1)], 3, 0, [])
set_option maxRecDepth 100000 in
theorem cok_297 {KO : List Nat} (hK : KOS KO) : cOk KD0 KO G0 ctr_297 := chk_ok (G0_xOK hK) (fm_c (cok_27 hK) (fm_c (cok_46 hK) (fm_c (cok_56 hK) (fm_c (cok_58 hK) (fm_c (cok_106 hK) (fm_c (cok_296 hK) fm_n)))))) (show chk KD0 G0 (aX KD0) nX 2000 2 [ctr_27, ctr_46, ctr_56, ctr_58, ctr_106, ctr_296] ctr_297 = true by decide +kernel)
-- X6_dropGuard
set_option maxRecDepth 100000 in
def ctr_298 : CTR := (58, [.inr (some 25), .inl (-2147483648, 2147483647)], none, [], [(6, 0), (7, 0), (8, 0), (25, 1)], 1, 0, [(15, [(0, .inr (some 25)), (1, .inl (0, 5)), (2, .inl (0, 5))], [], [(0, 1, (1, 6))], 10, [(2, -2)])])
set_option maxRecDepth 100000 in
theorem cok_298 {KO : List Nat} (hK : KOS KO) : cOk KD0 KO G0 ctr_298 := chk_ok (G0_xOK hK) fm_n (show chk KD0 G0 (aX KD0) nX 2000 14 [] ctr_298 = true by decide +kernel)
-- X11_removeGuard
set_option maxRecDepth 100000 in
def ctr_299 : CTR := (164, [.inr (some 36), .inl (-2147483648, 2147483647)], some (.inl (0, 6)), ["java/lang/IllegalStateException", "java/lang/IndexOutOfBoundsException"], [(4, 0), (5, 0), (6, 0), (7, 0), (8, 0), (9, 0), (10, 0), (11, 0), (25, 0), (25, 1), (25, 2), (35, 0), (35, 1)], 3, 0, [])
set_option maxRecDepth 100000 in
theorem cok_299 {KO : List Nat} (hK : KOS KO) : cOk KD0 KO G0 ctr_299 := chk_ok (G0_xOK hK) (fm_c (cok_46 hK) (fm_c (cok_296 hK) (fm_c (cok_298 hK) fm_n))) (show chk KD0 G0 (aX KD0) nX 2000 2 [ctr_46, ctr_296, ctr_298] ctr_299 = true by decide +kernel)
