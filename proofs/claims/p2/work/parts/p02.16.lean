-- L_triangleArea
set_option maxRecDepth 100000 in
def ctr_400 : CTR := (330, [.inr (some 36), .inl (-2147483648, 2147483647), .inr (some 57)], some (.inl (0, 2)), [], [(13, 0), (14, 0), (15, 0), (16, 0), (17, 0), (18, 0), (31, 7), (31, 8), (57, 0)], 8, 1, [], [], [])
set_option maxRecDepth 100000 in
theorem cok_400 {KO : List Nat} (hK : KOK KO) : cOk KD0 KO G0 ctr_400 := chk_ok (G0_xOK hK.1) (chkS_ok (show chkS sgl0 [ctr_170] ctr_400 = true by decide +kernel) hK.2) (fm_c (cok_170 hK) fm_n) (show chk KD0 G0 (aX KD0) nX 2000 2 [ctr_170] ctr_400 = true by decide +kernel)
-- L_colour
set_option maxRecDepth 100000 in
def ctr_401 : CTR := (331, [.inr (some 36), .inl (-2147483648, 2147483647), .inr (some 57)], some (.inl (0, 2)), [], [(13, 0), (14, 0), (15, 0), (16, 0), (17, 0), (18, 0), (31, 7), (31, 8), (57, 0)], 8, 1, [], [], [])
set_option maxRecDepth 100000 in
theorem cok_401 {KO : List Nat} (hK : KOK KO) : cOk KD0 KO G0 ctr_401 := chk_ok (G0_xOK hK.1) (chkS_ok (show chkS sgl0 [ctr_172] ctr_401 = true by decide +kernel) hK.2) (fm_c (cok_172 hK) fm_n) (show chk KD0 G0 (aX KD0) nX 2000 2 [ctr_172] ctr_401 = true by decide +kernel)
-- L_colourGuards
set_option maxRecDepth 100000 in
def ctr_402 : CTR := (332, [.inr (some 36), .inr (some 57)], some (.inl (0, 1)), [], [(13, 0), (14, 0), (15, 0), (16, 0), (17, 0), (18, 0), (31, 7), (31, 8), (57, 0)], 8, 1, [], [], [])
set_option maxRecDepth 100000 in
theorem cok_402 {KO : List Nat} (hK : KOK KO) : cOk KD0 KO G0 ctr_402 := chk_ok (G0_xOK hK.1) (chkS_ok (show chkS sgl0 [ctr_176] ctr_402 = true by decide +kernel) hK.2) (fm_c (cok_176 hK) fm_n) (show chk KD0 G0 (aX KD0) nX 2000 2 [ctr_176] ctr_402 = true by decide +kernel)
-- L_vertexGuards
set_option maxRecDepth 100000 in
def ctr_403 : CTR := (333, [.inr (some 36), .inr (some 57)], some (.inl (0, 1)), [], [(12, 0), (19, 0), (30, 3), (32, 6), (57, 0)], 8, 1, [], [], [])
set_option maxRecDepth 100000 in
theorem cok_403 {KO : List Nat} (hK : KOK KO) : cOk KD0 KO G0 ctr_403 := chk_ok (G0_xOK hK.1) (chkS_ok (show chkS sgl0 [ctr_180] ctr_403 = true by decide +kernel) hK.2) (fm_c (cok_180 hK) fm_n) (show chk KD0 G0 (aX KD0) nX 2000 2 [ctr_180] ctr_403 = true by decide +kernel)
-- L_edgeGuards
set_option maxRecDepth 100000 in
def ctr_404 : CTR := (334, [.inr (some 36), .inr (some 57)], some (.inl (0, 1)), [], [(12, 0), (19, 0), (30, 3), (32, 7), (57, 0)], 8, 1, [], [], [])
set_option maxRecDepth 100000 in
theorem cok_404 {KO : List Nat} (hK : KOK KO) : cOk KD0 KO G0 ctr_404 := chk_ok (G0_xOK hK.1) (chkS_ok (show chkS sgl0 [ctr_182] ctr_404 = true by decide +kernel) hK.2) (fm_c (cok_182 hK) fm_n) (show chk KD0 G0 (aX KD0) nX 2000 2 [ctr_182] ctr_404 = true by decide +kernel)
-- L_guardNumber
set_option maxRecDepth 100000 in
def ctr_405 : CTR := (335, [.inr (some 36), .inr (some 57)], some (.inl (0, 1)), [], [(12, 0), (20, 0), (21, 0), (30, 3), (32, 8), (57, 0)], 8, 1, [], [], [])
set_option maxRecDepth 100000 in
theorem cok_405 {KO : List Nat} (hK : KOK KO) : cOk KD0 KO G0 ctr_405 := chk_ok (G0_xOK hK.1) (chkS_ok (show chkS sgl0 [ctr_286] ctr_405 = true by decide +kernel) hK.2) (fm_c (cok_286 hK) fm_n) (show chk KD0 G0 (aX KD0) nX 2000 2 [ctr_286] ctr_405 = true by decide +kernel)
-- L_guardPoint
set_option maxRecDepth 100000 in
def ctr_406 : CTR := (336, [.inr (some 36), .inl (-2147483648, 2147483647), .inr (some 57)], some (.inl (0, 2)), [], [(12, 0), (20, 0), (21, 0), (30, 3), (32, 8), (57, 0)], 8, 1, [], [], [])
set_option maxRecDepth 100000 in
theorem cok_406 {KO : List Nat} (hK : KOK KO) : cOk KD0 KO G0 ctr_406 := chk_ok (G0_xOK hK.1) (chkS_ok (show chkS sgl0 [ctr_288] ctr_406 = true by decide +kernel) hK.2) (fm_c (cok_288 hK) fm_n) (show chk KD0 G0 (aX KD0) nX 2000 2 [ctr_288] ctr_406 = true by decide +kernel)
-- L_witnessNumber
set_option maxRecDepth 100000 in
def ctr_407 : CTR := (337, [.inr (some 36), .inr (some 57)], some (.inl (0, 1)), [], [(12, 0), (22, 0), (23, 0), (30, 3), (33, 3), (57, 0)], 8, 1, [], [], [])
set_option maxRecDepth 100000 in
theorem cok_407 {KO : List Nat} (hK : KOK KO) : cOk KD0 KO G0 ctr_407 := chk_ok (G0_xOK hK.1) (chkS_ok (show chkS sgl0 [ctr_304] ctr_407 = true by decide +kernel) hK.2) (fm_c (cok_304 hK) fm_n) (show chk KD0 G0 (aX KD0) nX 2000 2 [ctr_304] ctr_407 = true by decide +kernel)
-- L_witness
set_option maxRecDepth 100000 in
def ctr_408 : CTR := (338, [.inr (some 36), .inl (-2147483648, 2147483647), .inr (some 57)], some (.inl (0, 2)), [], [(12, 0), (22, 0), (23, 0), (30, 3), (33, 3), (57, 0)], 8, 1, [], [], [])
set_option maxRecDepth 100000 in
theorem cok_408 {KO : List Nat} (hK : KOK KO) : cOk KD0 KO G0 ctr_408 := chk_ok (G0_xOK hK.1) (chkS_ok (show chkS sgl0 [ctr_306] ctr_408 = true by decide +kernel) hK.2) (fm_c (cok_306 hK) fm_n) (show chk KD0 G0 (aX KD0) nX 2000 2 [ctr_306] ctr_408 = true by decide +kernel)
-- L_hiddenNumber
set_option maxRecDepth 100000 in
def ctr_409 : CTR := (339, [.inr (some 36), .inr (some 57)], some (.inl (0, 1)), [], [(12, 0), (30, 3), (33, 4), (57, 0)], 18, 1, [], [], [])
set_option maxRecDepth 100000 in
theorem cok_409 {KO : List Nat} (hK : KOK KO) : cOk KD0 KO G0 ctr_409 := chk_ok (G0_xOK hK.1) (chkS_ok (show chkS sgl0 [ctr_324] ctr_409 = true by decide +kernel) hK.2) (fm_c (cok_324 hK) fm_n) (show chk KD0 G0 (aX KD0) nX 2000 2 [ctr_324] ctr_409 = true by decide +kernel)
-- L_guardAt
set_option maxRecDepth 100000 in
def ctr_410 : CTR := (340, [.inr (some 36), .inl (-2147483648, 2147483647), .inr (some 57)], some (.inl (0, 2)), [], [(57, 0)], 4, 1, [], [], [])
set_option maxRecDepth 100000 in
theorem cok_410 {KO : List Nat} (hK : KOK KO) : cOk KD0 KO G0 ctr_410 := chk_ok (G0_xOK hK.1) (chkS_ok (show chkS sgl0 [ctr_329] ctr_410 = true by decide +kernel) hK.2) (fm_c (cok_329 hK) fm_n) (show chk KD0 G0 (aX KD0) nX 2000 2 [ctr_329] ctr_410 = true by decide +kernel)
-- L_guardRange
set_option maxRecDepth 100000 in
def ctr_411 : CTR := (341, [.inr (some 36), .inl (-2147483648, 2147483647), .inr (some 57)], some (.inl (0, 2)), [], [(57, 0)], 3, 1, [], [], [])
set_option maxRecDepth 100000 in
theorem cok_411 {KO : List Nat} (hK : KOK KO) : cOk KD0 KO G0 ctr_411 := chk_ok (G0_xOK hK.1) (chkS_ok (show chkS sgl0 [ctr_331] ctr_411 = true by decide +kernel) hK.2) (fm_c (cok_331 hK) fm_n) (show chk KD0 G0 (aX KD0) nX 2000 2 [ctr_331] ctr_411 = true by decide +kernel)
-- L_watched
set_option maxRecDepth 100000 in
def ctr_412 : CTR := (342, [.inr (some 36), .inl (-2147483648, 2147483647), .inr (some 57)], some (.inl (0, 2)), [], [(12, 0), (30, 3), (57, 0)], 8, 1, [], [], [])
set_option maxRecDepth 100000 in
theorem cok_412 {KO : List Nat} (hK : KOK KO) : cOk KD0 KO G0 ctr_412 := chk_ok (G0_xOK hK.1) (chkS_ok (show chkS sgl0 [ctr_334] ctr_412 = true by decide +kernel) hK.2) (fm_c (cok_334 hK) fm_n) (show chk KD0 G0 (aX KD0) nX 2000 2 [ctr_334] ctr_412 = true by decide +kernel)
-- L_unwatched
set_option maxRecDepth 100000 in
def ctr_413 : CTR := (343, [.inr (some 36), .inr (some 57)], some (.inl (0, 1)), [], [(12, 0), (30, 3), (57, 0)], 8, 1, [], [], [])
set_option maxRecDepth 100000 in
theorem cok_413 {KO : List Nat} (hK : KOK KO) : cOk KD0 KO G0 ctr_413 := chk_ok (G0_xOK hK.1) (chkS_ok (show chkS sgl0 [ctr_336] ctr_413 = true by decide +kernel) hK.2) (fm_c (cok_336 hK) fm_n) (show chk KD0 G0 (aX KD0) nX 2000 2 [ctr_336] ctr_413 = true by decide +kernel)
-- L_watchers
set_option maxRecDepth 100000 in
def ctr_414 : CTR := (344, [.inr (some 36), .inl (-2147483648, 2147483647), .inr (some 57)], some (.inl (0, 2)), [], [(12, 0), (30, 3), (57, 0)], 8, 1, [], [], [])
set_option maxRecDepth 100000 in
theorem cok_414 {KO : List Nat} (hK : KOK KO) : cOk KD0 KO G0 ctr_414 := chk_ok (G0_xOK hK.1) (chkS_ok (show chkS sgl0 [ctr_338] ctr_414 = true by decide +kernel) hK.2) (fm_c (cok_338 hK) fm_n) (show chk KD0 G0 (aX KD0) nX 2000 2 [ctr_338] ctr_414 = true by decide +kernel)
-- L_redundantGuards
set_option maxRecDepth 100000 in
def ctr_415 : CTR := (345, [.inr (some 36), .inr (some 57)], some (.inl (0, 1)), [], [(12, 0), (30, 3), (57, 0)], 8, 1, [], [], [])
set_option maxRecDepth 100000 in
theorem cok_415 {KO : List Nat} (hK : KOK KO) : cOk KD0 KO G0 ctr_415 := chk_ok (G0_xOK hK.1) (chkS_ok (show chkS sgl0 [ctr_340] ctr_415 = true by decide +kernel) hK.2) (fm_c (cok_340 hK) fm_n) (show chk KD0 G0 (aX KD0) nX 2000 2 [ctr_340] ctr_415 = true by decide +kernel)
-- L_bestPoint
set_option maxRecDepth 100000 in
def ctr_416 : CTR := (346, [.inr (some 36), .inr (some 57)], some (.inl (0, 1)), [], [(12, 0), (30, 3), (57, 0)], 8, 1, [], [], [])
set_option maxRecDepth 100000 in
theorem cok_416 {KO : List Nat} (hK : KOK KO) : cOk KD0 KO G0 ctr_416 := chk_ok (G0_xOK hK.1) (chkS_ok (show chkS sgl0 [ctr_342] ctr_416 = true by decide +kernel) hK.2) (fm_c (cok_342 hK) fm_n) (show chk KD0 G0 (aX KD0) nX 2000 2 [ctr_342] ctr_416 = true by decide +kernel)
-- L_greedyGuards
set_option maxRecDepth 100000 in
def ctr_417 : CTR := (347, [.inr (some 36), .inr (some 57)], some (.inl (0, 1)), [], [(12, 0), (30, 3), (57, 0)], 8, 1, [], [], [])
set_option maxRecDepth 100000 in
theorem cok_417 {KO : List Nat} (hK : KOK KO) : cOk KD0 KO G0 ctr_417 := chk_ok (G0_xOK hK.1) (chkS_ok (show chkS sgl0 [ctr_344] ctr_417 = true by decide +kernel) hK.2) (fm_c (cok_344 hK) fm_n) (show chk KD0 G0 (aX KD0) nX 2000 2 [ctr_344] ctr_417 = true by decide +kernel)
-- L_treasureAt
set_option maxRecDepth 100000 in
def ctr_418 : CTR := (348, [.inr (some 36), .inl (-2147483648, 2147483647), .inr (some 57)], some (.inl (0, 2)), [], [(57, 0)], 4, 1, [], [], [])
set_option maxRecDepth 100000 in
theorem cok_418 {KO : List Nat} (hK : KOK KO) : cOk KD0 KO G0 ctr_418 := chk_ok (G0_xOK hK.1) (chkS_ok (show chkS sgl0 [ctr_349] ctr_418 = true by decide +kernel) hK.2) (fm_c (cok_349 hK) fm_n) (show chk KD0 G0 (aX KD0) nX 2000 2 [ctr_349] ctr_418 = true by decide +kernel)
-- L_watchedValue
set_option maxRecDepth 100000 in
def ctr_419 : CTR := (349, [.inr (some 36), .inr (some 57)], some (.inl (0, 1)), [], [(12, 0), (30, 3), (57, 0)], 8, 1, [], [], [])
set_option maxRecDepth 100000 in
theorem cok_419 {KO : List Nat} (hK : KOK KO) : cOk KD0 KO G0 ctr_419 := chk_ok (G0_xOK hK.1) (chkS_ok (show chkS sgl0 [ctr_352] ctr_419 = true by decide +kernel) hK.2) (fm_c (cok_352 hK) fm_n) (show chk KD0 G0 (aX KD0) nX 2000 2 [ctr_352] ctr_419 = true by decide +kernel)
-- L_bestValue
set_option maxRecDepth 100000 in
def ctr_420 : CTR := (350, [.inr (some 36), .inr (some 57)], some (.inl (0, 1)), [], [(12, 0), (30, 3), (57, 0)], 8, 1, [], [], [])
set_option maxRecDepth 100000 in
theorem cok_420 {KO : List Nat} (hK : KOK KO) : cOk KD0 KO G0 ctr_420 := chk_ok (G0_xOK hK.1) (chkS_ok (show chkS sgl0 [ctr_354] ctr_420 = true by decide +kernel) hK.2) (fm_c (cok_354 hK) fm_n) (show chk KD0 G0 (aX KD0) nX 2000 2 [ctr_354] ctr_420 = true by decide +kernel)
-- L_draw
set_option maxRecDepth 100000 in
def ctr_421 : CTR := (351, [.inr (some 36), .inl (-2147483648, 2147483647), .inr (some 57)], some (.inl (0, 2)), [], [(12, 0), (24, 0), (30, 3), (36, 15), (57, 0)], 8, 1, [], [], [])
set_option maxRecDepth 100000 in
theorem cok_421 {KO : List Nat} (hK : KOK KO) : cOk KD0 KO G0 ctr_421 := chk_ok (G0_xOK hK.1) (chkS_ok (show chkS sgl0 [ctr_359] ctr_421 = true by decide +kernel) hK.2) (fm_c (cok_359 hK) fm_n) (show chk KD0 G0 (aX KD0) nX 2000 2 [ctr_359] ctr_421 = true by decide +kernel)
-- L_drawnByte
set_option maxRecDepth 100000 in
def ctr_422 : CTR := (352, [.inr (some 36), .inl (-2147483648, 2147483647), .inr (some 57)], some (.inl (0, 1)), [], [(57, 0)], 3, 1, [], [], [])
set_option maxRecDepth 100000 in
theorem cok_422 {KO : List Nat} (hK : KOK KO) : cOk KD0 KO G0 ctr_422 := chk_ok (G0_xOK hK.1) (chkS_ok (show chkS sgl0 [ctr_360] ctr_422 = true by decide +kernel) hK.2) (fm_c (cok_360 hK) fm_n) (show chk KD0 G0 (aX KD0) nX 2000 2 [ctr_360] ctr_422 = true by decide +kernel)
-- L_addGuard
set_option maxRecDepth 100000 in
def ctr_423 : CTR := (353, [.inr (some 36), .inl (-2147483648, 2147483647), .inl (-2147483648, 2147483647), .inr (some 57)], some (.inl (0, 3)), [], [(4, 0), (5, 0), (6, 0), (7, 0), (8, 0), (9, 0), (10, 0), (11, 0), (25, 0), (25, 1), (25, 2), (35, 0), (35, 1), (57, 0)], 4, 1, [], [], [])
set_option maxRecDepth 100000 in
theorem cok_423 {KO : List Nat} (hK : KOK KO) : cOk KD0 KO G0 ctr_423 := chk_ok (G0_xOK hK.1) (chkS_ok (show chkS sgl0 [ctr_362] ctr_423 = true by decide +kernel) hK.2) (fm_c (cok_362 hK) fm_n) (show chk KD0 G0 (aX KD0) nX 2000 2 [ctr_362] ctr_423 = true by decide +kernel)
-- L_removeGuard
set_option maxRecDepth 100000 in
def ctr_424 : CTR := (354, [.inr (some 36), .inl (-2147483648, 2147483647), .inr (some 57)], some (.inl (0, 2)), [], [(4, 0), (5, 0), (6, 0), (7, 0), (8, 0), (9, 0), (10, 0), (11, 0), (25, 0), (25, 1), (25, 2), (35, 0), (35, 1), (57, 0)], 4, 1, [], [], [])
set_option maxRecDepth 100000 in
theorem cok_424 {KO : List Nat} (hK : KOK KO) : cOk KD0 KO G0 ctr_424 := chk_ok (G0_xOK hK.1) (chkS_ok (show chkS sgl0 [ctr_364] ctr_424 = true by decide +kernel) hK.2) (fm_c (cok_364 hK) fm_n) (show chk KD0 G0 (aX KD0) nX 2000 2 [ctr_364] ctr_424 = true by decide +kernel)
