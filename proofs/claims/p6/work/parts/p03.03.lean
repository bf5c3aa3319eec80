-- X12_turn
set_option maxRecDepth 100000 in
def ctr_508 : CTR := (235, [.inr (some 58), .inl (-1, 11), .inl (0, 7), .inl (0, 0)], some (.inl (-1, 1)), [], [], 3, 0, [], [], [])
set_option maxRecDepth 100000 in
theorem cok_508 {KO : List Nat} (hK : KOK KO) : cOk KD0 KO G0 ctr_508 := chk_ok (G0_xOK hK.1) (chkS_ok (show chkS sgl0 [ctr_442, ctr_457, ctr_493] ctr_508 = true by decide +kernel) hK.2) (fm_c (cok_442 hK) (fm_c (cok_457 hK) (fm_c (cok_493 hK) fm_n))) (show chk KD0 G0 (aX KD0) nX 2000 2 [ctr_442, ctr_457, ctr_493] ctr_508 = true by decide +kernel)
-- X12_turn
set_option maxRecDepth 100000 in
def ctr_509 : CTR := (235, [.inr (some 58), .inl (-1, 11), .inl (0, 8), .inl (1, 9)], some (.inl (-1, 1)), [], [], 3, 0, [], [], [])
set_option maxRecDepth 100000 in
theorem cok_509 {KO : List Nat} (hK : KOK KO) : cOk KD0 KO G0 ctr_509 := chk_ok (G0_xOK hK.1) (chkS_ok (show chkS sgl0 [ctr_442, ctr_457, ctr_493] ctr_509 = true by decide +kernel) hK.2) (fm_c (cok_442 hK) (fm_c (cok_457 hK) (fm_c (cok_493 hK) fm_n))) (show chk KD0 G0 (aX KD0) nX 2000 2 [ctr_442, ctr_457, ctr_493] ctr_509 = true by decide +kernel)
-- X12_turn
set_option maxRecDepth 100000 in
def ctr_510 : CTR := (235, [.inr (some 58), .inl (-1, 11), .inl (0, 8), .inl (0, 0)], some (.inl (-1, 1)), [], [], 3, 0, [], [], [])
set_option maxRecDepth 100000 in
theorem cok_510 {KO : List Nat} (hK : KOK KO) : cOk KD0 KO G0 ctr_510 := chk_ok (G0_xOK hK.1) (chkS_ok (show chkS sgl0 [ctr_442, ctr_457, ctr_493] ctr_510 = true by decide +kernel) hK.2) (fm_c (cok_442 hK) (fm_c (cok_457 hK) (fm_c (cok_493 hK) fm_n))) (show chk KD0 G0 (aX KD0) nX 2000 2 [ctr_442, ctr_457, ctr_493] ctr_510 = true by decide +kernel)
-- X12_turn
set_option maxRecDepth 100000 in
def ctr_511 : CTR := (235, [.inr (some 58), .inl (-1, 11), .inl (0, 10), .inl (1, 11)], some (.inl (-1, 1)), [], [], 3, 0, [], [], [])
set_option maxRecDepth 100000 in
theorem cok_511 {KO : List Nat} (hK : KOK KO) : cOk KD0 KO G0 ctr_511 := chk_ok (G0_xOK hK.1) (chkS_ok (show chkS sgl0 [ctr_442, ctr_457, ctr_493] ctr_511 = true by decide +kernel) hK.2) (fm_c (cok_442 hK) (fm_c (cok_457 hK) (fm_c (cok_493 hK) fm_n))) (show chk KD0 G0 (aX KD0) nX 2000 2 [ctr_442, ctr_457, ctr_493] ctr_511 = true by decide +kernel)
-- X12_turn
set_option maxRecDepth 100000 in
def ctr_512 : CTR := (235, [.inr (some 58), .inl (-1, 11), .inl (0, 10), .inl (0, 0)], some (.inl (-1, 1)), [], [], 3, 0, [], [], [])
set_option maxRecDepth 100000 in
theorem cok_512 {KO : List Nat} (hK : KOK KO) : cOk KD0 KO G0 ctr_512 := chk_ok (G0_xOK hK.1) (chkS_ok (show chkS sgl0 [ctr_442, ctr_457, ctr_493] ctr_512 = true by decide +kernel) hK.2) (fm_c (cok_442 hK) (fm_c (cok_457 hK) (fm_c (cok_493 hK) fm_n))) (show chk KD0 G0 (aX KD0) nX 2000 2 [ctr_442, ctr_457, ctr_493] ctr_512 = true by decide +kernel)
-- X12_turn
set_option maxRecDepth 100000 in
def ctr_513 : CTR := (235, [.inr (some 58), .inl (-1, 11), .inl (0, 11), .inl (1, 12)], some (.inl (-1, 1)), [], [], 3, 0, [], [], [])
set_option maxRecDepth 100000 in
theorem cok_513 {KO : List Nat} (hK : KOK KO) : cOk KD0 KO G0 ctr_513 := chk_ok (G0_xOK hK.1) (chkS_ok (show chkS sgl0 [ctr_442, ctr_457, ctr_493] ctr_513 = true by decide +kernel) hK.2) (fm_c (cok_442 hK) (fm_c (cok_457 hK) (fm_c (cok_493 hK) fm_n))) (show chk KD0 G0 (aX KD0) nX 2000 2 [ctr_442, ctr_457, ctr_493] ctr_513 = true by decide +kernel)
-- X12_turn
set_option maxRecDepth 100000 in
def ctr_514 : CTR := (235, [.inr (some 58), .inl (-1, 11), .inl (0, 11), .inl (0, 0)], some (.inl (-1, 1)), [], [], 3, 0, [], [], [])
set_option maxRecDepth 100000 in
theorem cok_514 {KO : List Nat} (hK : KOK KO) : cOk KD0 KO G0 ctr_514 := chk_ok (G0_xOK hK.1) (chkS_ok (show chkS sgl0 [ctr_442, ctr_457, ctr_493] ctr_514 = true by decide +kernel) hK.2) (fm_c (cok_442 hK) (fm_c (cok_457 hK) (fm_c (cok_493 hK) fm_n))) (show chk KD0 G0 (aX KD0) nX 2000 2 [ctr_442, ctr_457, ctr_493] ctr_514 = true by decide +kernel)
-- X12_reflexVertices
set_option maxRecDepth 100000 in
def ctr_515 : CTR := (236, [.inr (some 58)], some (.inl (-2147483648, 2147483647)), [], [(58, 0)], 4, 0, [(22, [(0, .inr (some 58)), (1, .inl (-2147483648, 2147483647)), (2, .inl (-1, 11)), (3, .inl (0, 12))], [], [(0, 0, (0, 0)), (0, 1, (1, 1))], 24, [((3, none), -2)], [])], [], [])
set_option maxRecDepth 100000 in
theorem cok_515 {KO : List Nat} (hK : KOK KO) : cOk KD0 KO G0 ctr_515 := chk_ok (G0_xOK hK.1) (chkS_ok (show chkS sgl0 [ctr_495, ctr_496, ctr_497, ctr_498, ctr_499, ctr_500, ctr_501, ctr_502, ctr_503, ctr_504, ctr_505, ctr_506, ctr_507, ctr_508, ctr_509, ctr_510, ctr_511, ctr_512, ctr_513, ctr_514] ctr_515 = true by decide +kernel) hK.2) (fm_c (cok_495 hK) (fm_c (cok_496 hK) (fm_c (cok_497 hK) (fm_c (cok_498 hK) (fm_c (cok_499 hK) (fm_c (cok_500 hK) (fm_c (cok_501 hK) (fm_c (cok_502 hK) (fm_c (cok_503 hK) (fm_c (cok_504 hK) (fm_c (cok_505 hK) (fm_c (cok_506 hK) (fm_c (cok_507 hK) (fm_c (cok_508 hK) (fm_c (cok_509 hK) (fm_c (cok_510 hK) (fm_c (cok_511 hK) (fm_c (cok_512 hK) (fm_c (cok_513 hK) (fm_c (cok_514 hK) fm_n)))))))))))))))))))) (show chk KD0 G0 (aX KD0) nX 2000 28 [ctr_495, ctr_496, ctr_497, ctr_498, ctr_499, ctr_500, ctr_501, ctr_502, ctr_503, ctr_504, ctr_505, ctr_506, ctr_507, ctr_508, ctr_509, ctr_510, ctr_511, ctr_512, ctr_513, ctr_514] ctr_515 = true by decide +kernel)
-- X12_boundary
set_option maxRecDepth 100000 in
def ctr_516 : CTR := (237, [.inr (some 58)], some (.inr none), [], [(58, 0)], 5, 0, [(13, [(0, .inr (some 58)), (1, .inr none), (3, .inl (0, 64))], [], [(0, 0, (0, 0)), (0, 1, (1, 1))], 128, [((3, none), -2)], [])], [], [])
set_option maxRecDepth 100000 in
theorem cok_516 {KO : List Nat} (hK : KOK KO) : cOk KD0 KO G0 ctr_516 := chk_ok (G0_xOK hK.1) (chkS_ok (show chkS sgl0 [ctr_454] ctr_516 = true by decide +kernel) hK.2) (fm_c (cok_454 hK) fm_n) (show chk KD0 G0 (aX KD0) nX 2000 132 [ctr_454] ctr_516 = true by decide +kernel)
-- X12_isFree
set_option maxRecDepth 100000 in
def ctr_517 : CTR := (238, [.inr (some 58), .inr none, .inr none, .inr none, .inr none, .inr none], some (.inl (0, 1)), [], [(41, 0), (42, 0), (43, 0)], 6, 0, [(3, [(0, .inr (some 58)), (1, .inr none), (3, .inr none), (5, .inr none), (7, .inr none), (9, .inr none), (11, .inl (0, 12))], [], [], 390, [((11, none), -2)], []), (200, [(0, .inr (some 58)), (1, .inr none), (3, .inr none), (5, .inr none), (7, .inr none), (9, .inr none), (11, .inl (1, 13)), (12, .inl (0, 12))], [], [], 364, [((12, none), -26)], [((11, none), (12, none), -1)]), (286, [(0, .inr (some 58)), (1, .inr none), (3, .inr none), (5, .inr none), (7, .inr none), (9, .inr none), (11, .inl (1, 12)), (12, .inl (0, 11)), (13, .inr none), (15, .inr none), (17, .inr none), (19, .inl (1, 12))], [], [], 338, [((12, none), -26), ((19, none), 2)], [((11, none), (12, none), -1)]), (418, [(0, .inr (some 58)), (1, .inr none), (3, .inr none), (5, .inr none), (7, .inr none), (9, .inr none), (11, .inl (1, 13)), (12, .inl (0, 13))], [], [], 26, [((12, none), -2)], [])], [], [])
set_option maxRecDepth 100000 in
theorem cok_517 {KO : List Nat} (hK : KOK KO) : cOk KD0 KO G0 ctr_517 := chk_ok (G0_xOK hK.1) (chkS_ok (show chkS sgl0 [ctr_442, ctr_443, ctr_455, ctr_457] ctr_517 = true by decide +kernel) hK.2) (fm_c (cok_442 hK) (fm_c (cok_443 hK) (fm_c (cok_455 hK) (fm_c (cok_457 hK) fm_n)))) (show chk KD0 G0 (aX KD0) nX 2000 394 [ctr_442, ctr_443, ctr_455, ctr_457] ctr_517 = true by decide +kernel)
-- X12_laysSight
set_option maxRecDepth 100000 in
def ctr_518 : CTR := (239, [.inr (some 58)], none, [], [(41, 0), (42, 0), (43, 0), (44, 0), (45, 0), (58, 27), (58, 34), (58, 36)], 7, 0, [(25, [(0, .inr (some 58)), (1, .inl (0, 64))], [], [(0, 27, (1, 1)), (0, 34, (0, 0)), (0, 36, (0, 0))], 10294, [((1, none), -2)], []), (50, [(0, .inr (some 58)), (1, .inl (0, 64))], [], [(0, 20, (0, 64)), (0, 27, (1, 1)), (0, 34, (0, 0)), (0, 36, (0, 0))], 10164, [((1, none), -130)], []), (60, [(0, .inr (some 58)), (1, .inl (0, 63)), (2, .inl (0, 63))], [], [(0, 20, (1, 64)), (0, 27, (1, 1)), (0, 34, (0, 0)), (0, 36, (0, 0))], 10162, [((1, none), -130), ((2, none), -2)], []), (139, [(0, .inr (some 58)), (1, .inl (0, 12))], [], [(0, 20, (0, 64)), (0, 27, (1, 1)), (0, 34, (0, 0)), (0, 36, (0, 0))], 1714, [((1, none), -132)], []), (158, [(0, .inr (some 58)), (1, .inl (0, 11)), (2, .inl (0, 64))], [], [(0, 20, (0, 64)), (0, 27, (1, 1)), (0, 34, (0, 0)), (0, 36, (0, 0))], 1712, [((1, none), -132), ((2, none), -2)], [])], [], [])
set_option maxRecDepth 100000 in
theorem cok_518 {KO : List Nat} (hK : KOK KO) : cOk KD0 KO G0 ctr_518 := chk_ok (G0_xOK hK.1) (chkS_ok (show chkS sgl0 [ctr_444, ctr_445, ctr_446, ctr_447, ctr_448, ctr_449, ctr_450, ctr_451, ctr_452, ctr_453, ctr_517] ctr_518 = true by decide +kernel) hK.2) (fm_c (cok_444 hK) (fm_c (cok_445 hK) (fm_c (cok_446 hK) (fm_c (cok_447 hK) (fm_c (cok_448 hK) (fm_c (cok_449 hK) (fm_c (cok_450 hK) (fm_c (cok_451 hK) (fm_c (cok_452 hK) (fm_c (cok_453 hK) (fm_c (cok_517 hK) fm_n))))))))))) (show chk KD0 G0 (aX KD0) nX 2000 10298 [ctr_444, ctr_445, ctr_446, ctr_447, ctr_448, ctr_449, ctr_450, ctr_451, ctr_452, ctr_453, ctr_517] ctr_518 = true by decide +kernel)
-- X12_sees
set_option maxRecDepth 100000 in
def ctr_519 : CTR := (241, [.inr (some 58), .inl (-2147483648, 2147483647), .inl (-2147483648, 2147483647)], some (.inl (0, 1)), [], [(41, 0), (42, 0), (43, 0), (44, 0), (45, 0), (58, 0), (58, 27), (58, 34), (58, 36)], 8, 0, [], [], [])
set_option maxRecDepth 100000 in
theorem cok_519 {KO : List Nat} (hK : KOK KO) : cOk KD0 KO G0 ctr_519 := chk_ok (G0_xOK hK.1) (chkS_ok (show chkS sgl0 [ctr_482, ctr_518] ctr_519 = true by decide +kernel) hK.2) (fm_c (cok_482 hK) (fm_c (cok_518 hK) fm_n)) (show chk KD0 G0 (aX KD0) nX 2000 2 [ctr_482, ctr_518] ctr_519 = true by decide +kernel)
-- X12_visible
set_option maxRecDepth 100000 in
def ctr_520 : CTR := (242, [.inr (some 58), .inl (-2147483648, 2147483647)], some (.inr none), [], [(41, 0), (42, 0), (43, 0), (44, 0), (45, 0), (58, 0), (58, 27), (58, 34), (58, 36)], 8, 0, [], [], [])
set_option maxRecDepth 100000 in
theorem cok_520 {KO : List Nat} (hK : KOK KO) : cOk KD0 KO G0 ctr_520 := chk_ok (G0_xOK hK.1) (chkS_ok (show chkS sgl0 [ctr_518] ctr_520 = true by decide +kernel) hK.2) (fm_c (cok_518 hK) fm_n) (show chk KD0 G0 (aX KD0) nX 2000 2 [ctr_518] ctr_520 = true by decide +kernel)
-- X12_kernel
set_option maxRecDepth 100000 in
def ctr_521 : CTR := (243, [.inr (some 58)], some (.inr none), [], [(41, 0), (42, 0), (43, 0), (44, 0), (45, 0), (58, 0), (58, 27), (58, 34), (58, 36)], 8, 0, [(17, [(0, .inr (some 58)), (1, .inr none), (3, .inl (0, 64))], [], [(0, 0, (0, 0)), (0, 1, (1, 1))], 128, [((3, none), -2)], [])], [], [])
set_option maxRecDepth 100000 in
theorem cok_521 {KO : List Nat} (hK : KOK KO) : cOk KD0 KO G0 ctr_521 := chk_ok (G0_xOK hK.1) (chkS_ok (show chkS sgl0 [ctr_481, ctr_518] ctr_521 = true by decide +kernel) hK.2) (fm_c (cok_481 hK) (fm_c (cok_518 hK) fm_n)) (show chk KD0 G0 (aX KD0) nX 2000 132 [ctr_481, ctr_518] ctr_521 = true by decide +kernel)
-- X12_seenFromEdge
set_option maxRecDepth 100000 in
def ctr_522 : CTR := (248, [.inr (some 58), .inl (-2147483648, 2147483647)], some (.inr none), [], [(41, 0), (42, 0), (43, 0), (44, 0), (45, 0), (58, 0), (58, 27), (58, 34), (58, 36)], 8, 0, [], [], [])
set_option maxRecDepth 100000 in
theorem cok_522 {KO : List Nat} (hK : KOK KO) : cOk KD0 KO G0 ctr_522 := chk_ok (G0_xOK hK.1) (chkS_ok (show chkS sgl0 [ctr_518] ctr_522 = true by decide +kernel) hK.2) (fm_c (cok_518 hK) fm_n) (show chk KD0 G0 (aX KD0) nX 2000 2 [ctr_518] ctr_522 = true by decide +kernel)
-- X12_laysTriangle
set_option maxRecDepth 100000 in
def ctr_523 : CTR := (250, [.inr (some 58), .inl (0, 0), .inl (0, 11), .inl (0, 11), .inl (0, 11)], none, [], [(53, 0)], 1, 0, [], [], [])
set_option maxRecDepth 100000 in
theorem cok_523 {KO : List Nat} (hK : KOK KO) : cOk KD0 KO G0 ctr_523 := chk_ok (G0_xOK hK.1) (chkS_ok (show chkS sgl0 [] ctr_523 = true by decide +kernel) hK.2) fm_n (show chk KD0 G0 (aX KD0) nX 2000 2 [] ctr_523 = true by decide +kernel)
-- X12_turn
set_option maxRecDepth 100000 in
def ctr_524 : CTR := (235, [.inr (some 58), .inl (0, 11), .inl (0, 11), .inl (0, 11)], some (.inl (-1, 1)), [], [], 3, 0, [], [], [])
set_option maxRecDepth 100000 in
theorem cok_524 {KO : List Nat} (hK : KOK KO) : cOk KD0 KO G0 ctr_524 := chk_ok (G0_xOK hK.1) (chkS_ok (show chkS sgl0 [ctr_442, ctr_457, ctr_493] ctr_524 = true by decide +kernel) hK.2) (fm_c (cok_442 hK) (fm_c (cok_457 hK) (fm_c (cok_493 hK) fm_n))) (show chk KD0 G0 (aX KD0) nX 2000 2 [ctr_442, ctr_457, ctr_493] ctr_524 = true by decide +kernel)
-- X12_isEar
set_option maxRecDepth 100000 in
def ctr_525 : CTR := (249, [.inr (some 58), .inl (0, 0), .inl (4, 12)], some (.inl (0, 1)), [], [], 4, 0, [(50, [(0, .inr (some 58)), (1, .inl (0, 0)), (2, .inl (4, 12)), (3, .inl (0, 11)), (4, .inl (0, 11)), (5, .inl (0, 11)), (6, .inl (0, 12))], [], [], 24, [((6, none), -2)], [])], [], [])
set_option maxRecDepth 100000 in
theorem cok_525 {KO : List Nat} (hK : KOK KO) : cOk KD0 KO G0 ctr_525 := chk_ok (G0_xOK hK.1) (chkS_ok (show chkS sgl0 [ctr_524] ctr_525 = true by decide +kernel) hK.2) (fm_c (cok_524 hK) fm_n) (show chk KD0 G0 (aX KD0) nX 2000 28 [ctr_524] ctr_525 = true by decide +kernel)
-- X12_isEar
set_option maxRecDepth 100000 in
def ctr_526 : CTR := (249, [.inr (some 58), .inl (0, 1), .inl (4, 12)], some (.inl (0, 1)), [], [], 4, 0, [(50, [(0, .inr (some 58)), (1, .inl (0, 1)), (2, .inl (4, 12)), (3, .inl (0, 11)), (4, .inl (0, 11)), (5, .inl (0, 11)), (6, .inl (0, 12))], [], [], 24, [((6, none), -2)], [])], [], [])
set_option maxRecDepth 100000 in
theorem cok_526 {KO : List Nat} (hK : KOK KO) : cOk KD0 KO G0 ctr_526 := chk_ok (G0_xOK hK.1) (chkS_ok (show chkS sgl0 [ctr_524] ctr_526 = true by decide +kernel) hK.2) (fm_c (cok_524 hK) fm_n) (show chk KD0 G0 (aX KD0) nX 2000 28 [ctr_524] ctr_526 = true by decide +kernel)
-- X12_isEar
set_option maxRecDepth 100000 in
def ctr_527 : CTR := (249, [.inr (some 58), .inl (0, 2), .inl (4, 12)], some (.inl (0, 1)), [], [], 4, 0, [(50, [(0, .inr (some 58)), (1, .inl (0, 2)), (2, .inl (4, 12)), (3, .inl (0, 11)), (4, .inl (0, 11)), (5, .inl (0, 11)), (6, .inl (0, 12))], [], [], 24, [((6, none), -2)], [])], [], [])
set_option maxRecDepth 100000 in
theorem cok_527 {KO : List Nat} (hK : KOK KO) : cOk KD0 KO G0 ctr_527 := chk_ok (G0_xOK hK.1) (chkS_ok (show chkS sgl0 [ctr_524] ctr_527 = true by decide +kernel) hK.2) (fm_c (cok_524 hK) fm_n) (show chk KD0 G0 (aX KD0) nX 2000 28 [ctr_524] ctr_527 = true by decide +kernel)
-- X12_isEar
set_option maxRecDepth 100000 in
def ctr_528 : CTR := (249, [.inr (some 58), .inl (0, 3), .inl (4, 12)], some (.inl (0, 1)), [], [], 4, 0, [(50, [(0, .inr (some 58)), (1, .inl (0, 3)), (2, .inl (4, 12)), (3, .inl (0, 11)), (4, .inl (0, 11)), (5, .inl (0, 11)), (6, .inl (0, 12))], [], [], 24, [((6, none), -2)], [])], [], [])
set_option maxRecDepth 100000 in
theorem cok_528 {KO : List Nat} (hK : KOK KO) : cOk KD0 KO G0 ctr_528 := chk_ok (G0_xOK hK.1) (chkS_ok (show chkS sgl0 [ctr_524] ctr_528 = true by decide +kernel) hK.2) (fm_c (cok_524 hK) fm_n) (show chk KD0 G0 (aX KD0) nX 2000 28 [ctr_524] ctr_528 = true by decide +kernel)
-- X12_isEar
set_option maxRecDepth 100000 in
def ctr_529 : CTR := (249, [.inr (some 58), .inl (0, 4), .inl (4, 12)], some (.inl (0, 1)), [], [], 4, 0, [(50, [(0, .inr (some 58)), (1, .inl (0, 4)), (2, .inl (4, 12)), (3, .inl (0, 11)), (4, .inl (0, 11)), (5, .inl (0, 11)), (6, .inl (0, 12))], [], [], 24, [((6, none), -2)], [])], [], [])
set_option maxRecDepth 100000 in
theorem cok_529 {KO : List Nat} (hK : KOK KO) : cOk KD0 KO G0 ctr_529 := chk_ok (G0_xOK hK.1) (chkS_ok (show chkS sgl0 [ctr_524] ctr_529 = true by decide +kernel) hK.2) (fm_c (cok_524 hK) fm_n) (show chk KD0 G0 (aX KD0) nX 2000 28 [ctr_524] ctr_529 = true by decide +kernel)
-- X12_isEar
set_option maxRecDepth 100000 in
def ctr_530 : CTR := (249, [.inr (some 58), .inl (0, 6), .inl (4, 12)], some (.inl (0, 1)), [], [], 4, 0, [(50, [(0, .inr (some 58)), (1, .inl (0, 6)), (2, .inl (4, 12)), (3, .inl (0, 11)), (4, .inl (0, 11)), (5, .inl (0, 11)), (6, .inl (0, 12))], [], [], 24, [((6, none), -2)], [])], [], [])
set_option maxRecDepth 100000 in
theorem cok_530 {KO : List Nat} (hK : KOK KO) : cOk KD0 KO G0 ctr_530 := chk_ok (G0_xOK hK.1) (chkS_ok (show chkS sgl0 [ctr_524] ctr_530 = true by decide +kernel) hK.2) (fm_c (cok_524 hK) fm_n) (show chk KD0 G0 (aX KD0) nX 2000 28 [ctr_524] ctr_530 = true by decide +kernel)
-- X12_isEar
set_option maxRecDepth 100000 in
def ctr_531 : CTR := (249, [.inr (some 58), .inl (0, 7), .inl (4, 12)], some (.inl (0, 1)), [], [], 4, 0, [(50, [(0, .inr (some 58)), (1, .inl (0, 7)), (2, .inl (4, 12)), (3, .inl (0, 11)), (4, .inl (0, 11)), (5, .inl (0, 11)), (6, .inl (0, 12))], [], [], 24, [((6, none), -2)], [])], [], [])
set_option maxRecDepth 100000 in
theorem cok_531 {KO : List Nat} (hK : KOK KO) : cOk KD0 KO G0 ctr_531 := chk_ok (G0_xOK hK.1) (chkS_ok (show chkS sgl0 [ctr_524] ctr_531 = true by decide +kernel) hK.2) (fm_c (cok_524 hK) fm_n) (show chk KD0 G0 (aX KD0) nX 2000 28 [ctr_524] ctr_531 = true by decide +kernel)
-- X12_isEar
set_option maxRecDepth 100000 in
def ctr_532 : CTR := (249, [.inr (some 58), .inl (0, 8), .inl (4, 12)], some (.inl (0, 1)), [], [], 4, 0, [(50, [(0, .inr (some 58)), (1, .inl (0, 8)), (2, .inl (4, 12)), (3, .inl (0, 11)), (4, .inl (0, 11)), (5, .inl (0, 11)), (6, .inl (0, 12))], [], [], 24, [((6, none), -2)], [])], [], [])
set_option maxRecDepth 100000 in
theorem cok_532 {KO : List Nat} (hK : KOK KO) : cOk KD0 KO G0 ctr_532 := chk_ok (G0_xOK hK.1) (chkS_ok (show chkS sgl0 [ctr_524] ctr_532 = true by decide +kernel) hK.2) (fm_c (cok_524 hK) fm_n) (show chk KD0 G0 (aX KD0) nX 2000 28 [ctr_524] ctr_532 = true by decide +kernel)
