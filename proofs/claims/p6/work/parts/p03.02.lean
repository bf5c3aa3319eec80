-- X12_vertices
set_option maxRecDepth 100000 in
def ctr_483 : CTR := (220, [.inr (some 58)], some (.inl (0, 12)), [], [(58, 0)], 2, 0, [], [], [])
set_option maxRecDepth 100000 in
theorem cok_483 {KO : List Nat} (hK : KOK KO) : cOk KD0 KO G0 ctr_483 := chk_ok (G0_xOK hK.1) (chkS_ok (show chkS sgl0 [] ctr_483 = true by decide +kernel) hK.2) fm_n (show chk KD0 G0 (aX KD0) nX 2000 2 [] ctr_483 = true by decide +kernel)
-- X12_points
set_option maxRecDepth 100000 in
def ctr_484 : CTR := (221, [.inr (some 58)], some (.inl (0, 64)), [], [(58, 0)], 2, 0, [], [], [])
set_option maxRecDepth 100000 in
theorem cok_484 {KO : List Nat} (hK : KOK KO) : cOk KD0 KO G0 ctr_484 := chk_ok (G0_xOK hK.1) (chkS_ok (show chkS sgl0 [] ctr_484 = true by decide +kernel) hK.2) fm_n (show chk KD0 G0 (aX KD0) nX 2000 2 [] ctr_484 = true by decide +kernel)
-- X12_guards
set_option maxRecDepth 100000 in
def ctr_485 : CTR := (222, [.inr (some 58)], some (.inl (0, 6)), [], [(58, 0)], 2, 0, [], [], [])
set_option maxRecDepth 100000 in
theorem cok_485 {KO : List Nat} (hK : KOK KO) : cOk KD0 KO G0 ctr_485 := chk_ok (G0_xOK hK.1) (chkS_ok (show chkS sgl0 [] ctr_485 = true by decide +kernel) hK.2) fm_n (show chk KD0 G0 (aX KD0) nX 2000 2 [] ctr_485 = true by decide +kernel)
-- X12_treasures
set_option maxRecDepth 100000 in
def ctr_486 : CTR := (223, [.inr (some 58)], some (.inl (0, 6)), [], [(58, 0)], 2, 0, [], [], [])
set_option maxRecDepth 100000 in
theorem cok_486 {KO : List Nat} (hK : KOK KO) : cOk KD0 KO G0 ctr_486 := chk_ok (G0_xOK hK.1) (chkS_ok (show chkS sgl0 [] ctr_486 = true by decide +kernel) hK.2) fm_n (show chk KD0 G0 (aX KD0) nX 2000 2 [] ctr_486 = true by decide +kernel)
-- X12_undoable
set_option maxRecDepth 100000 in
def ctr_487 : CTR := (224, [.inr (some 58)], some (.inl (0, 8)), [], [(58, 0)], 2, 0, [], [], [])
set_option maxRecDepth 100000 in
theorem cok_487 {KO : List Nat} (hK : KOK KO) : cOk KD0 KO G0 ctr_487 := chk_ok (G0_xOK hK.1) (chkS_ok (show chkS sgl0 [] ctr_487 = true by decide +kernel) hK.2) fm_n (show chk KD0 G0 (aX KD0) nX 2000 2 [] ctr_487 = true by decide +kernel)
-- X12_vertexX
set_option maxRecDepth 100000 in
def ctr_488 : CTR := (228, [.inr (some 58), .inl (-2147483648, 2147483647)], some (.inl (0, 15)), [], [(58, 0)], 4, 0, [], [], [])
set_option maxRecDepth 100000 in
theorem cok_488 {KO : List Nat} (hK : KOK KO) : cOk KD0 KO G0 ctr_488 := chk_ok (G0_xOK hK.1) (chkS_ok (show chkS sgl0 [] ctr_488 = true by decide +kernel) hK.2) fm_n (show chk KD0 G0 (aX KD0) nX 2000 2 [] ctr_488 = true by decide +kernel)
-- X12_vertexY
set_option maxRecDepth 100000 in
def ctr_489 : CTR := (229, [.inr (some 58), .inl (-2147483648, 2147483647)], some (.inl (0, 15)), [], [(58, 0)], 4, 0, [], [], [])
set_option maxRecDepth 100000 in
theorem cok_489 {KO : List Nat} (hK : KOK KO) : cOk KD0 KO G0 ctr_489 := chk_ok (G0_xOK hK.1) (chkS_ok (show chkS sgl0 [] ctr_489 = true by decide +kernel) hK.2) fm_n (show chk KD0 G0 (aX KD0) nX 2000 2 [] ctr_489 = true by decide +kernel)
-- X12_pointX
set_option maxRecDepth 100000 in
def ctr_490 : CTR := (230, [.inr (some 58), .inl (-2147483648, 2147483647)], some (.inl (0, 15)), [], [(58, 0)], 4, 0, [], [], [])
set_option maxRecDepth 100000 in
theorem cok_490 {KO : List Nat} (hK : KOK KO) : cOk KD0 KO G0 ctr_490 := chk_ok (G0_xOK hK.1) (chkS_ok (show chkS sgl0 [] ctr_490 = true by decide +kernel) hK.2) fm_n (show chk KD0 G0 (aX KD0) nX 2000 2 [] ctr_490 = true by decide +kernel)
-- X12_pointY
set_option maxRecDepth 100000 in
def ctr_491 : CTR := (231, [.inr (some 58), .inl (-2147483648, 2147483647)], some (.inl (0, 15)), [], [(58, 0)], 4, 0, [], [], [])
set_option maxRecDepth 100000 in
theorem cok_491 {KO : List Nat} (hK : KOK KO) : cOk KD0 KO G0 ctr_491 := chk_ok (G0_xOK hK.1) (chkS_ok (show chkS sgl0 [] ctr_491 = true by decide +kernel) hK.2) fm_n (show chk KD0 G0 (aX KD0) nX 2000 2 [] ctr_491 = true by decide +kernel)
-- X12_pointAt
set_option maxRecDepth 100000 in
def ctr_492 : CTR := (232, [.inr (some 58), .inl (-2147483648, 2147483647), .inl (-2147483648, 2147483647)], some (.inl (-1, 63)), [], [(58, 0)], 3, 0, [], [], [])
set_option maxRecDepth 100000 in
theorem cok_492 {KO : List Nat} (hK : KOK KO) : cOk KD0 KO G0 ctr_492 := chk_ok (G0_xOK hK.1) (chkS_ok (show chkS sgl0 [] ctr_492 = true by decide +kernel) hK.2) fm_n (show chk KD0 G0 (aX KD0) nX 2000 2 [] ctr_492 = true by decide +kernel)
-- X12_turned
set_option maxRecDepth 100000 in
def ctr_493 : CTR := (233, [.inr (some 58)], some (.inl (-2147483648, 2147483647)), [], [], 2, 0, [(4, [(0, .inr (some 58)), (1, .inl (-2147483648, 2147483647)), (2, .inl (0, 12))], [], [], 24, [((2, none), -2)], [])], [], [])
set_option maxRecDepth 100000 in
theorem cok_493 {KO : List Nat} (hK : KOK KO) : cOk KD0 KO G0 ctr_493 := chk_ok (G0_xOK hK.1) (chkS_ok (show chkS sgl0 [] ctr_493 = true by decide +kernel) hK.2) fm_n (show chk KD0 G0 (aX KD0) nX 2000 28 [] ctr_493 = true by decide +kernel)
-- X12_doubleArea
set_option maxRecDepth 100000 in
def ctr_494 : CTR := (234, [.inr (some 58)], some (.inl (-2147483648, 2147483647)), [], [(58, 0)], 3, 0, [], [], [])
set_option maxRecDepth 100000 in
theorem cok_494 {KO : List Nat} (hK : KOK KO) : cOk KD0 KO G0 ctr_494 := chk_ok (G0_xOK hK.1) (chkS_ok (show chkS sgl0 [ctr_493] ctr_494 = true by decide +kernel) hK.2) (fm_c (cok_493 hK) fm_n) (show chk KD0 G0 (aX KD0) nX 2000 2 [ctr_493] ctr_494 = true by decide +kernel)
-- X12_turn
set_option maxRecDepth 100000 in
def ctr_495 : CTR := (235, [.inr (some 58), .inl (-1, 11), .inl (0, 0), .inl (1, 1)], some (.inl (-1, 1)), [], [], 3, 0, [], [], [])
set_option maxRecDepth 100000 in
theorem cok_495 {KO : List Nat} (hK : KOK KO) : cOk KD0 KO G0 ctr_495 := chk_ok (G0_xOK hK.1) (chkS_ok (show chkS sgl0 [ctr_442, ctr_457, ctr_493] ctr_495 = true by decide +kernel) hK.2) (fm_c (cok_442 hK) (fm_c (cok_457 hK) (fm_c (cok_493 hK) fm_n))) (show chk KD0 G0 (aX KD0) nX 2000 2 [ctr_442, ctr_457, ctr_493] ctr_495 = true by decide +kernel)
-- X12_turn
set_option maxRecDepth 100000 in
def ctr_496 : CTR := (235, [.inr (some 58), .inl (-1, 11), .inl (0, 0), .inl (0, 0)], some (.inl (-1, 1)), [], [], 3, 0, [], [], [])
set_option maxRecDepth 100000 in
theorem cok_496 {KO : List Nat} (hK : KOK KO) : cOk KD0 KO G0 ctr_496 := chk_ok (G0_xOK hK.1) (chkS_ok (show chkS sgl0 [ctr_442, ctr_457, ctr_493] ctr_496 = true by decide +kernel) hK.2) (fm_c (cok_442 hK) (fm_c (cok_457 hK) (fm_c (cok_493 hK) fm_n))) (show chk KD0 G0 (aX KD0) nX 2000 2 [ctr_442, ctr_457, ctr_493] ctr_496 = true by decide +kernel)
-- X12_turn
set_option maxRecDepth 100000 in
def ctr_497 : CTR := (235, [.inr (some 58), .inl (-1, 11), .inl (0, 1), .inl (1, 2)], some (.inl (-1, 1)), [], [], 3, 0, [], [], [])
set_option maxRecDepth 100000 in
theorem cok_497 {KO : List Nat} (hK : KOK KO) : cOk KD0 KO G0 ctr_497 := chk_ok (G0_xOK hK.1) (chkS_ok (show chkS sgl0 [ctr_442, ctr_457, ctr_493] ctr_497 = true by decide +kernel) hK.2) (fm_c (cok_442 hK) (fm_c (cok_457 hK) (fm_c (cok_493 hK) fm_n))) (show chk KD0 G0 (aX KD0) nX 2000 2 [ctr_442, ctr_457, ctr_493] ctr_497 = true by decide +kernel)
-- X12_turn
set_option maxRecDepth 100000 in
def ctr_498 : CTR := (235, [.inr (some 58), .inl (-1, 11), .inl (0, 1), .inl (0, 0)], some (.inl (-1, 1)), [], [], 3, 0, [], [], [])
set_option maxRecDepth 100000 in
theorem cok_498 {KO : List Nat} (hK : KOK KO) : cOk KD0 KO G0 ctr_498 := chk_ok (G0_xOK hK.1) (chkS_ok (show chkS sgl0 [ctr_442, ctr_457, ctr_493] ctr_498 = true by decide +kernel) hK.2) (fm_c (cok_442 hK) (fm_c (cok_457 hK) (fm_c (cok_493 hK) fm_n))) (show chk KD0 G0 (aX KD0) nX 2000 2 [ctr_442, ctr_457, ctr_493] ctr_498 = true by decide +kernel)
-- X12_turn
set_option maxRecDepth 100000 in
def ctr_499 : CTR := (235, [.inr (some 58), .inl (-1, 11), .inl (0, 2), .inl (1, 3)], some (.inl (-1, 1)), [], [], 3, 0, [], [], [])
set_option maxRecDepth 100000 in
theorem cok_499 {KO : List Nat} (hK : KOK KO) : cOk KD0 KO G0 ctr_499 := chk_ok (G0_xOK hK.1) (chkS_ok (show chkS sgl0 [ctr_442, ctr_457, ctr_493] ctr_499 = true by decide +kernel) hK.2) (fm_c (cok_442 hK) (fm_c (cok_457 hK) (fm_c (cok_493 hK) fm_n))) (show chk KD0 G0 (aX KD0) nX 2000 2 [ctr_442, ctr_457, ctr_493] ctr_499 = true by decide +kernel)
-- X12_turn
set_option maxRecDepth 100000 in
def ctr_500 : CTR := (235, [.inr (some 58), .inl (-1, 11), .inl (0, 2), .inl (0, 0)], some (.inl (-1, 1)), [], [], 3, 0, [], [], [])
set_option maxRecDepth 100000 in
theorem cok_500 {KO : List Nat} (hK : KOK KO) : cOk KD0 KO G0 ctr_500 := chk_ok (G0_xOK hK.1) (chkS_ok (show chkS sgl0 [ctr_442, ctr_457, ctr_493] ctr_500 = true by decide +kernel) hK.2) (fm_c (cok_442 hK) (fm_c (cok_457 hK) (fm_c (cok_493 hK) fm_n))) (show chk KD0 G0 (aX KD0) nX 2000 2 [ctr_442, ctr_457, ctr_493] ctr_500 = true by decide +kernel)
-- X12_turn
set_option maxRecDepth 100000 in
def ctr_501 : CTR := (235, [.inr (some 58), .inl (-1, 11), .inl (0, 3), .inl (1, 4)], some (.inl (-1, 1)), [], [], 3, 0, [], [], [])
set_option maxRecDepth 100000 in
theorem cok_501 {KO : List Nat} (hK : KOK KO) : cOk KD0 KO G0 ctr_501 := chk_ok (G0_xOK hK.1) (chkS_ok (show chkS sgl0 [ctr_442, ctr_457, ctr_493] ctr_501 = true by decide +kernel) hK.2) (fm_c (cok_442 hK) (fm_c (cok_457 hK) (fm_c (cok_493 hK) fm_n))) (show chk KD0 G0 (aX KD0) nX 2000 2 [ctr_442, ctr_457, ctr_493] ctr_501 = true by decide +kernel)
-- X12_turn
set_option maxRecDepth 100000 in
def ctr_502 : CTR := (235, [.inr (some 58), .inl (-1, 11), .inl (0, 3), .inl (0, 0)], some (.inl (-1, 1)), [], [], 3, 0, [], [], [])
set_option maxRecDepth 100000 in
theorem cok_502 {KO : List Nat} (hK : KOK KO) : cOk KD0 KO G0 ctr_502 := chk_ok (G0_xOK hK.1) (chkS_ok (show chkS sgl0 [ctr_442, ctr_457, ctr_493] ctr_502 = true by decide +kernel) hK.2) (fm_c (cok_442 hK) (fm_c (cok_457 hK) (fm_c (cok_493 hK) fm_n))) (show chk KD0 G0 (aX KD0) nX 2000 2 [ctr_442, ctr_457, ctr_493] ctr_502 = true by decide +kernel)
-- X12_turn
set_option maxRecDepth 100000 in
def ctr_503 : CTR := (235, [.inr (some 58), .inl (-1, 11), .inl (0, 4), .inl (1, 5)], some (.inl (-1, 1)), [], [], 3, 0, [], [], [])
set_option maxRecDepth 100000 in
theorem cok_503 {KO : List Nat} (hK : KOK KO) : cOk KD0 KO G0 ctr_503 := chk_ok (G0_xOK hK.1) (chkS_ok (show chkS sgl0 [ctr_442, ctr_457, ctr_493] ctr_503 = true by decide +kernel) hK.2) (fm_c (cok_442 hK) (fm_c (cok_457 hK) (fm_c (cok_493 hK) fm_n))) (show chk KD0 G0 (aX KD0) nX 2000 2 [ctr_442, ctr_457, ctr_493] ctr_503 = true by decide +kernel)
-- X12_turn
set_option maxRecDepth 100000 in
def ctr_504 : CTR := (235, [.inr (some 58), .inl (-1, 11), .inl (0, 4), .inl (0, 0)], some (.inl (-1, 1)), [], [], 3, 0, [], [], [])
set_option maxRecDepth 100000 in
theorem cok_504 {KO : List Nat} (hK : KOK KO) : cOk KD0 KO G0 ctr_504 := chk_ok (G0_xOK hK.1) (chkS_ok (show chkS sgl0 [ctr_442, ctr_457, ctr_493] ctr_504 = true by decide +kernel) hK.2) (fm_c (cok_442 hK) (fm_c (cok_457 hK) (fm_c (cok_493 hK) fm_n))) (show chk KD0 G0 (aX KD0) nX 2000 2 [ctr_442, ctr_457, ctr_493] ctr_504 = true by decide +kernel)
-- X12_turn
set_option maxRecDepth 100000 in
def ctr_505 : CTR := (235, [.inr (some 58), .inl (-1, 11), .inl (0, 6), .inl (1, 7)], some (.inl (-1, 1)), [], [], 3, 0, [], [], [])
set_option maxRecDepth 100000 in
theorem cok_505 {KO : List Nat} (hK : KOK KO) : cOk KD0 KO G0 ctr_505 := chk_ok (G0_xOK hK.1) (chkS_ok (show chkS sgl0 [ctr_442, ctr_457, ctr_493] ctr_505 = true by decide +kernel) hK.2) (fm_c (cok_442 hK) (fm_c (cok_457 hK) (fm_c (cok_493 hK) fm_n))) (show chk KD0 G0 (aX KD0) nX 2000 2 [ctr_442, ctr_457, ctr_493] ctr_505 = true by decide +kernel)
-- X12_turn
set_option maxRecDepth 100000 in
def ctr_506 : CTR := (235, [.inr (some 58), .inl (-1, 11), .inl (0, 6), .inl (0, 0)], some (.inl (-1, 1)), [], [], 3, 0, [], [], [])
set_option maxRecDepth 100000 in
theorem cok_506 {KO : List Nat} (hK : KOK KO) : cOk KD0 KO G0 ctr_506 := chk_ok (G0_xOK hK.1) (chkS_ok (show chkS sgl0 [ctr_442, ctr_457, ctr_493] ctr_506 = true by decide +kernel) hK.2) (fm_c (cok_442 hK) (fm_c (cok_457 hK) (fm_c (cok_493 hK) fm_n))) (show chk KD0 G0 (aX KD0) nX 2000 2 [ctr_442, ctr_457, ctr_493] ctr_506 = true by decide +kernel)
-- X12_turn
set_option maxRecDepth 100000 in
def ctr_507 : CTR := (235, [.inr (some 58), .inl (-1, 11), .inl (0, 7), .inl (1, 8)], some (.inl (-1, 1)), [], [], 3, 0, [], [], [])
set_option maxRecDepth 100000 in
theorem cok_507 {KO : List Nat} (hK : KOK KO) : cOk KD0 KO G0 ctr_507 := chk_ok (G0_xOK hK.1) (chkS_ok (show chkS sgl0 [ctr_442, ctr_457, ctr_493] ctr_507 = true by decide +kernel) hK.2) (fm_c (cok_442 hK) (fm_c (cok_457 hK) (fm_c (cok_493 hK) fm_n))) (show chk KD0 G0 (aX KD0) nX 2000 2 [ctr_442, ctr_457, ctr_493] ctr_507 = true by decide +kernel)
