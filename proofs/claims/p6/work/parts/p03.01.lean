-- X12_isBent
set_option maxRecDepth 100000 in
def ctr_458 : CTR := (210, [.inr (some 37), .inl (0, 0)], some (.inl (0, 1)), [], [], 2, 0, [], [], [])
set_option maxRecDepth 100000 in
theorem cok_458 {KO : List Nat} (hK : KOK KO) : cOk KD0 KO G0 ctr_458 := chk_ok (G0_xOK hK.1) (chkS_ok (show chkS sgl0 [] ctr_458 = true by decide +kernel) hK.2) fm_n (show chk KD0 G0 (aX KD0) nX 2000 2 [] ctr_458 = true by decide +kernel)
-- X12_meet
set_option maxRecDepth 100000 in
def ctr_459 : CTR := (209, [.inr (some 37), .inl (0, 0), .inl (2, 2)], some (.inl (0, 1)), [], [], 3, 0, [], [], [])
set_option maxRecDepth 100000 in
theorem cok_459 {KO : List Nat} (hK : KOK KO) : cOk KD0 KO G0 ctr_459 := chk_ok (G0_xOK hK.1) (chkS_ok (show chkS sgl0 [ctr_442, ctr_443, ctr_457] ctr_459 = true by decide +kernel) hK.2) (fm_c (cok_442 hK) (fm_c (cok_443 hK) (fm_c (cok_457 hK) fm_n))) (show chk KD0 G0 (aX KD0) nX 2000 2 [ctr_442, ctr_443, ctr_457] ctr_459 = true by decide +kernel)
-- X12_isBent
set_option maxRecDepth 100000 in
def ctr_460 : CTR := (210, [.inr (some 37), .inl (0, 1)], some (.inl (0, 1)), [], [], 2, 0, [], [], [])
set_option maxRecDepth 100000 in
theorem cok_460 {KO : List Nat} (hK : KOK KO) : cOk KD0 KO G0 ctr_460 := chk_ok (G0_xOK hK.1) (chkS_ok (show chkS sgl0 [] ctr_460 = true by decide +kernel) hK.2) fm_n (show chk KD0 G0 (aX KD0) nX 2000 2 [] ctr_460 = true by decide +kernel)
-- X12_meet
set_option maxRecDepth 100000 in
def ctr_461 : CTR := (209, [.inr (some 37), .inl (0, 1), .inl (2, 3)], some (.inl (0, 1)), [], [], 3, 0, [], [], [])
set_option maxRecDepth 100000 in
theorem cok_461 {KO : List Nat} (hK : KOK KO) : cOk KD0 KO G0 ctr_461 := chk_ok (G0_xOK hK.1) (chkS_ok (show chkS sgl0 [ctr_442, ctr_443, ctr_457] ctr_461 = true by decide +kernel) hK.2) (fm_c (cok_442 hK) (fm_c (cok_443 hK) (fm_c (cok_457 hK) fm_n))) (show chk KD0 G0 (aX KD0) nX 2000 2 [ctr_442, ctr_443, ctr_457] ctr_461 = true by decide +kernel)
-- X12_isBent
set_option maxRecDepth 100000 in
def ctr_462 : CTR := (210, [.inr (some 37), .inl (0, 2)], some (.inl (0, 1)), [], [], 2, 0, [], [], [])
set_option maxRecDepth 100000 in
theorem cok_462 {KO : List Nat} (hK : KOK KO) : cOk KD0 KO G0 ctr_462 := chk_ok (G0_xOK hK.1) (chkS_ok (show chkS sgl0 [] ctr_462 = true by decide +kernel) hK.2) fm_n (show chk KD0 G0 (aX KD0) nX 2000 2 [] ctr_462 = true by decide +kernel)
-- X12_meet
set_option maxRecDepth 100000 in
def ctr_463 : CTR := (209, [.inr (some 37), .inl (0, 2), .inl (2, 4)], some (.inl (0, 1)), [], [], 3, 0, [], [], [])
set_option maxRecDepth 100000 in
theorem cok_463 {KO : List Nat} (hK : KOK KO) : cOk KD0 KO G0 ctr_463 := chk_ok (G0_xOK hK.1) (chkS_ok (show chkS sgl0 [ctr_442, ctr_443, ctr_457] ctr_463 = true by decide +kernel) hK.2) (fm_c (cok_442 hK) (fm_c (cok_443 hK) (fm_c (cok_457 hK) fm_n))) (show chk KD0 G0 (aX KD0) nX 2000 2 [ctr_442, ctr_443, ctr_457] ctr_463 = true by decide +kernel)
-- X12_isBent
set_option maxRecDepth 100000 in
def ctr_464 : CTR := (210, [.inr (some 37), .inl (0, 3)], some (.inl (0, 1)), [], [], 2, 0, [], [], [])
set_option maxRecDepth 100000 in
theorem cok_464 {KO : List Nat} (hK : KOK KO) : cOk KD0 KO G0 ctr_464 := chk_ok (G0_xOK hK.1) (chkS_ok (show chkS sgl0 [] ctr_464 = true by decide +kernel) hK.2) fm_n (show chk KD0 G0 (aX KD0) nX 2000 2 [] ctr_464 = true by decide +kernel)
-- X12_meet
set_option maxRecDepth 100000 in
def ctr_465 : CTR := (209, [.inr (some 37), .inl (0, 3), .inl (2, 6)], some (.inl (0, 1)), [], [], 3, 0, [], [], [])
set_option maxRecDepth 100000 in
theorem cok_465 {KO : List Nat} (hK : KOK KO) : cOk KD0 KO G0 ctr_465 := chk_ok (G0_xOK hK.1) (chkS_ok (show chkS sgl0 [ctr_442, ctr_443, ctr_457] ctr_465 = true by decide +kernel) hK.2) (fm_c (cok_442 hK) (fm_c (cok_443 hK) (fm_c (cok_457 hK) fm_n))) (show chk KD0 G0 (aX KD0) nX 2000 2 [ctr_442, ctr_443, ctr_457] ctr_465 = true by decide +kernel)
-- X12_isBent
set_option maxRecDepth 100000 in
def ctr_466 : CTR := (210, [.inr (some 37), .inl (0, 4)], some (.inl (0, 1)), [], [], 2, 0, [], [], [])
set_option maxRecDepth 100000 in
theorem cok_466 {KO : List Nat} (hK : KOK KO) : cOk KD0 KO G0 ctr_466 := chk_ok (G0_xOK hK.1) (chkS_ok (show chkS sgl0 [] ctr_466 = true by decide +kernel) hK.2) fm_n (show chk KD0 G0 (aX KD0) nX 2000 2 [] ctr_466 = true by decide +kernel)
-- X12_meet
set_option maxRecDepth 100000 in
def ctr_467 : CTR := (209, [.inr (some 37), .inl (0, 4), .inl (2, 7)], some (.inl (0, 1)), [], [], 3, 0, [], [], [])
set_option maxRecDepth 100000 in
theorem cok_467 {KO : List Nat} (hK : KOK KO) : cOk KD0 KO G0 ctr_467 := chk_ok (G0_xOK hK.1) (chkS_ok (show chkS sgl0 [ctr_442, ctr_443, ctr_457] ctr_467 = true by decide +kernel) hK.2) (fm_c (cok_442 hK) (fm_c (cok_443 hK) (fm_c (cok_457 hK) fm_n))) (show chk KD0 G0 (aX KD0) nX 2000 2 [ctr_442, ctr_443, ctr_457] ctr_467 = true by decide +kernel)
-- X12_isBent
set_option maxRecDepth 100000 in
def ctr_468 : CTR := (210, [.inr (some 37), .inl (0, 6)], some (.inl (0, 1)), [], [], 2, 0, [], [], [])
set_option maxRecDepth 100000 in
theorem cok_468 {KO : List Nat} (hK : KOK KO) : cOk KD0 KO G0 ctr_468 := chk_ok (G0_xOK hK.1) (chkS_ok (show chkS sgl0 [] ctr_468 = true by decide +kernel) hK.2) fm_n (show chk KD0 G0 (aX KD0) nX 2000 2 [] ctr_468 = true by decide +kernel)
-- X12_meet
set_option maxRecDepth 100000 in
def ctr_469 : CTR := (209, [.inr (some 37), .inl (0, 6), .inl (2, 8)], some (.inl (0, 1)), [], [], 3, 0, [], [], [])
set_option maxRecDepth 100000 in
theorem cok_469 {KO : List Nat} (hK : KOK KO) : cOk KD0 KO G0 ctr_469 := chk_ok (G0_xOK hK.1) (chkS_ok (show chkS sgl0 [ctr_442, ctr_443, ctr_457] ctr_469 = true by decide +kernel) hK.2) (fm_c (cok_442 hK) (fm_c (cok_443 hK) (fm_c (cok_457 hK) fm_n))) (show chk KD0 G0 (aX KD0) nX 2000 2 [ctr_442, ctr_443, ctr_457] ctr_469 = true by decide +kernel)
-- X12_isBent
set_option maxRecDepth 100000 in
def ctr_470 : CTR := (210, [.inr (some 37), .inl (0, 7)], some (.inl (0, 1)), [], [], 2, 0, [], [], [])
set_option maxRecDepth 100000 in
theorem cok_470 {KO : List Nat} (hK : KOK KO) : cOk KD0 KO G0 ctr_470 := chk_ok (G0_xOK hK.1) (chkS_ok (show chkS sgl0 [] ctr_470 = true by decide +kernel) hK.2) fm_n (show chk KD0 G0 (aX KD0) nX 2000 2 [] ctr_470 = true by decide +kernel)
-- X12_meet
set_option maxRecDepth 100000 in
def ctr_471 : CTR := (209, [.inr (some 37), .inl (0, 7), .inl (2, 10)], some (.inl (0, 1)), [], [], 3, 0, [], [], [])
set_option maxRecDepth 100000 in
theorem cok_471 {KO : List Nat} (hK : KOK KO) : cOk KD0 KO G0 ctr_471 := chk_ok (G0_xOK hK.1) (chkS_ok (show chkS sgl0 [ctr_442, ctr_443, ctr_457] ctr_471 = true by decide +kernel) hK.2) (fm_c (cok_442 hK) (fm_c (cok_443 hK) (fm_c (cok_457 hK) fm_n))) (show chk KD0 G0 (aX KD0) nX 2000 2 [ctr_442, ctr_443, ctr_457] ctr_471 = true by decide +kernel)
-- X12_isBent
set_option maxRecDepth 100000 in
def ctr_472 : CTR := (210, [.inr (some 37), .inl (0, 8)], some (.inl (0, 1)), [], [], 2, 0, [], [], [])
set_option maxRecDepth 100000 in
theorem cok_472 {KO : List Nat} (hK : KOK KO) : cOk KD0 KO G0 ctr_472 := chk_ok (G0_xOK hK.1) (chkS_ok (show chkS sgl0 [] ctr_472 = true by decide +kernel) hK.2) fm_n (show chk KD0 G0 (aX KD0) nX 2000 2 [] ctr_472 = true by decide +kernel)
-- X12_meet
set_option maxRecDepth 100000 in
def ctr_473 : CTR := (209, [.inr (some 37), .inl (0, 8), .inl (2, 11)], some (.inl (0, 1)), [], [], 3, 0, [], [], [])
set_option maxRecDepth 100000 in
theorem cok_473 {KO : List Nat} (hK : KOK KO) : cOk KD0 KO G0 ctr_473 := chk_ok (G0_xOK hK.1) (chkS_ok (show chkS sgl0 [ctr_442, ctr_443, ctr_457] ctr_473 = true by decide +kernel) hK.2) (fm_c (cok_442 hK) (fm_c (cok_443 hK) (fm_c (cok_457 hK) fm_n))) (show chk KD0 G0 (aX KD0) nX 2000 2 [ctr_442, ctr_443, ctr_457] ctr_473 = true by decide +kernel)
-- X12_isBent
set_option maxRecDepth 100000 in
def ctr_474 : CTR := (210, [.inr (some 37), .inl (0, 10)], some (.inl (0, 1)), [], [], 2, 0, [], [], [])
set_option maxRecDepth 100000 in
theorem cok_474 {KO : List Nat} (hK : KOK KO) : cOk KD0 KO G0 ctr_474 := chk_ok (G0_xOK hK.1) (chkS_ok (show chkS sgl0 [] ctr_474 = true by decide +kernel) hK.2) fm_n (show chk KD0 G0 (aX KD0) nX 2000 2 [] ctr_474 = true by decide +kernel)
-- X12_meet
set_option maxRecDepth 100000 in
def ctr_475 : CTR := (209, [.inr (some 37), .inl (0, 10), .inl (2, 11)], some (.inl (0, 1)), [], [], 3, 0, [], [], [])
set_option maxRecDepth 100000 in
theorem cok_475 {KO : List Nat} (hK : KOK KO) : cOk KD0 KO G0 ctr_475 := chk_ok (G0_xOK hK.1) (chkS_ok (show chkS sgl0 [ctr_442, ctr_443, ctr_457] ctr_475 = true by decide +kernel) hK.2) (fm_c (cok_442 hK) (fm_c (cok_443 hK) (fm_c (cok_457 hK) fm_n))) (show chk KD0 G0 (aX KD0) nX 2000 2 [ctr_442, ctr_443, ctr_457] ctr_475 = true by decide +kernel)
-- X12_isBent
set_option maxRecDepth 100000 in
def ctr_476 : CTR := (210, [.inr (some 37), .inl (0, 11)], some (.inl (0, 1)), [], [], 2, 0, [], [], [])
set_option maxRecDepth 100000 in
theorem cok_476 {KO : List Nat} (hK : KOK KO) : cOk KD0 KO G0 ctr_476 := chk_ok (G0_xOK hK.1) (chkS_ok (show chkS sgl0 [] ctr_476 = true by decide +kernel) hK.2) fm_n (show chk KD0 G0 (aX KD0) nX 2000 2 [] ctr_476 = true by decide +kernel)
-- X12_meet
set_option maxRecDepth 100000 in
def ctr_477 : CTR := (209, [.inr (some 37), .inl (0, 11), .inl (2, 11)], some (.inl (0, 1)), [], [], 3, 0, [], [], [])
set_option maxRecDepth 100000 in
theorem cok_477 {KO : List Nat} (hK : KOK KO) : cOk KD0 KO G0 ctr_477 := chk_ok (G0_xOK hK.1) (chkS_ok (show chkS sgl0 [ctr_442, ctr_443, ctr_457] ctr_477 = true by decide +kernel) hK.2) (fm_c (cok_442 hK) (fm_c (cok_443 hK) (fm_c (cok_457 hK) fm_n))) (show chk KD0 G0 (aX KD0) nX 2000 2 [ctr_442, ctr_443, ctr_457] ctr_477 = true by decide +kernel)
-- X12_isSimple
set_option maxRecDepth 100000 in
def ctr_478 : CTR := (211, [.inr (some 37)], some (.inl (0, 1)), [], [], 4, 0, [(6, [(0, .inr (some 37)), (1, .inl (0, 12)), (2, .inl (0, 12))], [], [], 336, [((2, none), -26)], []), (25, [(0, .inr (some 37)), (1, .inl (1, 12)), (2, .inl (0, 11)), (3, .inl (2, 13))], [], [], 338, [((2, none), -26), ((3, none), -2)], [])], [], [])
set_option maxRecDepth 100000 in
theorem cok_478 {KO : List Nat} (hK : KOK KO) : cOk KD0 KO G0 ctr_478 := chk_ok (G0_xOK hK.1) (chkS_ok (show chkS sgl0 [ctr_458, ctr_459, ctr_460, ctr_461, ctr_462, ctr_463, ctr_464, ctr_465, ctr_466, ctr_467, ctr_468, ctr_469, ctr_470, ctr_471, ctr_472, ctr_473, ctr_474, ctr_475, ctr_476, ctr_477] ctr_478 = true by decide +kernel) hK.2) (fm_c (cok_458 hK) (fm_c (cok_459 hK) (fm_c (cok_460 hK) (fm_c (cok_461 hK) (fm_c (cok_462 hK) (fm_c (cok_463 hK) (fm_c (cok_464 hK) (fm_c (cok_465 hK) (fm_c (cok_466 hK) (fm_c (cok_467 hK) (fm_c (cok_468 hK) (fm_c (cok_469 hK) (fm_c (cok_470 hK) (fm_c (cok_471 hK) (fm_c (cok_472 hK) (fm_c (cok_473 hK) (fm_c (cok_474 hK) (fm_c (cok_475 hK) (fm_c (cok_476 hK) (fm_c (cok_477 hK) fm_n)))))))))))))))))))) (show chk KD0 G0 (aX KD0) nX 2000 340 [ctr_458, ctr_459, ctr_460, ctr_461, ctr_462, ctr_463, ctr_464, ctr_465, ctr_466, ctr_467, ctr_468, ctr_469, ctr_470, ctr_471, ctr_472, ctr_473, ctr_474, ctr_475, ctr_476, ctr_477] ctr_478 = true by decide +kernel)
-- X12_pointsOf
set_option maxRecDepth 100000 in
def ctr_479 : CTR := (212, [.inr (some 37)], some (.inl (-2147483648, 2147483647)), [], [], 6, 0, [(4, [(0, .inr (some 37)), (1, .inl (-2147483648, 2147483647)), (2, .inl (0, 16))], [], [], 610, [((2, none), -36)], []), (12, [(0, .inr (some 37)), (1, .inl (-2147483648, 2147483647)), (2, .inl (0, 15)), (3, .inl (0, 16))], [], [], 608, [((2, none), -36), ((3, none), -2)], [])], [], [])
set_option maxRecDepth 100000 in
theorem cok_479 {KO : List Nat} (hK : KOK KO) : cOk KD0 KO G0 ctr_479 := chk_ok (G0_xOK hK.1) (chkS_ok (show chkS sgl0 [ctr_455] ctr_479 = true by decide +kernel) hK.2) (fm_c (cok_455 hK) fm_n) (show chk KD0 G0 (aX KD0) nX 2000 614 [ctr_455] ctr_479 = true by decide +kernel)
-- X12_isGood
set_option maxRecDepth 100000 in
def ctr_480 : CTR := (213, [.inr (some 37)], some (.inl (0, 1)), [], [], 7, 0, [], [], [])
set_option maxRecDepth 100000 in
theorem cok_480 {KO : List Nat} (hK : KOK KO) : cOk KD0 KO G0 ctr_480 := chk_ok (G0_xOK hK.1) (chkS_ok (show chkS sgl0 [ctr_478, ctr_479] ctr_480 = true by decide +kernel) hK.2) (fm_c (cok_478 hK) (fm_c (cok_479 hK) fm_n)) (show chk KD0 G0 (aX KD0) nX 2000 2 [ctr_478, ctr_479] ctr_480 = true by decide +kernel)
-- X12_all
set_option maxRecDepth 100000 in
def ctr_481 : CTR := (216, [.inr (some 58)], some (.inr none), [], [], 1, 0, [], [], [])
set_option maxRecDepth 100000 in
theorem cok_481 {KO : List Nat} (hK : KOK KO) : cOk KD0 KO G0 ctr_481 := chk_ok (G0_xOK hK.1) (chkS_ok (show chkS sgl0 [] ctr_481 = true by decide +kernel) hK.2) fm_n (show chk KD0 G0 (aX KD0) nX 2000 2 [] ctr_481 = true by decide +kernel)
-- X12_has
set_option maxRecDepth 100000 in
def ctr_482 : CTR := (217, [.inr none, .inl (-2147483648, 2147483647)], some (.inl (0, 1)), [], [], 1, 0, [], [], [])
set_option maxRecDepth 100000 in
theorem cok_482 {KO : List Nat} (hK : KOK KO) : cOk KD0 KO G0 ctr_482 := chk_ok (G0_xOK hK.1) (chkS_ok (show chkS sgl0 [] ctr_482 = true by decide +kernel) hK.2) fm_n (show chk KD0 G0 (aX KD0) nX 2000 2 [] ctr_482 = true by decide +kernel)
