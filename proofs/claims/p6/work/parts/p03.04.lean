-- X12_isEar
set_option maxRecDepth 100000 in
def ctr_533 : CTR := (249, [.inr (some 58), .inl (0, 10), .inl (4, 12)], some (.inl (0, 1)), [], [], 4, 0, [(50, [(0, .inr (some 58)), (1, .inl (0, 10)), (2, .inl (4, 12)), (3, .inl (0, 11)), (4, .inl (0, 11)), (5, .inl (0, 11)), (6, .inl (0, 12))], [], [], 24, [((6, none), -2)], [])], [], [])
set_option maxRecDepth 100000 in
theorem cok_533 {KO : List Nat} (hK : KOK KO) : cOk KD0 KO G0 ctr_533 := chk_ok (G0_xOK hK.1) (chkS_ok (show chkS sgl0 [ctr_524] ctr_533 = true by decide +kernel) hK.2) (fm_c (cok_524 hK) fm_n) (show chk KD0 G0 (aX KD0) nX 2000 28 [ctr_524] ctr_533 = true by decide +kernel)
-- X12_isEar
set_option maxRecDepth 100000 in
def ctr_534 : CTR := (249, [.inr (some 58), .inl (0, 11), .inl (4, 12)], some (.inl (0, 1)), [], [], 4, 0, [(50, [(0, .inr (some 58)), (1, .inl (0, 11)), (2, .inl (4, 12)), (3, .inl (0, 11)), (4, .inl (0, 11)), (5, .inl (0, 11)), (6, .inl (0, 12))], [], [], 24, [((6, none), -2)], [])], [], [])
set_option maxRecDepth 100000 in
theorem cok_534 {KO : List Nat} (hK : KOK KO) : cOk KD0 KO G0 ctr_534 := chk_ok (G0_xOK hK.1) (chkS_ok (show chkS sgl0 [ctr_524] ctr_534 = true by decide +kernel) hK.2) (fm_c (cok_524 hK) fm_n) (show chk KD0 G0 (aX KD0) nX 2000 28 [ctr_524] ctr_534 = true by decide +kernel)
-- X12_ofColour
set_option maxRecDepth 100000 in
def ctr_535 : CTR := (257, [.inr (some 58), .inl (-2147483648, 2147483647)], some (.inl (-2147483648, 2147483647)), [], [], 1, 0, [(4, [(0, .inr (some 58)), (1, .inl (-2147483648, 2147483647)), (2, .inl (-2147483648, 2147483647)), (3, .inl (0, 12))], [], [], 24, [((3, none), -2)], [])], [], [])
set_option maxRecDepth 100000 in
theorem cok_535 {KO : List Nat} (hK : KOK KO) : cOk KD0 KO G0 ctr_535 := chk_ok (G0_xOK hK.1) (chkS_ok (show chkS sgl0 [] ctr_535 = true by decide +kernel) hK.2) fm_n (show chk KD0 G0 (aX KD0) nX 2000 28 [] ctr_535 = true by decide +kernel)
-- X12_pointOf
set_option maxRecDepth 100000 in
def ctr_536 : CTR := (240, [.inr (some 58), .inl (0, 0)], some (.inl (-1, 63)), [], [], 3, 0, [], [], [])
set_option maxRecDepth 100000 in
theorem cok_536 {KO : List Nat} (hK : KOK KO) : cOk KD0 KO G0 ctr_536 := chk_ok (G0_xOK hK.1) (chkS_ok (show chkS sgl0 [] ctr_536 = true by decide +kernel) hK.2) fm_n (show chk KD0 G0 (aX KD0) nX 2000 2 [] ctr_536 = true by decide +kernel)
-- X12_laysGuards
set_option maxRecDepth 100000 in
def ctr_537 : CTR := (262, [.inr (some 58), .inl (1, 1), .inl (1, 1), .inl (1, 1), .inr none], some (.inl (0, 1)), [], [], 1, 0, [], [], [])
set_option maxRecDepth 100000 in
theorem cok_537 {KO : List Nat} (hK : KOK KO) : cOk KD0 KO G0 ctr_537 := chk_ok (G0_xOK hK.1) (chkS_ok (show chkS sgl0 [] ctr_537 = true by decide +kernel) hK.2) fm_n (show chk KD0 G0 (aX KD0) nX 2000 2 [] ctr_537 = true by decide +kernel)
-- X12_laysGuards
set_option maxRecDepth 100000 in
def ctr_538 : CTR := (262, [.inr (some 58), .inl (1, 1), .inl (1, 1), .inl (1, 2), .inr none], some (.inl (0, 1)), [], [], 1, 0, [], [], [])
set_option maxRecDepth 100000 in
theorem cok_538 {KO : List Nat} (hK : KOK KO) : cOk KD0 KO G0 ctr_538 := chk_ok (G0_xOK hK.1) (chkS_ok (show chkS sgl0 [] ctr_538 = true by decide +kernel) hK.2) fm_n (show chk KD0 G0 (aX KD0) nX 2000 2 [] ctr_538 = true by decide +kernel)
-- X12_laysGuards
set_option maxRecDepth 100000 in
def ctr_539 : CTR := (262, [.inr (some 58), .inl (1, 1), .inl (1, 1), .inl (1, 3), .inr none], some (.inl (0, 1)), [], [], 1, 0, [], [], [])
set_option maxRecDepth 100000 in
theorem cok_539 {KO : List Nat} (hK : KOK KO) : cOk KD0 KO G0 ctr_539 := chk_ok (G0_xOK hK.1) (chkS_ok (show chkS sgl0 [] ctr_539 = true by decide +kernel) hK.2) fm_n (show chk KD0 G0 (aX KD0) nX 2000 2 [] ctr_539 = true by decide +kernel)
-- X12_laysGuards
set_option maxRecDepth 100000 in
def ctr_540 : CTR := (262, [.inr (some 58), .inl (1, 1), .inl (1, 1), .inl (1, 4), .inr none], some (.inl (0, 1)), [], [], 1, 0, [], [], [])
set_option maxRecDepth 100000 in
theorem cok_540 {KO : List Nat} (hK : KOK KO) : cOk KD0 KO G0 ctr_540 := chk_ok (G0_xOK hK.1) (chkS_ok (show chkS sgl0 [] ctr_540 = true by decide +kernel) hK.2) fm_n (show chk KD0 G0 (aX KD0) nX 2000 2 [] ctr_540 = true by decide +kernel)
-- X12_laysGuards
set_option maxRecDepth 100000 in
def ctr_541 : CTR := (262, [.inr (some 58), .inl (1, 1), .inl (1, 1), .inl (1, 5), .inr none], some (.inl (0, 1)), [], [], 1, 0, [], [], [])
set_option maxRecDepth 100000 in
theorem cok_541 {KO : List Nat} (hK : KOK KO) : cOk KD0 KO G0 ctr_541 := chk_ok (G0_xOK hK.1) (chkS_ok (show chkS sgl0 [] ctr_541 = true by decide +kernel) hK.2) fm_n (show chk KD0 G0 (aX KD0) nX 2000 2 [] ctr_541 = true by decide +kernel)
-- X12_laysGuards
set_option maxRecDepth 100000 in
def ctr_542 : CTR := (262, [.inr (some 58), .inl (1, 1), .inl (1, 1), .inl (1, 7), .inr none], some (.inl (0, 1)), [], [], 1, 0, [], [], [])
set_option maxRecDepth 100000 in
theorem cok_542 {KO : List Nat} (hK : KOK KO) : cOk KD0 KO G0 ctr_542 := chk_ok (G0_xOK hK.1) (chkS_ok (show chkS sgl0 [] ctr_542 = true by decide +kernel) hK.2) fm_n (show chk KD0 G0 (aX KD0) nX 2000 2 [] ctr_542 = true by decide +kernel)
-- X12_laysGuards
set_option maxRecDepth 100000 in
def ctr_543 : CTR := (262, [.inr (some 58), .inl (1, 1), .inl (1, 1), .inl (1, 8), .inr none], some (.inl (0, 1)), [], [], 1, 0, [], [], [])
set_option maxRecDepth 100000 in
theorem cok_543 {KO : List Nat} (hK : KOK KO) : cOk KD0 KO G0 ctr_543 := chk_ok (G0_xOK hK.1) (chkS_ok (show chkS sgl0 [] ctr_543 = true by decide +kernel) hK.2) fm_n (show chk KD0 G0 (aX KD0) nX 2000 2 [] ctr_543 = true by decide +kernel)
-- X12_laysGuards
set_option maxRecDepth 100000 in
def ctr_544 : CTR := (262, [.inr (some 58), .inl (1, 1), .inl (1, 1), .inl (1, 9), .inr none], some (.inl (0, 1)), [], [], 1, 0, [], [], [])
set_option maxRecDepth 100000 in
theorem cok_544 {KO : List Nat} (hK : KOK KO) : cOk KD0 KO G0 ctr_544 := chk_ok (G0_xOK hK.1) (chkS_ok (show chkS sgl0 [] ctr_544 = true by decide +kernel) hK.2) fm_n (show chk KD0 G0 (aX KD0) nX 2000 2 [] ctr_544 = true by decide +kernel)
-- X12_laysGuards
set_option maxRecDepth 100000 in
def ctr_545 : CTR := (262, [.inr (some 58), .inl (1, 1), .inl (1, 1), .inl (1, 11), .inr none], some (.inl (0, 1)), [], [], 1, 0, [], [], [])
set_option maxRecDepth 100000 in
theorem cok_545 {KO : List Nat} (hK : KOK KO) : cOk KD0 KO G0 ctr_545 := chk_ok (G0_xOK hK.1) (chkS_ok (show chkS sgl0 [] ctr_545 = true by decide +kernel) hK.2) fm_n (show chk KD0 G0 (aX KD0) nX 2000 2 [] ctr_545 = true by decide +kernel)
-- X12_laysGuards
set_option maxRecDepth 100000 in
def ctr_546 : CTR := (262, [.inr (some 58), .inl (1, 1), .inl (1, 1), .inl (1, 12), .inr none], some (.inl (0, 1)), [], [], 1, 0, [], [], [])
set_option maxRecDepth 100000 in
theorem cok_546 {KO : List Nat} (hK : KOK KO) : cOk KD0 KO G0 ctr_546 := chk_ok (G0_xOK hK.1) (chkS_ok (show chkS sgl0 [] ctr_546 = true by decide +kernel) hK.2) fm_n (show chk KD0 G0 (aX KD0) nX 2000 2 [] ctr_546 = true by decide +kernel)
-- X12_laysGuards
set_option maxRecDepth 100000 in
def ctr_547 : CTR := (262, [.inr (some 58), .inl (1, 1), .inl (1, 1), .inl (1, 13), .inr none], some (.inl (0, 1)), [], [], 1, 0, [], [], [])
set_option maxRecDepth 100000 in
theorem cok_547 {KO : List Nat} (hK : KOK KO) : cOk KD0 KO G0 ctr_547 := chk_ok (G0_xOK hK.1) (chkS_ok (show chkS sgl0 [] ctr_547 = true by decide +kernel) hK.2) fm_n (show chk KD0 G0 (aX KD0) nX 2000 2 [] ctr_547 = true by decide +kernel)
-- X12_laysGuards
set_option maxRecDepth 100000 in
def ctr_548 : CTR := (262, [.inr (some 58), .inl (1, 1), .inl (1, 1), .inl (1, 14), .inr none], some (.inl (0, 1)), [], [], 1, 0, [], [], [])
set_option maxRecDepth 100000 in
theorem cok_548 {KO : List Nat} (hK : KOK KO) : cOk KD0 KO G0 ctr_548 := chk_ok (G0_xOK hK.1) (chkS_ok (show chkS sgl0 [] ctr_548 = true by decide +kernel) hK.2) fm_n (show chk KD0 G0 (aX KD0) nX 2000 2 [] ctr_548 = true by decide +kernel)
-- X12_laysGuards
set_option maxRecDepth 100000 in
def ctr_549 : CTR := (262, [.inr (some 58), .inl (1, 1), .inl (1, 1), .inl (1, 16), .inr none], some (.inl (0, 1)), [], [], 1, 0, [], [], [])
set_option maxRecDepth 100000 in
theorem cok_549 {KO : List Nat} (hK : KOK KO) : cOk KD0 KO G0 ctr_549 := chk_ok (G0_xOK hK.1) (chkS_ok (show chkS sgl0 [] ctr_549 = true by decide +kernel) hK.2) fm_n (show chk KD0 G0 (aX KD0) nX 2000 2 [] ctr_549 = true by decide +kernel)
-- X12_laysGuards
set_option maxRecDepth 100000 in
def ctr_550 : CTR := (262, [.inr (some 58), .inl (1, 1), .inl (1, 1), .inl (1, 17), .inr none], some (.inl (0, 1)), [], [], 1, 0, [], [], [])
set_option maxRecDepth 100000 in
theorem cok_550 {KO : List Nat} (hK : KOK KO) : cOk KD0 KO G0 ctr_550 := chk_ok (G0_xOK hK.1) (chkS_ok (show chkS sgl0 [] ctr_550 = true by decide +kernel) hK.2) fm_n (show chk KD0 G0 (aX KD0) nX 2000 2 [] ctr_550 = true by decide +kernel)
-- X12_laysGuards
set_option maxRecDepth 100000 in
def ctr_551 : CTR := (262, [.inr (some 58), .inl (1, 1), .inl (1, 1), .inl (1, 32), .inr none], some (.inl (0, 1)), [], [], 1, 0, [], [], [])
set_option maxRecDepth 100000 in
theorem cok_551 {KO : List Nat} (hK : KOK KO) : cOk KD0 KO G0 ctr_551 := chk_ok (G0_xOK hK.1) (chkS_ok (show chkS sgl0 [] ctr_551 = true by decide +kernel) hK.2) fm_n (show chk KD0 G0 (aX KD0) nX 2000 2 [] ctr_551 = true by decide +kernel)
-- X12_laysGuards
set_option maxRecDepth 100000 in
def ctr_552 : CTR := (262, [.inr (some 58), .inl (1, 1), .inl (1, 1), .inl (1, 64), .inr none], some (.inl (0, 1)), [], [], 1, 0, [], [], [])
set_option maxRecDepth 100000 in
theorem cok_552 {KO : List Nat} (hK : KOK KO) : cOk KD0 KO G0 ctr_552 := chk_ok (G0_xOK hK.1) (chkS_ok (show chkS sgl0 [] ctr_552 = true by decide +kernel) hK.2) fm_n (show chk KD0 G0 (aX KD0) nX 2000 2 [] ctr_552 = true by decide +kernel)
-- X12_laysGuards
set_option maxRecDepth 100000 in
def ctr_553 : CTR := (262, [.inr (some 58), .inl (0, 0), .inl (1, 1), .inl (0, 0), .inr none], some (.inl (0, 1)), [], [(55, 0)], 2, 0, [(24, [(0, .inr (some 58)), (1, .inl (0, 0)), (2, .inl (1, 1)), (3, .inl (0, 0)), (4, .inr none), (6, .inl (0, 64))], [], [], 128, [((6, none), -2)], [])], [], [])
set_option maxRecDepth 100000 in
theorem cok_553 {KO : List Nat} (hK : KOK KO) : cOk KD0 KO G0 ctr_553 := chk_ok (G0_xOK hK.1) (chkS_ok (show chkS sgl0 [ctr_537, ctr_538, ctr_539, ctr_540, ctr_541, ctr_542, ctr_543, ctr_544, ctr_545, ctr_546, ctr_547, ctr_548, ctr_549, ctr_550, ctr_551, ctr_552] ctr_553 = true by decide +kernel) hK.2) (fm_c (cok_537 hK) (fm_c (cok_538 hK) (fm_c (cok_539 hK) (fm_c (cok_540 hK) (fm_c (cok_541 hK) (fm_c (cok_542 hK) (fm_c (cok_543 hK) (fm_c (cok_544 hK) (fm_c (cok_545 hK) (fm_c (cok_546 hK) (fm_c (cok_547 hK) (fm_c (cok_548 hK) (fm_c (cok_549 hK) (fm_c (cok_550 hK) (fm_c (cok_551 hK) (fm_c (cok_552 hK) fm_n)))))))))))))))) (show chk KD0 G0 (aX KD0) nX 2000 132 [ctr_537, ctr_538, ctr_539, ctr_540, ctr_541, ctr_542, ctr_543, ctr_544, ctr_545, ctr_546, ctr_547, ctr_548, ctr_549, ctr_550, ctr_551, ctr_552] ctr_553 = true by decide +kernel)
-- X12_laysWitnesses
set_option maxRecDepth 100000 in
def ctr_554 : CTR := (266, [.inr (some 58), .inl (4, 4), .inl (4, 4), .inl (4, 4), .inr none], some (.inl (1, 1)), [], [], 1, 0, [], [], [])
set_option maxRecDepth 100000 in
theorem cok_554 {KO : List Nat} (hK : KOK KO) : cOk KD0 KO G0 ctr_554 := chk_ok (G0_xOK hK.1) (chkS_ok (show chkS sgl0 [] ctr_554 = true by decide +kernel) hK.2) fm_n (show chk KD0 G0 (aX KD0) nX 2000 2 [] ctr_554 = true by decide +kernel)
-- X12_laysWitnesses
set_option maxRecDepth 100000 in
def ctr_555 : CTR := (266, [.inr (some 58), .inl (4, 4), .inl (4, 4), .inl (4, 5), .inr none], some (.inl (1, 1)), [], [], 1, 0, [], [], [])
set_option maxRecDepth 100000 in
theorem cok_555 {KO : List Nat} (hK : KOK KO) : cOk KD0 KO G0 ctr_555 := chk_ok (G0_xOK hK.1) (chkS_ok (show chkS sgl0 [] ctr_555 = true by decide +kernel) hK.2) fm_n (show chk KD0 G0 (aX KD0) nX 2000 2 [] ctr_555 = true by decide +kernel)
-- X12_laysWitnesses
set_option maxRecDepth 100000 in
def ctr_556 : CTR := (266, [.inr (some 58), .inl (4, 4), .inl (4, 4), .inl (4, 6), .inr none], some (.inl (1, 1)), [], [], 1, 0, [], [], [])
set_option maxRecDepth 100000 in
theorem cok_556 {KO : List Nat} (hK : KOK KO) : cOk KD0 KO G0 ctr_556 := chk_ok (G0_xOK hK.1) (chkS_ok (show chkS sgl0 [] ctr_556 = true by decide +kernel) hK.2) fm_n (show chk KD0 G0 (aX KD0) nX 2000 2 [] ctr_556 = true by decide +kernel)
-- X12_laysWitnesses
set_option maxRecDepth 100000 in
def ctr_557 : CTR := (266, [.inr (some 58), .inl (4, 4), .inl (4, 4), .inl (4, 7), .inr none], some (.inl (1, 1)), [], [], 1, 0, [], [], [])
set_option maxRecDepth 100000 in
theorem cok_557 {KO : List Nat} (hK : KOK KO) : cOk KD0 KO G0 ctr_557 := chk_ok (G0_xOK hK.1) (chkS_ok (show chkS sgl0 [] ctr_557 = true by decide +kernel) hK.2) fm_n (show chk KD0 G0 (aX KD0) nX 2000 2 [] ctr_557 = true by decide +kernel)
