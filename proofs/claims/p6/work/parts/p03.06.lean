-- X12_laysWitnesses
set_option maxRecDepth 100000 in
def ctr_583 : CTR := (266, [.inr (some 58), .inl (2, 2), .inl (4, 4), .inl (2, 3), .inr none], some (.inl (0, 1)), [], [(56, 0)], 3, 0, [(10, [(0, .inr (some 58)), (1, .inl (2, 2)), (2, .inl (4, 4)), (3, .inl (2, 3)), (4, .inr none), (6, .inl (2, 64))], [], [], 128, [((6, none), -2)], [])], [], [])
set_option maxRecDepth 100000 in
theorem cok_583 {KO : List Nat} (hK : KOK KO) : cOk KD0 KO G0 ctr_583 := chk_ok (G0_xOK hK.1) (chkS_ok (show chkS sgl0 [ctr_569, ctr_570, ctr_571, ctr_572, ctr_573, ctr_574, ctr_575, ctr_576, ctr_577, ctr_578, ctr_579, ctr_580, ctr_581] ctr_583 = true by decide +kernel) hK.2) (fm_c (cok_569 hK) (fm_c (cok_570 hK) (fm_c (cok_571 hK) (fm_c (cok_572 hK) (fm_c (cok_573 hK) (fm_c (cok_574 hK) (fm_c (cok_575 hK) (fm_c (cok_576 hK) (fm_c (cok_577 hK) (fm_c (cok_578 hK) (fm_c (cok_579 hK) (fm_c (cok_580 hK) (fm_c (cok_581 hK) fm_n))))))))))))) (show chk KD0 G0 (aX KD0) nX 2000 128 [ctr_569, ctr_570, ctr_571, ctr_572, ctr_573, ctr_574, ctr_575, ctr_576, ctr_577, ctr_578, ctr_579, ctr_580, ctr_581] ctr_583 = true by decide +kernel)
-- X12_laysWitnesses
set_option maxRecDepth 100000 in
def ctr_584 : CTR := (266, [.inr (some 58), .inl (2, 2), .inl (4, 4), .inl (2, 4), .inr none], some (.inl (0, 1)), [], [(56, 0)], 3, 0, [(10, [(0, .inr (some 58)), (1, .inl (2, 2)), (2, .inl (4, 4)), (3, .inl (2, 4)), (4, .inr none), (6, .inl (2, 64))], [], [], 128, [((6, none), -2)], [])], [], [])
set_option maxRecDepth 100000 in
theorem cok_584 {KO : List Nat} (hK : KOK KO) : cOk KD0 KO G0 ctr_584 := chk_ok (G0_xOK hK.1) (chkS_ok (show chkS sgl0 [ctr_570, ctr_571, ctr_572, ctr_573, ctr_574, ctr_575, ctr_576, ctr_577, ctr_578, ctr_579, ctr_580, ctr_581] ctr_584 = true by decide +kernel) hK.2) (fm_c (cok_570 hK) (fm_c (cok_571 hK) (fm_c (cok_572 hK) (fm_c (cok_573 hK) (fm_c (cok_574 hK) (fm_c (cok_575 hK) (fm_c (cok_576 hK) (fm_c (cok_577 hK) (fm_c (cok_578 hK) (fm_c (cok_579 hK) (fm_c (cok_580 hK) (fm_c (cok_581 hK) fm_n)))))))))))) (show chk KD0 G0 (aX KD0) nX 2000 128 [ctr_570, ctr_571, ctr_572, ctr_573, ctr_574, ctr_575, ctr_576, ctr_577, ctr_578, ctr_579, ctr_580, ctr_581] ctr_584 = true by decide +kernel)
-- X12_laysWitnesses
set_option maxRecDepth 100000 in
def ctr_585 : CTR := (266, [.inr (some 58), .inl (2, 2), .inl (4, 4), .inl (2, 5), .inr none], some (.inl (0, 1)), [], [(56, 0)], 3, 0, [(10, [(0, .inr (some 58)), (1, .inl (2, 2)), (2, .inl (4, 4)), (3, .inl (2, 5)), (4, .inr none), (6, .inl (2, 64))], [], [], 128, [((6, none), -2)], [])], [], [])
set_option maxRecDepth 100000 in
theorem cok_585 {KO : List Nat} (hK : KOK KO) : cOk KD0 KO G0 ctr_585 := chk_ok (G0_xOK hK.1) (chkS_ok (show chkS sgl0 [ctr_571, ctr_572, ctr_573, ctr_574, ctr_575, ctr_576, ctr_577, ctr_578, ctr_579, ctr_580, ctr_581] ctr_585 = true by decide +kernel) hK.2) (fm_c (cok_571 hK) (fm_c (cok_572 hK) (fm_c (cok_573 hK) (fm_c (cok_574 hK) (fm_c (cok_575 hK) (fm_c (cok_576 hK) (fm_c (cok_577 hK) (fm_c (cok_578 hK) (fm_c (cok_579 hK) (fm_c (cok_580 hK) (fm_c (cok_581 hK) fm_n))))))))))) (show chk KD0 G0 (aX KD0) nX 2000 128 [ctr_571, ctr_572, ctr_573, ctr_574, ctr_575, ctr_576, ctr_577, ctr_578, ctr_579, ctr_580, ctr_581] ctr_585 = true by decide +kernel)
-- X12_laysWitnesses
set_option maxRecDepth 100000 in
def ctr_586 : CTR := (266, [.inr (some 58), .inl (2, 2), .inl (4, 4), .inl (2, 7), .inr none], some (.inl (0, 1)), [], [(56, 0)], 3, 0, [(10, [(0, .inr (some 58)), (1, .inl (2, 2)), (2, .inl (4, 4)), (3, .inl (2, 7)), (4, .inr none), (6, .inl (2, 64))], [], [], 128, [((6, none), -2)], [])], [], [])
set_option maxRecDepth 100000 in
theorem cok_586 {KO : List Nat} (hK : KOK KO) : cOk KD0 KO G0 ctr_586 := chk_ok (G0_xOK hK.1) (chkS_ok (show chkS sgl0 [ctr_572, ctr_573, ctr_574, ctr_575, ctr_576, ctr_577, ctr_578, ctr_579, ctr_580, ctr_581] ctr_586 = true by decide +kernel) hK.2) (fm_c (cok_572 hK) (fm_c (cok_573 hK) (fm_c (cok_574 hK) (fm_c (cok_575 hK) (fm_c (cok_576 hK) (fm_c (cok_577 hK) (fm_c (cok_578 hK) (fm_c (cok_579 hK) (fm_c (cok_580 hK) (fm_c (cok_581 hK) fm_n)))))))))) (show chk KD0 G0 (aX KD0) nX 2000 128 [ctr_572, ctr_573, ctr_574, ctr_575, ctr_576, ctr_577, ctr_578, ctr_579, ctr_580, ctr_581] ctr_586 = true by decide +kernel)
-- X12_laysWitnesses
set_option maxRecDepth 100000 in
def ctr_587 : CTR := (266, [.inr (some 58), .inl (2, 2), .inl (4, 4), .inl (2, 8), .inr none], some (.inl (0, 1)), [], [(56, 0)], 3, 0, [(10, [(0, .inr (some 58)), (1, .inl (2, 2)), (2, .inl (4, 4)), (3, .inl (2, 8)), (4, .inr none), (6, .inl (2, 64))], [], [], 128, [((6, none), -2)], [])], [], [])
set_option maxRecDepth 100000 in
theorem cok_587 {KO : List Nat} (hK : KOK KO) : cOk KD0 KO G0 ctr_587 := chk_ok (G0_xOK hK.1) (chkS_ok (show chkS sgl0 [ctr_573, ctr_574, ctr_575, ctr_576, ctr_577, ctr_578, ctr_579, ctr_580, ctr_581] ctr_587 = true by decide +kernel) hK.2) (fm_c (cok_573 hK) (fm_c (cok_574 hK) (fm_c (cok_575 hK) (fm_c (cok_576 hK) (fm_c (cok_577 hK) (fm_c (cok_578 hK) (fm_c (cok_579 hK) (fm_c (cok_580 hK) (fm_c (cok_581 hK) fm_n))))))))) (show chk KD0 G0 (aX KD0) nX 2000 128 [ctr_573, ctr_574, ctr_575, ctr_576, ctr_577, ctr_578, ctr_579, ctr_580, ctr_581] ctr_587 = true by decide +kernel)
-- X12_laysWitnesses
set_option maxRecDepth 100000 in
def ctr_588 : CTR := (266, [.inr (some 58), .inl (2, 2), .inl (4, 4), .inl (2, 9), .inr none], some (.inl (0, 1)), [], [(56, 0)], 3, 0, [(10, [(0, .inr (some 58)), (1, .inl (2, 2)), (2, .inl (4, 4)), (3, .inl (2, 9)), (4, .inr none), (6, .inl (2, 64))], [], [], 128, [((6, none), -2)], [])], [], [])
set_option maxRecDepth 100000 in
theorem cok_588 {KO : List Nat} (hK : KOK KO) : cOk KD0 KO G0 ctr_588 := chk_ok (G0_xOK hK.1) (chkS_ok (show chkS sgl0 [ctr_574, ctr_575, ctr_576, ctr_577, ctr_578, ctr_579, ctr_580, ctr_581] ctr_588 = true by decide +kernel) hK.2) (fm_c (cok_574 hK) (fm_c (cok_575 hK) (fm_c (cok_576 hK) (fm_c (cok_577 hK) (fm_c (cok_578 hK) (fm_c (cok_579 hK) (fm_c (cok_580 hK) (fm_c (cok_581 hK) fm_n)))))))) (show chk KD0 G0 (aX KD0) nX 2000 128 [ctr_574, ctr_575, ctr_576, ctr_577, ctr_578, ctr_579, ctr_580, ctr_581] ctr_588 = true by decide +kernel)
-- X12_laysWitnesses
set_option maxRecDepth 100000 in
def ctr_589 : CTR := (266, [.inr (some 58), .inl (2, 2), .inl (4, 4), .inl (2, 11), .inr none], some (.inl (0, 1)), [], [(56, 0)], 3, 0, [(10, [(0, .inr (some 58)), (1, .inl (2, 2)), (2, .inl (4, 4)), (3, .inl (2, 11)), (4, .inr none), (6, .inl (2, 64))], [], [], 128, [((6, none), -2)], [])], [], [])
set_option maxRecDepth 100000 in
theorem cok_589 {KO : List Nat} (hK : KOK KO) : cOk KD0 KO G0 ctr_589 := chk_ok (G0_xOK hK.1) (chkS_ok (show chkS sgl0 [ctr_575, ctr_576, ctr_577, ctr_578, ctr_579, ctr_580, ctr_581] ctr_589 = true by decide +kernel) hK.2) (fm_c (cok_575 hK) (fm_c (cok_576 hK) (fm_c (cok_577 hK) (fm_c (cok_578 hK) (fm_c (cok_579 hK) (fm_c (cok_580 hK) (fm_c (cok_581 hK) fm_n))))))) (show chk KD0 G0 (aX KD0) nX 2000 128 [ctr_575, ctr_576, ctr_577, ctr_578, ctr_579, ctr_580, ctr_581] ctr_589 = true by decide +kernel)
-- X12_laysWitnesses
set_option maxRecDepth 100000 in
def ctr_590 : CTR := (266, [.inr (some 58), .inl (2, 2), .inl (4, 4), .inl (2, 12), .inr none], some (.inl (0, 1)), [], [(56, 0)], 3, 0, [(10, [(0, .inr (some 58)), (1, .inl (2, 2)), (2, .inl (4, 4)), (3, .inl (2, 12)), (4, .inr none), (6, .inl (2, 64))], [], [], 128, [((6, none), -2)], [])], [], [])
set_option maxRecDepth 100000 in
theorem cok_590 {KO : List Nat} (hK : KOK KO) : cOk KD0 KO G0 ctr_590 := chk_ok (G0_xOK hK.1) (chkS_ok (show chkS sgl0 [ctr_576, ctr_577, ctr_578, ctr_579, ctr_580, ctr_581] ctr_590 = true by decide +kernel) hK.2) (fm_c (cok_576 hK) (fm_c (cok_577 hK) (fm_c (cok_578 hK) (fm_c (cok_579 hK) (fm_c (cok_580 hK) (fm_c (cok_581 hK) fm_n)))))) (show chk KD0 G0 (aX KD0) nX 2000 128 [ctr_576, ctr_577, ctr_578, ctr_579, ctr_580, ctr_581] ctr_590 = true by decide +kernel)
-- X12_laysWitnesses
set_option maxRecDepth 100000 in
def ctr_591 : CTR := (266, [.inr (some 58), .inl (2, 2), .inl (4, 4), .inl (2, 13), .inr none], some (.inl (0, 1)), [], [(56, 0)], 3, 0, [(10, [(0, .inr (some 58)), (1, .inl (2, 2)), (2, .inl (4, 4)), (3, .inl (2, 13)), (4, .inr none), (6, .inl (2, 64))], [], [], 128, [((6, none), -2)], [])], [], [])
set_option maxRecDepth 100000 in
theorem cok_591 {KO : List Nat} (hK : KOK KO) : cOk KD0 KO G0 ctr_591 := chk_ok (G0_xOK hK.1) (chkS_ok (show chkS sgl0 [ctr_577, ctr_578, ctr_579, ctr_580, ctr_581] ctr_591 = true by decide +kernel) hK.2) (fm_c (cok_577 hK) (fm_c (cok_578 hK) (fm_c (cok_579 hK) (fm_c (cok_580 hK) (fm_c (cok_581 hK) fm_n))))) (show chk KD0 G0 (aX KD0) nX 2000 128 [ctr_577, ctr_578, ctr_579, ctr_580, ctr_581] ctr_591 = true by decide +kernel)
-- X12_laysWitnesses
set_option maxRecDepth 100000 in
def ctr_592 : CTR := (266, [.inr (some 58), .inl (2, 2), .inl (4, 4), .inl (2, 14), .inr none], some (.inl (0, 1)), [], [(56, 0)], 3, 0, [(10, [(0, .inr (some 58)), (1, .inl (2, 2)), (2, .inl (4, 4)), (3, .inl (2, 14)), (4, .inr none), (6, .inl (2, 64))], [], [], 128, [((6, none), -2)], [])], [], [])
set_option maxRecDepth 100000 in
theorem cok_592 {KO : List Nat} (hK : KOK KO) : cOk KD0 KO G0 ctr_592 := chk_ok (G0_xOK hK.1) (chkS_ok (show chkS sgl0 [ctr_578, ctr_579, ctr_580, ctr_581] ctr_592 = true by decide +kernel) hK.2) (fm_c (cok_578 hK) (fm_c (cok_579 hK) (fm_c (cok_580 hK) (fm_c (cok_581 hK) fm_n)))) (show chk KD0 G0 (aX KD0) nX 2000 128 [ctr_578, ctr_579, ctr_580, ctr_581] ctr_592 = true by decide +kernel)
-- X12_laysWitnesses
set_option maxRecDepth 100000 in
def ctr_593 : CTR := (266, [.inr (some 58), .inl (2, 2), .inl (4, 4), .inl (2, 16), .inr none], some (.inl (0, 1)), [], [(56, 0)], 3, 0, [(10, [(0, .inr (some 58)), (1, .inl (2, 2)), (2, .inl (4, 4)), (3, .inl (2, 16)), (4, .inr none), (6, .inl (2, 64))], [], [], 128, [((6, none), -2)], [])], [], [])
set_option maxRecDepth 100000 in
theorem cok_593 {KO : List Nat} (hK : KOK KO) : cOk KD0 KO G0 ctr_593 := chk_ok (G0_xOK hK.1) (chkS_ok (show chkS sgl0 [ctr_579, ctr_580, ctr_581] ctr_593 = true by decide +kernel) hK.2) (fm_c (cok_579 hK) (fm_c (cok_580 hK) (fm_c (cok_581 hK) fm_n))) (show chk KD0 G0 (aX KD0) nX 2000 128 [ctr_579, ctr_580, ctr_581] ctr_593 = true by decide +kernel)
-- X12_laysWitnesses
set_option maxRecDepth 100000 in
def ctr_594 : CTR := (266, [.inr (some 58), .inl (2, 2), .inl (4, 4), .inl (2, 17), .inr none], some (.inl (0, 1)), [], [(56, 0)], 3, 0, [(10, [(0, .inr (some 58)), (1, .inl (2, 2)), (2, .inl (4, 4)), (3, .inl (2, 17)), (4, .inr none), (6, .inl (2, 64))], [], [], 128, [((6, none), -2)], [])], [], [])
set_option maxRecDepth 100000 in
theorem cok_594 {KO : List Nat} (hK : KOK KO) : cOk KD0 KO G0 ctr_594 := chk_ok (G0_xOK hK.1) (chkS_ok (show chkS sgl0 [ctr_580, ctr_581] ctr_594 = true by decide +kernel) hK.2) (fm_c (cok_580 hK) (fm_c (cok_581 hK) fm_n)) (show chk KD0 G0 (aX KD0) nX 2000 128 [ctr_580, ctr_581] ctr_594 = true by decide +kernel)
-- X12_laysWitnesses
set_option maxRecDepth 100000 in
def ctr_595 : CTR := (266, [.inr (some 58), .inl (2, 2), .inl (4, 4), .inl (2, 32), .inr none], some (.inl (0, 1)), [], [(56, 0)], 3, 0, [(10, [(0, .inr (some 58)), (1, .inl (2, 2)), (2, .inl (4, 4)), (3, .inl (2, 32)), (4, .inr none), (6, .inl (2, 64))], [], [], 128, [((6, none), -2)], [])], [], [])
set_option maxRecDepth 100000 in
theorem cok_595 {KO : List Nat} (hK : KOK KO) : cOk KD0 KO G0 ctr_595 := chk_ok (G0_xOK hK.1) (chkS_ok (show chkS sgl0 [ctr_581] ctr_595 = true by decide +kernel) hK.2) (fm_c (cok_581 hK) fm_n) (show chk KD0 G0 (aX KD0) nX 2000 128 [ctr_581] ctr_595 = true by decide +kernel)
-- X12_laysWitnesses
set_option maxRecDepth 100000 in
def ctr_596 : CTR := (266, [.inr (some 58), .inl (2, 2), .inl (4, 4), .inl (2, 64), .inr none], some (.inl (0, 1)), [], [(56, 0)], 3, 0, [(10, [(0, .inr (some 58)), (1, .inl (2, 2)), (2, .inl (4, 4)), (3, .inl (2, 64)), (4, .inr none), (6, .inl (2, 64))], [], [], 128, [((6, none), -2)], [])], [], [])
set_option maxRecDepth 100000 in
theorem cok_596 {KO : List Nat} (hK : KOK KO) : cOk KD0 KO G0 ctr_596 := chk_ok (G0_xOK hK.1) (chkS_ok (show chkS sgl0 [ctr_581] ctr_596 = true by decide +kernel) hK.2) (fm_c (cok_581 hK) fm_n) (show chk KD0 G0 (aX KD0) nX 2000 128 [ctr_581] ctr_596 = true by decide +kernel)
-- X12_laysWitnesses
set_option maxRecDepth 100000 in
def ctr_597 : CTR := (266, [.inr (some 58), .inl (1, 1), .inl (4, 4), .inl (1, 1), .inr none], some (.inl (0, 1)), [], [(56, 0)], 4, 0, [(10, [(0, .inr (some 58)), (1, .inl (1, 1)), (2, .inl (4, 4)), (3, .inl (1, 1)), (4, .inr none), (6, .inl (1, 64))], [], [], 128, [((6, none), -2)], [])], [], [])
set_option maxRecDepth 100000 in
theorem cok_597 {KO : List Nat} (hK : KOK KO) : cOk KD0 KO G0 ctr_597 := chk_ok (G0_xOK hK.1) (chkS_ok (show chkS sgl0 [ctr_582, ctr_583, ctr_584, ctr_585, ctr_586, ctr_587, ctr_588, ctr_589, ctr_590, ctr_591, ctr_592, ctr_593, ctr_594, ctr_595, ctr_596] ctr_597 = true by decide +kernel) hK.2) (fm_c (cok_582 hK) (fm_c (cok_583 hK) (fm_c (cok_584 hK) (fm_c (cok_585 hK) (fm_c (cok_586 hK) (fm_c (cok_587 hK) (fm_c (cok_588 hK) (fm_c (cok_589 hK) (fm_c (cok_590 hK) (fm_c (cok_591 hK) (fm_c (cok_592 hK) (fm_c (cok_593 hK) (fm_c (cok_594 hK) (fm_c (cok_595 hK) (fm_c (cok_596 hK) fm_n))))))))))))))) (show chk KD0 G0 (aX KD0) nX 2000 130 [ctr_582, ctr_583, ctr_584, ctr_585, ctr_586, ctr_587, ctr_588, ctr_589, ctr_590, ctr_591, ctr_592, ctr_593, ctr_594, ctr_595, ctr_596] ctr_597 = true by decide +kernel)
-- X12_laysWitnesses
set_option maxRecDepth 100000 in
def ctr_598 : CTR := (266, [.inr (some 58), .inl (1, 1), .inl (4, 4), .inl (1, 2), .inr none], some (.inl (0, 1)), [], [(56, 0)], 4, 0, [(10, [(0, .inr (some 58)), (1, .inl (1, 1)), (2, .inl (4, 4)), (3, .inl (1, 2)), (4, .inr none), (6, .inl (1, 64))], [], [], 128, [((6, none), -2)], [])], [], [])
set_option maxRecDepth 100000 in
theorem cok_598 {KO : List Nat} (hK : KOK KO) : cOk KD0 KO G0 ctr_598 := chk_ok (G0_xOK hK.1) (chkS_ok (show chkS sgl0 [ctr_583, ctr_584, ctr_585, ctr_586, ctr_587, ctr_588, ctr_589, ctr_590, ctr_591, ctr_592, ctr_593, ctr_594, ctr_595, ctr_596] ctr_598 = true by decide +kernel) hK.2) (fm_c (cok_583 hK) (fm_c (cok_584 hK) (fm_c (cok_585 hK) (fm_c (cok_586 hK) (fm_c (cok_587 hK) (fm_c (cok_588 hK) (fm_c (cok_589 hK) (fm_c (cok_590 hK) (fm_c (cok_591 hK) (fm_c (cok_592 hK) (fm_c (cok_593 hK) (fm_c (cok_594 hK) (fm_c (cok_595 hK) (fm_c (cok_596 hK) fm_n)))))))))))))) (show chk KD0 G0 (aX KD0) nX 2000 130 [ctr_583, ctr_584, ctr_585, ctr_586, ctr_587, ctr_588, ctr_589, ctr_590, ctr_591, ctr_592, ctr_593, ctr_594, ctr_595, ctr_596] ctr_598 = true by decide +kernel)
-- X12_laysWitnesses
set_option maxRecDepth 100000 in
def ctr_599 : CTR := (266, [.inr (some 58), .inl (1, 1), .inl (4, 4), .inl (1, 3), .inr none], some (.inl (0, 1)), [], [(56, 0)], 4, 0, [(10, [(0, .inr (some 58)), (1, .inl (1, 1)), (2, .inl (4, 4)), (3, .inl (1, 3)), (4, .inr none), (6, .inl (1, 64))], [], [], 128, [((6, none), -2)], [])], [], [])
set_option maxRecDepth 100000 in
theorem cok_599 {KO : List Nat} (hK : KOK KO) : cOk KD0 KO G0 ctr_599 := chk_ok (G0_xOK hK.1) (chkS_ok (show chkS sgl0 [ctr_584, ctr_585, ctr_586, ctr_587, ctr_588, ctr_589, ctr_590, ctr_591, ctr_592, ctr_593, ctr_594, ctr_595, ctr_596] ctr_599 = true by decide +kernel) hK.2) (fm_c (cok_584 hK) (fm_c (cok_585 hK) (fm_c (cok_586 hK) (fm_c (cok_587 hK) (fm_c (cok_588 hK) (fm_c (cok_589 hK) (fm_c (cok_590 hK) (fm_c (cok_591 hK) (fm_c (cok_592 hK) (fm_c (cok_593 hK) (fm_c (cok_594 hK) (fm_c (cok_595 hK) (fm_c (cok_596 hK) fm_n))))))))))))) (show chk KD0 G0 (aX KD0) nX 2000 130 [ctr_584, ctr_585, ctr_586, ctr_587, ctr_588, ctr_589, ctr_590, ctr_591, ctr_592, ctr_593, ctr_594, ctr_595, ctr_596] ctr_599 = true by decide +kernel)
-- X12_laysWitnesses
set_option maxRecDepth 100000 in
def ctr_600 : CTR := (266, [.inr (some 58), .inl (1, 1), .inl (4, 4), .inl (1, 4), .inr none], some (.inl (0, 1)), [], [(56, 0)], 4, 0, [(10, [(0, .inr (some 58)), (1, .inl (1, 1)), (2, .inl (4, 4)), (3, .inl (1, 4)), (4, .inr none), (6, .inl (1, 64))], [], [], 128, [((6, none), -2)], [])], [], [])
set_option maxRecDepth 100000 in
theorem cok_600 {KO : List Nat} (hK : KOK KO) : cOk KD0 KO G0 ctr_600 := chk_ok (G0_xOK hK.1) (chkS_ok (show chkS sgl0 [ctr_585, ctr_586, ctr_587, ctr_588, ctr_589, ctr_590, ctr_591, ctr_592, ctr_593, ctr_594, ctr_595, ctr_596] ctr_600 = true by decide +kernel) hK.2) (fm_c (cok_585 hK) (fm_c (cok_586 hK) (fm_c (cok_587 hK) (fm_c (cok_588 hK) (fm_c (cok_589 hK) (fm_c (cok_590 hK) (fm_c (cok_591 hK) (fm_c (cok_592 hK) (fm_c (cok_593 hK) (fm_c (cok_594 hK) (fm_c (cok_595 hK) (fm_c (cok_596 hK) fm_n)))))))))))) (show chk KD0 G0 (aX KD0) nX 2000 130 [ctr_585, ctr_586, ctr_587, ctr_588, ctr_589, ctr_590, ctr_591, ctr_592, ctr_593, ctr_594, ctr_595, ctr_596] ctr_600 = true by decide +kernel)
-- X12_laysWitnesses
set_option maxRecDepth 100000 in
def ctr_601 : CTR := (266, [.inr (some 58), .inl (1, 1), .inl (4, 4), .inl (1, 5), .inr none], some (.inl (0, 1)), [], [(56, 0)], 4, 0, [(10, [(0, .inr (some 58)), (1, .inl (1, 1)), (2, .inl (4, 4)), (3, .inl (1, 5)), (4, .inr none), (6, .inl (1, 64))], [], [], 128, [((6, none), -2)], [])], [], [])
set_option maxRecDepth 100000 in
theorem cok_601 {KO : List Nat} (hK : KOK KO) : cOk KD0 KO G0 ctr_601 := chk_ok (G0_xOK hK.1) (chkS_ok (show chkS sgl0 [ctr_586, ctr_587, ctr_588, ctr_589, ctr_590, ctr_591, ctr_592, ctr_593, ctr_594, ctr_595, ctr_596] ctr_601 = true by decide +kernel) hK.2) (fm_c (cok_586 hK) (fm_c (cok_587 hK) (fm_c (cok_588 hK) (fm_c (cok_589 hK) (fm_c (cok_590 hK) (fm_c (cok_591 hK) (fm_c (cok_592 hK) (fm_c (cok_593 hK) (fm_c (cok_594 hK) (fm_c (cok_595 hK) (fm_c (cok_596 hK) fm_n))))))))))) (show chk KD0 G0 (aX KD0) nX 2000 130 [ctr_586, ctr_587, ctr_588, ctr_589, ctr_590, ctr_591, ctr_592, ctr_593, ctr_594, ctr_595, ctr_596] ctr_601 = true by decide +kernel)
-- X12_laysWitnesses
set_option maxRecDepth 100000 in
def ctr_602 : CTR := (266, [.inr (some 58), .inl (1, 1), .inl (4, 4), .inl (1, 7), .inr none], some (.inl (0, 1)), [], [(56, 0)], 4, 0, [(10, [(0, .inr (some 58)), (1, .inl (1, 1)), (2, .inl (4, 4)), (3, .inl (1, 7)), (4, .inr none), (6, .inl (1, 64))], [], [], 128, [((6, none), -2)], [])], [], [])
set_option maxRecDepth 100000 in
theorem cok_602 {KO : List Nat} (hK : KOK KO) : cOk KD0 KO G0 ctr_602 := chk_ok (G0_xOK hK.1) (chkS_ok (show chkS sgl0 [ctr_587, ctr_588, ctr_589, ctr_590, ctr_591, ctr_592, ctr_593, ctr_594, ctr_595, ctr_596] ctr_602 = true by decide +kernel) hK.2) (fm_c (cok_587 hK) (fm_c (cok_588 hK) (fm_c (cok_589 hK) (fm_c (cok_590 hK) (fm_c (cok_591 hK) (fm_c (cok_592 hK) (fm_c (cok_593 hK) (fm_c (cok_594 hK) (fm_c (cok_595 hK) (fm_c (cok_596 hK) fm_n)))))))))) (show chk KD0 G0 (aX KD0) nX 2000 130 [ctr_587, ctr_588, ctr_589, ctr_590, ctr_591, ctr_592, ctr_593, ctr_594, ctr_595, ctr_596] ctr_602 = true by decide +kernel)
-- X12_laysWitnesses
set_option maxRecDepth 100000 in
def ctr_603 : CTR := (266, [.inr (some 58), .inl (1, 1), .inl (4, 4), .inl (1, 8), .inr none], some (.inl (0, 1)), [], [(56, 0)], 4, 0, [(10, [(0, .inr (some 58)), (1, .inl (1, 1)), (2, .inl (4, 4)), (3, .inl (1, 8)), (4, .inr none), (6, .inl (1, 64))], [], [], 128, [((6, none), -2)], [])], [], [])
set_option maxRecDepth 100000 in
theorem cok_603 {KO : List Nat} (hK : KOK KO) : cOk KD0 KO G0 ctr_603 := chk_ok (G0_xOK hK.1) (chkS_ok (show chkS sgl0 [ctr_588, ctr_589, ctr_590, ctr_591, ctr_592, ctr_593, ctr_594, ctr_595, ctr_596] ctr_603 = true by decide +kernel) hK.2) (fm_c (cok_588 hK) (fm_c (cok_589 hK) (fm_c (cok_590 hK) (fm_c (cok_591 hK) (fm_c (cok_592 hK) (fm_c (cok_593 hK) (fm_c (cok_594 hK) (fm_c (cok_595 hK) (fm_c (cok_596 hK) fm_n))))))))) (show chk KD0 G0 (aX KD0) nX 2000 130 [ctr_588, ctr_589, ctr_590, ctr_591, ctr_592, ctr_593, ctr_594, ctr_595, ctr_596] ctr_603 = true by decide +kernel)
-- X12_laysWitnesses
set_option maxRecDepth 100000 in
def ctr_604 : CTR := (266, [.inr (some 58), .inl (1, 1), .inl (4, 4), .inl (1, 9), .inr none], some (.inl (0, 1)), [], [(56, 0)], 4, 0, [(10, [(0, .inr (some 58)), (1, .inl (1, 1)), (2, .inl (4, 4)), (3, .inl (1, 9)), (4, .inr none), (6, .inl (1, 64))], [], [], 128, [((6, none), -2)], [])], [], [])
set_option maxRecDepth 100000 in
theorem cok_604 {KO : List Nat} (hK : KOK KO) : cOk KD0 KO G0 ctr_604 := chk_ok (G0_xOK hK.1) (chkS_ok (show chkS sgl0 [ctr_589, ctr_590, ctr_591, ctr_592, ctr_593, ctr_594, ctr_595, ctr_596] ctr_604 = true by decide +kernel) hK.2) (fm_c (cok_589 hK) (fm_c (cok_590 hK) (fm_c (cok_591 hK) (fm_c (cok_592 hK) (fm_c (cok_593 hK) (fm_c (cok_594 hK) (fm_c (cok_595 hK) (fm_c (cok_596 hK) fm_n)))))))) (show chk KD0 G0 (aX KD0) nX 2000 130 [ctr_589, ctr_590, ctr_591, ctr_592, ctr_593, ctr_594, ctr_595, ctr_596] ctr_604 = true by decide +kernel)
-- X12_laysWitnesses
set_option maxRecDepth 100000 in
def ctr_605 : CTR := (266, [.inr (some 58), .inl (1, 1), .inl (4, 4), .inl (1, 11), .inr none], some (.inl (0, 1)), [], [(56, 0)], 4, 0, [(10, [(0, .inr (some 58)), (1, .inl (1, 1)), (2, .inl (4, 4)), (3, .inl (1, 11)), (4, .inr none), (6, .inl (1, 64))], [], [], 128, [((6, none), -2)], [])], [], [])
set_option maxRecDepth 100000 in
theorem cok_605 {KO : List Nat} (hK : KOK KO) : cOk KD0 KO G0 ctr_605 := chk_ok (G0_xOK hK.1) (chkS_ok (show chkS sgl0 [ctr_590, ctr_591, ctr_592, ctr_593, ctr_594, ctr_595, ctr_596] ctr_605 = true by decide +kernel) hK.2) (fm_c (cok_590 hK) (fm_c (cok_591 hK) (fm_c (cok_592 hK) (fm_c (cok_593 hK) (fm_c (cok_594 hK) (fm_c (cok_595 hK) (fm_c (cok_596 hK) fm_n))))))) (show chk KD0 G0 (aX KD0) nX 2000 130 [ctr_590, ctr_591, ctr_592, ctr_593, ctr_594, ctr_595, ctr_596] ctr_605 = true by decide +kernel)
-- X12_laysWitnesses
set_option maxRecDepth 100000 in
def ctr_606 : CTR := (266, [.inr (some 58), .inl (1, 1), .inl (4, 4), .inl (1, 12), .inr none], some (.inl (0, 1)), [], [(56, 0)], 4, 0, [(10, [(0, .inr (some 58)), (1, .inl (1, 1)), (2, .inl (4, 4)), (3, .inl (1, 12)), (4, .inr none), (6, .inl (1, 64))], [], [], 128, [((6, none), -2)], [])], [], [])
set_option maxRecDepth 100000 in
theorem cok_606 {KO : List Nat} (hK : KOK KO) : cOk KD0 KO G0 ctr_606 := chk_ok (G0_xOK hK.1) (chkS_ok (show chkS sgl0 [ctr_591, ctr_592, ctr_593, ctr_594, ctr_595, ctr_596] ctr_606 = true by decide +kernel) hK.2) (fm_c (cok_591 hK) (fm_c (cok_592 hK) (fm_c (cok_593 hK) (fm_c (cok_594 hK) (fm_c (cok_595 hK) (fm_c (cok_596 hK) fm_n)))))) (show chk KD0 G0 (aX KD0) nX 2000 130 [ctr_591, ctr_592, ctr_593, ctr_594, ctr_595, ctr_596] ctr_606 = true by decide +kernel)
-- X12_laysWitnesses
set_option maxRecDepth 100000 in
def ctr_607 : CTR := (266, [.inr (some 58), .inl (1, 1), .inl (4, 4), .inl (1, 13), .inr none], some (.inl (0, 1)), [], [(56, 0)], 4, 0, [(10, [(0, .inr (some 58)), (1, .inl (1, 1)), (2, .inl (4, 4)), (3, .inl (1, 13)), (4, .inr none), (6, .inl (1, 64))], [], [], 128, [((6, none), -2)], [])], [], [])
set_option maxRecDepth 100000 in
theorem cok_607 {KO : List Nat} (hK : KOK KO) : cOk KD0 KO G0 ctr_607 := chk_ok (G0_xOK hK.1) (chkS_ok (show chkS sgl0 [ctr_592, ctr_593, ctr_594, ctr_595, ctr_596] ctr_607 = true by decide +kernel) hK.2) (fm_c (cok_592 hK) (fm_c (cok_593 hK) (fm_c (cok_594 hK) (fm_c (cok_595 hK) (fm_c (cok_596 hK) fm_n))))) (show chk KD0 G0 (aX KD0) nX 2000 130 [ctr_592, ctr_593, ctr_594, ctr_595, ctr_596] ctr_607 = true by decide +kernel)
