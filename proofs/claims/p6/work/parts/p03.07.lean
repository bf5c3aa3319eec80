-- X12_laysWitnesses
set_option maxRecDepth 100000 in
def ctr_608 : CTR := (266, [.inr (some 58), .inl (1, 1), .inl (4, 4), .inl (1, 14), .inr none], some (.inl (0, 1)), [], [(56, 0)], 4, 0, [(10, [(0, .inr (some 58)), (1, .inl (1, 1)), (2, .inl (4, 4)), (3, .inl (1, 14)), (4, .inr none), (6, .inl (1, 64))], [], [], 128, [((6, none), -2)], [])], [], [])
set_option maxRecDepth 100000 in
theorem cok_608 {KO : List Nat} (hK : KOK KO) : cOk KD0 KO G0 ctr_608 := chk_ok (G0_xOK hK.1) (chkS_ok (show chkS sgl0 [ctr_593, ctr_594, ctr_595, ctr_596] ctr_608 = true by decide +kernel) hK.2) (fm_c (cok_593 hK) (fm_c (cok_594 hK) (fm_c (cok_595 hK) (fm_c (cok_596 hK) fm_n)))) (show chk KD0 G0 (aX KD0) nX 2000 130 [ctr_593, ctr_594, ctr_595, ctr_596] ctr_608 = true by decide +kernel)
-- X12_laysWitnesses
set_option maxRecDepth 100000 in
def ctr_609 : CTR := (266, [.inr (some 58), .inl (1, 1), .inl (4, 4), .inl (1, 16), .inr none], some (.inl (0, 1)), [], [(56, 0)], 4, 0, [(10, [(0, .inr (some 58)), (1, .inl (1, 1)), (2, .inl (4, 4)), (3, .inl (1, 16)), (4, .inr none), (6, .inl (1, 64))], [], [], 128, [((6, none), -2)], [])], [], [])
set_option maxRecDepth 100000 in
theorem cok_609 {KO : List Nat} (hK : KOK KO) : cOk KD0 KO G0 ctr_609 := chk_ok (G0_xOK hK.1) (chkS_ok (show chkS sgl0 [ctr_594, ctr_595, ctr_596] ctr_609 = true by decide +kernel) hK.2) (fm_c (cok_594 hK) (fm_c (cok_595 hK) (fm_c (cok_596 hK) fm_n))) (show chk KD0 G0 (aX KD0) nX 2000 130 [ctr_594, ctr_595, ctr_596] ctr_609 = true by decide +kernel)
-- X12_laysWitnesses
set_option maxRecDepth 100000 in
def ctr_610 : CTR := (266, [.inr (some 58), .inl (1, 1), .inl (4, 4), .inl (1, 17), .inr none], some (.inl (0, 1)), [], [(56, 0)], 4, 0, [(10, [(0, .inr (some 58)), (1, .inl (1, 1)), (2, .inl (4, 4)), (3, .inl (1, 17)), (4, .inr none), (6, .inl (1, 64))], [], [], 128, [((6, none), -2)], [])], [], [])
set_option maxRecDepth 100000 in
theorem cok_610 {KO : List Nat} (hK : KOK KO) : cOk KD0 KO G0 ctr_610 := chk_ok (G0_xOK hK.1) (chkS_ok (show chkS sgl0 [ctr_595, ctr_596] ctr_610 = true by decide +kernel) hK.2) (fm_c (cok_595 hK) (fm_c (cok_596 hK) fm_n)) (show chk KD0 G0 (aX KD0) nX 2000 130 [ctr_595, ctr_596] ctr_610 = true by decide +kernel)
-- X12_laysWitnesses
set_option maxRecDepth 100000 in
def ctr_611 : CTR := (266, [.inr (some 58), .inl (1, 1), .inl (4, 4), .inl (1, 32), .inr none], some (.inl (0, 1)), [], [(56, 0)], 4, 0, [(10, [(0, .inr (some 58)), (1, .inl (1, 1)), (2, .inl (4, 4)), (3, .inl (1, 32)), (4, .inr none), (6, .inl (1, 64))], [], [], 128, [((6, none), -2)], [])], [], [])
set_option maxRecDepth 100000 in
theorem cok_611 {KO : List Nat} (hK : KOK KO) : cOk KD0 KO G0 ctr_611 := chk_ok (G0_xOK hK.1) (chkS_ok (show chkS sgl0 [ctr_596] ctr_611 = true by decide +kernel) hK.2) (fm_c (cok_596 hK) fm_n) (show chk KD0 G0 (aX KD0) nX 2000 130 [ctr_596] ctr_611 = true by decide +kernel)
-- X12_laysWitnesses
set_option maxRecDepth 100000 in
def ctr_612 : CTR := (266, [.inr (some 58), .inl (1, 1), .inl (4, 4), .inl (1, 64), .inr none], some (.inl (0, 1)), [], [(56, 0)], 4, 0, [(10, [(0, .inr (some 58)), (1, .inl (1, 1)), (2, .inl (4, 4)), (3, .inl (1, 64)), (4, .inr none), (6, .inl (1, 64))], [], [], 128, [((6, none), -2)], [])], [], [])
set_option maxRecDepth 100000 in
theorem cok_612 {KO : List Nat} (hK : KOK KO) : cOk KD0 KO G0 ctr_612 := chk_ok (G0_xOK hK.1) (chkS_ok (show chkS sgl0 [ctr_596] ctr_612 = true by decide +kernel) hK.2) (fm_c (cok_596 hK) fm_n) (show chk KD0 G0 (aX KD0) nX 2000 130 [ctr_596] ctr_612 = true by decide +kernel)
-- X12_laysWitnesses
set_option maxRecDepth 100000 in
def ctr_613 : CTR := (266, [.inr (some 58), .inl (0, 0), .inl (4, 4), .inl (0, 0), .inr none], some (.inl (0, 1)), [], [(56, 0)], 5, 0, [(10, [(0, .inr (some 58)), (1, .inl (0, 0)), (2, .inl (4, 4)), (3, .inl (0, 0)), (4, .inr none), (6, .inl (0, 64))], [], [], 128, [((6, none), -2)], [])], [], [])
set_option maxRecDepth 100000 in
theorem cok_613 {KO : List Nat} (hK : KOK KO) : cOk KD0 KO G0 ctr_613 := chk_ok (G0_xOK hK.1) (chkS_ok (show chkS sgl0 [ctr_597, ctr_598, ctr_599, ctr_600, ctr_601, ctr_602, ctr_603, ctr_604, ctr_605, ctr_606, ctr_607, ctr_608, ctr_609, ctr_610, ctr_611, ctr_612] ctr_613 = true by decide +kernel) hK.2) (fm_c (cok_597 hK) (fm_c (cok_598 hK) (fm_c (cok_599 hK) (fm_c (cok_600 hK) (fm_c (cok_601 hK) (fm_c (cok_602 hK) (fm_c (cok_603 hK) (fm_c (cok_604 hK) (fm_c (cok_605 hK) (fm_c (cok_606 hK) (fm_c (cok_607 hK) (fm_c (cok_608 hK) (fm_c (cok_609 hK) (fm_c (cok_610 hK) (fm_c (cok_611 hK) (fm_c (cok_612 hK) fm_n)))))))))))))))) (show chk KD0 G0 (aX KD0) nX 2000 132 [ctr_597, ctr_598, ctr_599, ctr_600, ctr_601, ctr_602, ctr_603, ctr_604, ctr_605, ctr_606, ctr_607, ctr_608, ctr_609, ctr_610, ctr_611, ctr_612] ctr_613 = true by decide +kernel)
-- X12_guardAt
set_option maxRecDepth 100000 in
def ctr_614 : CTR := (278, [.inr (some 58), .inl (-2147483648, 2147483647)], some (.inl (-1, 63)), [], [(58, 0)], 4, 0, [], [], [])
set_option maxRecDepth 100000 in
theorem cok_614 {KO : List Nat} (hK : KOK KO) : cOk KD0 KO G0 ctr_614 := chk_ok (G0_xOK hK.1) (chkS_ok (show chkS sgl0 [] ctr_614 = true by decide +kernel) hK.2) fm_n (show chk KD0 G0 (aX KD0) nX 2000 2 [] ctr_614 = true by decide +kernel)
-- X12_guardRange
set_option maxRecDepth 100000 in
def ctr_615 : CTR := (279, [.inr (some 58), .inl (-2147483648, 2147483647)], some (.inl (0, 99)), [], [(58, 0)], 4, 0, [], [], [])
set_option maxRecDepth 100000 in
theorem cok_615 {KO : List Nat} (hK : KOK KO) : cOk KD0 KO G0 ctr_615 := chk_ok (G0_xOK hK.1) (chkS_ok (show chkS sgl0 [] ctr_615 = true by decide +kernel) hK.2) fm_n (show chk KD0 G0 (aX KD0) nX 2000 2 [] ctr_615 = true by decide +kernel)
-- X12_treasureAt
set_option maxRecDepth 100000 in
def ctr_616 : CTR := (288, [.inr (some 58), .inl (-2147483648, 2147483647)], some (.inl (-1, 63)), [], [(58, 0)], 3, 0, [], [], [])
set_option maxRecDepth 100000 in
theorem cok_616 {KO : List Nat} (hK : KOK KO) : cOk KD0 KO G0 ctr_616 := chk_ok (G0_xOK hK.1) (chkS_ok (show chkS sgl0 [] ctr_616 = true by decide +kernel) hK.2) fm_n (show chk KD0 G0 (aX KD0) nX 2000 2 [] ctr_616 = true by decide +kernel)
-- X12_worthOf
set_option maxRecDepth 100000 in
def ctr_617 : CTR := (289, [.inr (some 58), .inr none], some (.inl (-2147483648, 2147483647)), [], [], 3, 0, [(5, [(0, .inr (some 58)), (1, .inr none), (3, .inl (-2147483648, 2147483647)), (4, .inl (0, 6))], [], [], 12, [((4, none), -2)], [])], [], [])
set_option maxRecDepth 100000 in
theorem cok_617 {KO : List Nat} (hK : KOK KO) : cOk KD0 KO G0 ctr_617 := chk_ok (G0_xOK hK.1) (chkS_ok (show chkS sgl0 [ctr_482] ctr_617 = true by decide +kernel) hK.2) (fm_c (cok_482 hK) fm_n) (show chk KD0 G0 (aX KD0) nX 2000 16 [ctr_482] ctr_617 = true by decide +kernel)
-- X12_isGuardAt
set_option maxRecDepth 100000 in
def ctr_618 : CTR := (292, [.inr (some 58), .inl (-2147483648, 2147483647), .inl (-2147483648, 2147483647)], some (.inl (0, 1)), [], [], 2, 0, [(2, [(0, .inr (some 58)), (1, .inl (-2147483648, 2147483647)), (2, .inl (-2147483648, 2147483647)), (3, .inl (0, 6))], [], [], 12, [((3, none), -2)], [])], [], [])
set_option maxRecDepth 100000 in
theorem cok_618 {KO : List Nat} (hK : KOK KO) : cOk KD0 KO G0 ctr_618 := chk_ok (G0_xOK hK.1) (chkS_ok (show chkS sgl0 [] ctr_618 = true by decide +kernel) hK.2) fm_n (show chk KD0 G0 (aX KD0) nX 2000 16 [] ctr_618 = true by decide +kernel)
-- X12_isTreasureAt
set_option maxRecDepth 100000 in
def ctr_619 : CTR := (293, [.inr (some 58), .inl (-2147483648, 2147483647), .inl (-2147483648, 2147483647)], some (.inl (0, 1)), [], [], 2, 0, [(2, [(0, .inr (some 58)), (1, .inl (-2147483648, 2147483647)), (2, .inl (-2147483648, 2147483647)), (3, .inl (0, 6))], [], [], 12, [((3, none), -2)], [])], [], [])
set_option maxRecDepth 100000 in
theorem cok_619 {KO : List Nat} (hK : KOK KO) : cOk KD0 KO G0 ctr_619 := chk_ok (G0_xOK hK.1) (chkS_ok (show chkS sgl0 [] ctr_619 = true by decide +kernel) hK.2) fm_n (show chk KD0 G0 (aX KD0) nX 2000 16 [] ctr_619 = true by decide +kernel)
-- X12_isVertexAt
set_option maxRecDepth 100000 in
def ctr_620 : CTR := (294, [.inr (some 58), .inl (-2147483648, 2147483647), .inl (-2147483648, 2147483647)], some (.inl (0, 1)), [], [], 1, 0, [(2, [(0, .inr (some 58)), (1, .inl (-2147483648, 2147483647)), (2, .inl (-2147483648, 2147483647)), (3, .inl (0, 12))], [], [], 24, [((3, none), -2)], [])], [], [])
set_option maxRecDepth 100000 in
theorem cok_620 {KO : List Nat} (hK : KOK KO) : cOk KD0 KO G0 ctr_620 := chk_ok (G0_xOK hK.1) (chkS_ok (show chkS sgl0 [] ctr_620 = true by decide +kernel) hK.2) fm_n (show chk KD0 G0 (aX KD0) nX 2000 28 [] ctr_620 = true by decide +kernel)
-- X12_drawnByte
set_option maxRecDepth 100000 in
def ctr_621 : CTR := (296, [.inr (some 58), .inl (-2147483648, 2147483647)], some (.inl (-2147483648, 2147483647)), [], [(58, 0)], 2, 0, [], [], [])
set_option maxRecDepth 100000 in
theorem cok_621 {KO : List Nat} (hK : KOK KO) : cOk KD0 KO G0 ctr_621 := chk_ok (G0_xOK hK.1) (chkS_ok (show chkS sgl0 [] ctr_621 = true by decide +kernel) hK.2) fm_n (show chk KD0 G0 (aX KD0) nX 2000 2 [] ctr_621 = true by decide +kernel)
-- X12_lays
set_option maxRecDepth 100000 in
def ctr_622 : CTR := (297, [.inr (some 58), .inl (1, 8)], none, [], [(38, 0)], 1, 0, [(2, [(0, .inr (some 58)), (1, .inl (1, 8)), (2, .inl (0, 63))], [], [], 126, [((2, none), -2)], [])], [], [])
set_option maxRecDepth 100000 in
theorem cok_622 {KO : List Nat} (hK : KOK KO) : cOk KD0 KO G0 ctr_622 := chk_ok (G0_xOK hK.1) (chkS_ok (show chkS sgl0 [] ctr_622 = true by decide +kernel) hK.2) fm_n (show chk KD0 G0 (aX KD0) nX 2000 130 [] ctr_622 = true by decide +kernel)
-- X12_keeps
set_option maxRecDepth 100000 in
def ctr_623 : CTR := (299, [.inr (some 58)], none, [], [(38, 0), (58, 4)], 2, 0, [(12, [(0, .inr (some 58)), (1, .inl (63, 504))], [], [(0, 4, (8, 8))], 1008, [((1, none), -2)], [])], [], [])
set_option maxRecDepth 100000 in
theorem cok_623 {KO : List Nat} (hK : KOK KO) : cOk KD0 KO G0 ctr_623 := chk_ok (G0_xOK hK.1) (chkS_ok (show chkS sgl0 [ctr_622] ctr_623 = true by decide +kernel) hK.2) (fm_c (cok_622 hK) fm_n) (show chk KD0 G0 (aX KD0) nX 2000 886 [ctr_622] ctr_623 = true by decide +kernel)
-- X12_moveGuard
set_option maxRecDepth 100000 in
def ctr_624 : CTR := (302, [.inr (some 58), .inl (-2147483648, 2147483647), .inl (-2147483648, 2147483647)], some (.inl (-1, 63)), [], [(37, 0), (38, 0), (58, 0), (58, 4)], 4, 0, [], [], [])
set_option maxRecDepth 100000 in
theorem cok_624 {KO : List Nat} (hK : KOK KO) : cOk KD0 KO G0 ctr_624 := chk_ok (G0_xOK hK.1) (chkS_ok (show chkS sgl0 [ctr_623] ctr_624 = true by decide +kernel) hK.2) (fm_c (cok_623 hK) fm_n) (show chk KD0 G0 (aX KD0) nX 2000 2 [ctr_623] ctr_624 = true by decide +kernel)
-- X12_setRange
set_option maxRecDepth 100000 in
def ctr_625 : CTR := (303, [.inr (some 58), .inl (-2147483648, 2147483647), .inl (-2147483648, 2147483647)], some (.inl (0, 99)), [], [(37, 0), (38, 0), (58, 0), (58, 4)], 4, 0, [], [], [])
set_option maxRecDepth 100000 in
theorem cok_625 {KO : List Nat} (hK : KOK KO) : cOk KD0 KO G0 ctr_625 := chk_ok (G0_xOK hK.1) (chkS_ok (show chkS sgl0 [ctr_623] ctr_625 = true by decide +kernel) hK.2) (fm_c (cok_623 hK) fm_n) (show chk KD0 G0 (aX KD0) nX 2000 2 [ctr_623] ctr_625 = true by decide +kernel)
-- X12_lays
set_option maxRecDepth 100000 in
def ctr_626 : CTR := (297, [.inr (some 58), .inl (9, 10)], none, [], [(38, 0)], 1, 0, [(2, [(0, .inr (some 58)), (1, .inl (9, 10)), (2, .inl (0, 63))], [], [], 126, [((2, none), -2)], [])], [], [])
set_option maxRecDepth 100000 in
theorem cok_626 {KO : List Nat} (hK : KOK KO) : cOk KD0 KO G0 ctr_626 := chk_ok (G0_xOK hK.1) (chkS_ok (show chkS sgl0 [] ctr_626 = true by decide +kernel) hK.2) fm_n (show chk KD0 G0 (aX KD0) nX 2000 130 [] ctr_626 = true by decide +kernel)
-- X12_save
set_option maxRecDepth 100000 in
def ctr_627 : CTR := (311, [.inr (some 58), .inl (-2147483648, 2147483647)], some (.inl (0, 64)), [], [(38, 0), (50, 0), (58, 0)], 3, 0, [], [], [])
set_option maxRecDepth 100000 in
theorem cok_627 {KO : List Nat} (hK : KOK KO) : cOk KD0 KO G0 ctr_627 := chk_ok (G0_xOK hK.1) (chkS_ok (show chkS sgl0 [ctr_626] ctr_627 = true by decide +kernel) hK.2) (fm_c (cok_626 hK) fm_n) (show chk KD0 G0 (aX KD0) nX 2000 2 [ctr_626] ctr_627 = true by decide +kernel)
