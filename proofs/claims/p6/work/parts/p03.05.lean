-- X12_laysWitnesses
set_option maxRecDepth 100000 in
def ctr_558 : CTR := (266, [.inr (some 58), .inl (4, 4), .inl (4, 4), .inl (4, 8), .inr none], some (.inl (1, 1)), [], [], 1, 0, [], [], [])
set_option maxRecDepth 100000 in
theorem cok_558 {KO : List Nat} (hK : KOK KO) : cOk KD0 KO G0 ctr_558 := chk_ok (G0_xOK hK.1) (chkS_ok (show chkS sgl0 [] ctr_558 = true by decide +kernel) hK.2) fm_n (show chk KD0 G0 (aX KD0) nX 2000 2 [] ctr_558 = true by decide +kernel)
-- X12_laysWitnesses
set_option maxRecDepth 100000 in
def ctr_559 : CTR := (266, [.inr (some 58), .inl (4, 4), .inl (4, 4), .inl (4, 9), .inr none], some (.inl (1, 1)), [], [], 1, 0, [], [], [])
set_option maxRecDepth 100000 in
theorem cok_559 {KO : List Nat} (hK : KOK KO) : cOk KD0 KO G0 ctr_559 := chk_ok (G0_xOK hK.1) (chkS_ok (show chkS sgl0 [] ctr_559 = true by decide +kernel) hK.2) fm_n (show chk KD0 G0 (aX KD0) nX 2000 2 [] ctr_559 = true by decide +kernel)
-- X12_laysWitnesses
set_option maxRecDepth 100000 in
def ctr_560 : CTR := (266, [.inr (some 58), .inl (4, 4), .inl (4, 4), .inl (4, 11), .inr none], some (.inl (1, 1)), [], [], 1, 0, [], [], [])
set_option maxRecDepth 100000 in
theorem cok_560 {KO : List Nat} (hK : KOK KO) : cOk KD0 KO G0 ctr_560 := chk_ok (G0_xOK hK.1) (chkS_ok (show chkS sgl0 [] ctr_560 = true by decide +kernel) hK.2) fm_n (show chk KD0 G0 (aX KD0) nX 2000 2 [] ctr_560 = true by decide +kernel)
-- X12_laysWitnesses
set_option maxRecDepth 100000 in
def ctr_561 : CTR := (266, [.inr (some 58), .inl (4, 4), .inl (4, 4), .inl (4, 12), .inr none], some (.inl (1, 1)), [], [], 1, 0, [], [], [])
set_option maxRecDepth 100000 in
theorem cok_561 {KO : List Nat} (hK : KOK KO) : cOk KD0 KO G0 ctr_561 := chk_ok (G0_xOK hK.1) (chkS_ok (show chkS sgl0 [] ctr_561 = true by decide +kernel) hK.2) fm_n (show chk KD0 G0 (aX KD0) nX 2000 2 [] ctr_561 = true by decide +kernel)
-- X12_laysWitnesses
set_option maxRecDepth 100000 in
def ctr_562 : CTR := (266, [.inr (some 58), .inl (4, 4), .inl (4, 4), .inl (4, 13), .inr none], some (.inl (1, 1)), [], [], 1, 0, [], [], [])
set_option maxRecDepth 100000 in
theorem cok_562 {KO : List Nat} (hK : KOK KO) : cOk KD0 KO G0 ctr_562 := chk_ok (G0_xOK hK.1) (chkS_ok (show chkS sgl0 [] ctr_562 = true by decide +kernel) hK.2) fm_n (show chk KD0 G0 (aX KD0) nX 2000 2 [] ctr_562 = true by decide +kernel)
-- X12_laysWitnesses
set_option maxRecDepth 100000 in
def ctr_563 : CTR := (266, [.inr (some 58), .inl (4, 4), .inl (4, 4), .inl (4, 14), .inr none], some (.inl (1, 1)), [], [], 1, 0, [], [], [])
set_option maxRecDepth 100000 in
theorem cok_563 {KO : List Nat} (hK : KOK KO) : cOk KD0 KO G0 ctr_563 := chk_ok (G0_xOK hK.1) (chkS_ok (show chkS sgl0 [] ctr_563 = true by decide +kernel) hK.2) fm_n (show chk KD0 G0 (aX KD0) nX 2000 2 [] ctr_563 = true by decide +kernel)
-- X12_laysWitnesses
set_option maxRecDepth 100000 in
def ctr_564 : CTR := (266, [.inr (some 58), .inl (4, 4), .inl (4, 4), .inl (4, 16), .inr none], some (.inl (1, 1)), [], [], 1, 0, [], [], [])
set_option maxRecDepth 100000 in
theorem cok_564 {KO : List Nat} (hK : KOK KO) : cOk KD0 KO G0 ctr_564 := chk_ok (G0_xOK hK.1) (chkS_ok (show chkS sgl0 [] ctr_564 = true by decide +kernel) hK.2) fm_n (show chk KD0 G0 (aX KD0) nX 2000 2 [] ctr_564 = true by decide +kernel)
-- X12_laysWitnesses
set_option maxRecDepth 100000 in
def ctr_565 : CTR := (266, [.inr (some 58), .inl (4, 4), .inl (4, 4), .inl (4, 17), .inr none], some (.inl (1, 1)), [], [], 1, 0, [], [], [])
set_option maxRecDepth 100000 in
theorem cok_565 {KO : List Nat} (hK : KOK KO) : cOk KD0 KO G0 ctr_565 := chk_ok (G0_xOK hK.1) (chkS_ok (show chkS sgl0 [] ctr_565 = true by decide +kernel) hK.2) fm_n (show chk KD0 G0 (aX KD0) nX 2000 2 [] ctr_565 = true by decide +kernel)
-- X12_laysWitnesses
set_option maxRecDepth 100000 in
def ctr_566 : CTR := (266, [.inr (some 58), .inl (4, 4), .inl (4, 4), .inl (4, 32), .inr none], some (.inl (1, 1)), [], [], 1, 0, [], [], [])
set_option maxRecDepth 100000 in
theorem cok_566 {KO : List Nat} (hK : KOK KO) : cOk KD0 KO G0 ctr_566 := chk_ok (G0_xOK hK.1) (chkS_ok (show chkS sgl0 [] ctr_566 = true by decide +kernel) hK.2) fm_n (show chk KD0 G0 (aX KD0) nX 2000 2 [] ctr_566 = true by decide +kernel)
-- X12_laysWitnesses
set_option maxRecDepth 100000 in
def ctr_567 : CTR := (266, [.inr (some 58), .inl (4, 4), .inl (4, 4), .inl (4, 64), .inr none], some (.inl (1, 1)), [], [], 1, 0, [], [], [])
set_option maxRecDepth 100000 in
theorem cok_567 {KO : List Nat} (hK : KOK KO) : cOk KD0 KO G0 ctr_567 := chk_ok (G0_xOK hK.1) (chkS_ok (show chkS sgl0 [] ctr_567 = true by decide +kernel) hK.2) fm_n (show chk KD0 G0 (aX KD0) nX 2000 2 [] ctr_567 = true by decide +kernel)
-- X12_laysWitnesses
set_option maxRecDepth 100000 in
def ctr_568 : CTR := (266, [.inr (some 58), .inl (3, 3), .inl (4, 4), .inl (3, 3), .inr none], some (.inl (0, 1)), [], [(56, 0)], 2, 0, [(10, [(0, .inr (some 58)), (1, .inl (3, 3)), (2, .inl (4, 4)), (3, .inl (3, 3)), (4, .inr none), (6, .inl (3, 64))], [], [], 128, [((6, none), -2)], [])], [], [])
set_option maxRecDepth 100000 in
theorem cok_568 {KO : List Nat} (hK : KOK KO) : cOk KD0 KO G0 ctr_568 := chk_ok (G0_xOK hK.1) (chkS_ok (show chkS sgl0 [ctr_554, ctr_555, ctr_556, ctr_557, ctr_558, ctr_559, ctr_560, ctr_561, ctr_562, ctr_563, ctr_564, ctr_565, ctr_566, ctr_567] ctr_568 = true by decide +kernel) hK.2) (fm_c (cok_554 hK) (fm_c (cok_555 hK) (fm_c (cok_556 hK) (fm_c (cok_557 hK) (fm_c (cok_558 hK) (fm_c (cok_559 hK) (fm_c (cok_560 hK) (fm_c (cok_561 hK) (fm_c (cok_562 hK) (fm_c (cok_563 hK) (fm_c (cok_564 hK) (fm_c (cok_565 hK) (fm_c (cok_566 hK) (fm_c (cok_567 hK) fm_n)))))))))))))) (show chk KD0 G0 (aX KD0) nX 2000 126 [ctr_554, ctr_555, ctr_556, ctr_557, ctr_558, ctr_559, ctr_560, ctr_561, ctr_562, ctr_563, ctr_564, ctr_565, ctr_566, ctr_567] ctr_568 = true by decide +kernel)
-- X12_laysWitnesses
set_option maxRecDepth 100000 in
def ctr_569 : CTR := (266, [.inr (some 58), .inl (3, 3), .inl (4, 4), .inl (3, 4), .inr none], some (.inl (0, 1)), [], [(56, 0)], 2, 0, [(10, [(0, .inr (some 58)), (1, .inl (3, 3)), (2, .inl (4, 4)), (3, .inl (3, 4)), (4, .inr none), (6, .inl (3, 64))], [], [], 128, [((6, none), -2)], [])], [], [])
set_option maxRecDepth 100000 in
theorem cok_569 {KO : List Nat} (hK : KOK KO) : cOk KD0 KO G0 ctr_569 := chk_ok (G0_xOK hK.1) (chkS_ok (show chkS sgl0 [ctr_555, ctr_556, ctr_557, ctr_558, ctr_559, ctr_560, ctr_561, ctr_562, ctr_563, ctr_564, ctr_565, ctr_566, ctr_567] ctr_569 = true by decide +kernel) hK.2) (fm_c (cok_555 hK) (fm_c (cok_556 hK) (fm_c (cok_557 hK) (fm_c (cok_558 hK) (fm_c (cok_559 hK) (fm_c (cok_560 hK) (fm_c (cok_561 hK) (fm_c (cok_562 hK) (fm_c (cok_563 hK) (fm_c (cok_564 hK) (fm_c (cok_565 hK) (fm_c (cok_566 hK) (fm_c (cok_567 hK) fm_n))))))))))))) (show chk KD0 G0 (aX KD0) nX 2000 126 [ctr_555, ctr_556, ctr_557, ctr_558, ctr_559, ctr_560, ctr_561, ctr_562, ctr_563, ctr_564, ctr_565, ctr_566, ctr_567] ctr_569 = true by decide +kernel)
-- X12_laysWitnesses
set_option maxRecDepth 100000 in
def ctr_570 : CTR := (266, [.inr (some 58), .inl (3, 3), .inl (4, 4), .inl (3, 5), .inr none], some (.inl (0, 1)), [], [(56, 0)], 2, 0, [(10, [(0, .inr (some 58)), (1, .inl (3, 3)), (2, .inl (4, 4)), (3, .inl (3, 5)), (4, .inr none), (6, .inl (3, 64))], [], [], 128, [((6, none), -2)], [])], [], [])
set_option maxRecDepth 100000 in
theorem cok_570 {KO : List Nat} (hK : KOK KO) : cOk KD0 KO G0 ctr_570 := chk_ok (G0_xOK hK.1) (chkS_ok (show chkS sgl0 [ctr_556, ctr_557, ctr_558, ctr_559, ctr_560, ctr_561, ctr_562, ctr_563, ctr_564, ctr_565, ctr_566, ctr_567] ctr_570 = true by decide +kernel) hK.2) (fm_c (cok_556 hK) (fm_c (cok_557 hK) (fm_c (cok_558 hK) (fm_c (cok_559 hK) (fm_c (cok_560 hK) (fm_c (cok_561 hK) (fm_c (cok_562 hK) (fm_c (cok_563 hK) (fm_c (cok_564 hK) (fm_c (cok_565 hK) (fm_c (cok_566 hK) (fm_c (cok_567 hK) fm_n)))))))))))) (show chk KD0 G0 (aX KD0) nX 2000 126 [ctr_556, ctr_557, ctr_558, ctr_559, ctr_560, ctr_561, ctr_562, ctr_563, ctr_564, ctr_565, ctr_566, ctr_567] ctr_570 = true by decide +kernel)
-- X12_laysWitnesses
set_option maxRecDepth 100000 in
def ctr_571 : CTR := (266, [.inr (some 58), .inl (3, 3), .inl (4, 4), .inl (3, 7), .inr none], some (.inl (0, 1)), [], [(56, 0)], 2, 0, [(10, [(0, .inr (some 58)), (1, .inl (3, 3)), (2, .inl (4, 4)), (3, .inl (3, 7)), (4, .inr none), (6, .inl (3, 64))], [], [], 128, [((6, none), -2)], [])], [], [])
set_option maxRecDepth 100000 in
theorem cok_571 {KO : List Nat} (hK : KOK KO) : cOk KD0 KO G0 ctr_571 := chk_ok (G0_xOK hK.1) (chkS_ok (show chkS sgl0 [ctr_558, ctr_559, ctr_560, ctr_561, ctr_562, ctr_563, ctr_564, ctr_565, ctr_566, ctr_567] ctr_571 = true by decide +kernel) hK.2) (fm_c (cok_558 hK) (fm_c (cok_559 hK) (fm_c (cok_560 hK) (fm_c (cok_561 hK) (fm_c (cok_562 hK) (fm_c (cok_563 hK) (fm_c (cok_564 hK) (fm_c (cok_565 hK) (fm_c (cok_566 hK) (fm_c (cok_567 hK) fm_n)))))))))) (show chk KD0 G0 (aX KD0) nX 2000 126 [ctr_558, ctr_559, ctr_560, ctr_561, ctr_562, ctr_563, ctr_564, ctr_565, ctr_566, ctr_567] ctr_571 = true by decide +kernel)
-- X12_laysWitnesses
set_option maxRecDepth 100000 in
def ctr_572 : CTR := (266, [.inr (some 58), .inl (3, 3), .inl (4, 4), .inl (3, 8), .inr none], some (.inl (0, 1)), [], [(56, 0)], 2, 0, [(10, [(0, .inr (some 58)), (1, .inl (3, 3)), (2, .inl (4, 4)), (3, .inl (3, 8)), (4, .inr none), (6, .inl (3, 64))], [], [], 128, [((6, none), -2)], [])], [], [])
set_option maxRecDepth 100000 in
theorem cok_572 {KO : List Nat} (hK : KOK KO) : cOk KD0 KO G0 ctr_572 := chk_ok (G0_xOK hK.1) (chkS_ok (show chkS sgl0 [ctr_559, ctr_560, ctr_561, ctr_562, ctr_563, ctr_564, ctr_565, ctr_566, ctr_567] ctr_572 = true by decide +kernel) hK.2) (fm_c (cok_559 hK) (fm_c (cok_560 hK) (fm_c (cok_561 hK) (fm_c (cok_562 hK) (fm_c (cok_563 hK) (fm_c (cok_564 hK) (fm_c (cok_565 hK) (fm_c (cok_566 hK) (fm_c (cok_567 hK) fm_n))))))))) (show chk KD0 G0 (aX KD0) nX 2000 126 [ctr_559, ctr_560, ctr_561, ctr_562, ctr_563, ctr_564, ctr_565, ctr_566, ctr_567] ctr_572 = true by decide +kernel)
-- X12_laysWitnesses
set_option maxRecDepth 100000 in
def ctr_573 : CTR := (266, [.inr (some 58), .inl (3, 3), .inl (4, 4), .inl (3, 9), .inr none], some (.inl (0, 1)), [], [(56, 0)], 2, 0, [(10, [(0, .inr (some 58)), (1, .inl (3, 3)), (2, .inl (4, 4)), (3, .inl (3, 9)), (4, .inr none), (6, .inl (3, 64))], [], [], 128, [((6, none), -2)], [])], [], [])
set_option maxRecDepth 100000 in
theorem cok_573 {KO : List Nat} (hK : KOK KO) : cOk KD0 KO G0 ctr_573 := chk_ok (G0_xOK hK.1) (chkS_ok (show chkS sgl0 [ctr_560, ctr_561, ctr_562, ctr_563, ctr_564, ctr_565, ctr_566, ctr_567] ctr_573 = true by decide +kernel) hK.2) (fm_c (cok_560 hK) (fm_c (cok_561 hK) (fm_c (cok_562 hK) (fm_c (cok_563 hK) (fm_c (cok_564 hK) (fm_c (cok_565 hK) (fm_c (cok_566 hK) (fm_c (cok_567 hK) fm_n)))))))) (show chk KD0 G0 (aX KD0) nX 2000 126 [ctr_560, ctr_561, ctr_562, ctr_563, ctr_564, ctr_565, ctr_566, ctr_567] ctr_573 = true by decide +kernel)
-- X12_laysWitnesses
set_option maxRecDepth 100000 in
def ctr_574 : CTR := (266, [.inr (some 58), .inl (3, 3), .inl (4, 4), .inl (3, 11), .inr none], some (.inl (0, 1)), [], [(56, 0)], 2, 0, [(10, [(0, .inr (some 58)), (1, .inl (3, 3)), (2, .inl (4, 4)), (3, .inl (3, 11)), (4, .inr none), (6, .inl (3, 64))], [], [], 128, [((6, none), -2)], [])], [], [])
set_option maxRecDepth 100000 in
theorem cok_574 {KO : List Nat} (hK : KOK KO) : cOk KD0 KO G0 ctr_574 := chk_ok (G0_xOK hK.1) (chkS_ok (show chkS sgl0 [ctr_561, ctr_562, ctr_563, ctr_564, ctr_565, ctr_566, ctr_567] ctr_574 = true by decide +kernel) hK.2) (fm_c (cok_561 hK) (fm_c (cok_562 hK) (fm_c (cok_563 hK) (fm_c (cok_564 hK) (fm_c (cok_565 hK) (fm_c (cok_566 hK) (fm_c (cok_567 hK) fm_n))))))) (show chk KD0 G0 (aX KD0) nX 2000 126 [ctr_561, ctr_562, ctr_563, ctr_564, ctr_565, ctr_566, ctr_567] ctr_574 = true by decide +kernel)
-- X12_laysWitnesses
set_option maxRecDepth 100000 in
def ctr_575 : CTR := (266, [.inr (some 58), .inl (3, 3), .inl (4, 4), .inl (3, 12), .inr none], some (.inl (0, 1)), [], [(56, 0)], 2, 0, [(10, [(0, .inr (some 58)), (1, .inl (3, 3)), (2, .inl (4, 4)), (3, .inl (3, 12)), (4, .inr none), (6, .inl (3, 64))], [], [], 128, [((6, none), -2)], [])], [], [])
set_option maxRecDepth 100000 in
theorem cok_575 {KO : List Nat} (hK : KOK KO) : cOk KD0 KO G0 ctr_575 := chk_ok (G0_xOK hK.1) (chkS_ok (show chkS sgl0 [ctr_562, ctr_563, ctr_564, ctr_565, ctr_566, ctr_567] ctr_575 = true by decide +kernel) hK.2) (fm_c (cok_562 hK) (fm_c (cok_563 hK) (fm_c (cok_564 hK) (fm_c (cok_565 hK) (fm_c (cok_566 hK) (fm_c (cok_567 hK) fm_n)))))) (show chk KD0 G0 (aX KD0) nX 2000 126 [ctr_562, ctr_563, ctr_564, ctr_565, ctr_566, ctr_567] ctr_575 = true by decide +kernel)
-- X12_laysWitnesses
set_option maxRecDepth 100000 in
def ctr_576 : CTR := (266, [.inr (some 58), .inl (3, 3), .inl (4, 4), .inl (3, 13), .inr none], some (.inl (0, 1)), [], [(56, 0)], 2, 0, [(10, [(0, .inr (some 58)), (1, .inl (3, 3)), (2, .inl (4, 4)), (3, .inl (3, 13)), (4, .inr none), (6, .inl (3, 64))], [], [], 128, [((6, none), -2)], [])], [], [])
set_option maxRecDepth 100000 in
theorem cok_576 {KO : List Nat} (hK : KOK KO) : cOk KD0 KO G0 ctr_576 := chk_ok (G0_xOK hK.1) (chkS_ok (show chkS sgl0 [ctr_563, ctr_564, ctr_565, ctr_566, ctr_567] ctr_576 = true by decide +kernel) hK.2) (fm_c (cok_563 hK) (fm_c (cok_564 hK) (fm_c (cok_565 hK) (fm_c (cok_566 hK) (fm_c (cok_567 hK) fm_n))))) (show chk KD0 G0 (aX KD0) nX 2000 126 [ctr_563, ctr_564, ctr_565, ctr_566, ctr_567] ctr_576 = true by decide +kernel)
-- X12_laysWitnesses
set_option maxRecDepth 100000 in
def ctr_577 : CTR := (266, [.inr (some 58), .inl (3, 3), .inl (4, 4), .inl (3, 14), .inr none], some (.inl (0, 1)), [], [(56, 0)], 2, 0, [(10, [(0, .inr (some 58)), (1, .inl (3, 3)), (2, .inl (4, 4)), (3, .inl (3, 14)), (4, .inr none), (6, .inl (3, 64))], [], [], 128, [((6, none), -2)], [])], [], [])
set_option maxRecDepth 100000 in
theorem cok_577 {KO : List Nat} (hK : KOK KO) : cOk KD0 KO G0 ctr_577 := chk_ok (G0_xOK hK.1) (chkS_ok (show chkS sgl0 [ctr_564, ctr_565, ctr_566, ctr_567] ctr_577 = true by decide +kernel) hK.2) (fm_c (cok_564 hK) (fm_c (cok_565 hK) (fm_c (cok_566 hK) (fm_c (cok_567 hK) fm_n)))) (show chk KD0 G0 (aX KD0) nX 2000 126 [ctr_564, ctr_565, ctr_566, ctr_567] ctr_577 = true by decide +kernel)
-- X12_laysWitnesses
set_option maxRecDepth 100000 in
def ctr_578 : CTR := (266, [.inr (some 58), .inl (3, 3), .inl (4, 4), .inl (3, 16), .inr none], some (.inl (0, 1)), [], [(56, 0)], 2, 0, [(10, [(0, .inr (some 58)), (1, .inl (3, 3)), (2, .inl (4, 4)), (3, .inl (3, 16)), (4, .inr none), (6, .inl (3, 64))], [], [], 128, [((6, none), -2)], [])], [], [])
set_option maxRecDepth 100000 in
theorem cok_578 {KO : List Nat} (hK : KOK KO) : cOk KD0 KO G0 ctr_578 := chk_ok (G0_xOK hK.1) (chkS_ok (show chkS sgl0 [ctr_565, ctr_566, ctr_567] ctr_578 = true by decide +kernel) hK.2) (fm_c (cok_565 hK) (fm_c (cok_566 hK) (fm_c (cok_567 hK) fm_n))) (show chk KD0 G0 (aX KD0) nX 2000 126 [ctr_565, ctr_566, ctr_567] ctr_578 = true by decide +kernel)
-- X12_laysWitnesses
set_option maxRecDepth 100000 in
def ctr_579 : CTR := (266, [.inr (some 58), .inl (3, 3), .inl (4, 4), .inl (3, 17), .inr none], some (.inl (0, 1)), [], [(56, 0)], 2, 0, [(10, [(0, .inr (some 58)), (1, .inl (3, 3)), (2, .inl (4, 4)), (3, .inl (3, 17)), (4, .inr none), (6, .inl (3, 64))], [], [], 128, [((6, none), -2)], [])], [], [])
set_option maxRecDepth 100000 in
theorem cok_579 {KO : List Nat} (hK : KOK KO) : cOk KD0 KO G0 ctr_579 := chk_ok (G0_xOK hK.1) (chkS_ok (show chkS sgl0 [ctr_566, ctr_567] ctr_579 = true by decide +kernel) hK.2) (fm_c (cok_566 hK) (fm_c (cok_567 hK) fm_n)) (show chk KD0 G0 (aX KD0) nX 2000 126 [ctr_566, ctr_567] ctr_579 = true by decide +kernel)
-- X12_laysWitnesses
set_option maxRecDepth 100000 in
def ctr_580 : CTR := (266, [.inr (some 58), .inl (3, 3), .inl (4, 4), .inl (3, 32), .inr none], some (.inl (0, 1)), [], [(56, 0)], 2, 0, [(10, [(0, .inr (some 58)), (1, .inl (3, 3)), (2, .inl (4, 4)), (3, .inl (3, 32)), (4, .inr none), (6, .inl (3, 64))], [], [], 128, [((6, none), -2)], [])], [], [])
set_option maxRecDepth 100000 in
theorem cok_580 {KO : List Nat} (hK : KOK KO) : cOk KD0 KO G0 ctr_580 := chk_ok (G0_xOK hK.1) (chkS_ok (show chkS sgl0 [ctr_567] ctr_580 = true by decide +kernel) hK.2) (fm_c (cok_567 hK) fm_n) (show chk KD0 G0 (aX KD0) nX 2000 126 [ctr_567] ctr_580 = true by decide +kernel)
-- X12_laysWitnesses
set_option maxRecDepth 100000 in
def ctr_581 : CTR := (266, [.inr (some 58), .inl (3, 3), .inl (4, 4), .inl (3, 64), .inr none], some (.inl (0, 1)), [], [(56, 0)], 2, 0, [(10, [(0, .inr (some 58)), (1, .inl (3, 3)), (2, .inl (4, 4)), (3, .inl (3, 64)), (4, .inr none), (6, .inl (3, 64))], [], [], 128, [((6, none), -2)], [])], [], [])
set_option maxRecDepth 100000 in
theorem cok_581 {KO : List Nat} (hK : KOK KO) : cOk KD0 KO G0 ctr_581 := chk_ok (G0_xOK hK.1) (chkS_ok (show chkS sgl0 [ctr_567] ctr_581 = true by decide +kernel) hK.2) (fm_c (cok_567 hK) fm_n) (show chk KD0 G0 (aX KD0) nX 2000 126 [ctr_567] ctr_581 = true by decide +kernel)
-- X12_laysWitnesses
set_option maxRecDepth 100000 in
def ctr_582 : CTR := (266, [.inr (some 58), .inl (2, 2), .inl (4, 4), .inl (2, 2), .inr none], some (.inl (0, 1)), [], [(56, 0)], 3, 0, [(10, [(0, .inr (some 58)), (1, .inl (2, 2)), (2, .inl (4, 4)), (3, .inl (2, 2)), (4, .inr none), (6, .inl (2, 64))], [], [], 128, [((6, none), -2)], [])], [], [])
set_option maxRecDepth 100000 in
theorem cok_582 {KO : List Nat} (hK : KOK KO) : cOk KD0 KO G0 ctr_582 := chk_ok (G0_xOK hK.1) (chkS_ok (show chkS sgl0 [ctr_568, ctr_569, ctr_570, ctr_571, ctr_572, ctr_573, ctr_574, ctr_575, ctr_576, ctr_577, ctr_578, ctr_579, ctr_580, ctr_581] ctr_582 = true by decide +kernel) hK.2) (fm_c (cok_568 hK) (fm_c (cok_569 hK) (fm_c (cok_570 hK) (fm_c (cok_571 hK) (fm_c (cok_572 hK) (fm_c (cok_573 hK) (fm_c (cok_574 hK) (fm_c (cok_575 hK) (fm_c (cok_576 hK) (fm_c (cok_577 hK) (fm_c (cok_578 hK) (fm_c (cok_579 hK) (fm_c (cok_580 hK) (fm_c (cok_581 hK) fm_n)))))))))))))) (show chk KD0 G0 (aX KD0) nX 2000 128 [ctr_568, ctr_569, ctr_570, ctr_571, ctr_572, ctr_573, ctr_574, ctr_575, ctr_576, ctr_577, ctr_578, ctr_579, ctr_580, ctr_581] ctr_582 = true by decide +kernel)
