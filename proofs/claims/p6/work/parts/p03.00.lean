-- X12_append
set_option maxRecDepth 100000 in
def ctr_433 : CTR := (185, [.inr (some 58), .inl (-2147483648, 2147483647), .inl (-2147483648, 2147483647), .inl (-2147483648, 2147483647), .inl (-2147483648, 2147483647), .inl (-2147483648, 2147483647)], some (.inl (-1, 600)), [], [(39, 0), (58, 0), (58, 7)], 1, 0, [(23, [(0, .inr (some 58)), (1, .inl (-2147483648, 2147483647)), (2, .inl (-2147483648, 2147483647)), (3, .inl (-2147483648, 2147483647)), (4, .inl (-2147483648, 2147483647)), (5, .inl (-2147483648, 2147483647)), (6, .inl (0, 20))], [], [(0, 0, (0, 0)), (0, 7, (0, 580))], 40, [((6, none), -2)], [])], [], [])
set_option maxRecDepth 100000 in
theorem cok_433 {KO : List Nat} (hK : KOK KO) : cOk KD0 KO G0 ctr_433 := chk_ok (G0_xOK hK.1) (chkS_ok (show chkS sgl0 [] ctr_433 = true by decide +kernel) hK.2) fm_n (show chk KD0 G0 (aX KD0) nX 2000 44 [] ctr_433 = true by decide +kernel)
-- X12_buffered
set_option maxRecDepth 100000 in
def ctr_434 : CTR := (186, [.inr (some 58)], some (.inl (0, 600)), [], [(58, 0)], 1, 0, [], [], [])
set_option maxRecDepth 100000 in
theorem cok_434 {KO : List Nat} (hK : KOK KO) : cOk KD0 KO G0 ctr_434 := chk_ok (G0_xOK hK.1) (chkS_ok (show chkS sgl0 [] ctr_434 = true by decide +kernel) hK.2) fm_n (show chk KD0 G0 (aX KD0) nX 2000 2 [] ctr_434 = true by decide +kernel)
-- X12_parseError
set_option maxRecDepth 100000 in
def ctr_435 : CTR := (187, [.inr (some 58)], some (.inl (-2147483648, 2147483647)), [], [(58, 0)], 1, 0, [], [], [])
set_option maxRecDepth 100000 in
theorem cok_435 {KO : List Nat} (hK : KOK KO) : cOk KD0 KO G0 ctr_435 := chk_ok (G0_xOK hK.1) (chkS_ok (show chkS sgl0 [] ctr_435 = true by decide +kernel) hK.2) fm_n (show chk KD0 G0 (aX KD0) nX 2000 2 [] ctr_435 = true by decide +kernel)
-- X12_errorPosition
set_option maxRecDepth 100000 in
def ctr_436 : CTR := (188, [.inr (some 58)], some (.inl (-2147483648, 2147483647)), [], [(58, 0)], 1, 0, [], [], [])
set_option maxRecDepth 100000 in
theorem cok_436 {KO : List Nat} (hK : KOK KO) : cOk KD0 KO G0 ctr_436 := chk_ok (G0_xOK hK.1) (chkS_ok (show chkS sgl0 [] ctr_436 = true by decide +kernel) hK.2) fm_n (show chk KD0 G0 (aX KD0) nX 2000 2 [] ctr_436 = true by decide +kernel)
-- X12_token
set_option maxRecDepth 100000 in
def ctr_437 : CTR := (192, [.inr (some 58)], none, [], [(40, 0), (58, 11), (58, 12), (58, 13), (58, 15), (58, 16)], 2, 0, [(0, [(0, .inr (some 58))], [], [(0, 10, (0, 600)), (0, 11, (0, 600)), (0, 15, (0, 600))], 3604, [((0, some 11), -2)], [((0, some 15), (0, some 11), -600)]), (68, [(0, .inr (some 58)), (1, .inl (97, 122))], [], [(0, 10, (1, 600)), (0, 11, (0, 600)), (0, 12, (0, 599)), (0, 15, (0, 600))], 2402, [((0, some 11), -2)], [((0, some 15), (0, some 11), 0)]), (166, [(0, .inr (some 58)), (1, .inl (48, 57)), (2, .inl (-2147483648, 2147483647))], [], [(0, 10, (1, 600)), (0, 11, (0, 600)), (0, 12, (0, 599)), (0, 15, (0, 600)), (0, 16, (-2147483648, 2147483647))], 1200, [((0, some 11), -2)], [((0, some 15), (0, some 11), -600)])], [(58, 10, (0, 600)), (58, 11, (0, 600)), (58, 15, (0, 600))], [(58, 10, (0, 600)), (58, 11, (0, 600)), (58, 15, (0, 600))])
set_option maxRecDepth 100000 in
theorem cok_437 {KO : List Nat} (hK : KOK KO) : cOk KD0 KO G0 ctr_437 := chk_ok (G0_xOK hK.1) (chkS_ok (show chkS sgl0 [] ctr_437 = true by decide +kernel) hK.2) fm_n (show chk KD0 G0 (aX KD0) nX 2000 3608 [] ctr_437 = true by decide +kernel)
-- X12_goesOn
set_option maxRecDepth 100000 in
def ctr_438 : CTR := (194, [.inr (some 58)], none, [], [(40, 0), (58, 11), (58, 12), (58, 13), (58, 15), (58, 16)], 3, 0, [], [], [])
set_option maxRecDepth 100000 in
theorem cok_438 {KO : List Nat} (hK : KOK KO) : cOk KD0 KO G0 ctr_438 := chk_ok (G0_xOK hK.1) (chkS_ok (show chkS sgl0 [ctr_437] ctr_438 = true by decide +kernel) hK.2) (fm_c (cok_437 hK) fm_n) (show chk KD0 G0 (aX KD0) nX 2000 2 [ctr_437] ctr_438 = true by decide +kernel)
-- X12_isWord
set_option maxRecDepth 100000 in
def ctr_439 : CTR := (195, [.inr (some 58), .inr (some 107)], some (.inl (0, 1)), [], [], 1, 0, [(30, [(0, .inr (some 58)), (1, .inr (some 107)), (2, .inl (0, 7))], [], [(0, 13, (1, 1)), (0, 15, (7, 7)), (0, 17, (0, 0))], 14, [((2, none), -2)], [])], [], [])
set_option maxRecDepth 100000 in
theorem cok_439 {KO : List Nat} (hK : KOK KO) : cOk KD0 KO G0 ctr_439 := chk_ok (G0_xOK hK.1) (chkS_ok (show chkS sgl0 [] ctr_439 = true by decide +kernel) hK.2) fm_n (show chk KD0 G0 (aX KD0) nX 2000 18 [] ctr_439 = true by decide +kernel)
-- X12_numberHere
set_option maxRecDepth 100000 in
def ctr_440 : CTR := (196, [.inr (some 58), .inl (-2147483648, 2147483647), .inl (-2147483648, 2147483647)], some (.inl (-2147483648, 2147483647)), [], [(58, 17), (58, 18)], 2, 0, [], [], [])
set_option maxRecDepth 100000 in
theorem cok_440 {KO : List Nat} (hK : KOK KO) : cOk KD0 KO G0 ctr_440 := chk_ok (G0_xOK hK.1) (chkS_ok (show chkS sgl0 [] ctr_440 = true by decide +kernel) hK.2) fm_n (show chk KD0 G0 (aX KD0) nX 2000 2 [] ctr_440 = true by decide +kernel)
-- X12_takes
set_option maxRecDepth 100000 in
def ctr_441 : CTR := (197, [.inr (some 58), .inl (-2147483648, 2147483647), .inl (-2147483648, 2147483647)], some (.inl (-2147483648, 2147483647)), [], [(40, 0), (58, 11), (58, 12), (58, 13), (58, 15), (58, 16), (58, 17), (58, 18)], 4, 0, [], [], [])
set_option maxRecDepth 100000 in
theorem cok_441 {KO : List Nat} (hK : KOK KO) : cOk KD0 KO G0 ctr_441 := chk_ok (G0_xOK hK.1) (chkS_ok (show chkS sgl0 [ctr_438, ctr_440] ctr_441 = true by decide +kernel) hK.2) (fm_c (cok_438 hK) (fm_c (cok_440 hK) fm_n)) (show chk KD0 G0 (aX KD0) nX 2000 2 [ctr_438, ctr_440] ctr_441 = true by decide +kernel)
-- X12_cross
set_option maxRecDepth 100000 in
def ctr_442 : CTR := (202, [.inr none, .inr none, .inr none, .inr none, .inr none, .inr none], some (.inr none), [], [], 1, 0, [], [], [])
set_option maxRecDepth 100000 in
theorem cok_442 {KO : List Nat} (hK : KOK KO) : cOk KD0 KO G0 ctr_442 := chk_ok (G0_xOK hK.1) (chkS_ok (show chkS sgl0 [] ctr_442 = true by decide +kernel) hK.2) fm_n (show chk KD0 G0 (aX KD0) nX 2000 2 [] ctr_442 = true by decide +kernel)
-- X12_isOn
set_option maxRecDepth 100000 in
def ctr_443 : CTR := (205, [.inr none, .inr none, .inr none, .inr none, .inr none, .inr none], some (.inl (0, 1)), [], [], 2, 0, [], [], [])
set_option maxRecDepth 100000 in
theorem cok_443 {KO : List Nat} (hK : KOK KO) : cOk KD0 KO G0 ctr_443 := chk_ok (G0_xOK hK.1) (chkS_ok (show chkS sgl0 [ctr_442] ctr_443 = true by decide +kernel) hK.2) (fm_c (cok_442 hK) fm_n) (show chk KD0 G0 (aX KD0) nX 2000 2 [ctr_442] ctr_443 = true by decide +kernel)
-- X12_isOnEdge
set_option maxRecDepth 100000 in
def ctr_444 : CTR := (206, [.inr (some 37), .inl (0, 0), .inr none, .inr none, .inr none], some (.inl (0, 1)), [], [], 3, 0, [], [], [])
set_option maxRecDepth 100000 in
theorem cok_444 {KO : List Nat} (hK : KOK KO) : cOk KD0 KO G0 ctr_444 := chk_ok (G0_xOK hK.1) (chkS_ok (show chkS sgl0 [ctr_443] ctr_444 = true by decide +kernel) hK.2) (fm_c (cok_443 hK) fm_n) (show chk KD0 G0 (aX KD0) nX 2000 2 [ctr_443] ctr_444 = true by decide +kernel)
-- X12_isOnEdge
set_option maxRecDepth 100000 in
def ctr_445 : CTR := (206, [.inr (some 37), .inl (0, 1), .inr none, .inr none, .inr none], some (.inl (0, 1)), [], [], 3, 0, [], [], [])
set_option maxRecDepth 100000 in
theorem cok_445 {KO : List Nat} (hK : KOK KO) : cOk KD0 KO G0 ctr_445 := chk_ok (G0_xOK hK.1) (chkS_ok (show chkS sgl0 [ctr_443] ctr_445 = true by decide +kernel) hK.2) (fm_c (cok_443 hK) fm_n) (show chk KD0 G0 (aX KD0) nX 2000 2 [ctr_443] ctr_445 = true by decide +kernel)
-- X12_isOnEdge
set_option maxRecDepth 100000 in
def ctr_446 : CTR := (206, [.inr (some 37), .inl (0, 2), .inr none, .inr none, .inr none], some (.inl (0, 1)), [], [], 3, 0, [], [], [])
set_option maxRecDepth 100000 in
theorem cok_446 {KO : List Nat} (hK : KOK KO) : cOk KD0 KO G0 ctr_446 := chk_ok (G0_xOK hK.1) (chkS_ok (show chkS sgl0 [ctr_443] ctr_446 = true by decide +kernel) hK.2) (fm_c (cok_443 hK) fm_n) (show chk KD0 G0 (aX KD0) nX 2000 2 [ctr_443] ctr_446 = true by decide +kernel)
-- X12_isOnEdge
set_option maxRecDepth 100000 in
def ctr_447 : CTR := (206, [.inr (some 37), .inl (0, 3), .inr none, .inr none, .inr none], some (.inl (0, 1)), [], [], 3, 0, [], [], [])
set_option maxRecDepth 100000 in
theorem cok_447 {KO : List Nat} (hK : KOK KO) : cOk KD0 KO G0 ctr_447 := chk_ok (G0_xOK hK.1) (chkS_ok (show chkS sgl0 [ctr_443] ctr_447 = true by decide +kernel) hK.2) (fm_c (cok_443 hK) fm_n) (show chk KD0 G0 (aX KD0) nX 2000 2 [ctr_443] ctr_447 = true by decide +kernel)
-- X12_isOnEdge
set_option maxRecDepth 100000 in
def ctr_448 : CTR := (206, [.inr (some 37), .inl (0, 4), .inr none, .inr none, .inr none], some (.inl (0, 1)), [], [], 3, 0, [], [], [])
set_option maxRecDepth 100000 in
theorem cok_448 {KO : List Nat} (hK : KOK KO) : cOk KD0 KO G0 ctr_448 := chk_ok (G0_xOK hK.1) (chkS_ok (show chkS sgl0 [ctr_443] ctr_448 = true by decide +kernel) hK.2) (fm_c (cok_443 hK) fm_n) (show chk KD0 G0 (aX KD0) nX 2000 2 [ctr_443] ctr_448 = true by decide +kernel)
-- X12_isOnEdge
set_option maxRecDepth 100000 in
def ctr_449 : CTR := (206, [.inr (some 37), .inl (0, 6), .inr none, .inr none, .inr none], some (.inl (0, 1)), [], [], 3, 0, [], [], [])
set_option maxRecDepth 100000 in
theorem cok_449 {KO : List Nat} (hK : KOK KO) : cOk KD0 KO G0 ctr_449 := chk_ok (G0_xOK hK.1) (chkS_ok (show chkS sgl0 [ctr_443] ctr_449 = true by decide +kernel) hK.2) (fm_c (cok_443 hK) fm_n) (show chk KD0 G0 (aX KD0) nX 2000 2 [ctr_443] ctr_449 = true by decide +kernel)
-- X12_isOnEdge
set_option maxRecDepth 100000 in
def ctr_450 : CTR := (206, [.inr (some 37), .inl (0, 7), .inr none, .inr none, .inr none], some (.inl (0, 1)), [], [], 3, 0, [], [], [])
set_option maxRecDepth 100000 in
theorem cok_450 {KO : List Nat} (hK : KOK KO) : cOk KD0 KO G0 ctr_450 := chk_ok (G0_xOK hK.1) (chkS_ok (show chkS sgl0 [ctr_443] ctr_450 = true by decide +kernel) hK.2) (fm_c (cok_443 hK) fm_n) (show chk KD0 G0 (aX KD0) nX 2000 2 [ctr_443] ctr_450 = true by decide +kernel)
-- X12_isOnEdge
set_option maxRecDepth 100000 in
def ctr_451 : CTR := (206, [.inr (some 37), .inl (0, 8), .inr none, .inr none, .inr none], some (.inl (0, 1)), [], [], 3, 0, [], [], [])
set_option maxRecDepth 100000 in
theorem cok_451 {KO : List Nat} (hK : KOK KO) : cOk KD0 KO G0 ctr_451 := chk_ok (G0_xOK hK.1) (chkS_ok (show chkS sgl0 [ctr_443] ctr_451 = true by decide +kernel) hK.2) (fm_c (cok_443 hK) fm_n) (show chk KD0 G0 (aX KD0) nX 2000 2 [ctr_443] ctr_451 = true by decide +kernel)
-- X12_isOnEdge
set_option maxRecDepth 100000 in
def ctr_452 : CTR := (206, [.inr (some 37), .inl (0, 10), .inr none, .inr none, .inr none], some (.inl (0, 1)), [], [], 3, 0, [], [], [])
set_option maxRecDepth 100000 in
theorem cok_452 {KO : List Nat} (hK : KOK KO) : cOk KD0 KO G0 ctr_452 := chk_ok (G0_xOK hK.1) (chkS_ok (show chkS sgl0 [ctr_443] ctr_452 = true by decide +kernel) hK.2) (fm_c (cok_443 hK) fm_n) (show chk KD0 G0 (aX KD0) nX 2000 2 [ctr_443] ctr_452 = true by decide +kernel)
-- X12_isOnEdge
set_option maxRecDepth 100000 in
def ctr_453 : CTR := (206, [.inr (some 37), .inl (0, 11), .inr none, .inr none, .inr none], some (.inl (0, 1)), [], [], 3, 0, [], [], [])
set_option maxRecDepth 100000 in
theorem cok_453 {KO : List Nat} (hK : KOK KO) : cOk KD0 KO G0 ctr_453 := chk_ok (G0_xOK hK.1) (chkS_ok (show chkS sgl0 [ctr_443] ctr_453 = true by decide +kernel) hK.2) (fm_c (cok_443 hK) fm_n) (show chk KD0 G0 (aX KD0) nX 2000 2 [ctr_443] ctr_453 = true by decide +kernel)
-- X12_isOnBoundary
set_option maxRecDepth 100000 in
def ctr_454 : CTR := (207, [.inr (some 37), .inr none, .inr none, .inr none], some (.inl (0, 1)), [], [], 4, 0, [(3, [(0, .inr (some 37)), (1, .inr none), (3, .inr none), (5, .inr none), (7, .inl (0, 12))], [], [], 24, [((7, none), -2)], [])], [], [])
set_option maxRecDepth 100000 in
theorem cok_454 {KO : List Nat} (hK : KOK KO) : cOk KD0 KO G0 ctr_454 := chk_ok (G0_xOK hK.1) (chkS_ok (show chkS sgl0 [ctr_444, ctr_445, ctr_446, ctr_447, ctr_448, ctr_449, ctr_450, ctr_451, ctr_452, ctr_453] ctr_454 = true by decide +kernel) hK.2) (fm_c (cok_444 hK) (fm_c (cok_445 hK) (fm_c (cok_446 hK) (fm_c (cok_447 hK) (fm_c (cok_448 hK) (fm_c (cok_449 hK) (fm_c (cok_450 hK) (fm_c (cok_451 hK) (fm_c (cok_452 hK) (fm_c (cok_453 hK) fm_n)))))))))) (show chk KD0 G0 (aX KD0) nX 2000 28 [ctr_444, ctr_445, ctr_446, ctr_447, ctr_448, ctr_449, ctr_450, ctr_451, ctr_452, ctr_453] ctr_454 = true by decide +kernel)
-- X12_isIn
set_option maxRecDepth 100000 in
def ctr_455 : CTR := (208, [.inr (some 37), .inr none, .inr none, .inr none], some (.inl (0, 1)), [], [], 5, 0, [(19, [(0, .inr (some 37)), (1, .inr none), (3, .inr none), (5, .inr none), (7, .inl (0, 1)), (8, .inl (0, 12))], [], [], 24, [((8, none), -2)], [])], [], [])
set_option maxRecDepth 100000 in
theorem cok_455 {KO : List Nat} (hK : KOK KO) : cOk KD0 KO G0 ctr_455 := chk_ok (G0_xOK hK.1) (chkS_ok (show chkS sgl0 [ctr_442, ctr_454] ctr_455 = true by decide +kernel) hK.2) (fm_c (cok_442 hK) (fm_c (cok_454 hK) fm_n)) (show chk KD0 G0 (aX KD0) nX 2000 28 [ctr_442, ctr_454] ctr_455 = true by decide +kernel)
-- X12_isWord
set_option maxRecDepth 100000 in
def ctr_456 : CTR := (195, [.inr (some 58), .inr (some 105)], some (.inl (0, 1)), [], [], 1, 0, [(30, [(0, .inr (some 58)), (1, .inr (some 105)), (2, .inl (0, 6))], [], [(0, 13, (1, 1)), (0, 15, (5, 5)), (0, 17, (0, 0))], 12, [((2, none), -2)], [])], [], [])
set_option maxRecDepth 100000 in
theorem cok_456 {KO : List Nat} (hK : KOK KO) : cOk KD0 KO G0 ctr_456 := chk_ok (G0_xOK hK.1) (chkS_ok (show chkS sgl0 [] ctr_456 = true by decide +kernel) hK.2) fm_n (show chk KD0 G0 (aX KD0) nX 2000 16 [] ctr_456 = true by decide +kernel)
-- X12_sign
set_option maxRecDepth 100000 in
def ctr_457 : CTR := (203, [.inr none], some (.inl (-1, 1)), [], [], 1, 0, [], [], [])
set_option maxRecDepth 100000 in
theorem cok_457 {KO : List Nat} (hK : KOK KO) : cOk KD0 KO G0 ctr_457 := chk_ok (G0_xOK hK.1) (chkS_ok (show chkS sgl0 [] ctr_457 = true by decide +kernel) hK.2) fm_n (show chk KD0 G0 (aX KD0) nX 2000 2 [] ctr_457 = true by decide +kernel)
