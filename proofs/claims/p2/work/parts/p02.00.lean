-- X2_addWord
set_option maxRecDepth 100000 in
def ctr_0 : CTR := (11, [.inr (some 27), .inl (-2147483648, 2147483647)], none, [], [(0, 0), (27, 0)], 1, 0, [(3, [(0, .inr (some 27)), (1, .inl (-2147483648, 2147483647)), (2, .inl (-2147483648, 24))], [], [], 4294967296, [((2, none), 2)], [])], [], [])
set_option maxRecDepth 100000 in
theorem cok_0 {KO : List Nat} (hK : KOK KO) : cOk KD0 KO G0 ctr_0 := chk_ok (G0_xOK hK.1) (chkS_ok (show chkS sgl0 [] ctr_0 = true by decide +kernel) hK.2) fm_n (show chk KD0 G0 (aX KD0) nX 2000 4294967348 [] ctr_0 = true by decide +kernel)
-- X11_append
set_option maxRecDepth 100000 in
def ctr_1 : CTR := (115, [.inr (some 36), .inl (-2147483648, 2147483647), .inl (-2147483648, 2147483647), .inl (-2147483648, 2147483647), .inl (-2147483648, 2147483647), .inl (-2147483648, 2147483647)], some (.inl (-1, 600)), [], [(0, 0), (27, 0)], 2, 0, [], [], [])
set_option maxRecDepth 100000 in
theorem cok_1 {KO : List Nat} (hK : KOK KO) : cOk KD0 KO G0 ctr_1 := chk_ok (G0_xOK hK.1) (chkS_ok (show chkS sgl0 [ctr_0] ctr_1 = true by decide +kernel) hK.2) (fm_c (cok_0 hK) fm_n) (show chk KD0 G0 (aX KD0) nX 2000 2 [ctr_0] ctr_1 = true by decide +kernel)
-- X6_clear
set_option maxRecDepth 100000 in
def ctr_2 : CTR := (42, [.inr (some 25)], none, [], [(25, 0), (25, 1), (25, 2)], 1, 0, [], [], [])
set_option maxRecDepth 100000 in
theorem cok_2 {KO : List Nat} (hK : KOK KO) : cOk KD0 KO G0 ctr_2 := chk_ok (G0_xOK hK.1) (chkS_ok (show chkS sgl0 [] ctr_2 = true by decide +kernel) hK.2) fm_n (show chk KD0 G0 (aX KD0) nX 2000 2 [] ctr_2 = true by decide +kernel)
-- X2_runEnd
set_option maxRecDepth 100000 in
def ctr_3 : CTR := (14, [.inr (some 27), .inl (-2147483648, 2147483647), .inl (-2147483648, 2147483647), .inl (-2147483648, 2147483647)], some (.inl (0, 600)), [], [], 1, 0, [(7, [(0, .inr (some 27)), (1, .inl (-2147483648, 2147483647)), (2, .inl (-2147483648, 2147483647)), (3, .inl (-2147483648, 2147483647)), (4, .inl (0, 2147483647))], [], [], 4294967294, [((4, none), -2)], [])], [], [])
set_option maxRecDepth 100000 in
theorem cok_3 {KO : List Nat} (hK : KOK KO) : cOk KD0 KO G0 ctr_3 := chk_ok (G0_xOK hK.1) (chkS_ok (show chkS sgl0 [] ctr_3 = true by decide +kernel) hK.2) fm_n (show chk KD0 G0 (aX KD0) nX 2000 4294967298 [] ctr_3 = true by decide +kernel)
-- X2_digitsValue
set_option maxRecDepth 100000 in
def ctr_4 : CTR := (15, [.inr (some 27)], some (.inl (-2147483648, 2147483647)), [], [], 1, 0, [(11, [(0, .inr (some 27)), (1, .inl (-2147483648, 2147483647)), (2, .inl (0, 600))], [], [(0, 2, (0, 600))], 1200, [((2, none), -2)], [])], [], [])
set_option maxRecDepth 100000 in
theorem cok_4 {KO : List Nat} (hK : KOK KO) : cOk KD0 KO G0 ctr_4 := chk_ok (G0_xOK hK.1) (chkS_ok (show chkS sgl0 [] ctr_4 = true by decide +kernel) hK.2) fm_n (show chk KD0 G0 (aX KD0) nX 2000 1204 [] ctr_4 = true by decide +kernel)
-- X2_readToken
set_option maxRecDepth 100000 in
def ctr_5 : CTR := (13, [.inr (some 27)], none, [], [(27, 1), (27, 2), (27, 3), (27, 4)], 2, 0, [], [], [])
set_option maxRecDepth 100000 in
theorem cok_5 {KO : List Nat} (hK : KOK KO) : cOk KD0 KO G0 ctr_5 := chk_ok (G0_xOK hK.1) (chkS_ok (show chkS sgl0 [ctr_3, ctr_4] ctr_5 = true by decide +kernel) hK.2) (fm_c (cok_3 hK) (fm_c (cok_4 hK) fm_n)) (show chk KD0 G0 (aX KD0) nX 2000 2 [ctr_3, ctr_4] ctr_5 = true by decide +kernel)
-- X2_startText
set_option maxRecDepth 100000 in
def ctr_6 : CTR := (12, [.inr (some 27), .inl (0, 600)], none, [], [(27, 1), (27, 2), (27, 3), (27, 4), (27, 5)], 3, 0, [], [], [])
set_option maxRecDepth 100000 in
theorem cok_6 {KO : List Nat} (hK : KOK KO) : cOk KD0 KO G0 ctr_6 := chk_ok (G0_xOK hK.1) (chkS_ok (show chkS sgl0 [ctr_5] ctr_6 = true by decide +kernel) hK.2) (fm_c (cok_5 hK) fm_n) (show chk KD0 G0 (aX KD0) nX 2000 2 [ctr_5] ctr_6 = true by decide +kernel)
-- X2_isWord
set_option maxRecDepth 100000 in
def ctr_7 : CTR := (16, [.inr (some 27), .inr (some 107)], some (.inl (0, 1)), [], [], 1, 0, [(35, [(0, .inr (some 27)), (1, .inr (some 107)), (2, .inl (0, 600))], [], [(0, 1, (1, 1)), (0, 2, (0, 600)), (0, 4, (0, 600))], 1200, [((2, none), -2)], [])], [], [])
set_option maxRecDepth 100000 in
theorem cok_7 {KO : List Nat} (hK : KOK KO) : cOk KD0 KO G0 ctr_7 := chk_ok (G0_xOK hK.1) (chkS_ok (show chkS sgl0 [] ctr_7 = true by decide +kernel) hK.2) fm_n (show chk KD0 G0 (aX KD0) nX 2000 1204 [] ctr_7 = true by decide +kernel)
-- X5_checkNumber
set_option maxRecDepth 100000 in
def ctr_8 : CTR := (41, [.inr (some 29), .inl (-2147483648, 2147483647), .inl (-2147483648, 2147483647)], some (.inl (0, 2)), [], [], 1, 0, [], [], [])
set_option maxRecDepth 100000 in
theorem cok_8 {KO : List Nat} (hK : KOK KO) : cOk KD0 KO G0 ctr_8 := chk_ok (G0_xOK hK.1) (chkS_ok (show chkS sgl0 [] ctr_8 = true by decide +kernel) hK.2) fm_n (show chk KD0 G0 (aX KD0) nX 2000 2 [] ctr_8 = true by decide +kernel)
-- X3_numberAt
set_option maxRecDepth 100000 in
def ctr_9 : CTR := (18, [.inr (some 28), .inl (-2147483648, 2147483647), .inl (-2147483648, 2147483647)], some (.inl (-2147483648, 2147483647)), [], [], 1, 0, [], [], [])
set_option maxRecDepth 100000 in
theorem cok_9 {KO : List Nat} (hK : KOK KO) : cOk KD0 KO G0 ctr_9 := chk_ok (G0_xOK hK.1) (chkS_ok (show chkS sgl0 [] ctr_9 = true by decide +kernel) hK.2) fm_n (show chk KD0 G0 (aX KD0) nX 2000 2 [] ctr_9 = true by decide +kernel)
-- X5_readPlace
set_option maxRecDepth 100000 in
def ctr_10 : CTR := (40, [.inr (some 29), .inl (-2147483648, 2147483647)], some (.inl (0, 4)), [], [(27, 1), (27, 2), (27, 3), (27, 4), (29, 3), (29, 4)], 3, 0, [], [], [])
set_option maxRecDepth 100000 in
theorem cok_10 {KO : List Nat} (hK : KOK KO) : cOk KD0 KO G0 ctr_10 := chk_ok (G0_xOK hK.1) (chkS_ok (show chkS sgl0 [ctr_5, ctr_8, ctr_9] ctr_10 = true by decide +kernel) hK.2) (fm_c (cok_5 hK) (fm_c (cok_8 hK) (fm_c (cok_9 hK) fm_n))) (show chk KD0 G0 (aX KD0) nX 2000 2 [ctr_5, ctr_8, ctr_9] ctr_10 = true by decide +kernel)
-- X6_putCorner
set_option maxRecDepth 100000 in
def ctr_11 : CTR := (48, [.inr (some 25), .inl (-2147483648, 2147483647), .inl (-2147483648, 2147483647), .inl (-2147483648, 2147483647)], none, [], [(4, 0), (5, 0), (25, 0)], 1, 0, [(28, [(0, .inr (some 25)), (1, .inl (0, 11)), (2, .inl (-2147483648, 2147483647)), (3, .inl (-2147483648, 2147483647)), (4, .inl (0, 11))], [], [(0, 0, (0, 11))], 0, [((4, none), 2)], [])], [], [])
set_option maxRecDepth 100000 in
theorem cok_11 {KO : List Nat} (hK : KOK KO) : cOk KD0 KO G0 ctr_11 := chk_ok (G0_xOK hK.1) (chkS_ok (show chkS sgl0 [] ctr_11 = true by decide +kernel) hK.2) fm_n (show chk KD0 G0 (aX KD0) nX 2000 26 [] ctr_11 = true by decide +kernel)
-- X6_after
set_option maxRecDepth 100000 in
def ctr_12 : CTR := (46, [.inr (some 25), .inl (-2147483648, 2147483647)], some (.inl (-2147483648, 2147483647)), [], [], 1, 0, [], [], [])
set_option maxRecDepth 100000 in
theorem cok_12 {KO : List Nat} (hK : KOK KO) : cOk KD0 KO G0 ctr_12 := chk_ok (G0_xOK hK.1) (chkS_ok (show chkS sgl0 [] ctr_12 = true by decide +kernel) hK.2) fm_n (show chk KD0 G0 (aX KD0) nX 2000 2 [] ctr_12 = true by decide +kernel)
-- X6_cornerX
set_option maxRecDepth 100000 in
def ctr_13 : CTR := (44, [.inr (some 25), .inl (-2147483648, 2147483647)], some (.inl (-2147483648, 2147483647)), [], [], 1, 0, [], [], [])
set_option maxRecDepth 100000 in
theorem cok_13 {KO : List Nat} (hK : KOK KO) : cOk KD0 KO G0 ctr_13 := chk_ok (G0_xOK hK.1) (chkS_ok (show chkS sgl0 [] ctr_13 = true by decide +kernel) hK.2) fm_n (show chk KD0 G0 (aX KD0) nX 2000 2 [] ctr_13 = true by decide +kernel)
-- X6_cornerY
set_option maxRecDepth 100000 in
def ctr_14 : CTR := (45, [.inr (some 25), .inl (-2147483648, 2147483647)], some (.inl (-2147483648, 2147483647)), [], [], 1, 0, [], [], [])
set_option maxRecDepth 100000 in
theorem cok_14 {KO : List Nat} (hK : KOK KO) : cOk KD0 KO G0 ctr_14 := chk_ok (G0_xOK hK.1) (chkS_ok (show chkS sgl0 [] ctr_14 = true by decide +kernel) hK.2) fm_n (show chk KD0 G0 (aX KD0) nX 2000 2 [] ctr_14 = true by decide +kernel)
-- X4_foldsBack
set_option maxRecDepth 100000 in
def ctr_15 : CTR := (28, [.inr (some 25), .inl (-2147483648, 2147483647)], some (.inl (0, 1)), [], [], 2, 0, [], [], [])
set_option maxRecDepth 100000 in
theorem cok_15 {KO : List Nat} (hK : KOK KO) : cOk KD0 KO G0 ctr_15 := chk_ok (G0_xOK hK.1) (chkS_ok (show chkS sgl0 [ctr_12, ctr_13, ctr_14] ctr_15 = true by decide +kernel) hK.2) (fm_c (cok_12 hK) (fm_c (cok_13 hK) (fm_c (cok_14 hK) fm_n))) (show chk KD0 G0 (aX KD0) nX 2000 2 [ctr_12, ctr_13, ctr_14] ctr_15 = true by decide +kernel)
-- X4_turn
set_option maxRecDepth 100000 in
def ctr_16 : CTR := (23, [.inl (-2147483648, 2147483647), .inl (-2147483648, 2147483647), .inl (-2147483648, 2147483647), .inl (-2147483648, 2147483647), .inl (-2147483648, 2147483647), .inl (-2147483648, 2147483647)], some (.inl (-2147483648, 2147483647)), [], [], 1, 0, [], [], [])
set_option maxRecDepth 100000 in
theorem cok_16 {KO : List Nat} (hK : KOK KO) : cOk KD0 KO G0 ctr_16 := chk_ok (G0_xOK hK.1) (chkS_ok (show chkS sgl0 [] ctr_16 = true by decide +kernel) hK.2) fm_n (show chk KD0 G0 (aX KD0) nX 2000 2 [] ctr_16 = true by decide +kernel)
-- X4_opposite
set_option maxRecDepth 100000 in
def ctr_17 : CTR := (31, [.inl (-2147483648, 2147483647), .inl (-2147483648, 2147483647)], some (.inl (0, 1)), [], [], 1, 0, [], [], [])
set_option maxRecDepth 100000 in
theorem cok_17 {KO : List Nat} (hK : KOK KO) : cOk KD0 KO G0 ctr_17 := chk_ok (G0_xOK hK.1) (chkS_ok (show chkS sgl0 [] ctr_17 = true by decide +kernel) hK.2) fm_n (show chk KD0 G0 (aX KD0) nX 2000 2 [] ctr_17 = true by decide +kernel)
-- X4_crosses
set_option maxRecDepth 100000 in
def ctr_18 : CTR := (30, [.inr (some 25), .inl (-2147483648, 2147483647), .inl (-2147483648, 2147483647), .inl (-2147483648, 2147483647), .inl (-2147483648, 2147483647), .inl (-2147483648, 2147483647)], some (.inl (0, 1)), [], [], 2, 0, [], [], [])
set_option maxRecDepth 100000 in
theorem cok_18 {KO : List Nat} (hK : KOK KO) : cOk KD0 KO G0 ctr_18 := chk_ok (G0_xOK hK.1) (chkS_ok (show chkS sgl0 [ctr_12, ctr_13, ctr_14, ctr_16, ctr_17] ctr_18 = true by decide +kernel) hK.2) (fm_c (cok_12 hK) (fm_c (cok_13 hK) (fm_c (cok_14 hK) (fm_c (cok_16 hK) (fm_c (cok_17 hK) fm_n))))) (show chk KD0 G0 (aX KD0) nX 2000 2 [ctr_12, ctr_13, ctr_14, ctr_16, ctr_17] ctr_18 = true by decide +kernel)
-- X4_liesOn
set_option maxRecDepth 100000 in
def ctr_19 : CTR := (32, [.inr (some 25), .inl (-2147483648, 2147483647), .inl (-2147483648, 2147483647), .inl (-2147483648, 2147483647), .inl (-2147483648, 2147483647)], some (.inl (0, 1)), [], [], 2, 0, [], [], [])
set_option maxRecDepth 100000 in
theorem cok_19 {KO : List Nat} (hK : KOK KO) : cOk KD0 KO G0 ctr_19 := chk_ok (G0_xOK hK.1) (chkS_ok (show chkS sgl0 [ctr_12, ctr_13, ctr_14, ctr_16] ctr_19 = true by decide +kernel) hK.2) (fm_c (cok_12 hK) (fm_c (cok_13 hK) (fm_c (cok_14 hK) (fm_c (cok_16 hK) fm_n)))) (show chk KD0 G0 (aX KD0) nX 2000 2 [ctr_12, ctr_13, ctr_14, ctr_16] ctr_19 = true by decide +kernel)
-- X4_edgesMeet
set_option maxRecDepth 100000 in
def ctr_20 : CTR := (29, [.inr (some 25), .inl (-2147483648, 2147483647), .inl (-2147483648, 2147483647)], some (.inl (0, 1)), [], [], 3, 0, [], [], [])
set_option maxRecDepth 100000 in
theorem cok_20 {KO : List Nat} (hK : KOK KO) : cOk KD0 KO G0 ctr_20 := chk_ok (G0_xOK hK.1) (chkS_ok (show chkS sgl0 [ctr_12, ctr_13, ctr_14, ctr_18, ctr_19] ctr_20 = true by decide +kernel) hK.2) (fm_c (cok_12 hK) (fm_c (cok_13 hK) (fm_c (cok_14 hK) (fm_c (cok_18 hK) (fm_c (cok_19 hK) fm_n))))) (show chk KD0 G0 (aX KD0) nX 2000 2 [ctr_12, ctr_13, ctr_14, ctr_18, ctr_19] ctr_20 = true by decide +kernel)
-- X4_isSimple
set_option maxRecDepth 100000 in
def ctr_21 : CTR := (27, [.inr (some 25)], some (.inl (0, 1)), [], [], 4, 0, [(21, [(0, .inr (some 25)), (1, .inl (0, 12))], [], [(0, 0, (3, 12))], 336, [((1, none), -26)], []), (43, [(0, .inr (some 25)), (1, .inl (0, 11)), (2, .inl (2, 13))], [], [(0, 0, (3, 12))], 338, [((1, none), -26), ((2, none), -2)], [])], [], [])
set_option maxRecDepth 100000 in
theorem cok_21 {KO : List Nat} (hK : KOK KO) : cOk KD0 KO G0 ctr_21 := chk_ok (G0_xOK hK.1) (chkS_ok (show chkS sgl0 [ctr_12, ctr_15, ctr_20] ctr_21 = true by decide +kernel) hK.2) (fm_c (cok_12 hK) (fm_c (cok_15 hK) (fm_c (cok_20 hK) fm_n))) (show chk KD0 G0 (aX KD0) nX 2000 340 [ctr_12, ctr_15, ctr_20] ctr_21 = true by decide +kernel)
-- X4_passesRightOf
set_option maxRecDepth 100000 in
def ctr_22 : CTR := (34, [.inr (some 25), .inl (-2147483648, 2147483647), .inl (-2147483648, 2147483647), .inl (-2147483648, 2147483647)], some (.inl (0, 1)), [], [], 2, 0, [], [], [])
set_option maxRecDepth 100000 in
theorem cok_22 {KO : List Nat} (hK : KOK KO) : cOk KD0 KO G0 ctr_22 := chk_ok (G0_xOK hK.1) (chkS_ok (show chkS sgl0 [ctr_12, ctr_13, ctr_14, ctr_16] ctr_22 = true by decide +kernel) hK.2) (fm_c (cok_12 hK) (fm_c (cok_13 hK) (fm_c (cok_14 hK) (fm_c (cok_16 hK) fm_n)))) (show chk KD0 G0 (aX KD0) nX 2000 2 [ctr_12, ctr_13, ctr_14, ctr_16] ctr_22 = true by decide +kernel)
-- X4_placeOf
set_option maxRecDepth 100000 in
def ctr_23 : CTR := (33, [.inr (some 25), .inl (-2147483648, 2147483647), .inl (-2147483648, 2147483647)], some (.inl (0, 2)), [], [], 3, 0, [(5, [(0, .inr (some 25)), (1, .inl (-2147483648, 2147483647)), (2, .inl (-2147483648, 2147483647)), (3, .inl (0, 1)), (4, .inl (0, 12))], [], [], 24, [((4, none), -2)], [])], [], [])
set_option maxRecDepth 100000 in
theorem cok_23 {KO : List Nat} (hK : KOK KO) : cOk KD0 KO G0 ctr_23 := chk_ok (G0_xOK hK.1) (chkS_ok (show chkS sgl0 [ctr_19, ctr_22] ctr_23 = true by decide +kernel) hK.2) (fm_c (cok_19 hK) (fm_c (cok_22 hK) fm_n)) (show chk KD0 G0 (aX KD0) nX 2000 28 [ctr_19, ctr_22] ctr_23 = true by decide +kernel)
-- X3_fill
set_option maxRecDepth 100000 in
def ctr_24 : CTR := (17, [.inr (some 28), .inr (some 25)], some (.inl (0, 1)), [], [(1, 0), (2, 0), (3, 0), (28, 0), (28, 1)], 4, 0, [(12, [(0, .inr (some 28)), (1, .inr (some 25)), (2, .inl (0, 16))], [], [(0, 0, (0, 64))], 610, [((2, none), -36)], []), (20, [(0, .inr (some 28)), (1, .inr (some 25)), (2, .inl (0, 15)), (3, .inl (0, 16))], [], [(0, 0, (0, 64))], 608, [((2, none), -36), ((3, none), -2)], [])], [], [])
set_option maxRecDepth 100000 in
theorem cok_24 {KO : List Nat} (hK : KOK KO) : cOk KD0 KO G0 ctr_24 := chk_ok (G0_xOK hK.1) (chkS_ok (show chkS sgl0 [ctr_23] ctr_24 = true by decide +kernel) hK.2) (fm_c (cok_23 hK) fm_n) (show chk KD0 G0 (aX KD0) nX 2000 614 [ctr_23] ctr_24 = true by decide +kernel)
