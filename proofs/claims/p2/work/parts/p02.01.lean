-- X5_readVertices
set_option maxRecDepth 100000 in
def ctr_25 : CTR := (36, [.inr (some 29)], some (.inl (0, 5)), [], [(1, 0), (2, 0), (3, 0), (4, 0), (5, 0), (25, 0), (27, 1), (27, 2), (27, 3), (27, 4), (28, 0), (28, 1), (29, 3), (29, 4)], 5, 0, [(2, [(0, .inr (some 29)), (1, .inl (0, 12))], [], [], 24, [((1, none), -2)], [])], [], [])
set_option maxRecDepth 100000 in
theorem cok_25 {KO : List Nat} (hK : KOK KO) : cOk KD0 KO G0 ctr_25 := chk_ok (G0_xOK hK.1) (chkS_ok (show chkS sgl0 [ctr_8, ctr_10, ctr_11, ctr_21, ctr_24] ctr_25 = true by decide +kernel) hK.2) (fm_c (cok_8 hK) (fm_c (cok_10 hK) (fm_c (cok_11 hK) (fm_c (cok_21 hK) (fm_c (cok_24 hK) fm_n))))) (show chk KD0 G0 (aX KD0) nX 2000 28 [ctr_8, ctr_10, ctr_11, ctr_21, ctr_24] ctr_25 = true by decide +kernel)
-- X2_isWord
set_option maxRecDepth 100000 in
def ctr_26 : CTR := (16, [.inr (some 27), .inr (some 105)], some (.inl (0, 1)), [], [], 1, 0, [(35, [(0, .inr (some 27)), (1, .inr (some 105)), (2, .inl (0, 600))], [], [(0, 1, (1, 1)), (0, 2, (0, 600)), (0, 4, (0, 600))], 1200, [((2, none), -2)], [])], [], [])
set_option maxRecDepth 100000 in
theorem cok_26 {KO : List Nat} (hK : KOK KO) : cOk KD0 KO G0 ctr_26 := chk_ok (G0_xOK hK.1) (chkS_ok (show chkS sgl0 [] ctr_26 = true by decide +kernel) hK.2) fm_n (show chk KD0 G0 (aX KD0) nX 2000 1204 [] ctr_26 = true by decide +kernel)
-- X6_putGuard
set_option maxRecDepth 100000 in
def ctr_27 : CTR := (55, [.inr (some 25), .inl (-2147483648, 2147483647), .inl (-2147483648, 2147483647), .inl (-2147483648, 2147483647)], none, [], [(6, 0), (7, 0), (8, 0), (25, 1)], 1, 0, [], [], [])
set_option maxRecDepth 100000 in
theorem cok_27 {KO : List Nat} (hK : KOK KO) : cOk KD0 KO G0 ctr_27 := chk_ok (G0_xOK hK.1) (chkS_ok (show chkS sgl0 [] ctr_27 = true by decide +kernel) hK.2) fm_n (show chk KD0 G0 (aX KD0) nX 2000 2 [] ctr_27 = true by decide +kernel)
-- X5_readGuard
set_option maxRecDepth 100000 in
def ctr_28 : CTR := (38, [.inr (some 29)], some (.inl (0, 4)), [], [(6, 0), (7, 0), (8, 0), (25, 1), (27, 1), (27, 2), (27, 3), (27, 4), (29, 3), (29, 4)], 4, 0, [], [], [])
set_option maxRecDepth 100000 in
theorem cok_28 {KO : List Nat} (hK : KOK KO) : cOk KD0 KO G0 ctr_28 := chk_ok (G0_xOK hK.1) (chkS_ok (show chkS sgl0 [ctr_5, ctr_8, ctr_10, ctr_26, ctr_27] ctr_28 = true by decide +kernel) hK.2) (fm_c (cok_5 hK) (fm_c (cok_8 hK) (fm_c (cok_10 hK) (fm_c (cok_26 hK) (fm_c (cok_27 hK) fm_n))))) (show chk KD0 G0 (aX KD0) nX 2000 2 [ctr_5, ctr_8, ctr_10, ctr_26, ctr_27] ctr_28 = true by decide +kernel)
-- X2_isWord
set_option maxRecDepth 100000 in
def ctr_29 : CTR := (16, [.inr (some 27), .inr (some 108)], some (.inl (0, 1)), [], [], 1, 0, [(35, [(0, .inr (some 27)), (1, .inr (some 108)), (2, .inl (0, 600))], [], [(0, 1, (1, 1)), (0, 2, (0, 600)), (0, 4, (0, 600))], 1200, [((2, none), -2)], [])], [], [])
set_option maxRecDepth 100000 in
theorem cok_29 {KO : List Nat} (hK : KOK KO) : cOk KD0 KO G0 ctr_29 := chk_ok (G0_xOK hK.1) (chkS_ok (show chkS sgl0 [] ctr_29 = true by decide +kernel) hK.2) fm_n (show chk KD0 G0 (aX KD0) nX 2000 1204 [] ctr_29 = true by decide +kernel)
-- X6_putTreasure
set_option maxRecDepth 100000 in
def ctr_30 : CTR := (63, [.inr (some 25), .inl (-2147483648, 2147483647), .inl (-2147483648, 2147483647), .inl (-2147483648, 2147483647)], none, [], [(9, 0), (10, 0), (11, 0), (25, 2)], 1, 0, [], [], [])
set_option maxRecDepth 100000 in
theorem cok_30 {KO : List Nat} (hK : KOK KO) : cOk KD0 KO G0 ctr_30 := chk_ok (G0_xOK hK.1) (chkS_ok (show chkS sgl0 [] ctr_30 = true by decide +kernel) hK.2) fm_n (show chk KD0 G0 (aX KD0) nX 2000 2 [] ctr_30 = true by decide +kernel)
-- X5_readTreasure
set_option maxRecDepth 100000 in
def ctr_31 : CTR := (39, [.inr (some 29)], some (.inl (0, 4)), [], [(9, 0), (10, 0), (11, 0), (25, 2), (27, 1), (27, 2), (27, 3), (27, 4), (29, 3), (29, 4)], 4, 0, [], [], [])
set_option maxRecDepth 100000 in
theorem cok_31 {KO : List Nat} (hK : KOK KO) : cOk KD0 KO G0 ctr_31 := chk_ok (G0_xOK hK.1) (chkS_ok (show chkS sgl0 [ctr_5, ctr_8, ctr_10, ctr_30] ctr_31 = true by decide +kernel) hK.2) (fm_c (cok_5 hK) (fm_c (cok_8 hK) (fm_c (cok_10 hK) (fm_c (cok_30 hK) fm_n)))) (show chk KD0 G0 (aX KD0) nX 2000 2 [ctr_5, ctr_8, ctr_10, ctr_30] ctr_31 = true by decide +kernel)
-- X5_readLines
set_option maxRecDepth 100000 in
def ctr_32 : CTR := (37, [.inr (some 29)], some (.inl (0, 5)), [], [(6, 0), (7, 0), (8, 0), (9, 0), (10, 0), (11, 0), (25, 1), (25, 2), (27, 1), (27, 2), (27, 3), (27, 4), (29, 3), (29, 4)], 5, 0, [(2, [(0, .inr (some 29)), (1, .inl (0, 14))], [], [], 28, [((1, none), -2)], [])], [], [])
set_option maxRecDepth 100000 in
theorem cok_32 {KO : List Nat} (hK : KOK KO) : cOk KD0 KO G0 ctr_32 := chk_ok (G0_xOK hK.1) (chkS_ok (show chkS sgl0 [ctr_5, ctr_26, ctr_28, ctr_29, ctr_31] ctr_32 = true by decide +kernel) hK.2) (fm_c (cok_5 hK) (fm_c (cok_26 hK) (fm_c (cok_28 hK) (fm_c (cok_29 hK) (fm_c (cok_31 hK) fm_n))))) (show chk KD0 G0 (aX KD0) nX 2000 32 [ctr_5, ctr_26, ctr_28, ctr_29, ctr_31] ctr_32 = true by decide +kernel)
-- X5_parse
set_option maxRecDepth 100000 in
def ctr_33 : CTR := (35, [.inr (some 29), .inl (0, 600)], some (.inl (0, 5)), [], [(1, 0), (2, 0), (3, 0), (4, 0), (5, 0), (6, 0), (7, 0), (8, 0), (9, 0), (10, 0), (11, 0), (25, 0), (25, 1), (25, 2), (27, 1), (27, 2), (27, 3), (27, 4), (27, 5), (28, 0), (28, 1), (29, 3), (29, 4)], 6, 0, [], [], [])
set_option maxRecDepth 100000 in
theorem cok_33 {KO : List Nat} (hK : KOK KO) : cOk KD0 KO G0 ctr_33 := chk_ok (G0_xOK hK.1) (chkS_ok (show chkS sgl0 [ctr_2, ctr_5, ctr_6, ctr_7, ctr_25, ctr_32] ctr_33 = true by decide +kernel) hK.2) (fm_c (cok_2 hK) (fm_c (cok_5 hK) (fm_c (cok_6 hK) (fm_c (cok_7 hK) (fm_c (cok_25 hK) (fm_c (cok_32 hK) fm_n)))))) (show chk KD0 G0 (aX KD0) nX 2000 2 [ctr_2, ctr_5, ctr_6, ctr_7, ctr_25, ctr_32] ctr_33 = true by decide +kernel)
-- X1_clear
set_option maxRecDepth 100000 in
def ctr_34 : CTR := (8, [.inr (some 35)], none, [], [(35, 0)], 1, 0, [], [], [])
set_option maxRecDepth 100000 in
theorem cok_34 {KO : List Nat} (hK : KOK KO) : cOk KD0 KO G0 ctr_34 := chk_ok (G0_xOK hK.1) (chkS_ok (show chkS sgl0 [] ctr_34 = true by decide +kernel) hK.2) fm_n (show chk KD0 G0 (aX KD0) nX 2000 2 [] ctr_34 = true by decide +kernel)
-- X6_copyFrom
set_option maxRecDepth 100000 in
def ctr_35 : CTR := (43, [.inr (some 25), .inr (some 25)], none, [], [(4, 0), (5, 0), (6, 0), (7, 0), (8, 0), (9, 0), (10, 0), (11, 0), (25, 0), (25, 1), (25, 2)], 1, 0, [], [], [])
set_option maxRecDepth 100000 in
theorem cok_35 {KO : List Nat} (hK : KOK KO) : cOk KD0 KO G0 ctr_35 := chk_ok (G0_xOK hK.1) (chkS_ok (show chkS sgl0 [] ctr_35 = true by decide +kernel) hK.2) fm_n (show chk KD0 G0 (aX KD0) nX 2000 2 [] ctr_35 = true by decide +kernel)
-- X7_forget
set_option maxRecDepth 100000 in
def ctr_36 : CTR := (65, [.inr (some 30)], none, [], [(30, 3)], 1, 0, [], [], [])
set_option maxRecDepth 100000 in
theorem cok_36 {KO : List Nat} (hK : KOK KO) : cOk KD0 KO G0 ctr_36 := chk_ok (G0_xOK hK.1) (chkS_ok (show chkS sgl0 [] ctr_36 = true by decide +kernel) hK.2) fm_n (show chk KD0 G0 (aX KD0) nX 2000 2 [] ctr_36 = true by decide +kernel)
-- X9_forget
set_option maxRecDepth 100000 in
def ctr_37 : CTR := (89, [.inr (some 31)], none, [], [(31, 8)], 1, 0, [], [], [])
set_option maxRecDepth 100000 in
theorem cok_37 {KO : List Nat} (hK : KOK KO) : cOk KD0 KO G0 ctr_37 := chk_ok (G0_xOK hK.1) (chkS_ok (show chkS sgl0 [] ctr_37 = true by decide +kernel) hK.2) fm_n (show chk KD0 G0 (aX KD0) nX 2000 2 [] ctr_37 = true by decide +kernel)
-- X0_forget
set_option maxRecDepth 100000 in
def ctr_38 : CTR := (0, [.inr (some 32)], none, [], [(32, 6), (32, 7), (32, 8)], 1, 0, [], [], [])
set_option maxRecDepth 100000 in
theorem cok_38 {KO : List Nat} (hK : KOK KO) : cOk KD0 KO G0 ctr_38 := chk_ok (G0_xOK hK.1) (chkS_ok (show chkS sgl0 [] ctr_38 = true by decide +kernel) hK.2) fm_n (show chk KD0 G0 (aX KD0) nX 2000 2 [] ctr_38 = true by decide +kernel)
-- X8_forget
set_option maxRecDepth 100000 in
def ctr_39 : CTR := (80, [.inr (some 33)], none, [], [(33, 3), (33, 4)], 1, 0, [], [], [])
set_option maxRecDepth 100000 in
theorem cok_39 {KO : List Nat} (hK : KOK KO) : cOk KD0 KO G0 ctr_39 := chk_ok (G0_xOK hK.1) (chkS_ok (show chkS sgl0 [] ctr_39 = true by decide +kernel) hK.2) fm_n (show chk KD0 G0 (aX KD0) nX 2000 2 [] ctr_39 = true by decide +kernel)
-- X11_replacePlan
set_option maxRecDepth 100000 in
def ctr_40 : CTR := (180, [.inr (some 36), .inr (some 25)], none, [], [(1, 0), (2, 0), (3, 0), (4, 0), (5, 0), (6, 0), (7, 0), (8, 0), (9, 0), (10, 0), (11, 0), (25, 0), (25, 1), (25, 2), (28, 0), (28, 1), (30, 3), (31, 8), (32, 6), (32, 7), (32, 8), (33, 3), (33, 4)], 5, 0, [], [], [])
set_option maxRecDepth 100000 in
theorem cok_40 {KO : List Nat} (hK : KOK KO) : cOk KD0 KO G0 ctr_40 := chk_ok (G0_xOK hK.1) (chkS_ok (show chkS sgl0 [ctr_24, ctr_35, ctr_36, ctr_37, ctr_38, ctr_39] ctr_40 = true by decide +kernel) hK.2) (fm_c (cok_24 hK) (fm_c (cok_35 hK) (fm_c (cok_36 hK) (fm_c (cok_37 hK) (fm_c (cok_38 hK) (fm_c (cok_39 hK) fm_n)))))) (show chk KD0 G0 (aX KD0) nX 2000 2 [ctr_24, ctr_35, ctr_36, ctr_37, ctr_38, ctr_39] ctr_40 = true by decide +kernel)
-- X11_load
set_option maxRecDepth 100000 in
def ctr_41 : CTR := (116, [.inr (some 36), .inl (-2147483648, 2147483647)], some (.inl (0, 64)), ["java/lang/IllegalArgumentException", "java/lang/IndexOutOfBoundsException"], [(1, 0), (2, 0), (3, 0), (4, 0), (5, 0), (6, 0), (7, 0), (8, 0), (9, 0), (10, 0), (11, 0), (25, 0), (25, 1), (25, 2), (27, 0), (27, 1), (27, 2), (27, 3), (27, 4), (27, 5), (28, 0), (28, 1), (29, 3), (29, 4), (30, 3), (31, 8), (32, 6), (32, 7), (32, 8), (33, 3), (33, 4), (35, 0), (36, 16), (36, 17)], 7, 0, [], [], [])
set_option maxRecDepth 100000 in
theorem cok_41 {KO : List Nat} (hK : KOK KO) : cOk KD0 KO G0 ctr_41 := chk_ok (G0_xOK hK.1) (chkS_ok (show chkS sgl0 [ctr_2, ctr_33, ctr_34, ctr_40] ctr_41 = true by decide +kernel) hK.2) (fm_c (cok_2 hK) (fm_c (cok_33 hK) (fm_c (cok_34 hK) (fm_c (cok_40 hK) fm_n)))) (show chk KD0 G0 (aX KD0) nX 2000 2 [ctr_2, ctr_33, ctr_34, ctr_40] ctr_41 = true by decide +kernel)
-- X11_parseError
set_option maxRecDepth 100000 in
def ctr_42 : CTR := (117, [.inr (some 36)], some (.inl (-2147483648, 2147483647)), [], [], 1, 0, [], [], [])
set_option maxRecDepth 100000 in
theorem cok_42 {KO : List Nat} (hK : KOK KO) : cOk KD0 KO G0 ctr_42 := chk_ok (G0_xOK hK.1) (chkS_ok (show chkS sgl0 [] ctr_42 = true by decide +kernel) hK.2) fm_n (show chk KD0 G0 (aX KD0) nX 2000 2 [] ctr_42 = true by decide +kernel)
-- X11_errorPosition
set_option maxRecDepth 100000 in
def ctr_43 : CTR := (118, [.inr (some 36)], some (.inl (-2147483648, 2147483647)), [], [], 1, 0, [], [], [])
set_option maxRecDepth 100000 in
theorem cok_43 {KO : List Nat} (hK : KOK KO) : cOk KD0 KO G0 ctr_43 := chk_ok (G0_xOK hK.1) (chkS_ok (show chkS sgl0 [] ctr_43 = true by decide +kernel) hK.2) fm_n (show chk KD0 G0 (aX KD0) nX 2000 2 [] ctr_43 = true by decide +kernel)
-- X11_buffered
set_option maxRecDepth 100000 in
def ctr_44 : CTR := (119, [.inr (some 36)], some (.inl (0, 600)), [], [], 1, 0, [], [], [])
set_option maxRecDepth 100000 in
theorem cok_44 {KO : List Nat} (hK : KOK KO) : cOk KD0 KO G0 ctr_44 := chk_ok (G0_xOK hK.1) (chkS_ok (show chkS sgl0 [] ctr_44 = true by decide +kernel) hK.2) fm_n (show chk KD0 G0 (aX KD0) nX 2000 2 [] ctr_44 = true by decide +kernel)
-- X11_vertices
set_option maxRecDepth 100000 in
def ctr_45 : CTR := (120, [.inr (some 36)], some (.inl (0, 12)), [], [], 1, 0, [], [], [])
set_option maxRecDepth 100000 in
theorem cok_45 {KO : List Nat} (hK : KOK KO) : cOk KD0 KO G0 ctr_45 := chk_ok (G0_xOK hK.1) (chkS_ok (show chkS sgl0 [] ctr_45 = true by decide +kernel) hK.2) fm_n (show chk KD0 G0 (aX KD0) nX 2000 2 [] ctr_45 = true by decide +kernel)
-- X11_needPolygon
set_option maxRecDepth 100000 in
def ctr_46 : CTR := (174, [.inr (some 36)], none, ["java/lang/IllegalStateException"], [], 1, 0, [], [], [])
set_option maxRecDepth 100000 in
theorem cok_46 {KO : List Nat} (hK : KOK KO) : cOk KD0 KO G0 ctr_46 := chk_ok (G0_xOK hK.1) (chkS_ok (show chkS sgl0 [] ctr_46 = true by decide +kernel) hK.2) fm_n (show chk KD0 G0 (aX KD0) nX 2000 2 [] ctr_46 = true by decide +kernel)
-- X11_vertexX
set_option maxRecDepth 100000 in
def ctr_47 : CTR := (121, [.inr (some 36), .inl (-2147483648, 2147483647)], some (.inl (-2147483648, 2147483647)), ["java/lang/IllegalStateException", "java/lang/IndexOutOfBoundsException"], [], 2, 0, [], [], [])
set_option maxRecDepth 100000 in
theorem cok_47 {KO : List Nat} (hK : KOK KO) : cOk KD0 KO G0 ctr_47 := chk_ok (G0_xOK hK.1) (chkS_ok (show chkS sgl0 [ctr_13, ctr_46] ctr_47 = true by decide +kernel) hK.2) (fm_c (cok_13 hK) (fm_c (cok_46 hK) fm_n)) (show chk KD0 G0 (aX KD0) nX 2000 2 [ctr_13, ctr_46] ctr_47 = true by decide +kernel)
-- X11_vertexY
set_option maxRecDepth 100000 in
def ctr_48 : CTR := (122, [.inr (some 36), .inl (-2147483648, 2147483647)], some (.inl (-2147483648, 2147483647)), ["java/lang/IllegalStateException", "java/lang/IndexOutOfBoundsException"], [], 2, 0, [], [], [])
set_option maxRecDepth 100000 in
theorem cok_48 {KO : List Nat} (hK : KOK KO) : cOk KD0 KO G0 ctr_48 := chk_ok (G0_xOK hK.1) (chkS_ok (show chkS sgl0 [ctr_14, ctr_46] ctr_48 = true by decide +kernel) hK.2) (fm_c (cok_14 hK) (fm_c (cok_46 hK) fm_n)) (show chk KD0 G0 (aX KD0) nX 2000 2 [ctr_14, ctr_46] ctr_48 = true by decide +kernel)
-- X4_signedArea
set_option maxRecDepth 100000 in
def ctr_49 : CTR := (25, [.inr (some 25)], some (.inl (-2147483648, 2147483647)), [], [], 2, 0, [(4, [(0, .inr (some 25)), (1, .inl (-2147483648, 2147483647)), (2, .inl (0, 12))], [], [], 24, [((2, none), -2)], [])], [], [])
set_option maxRecDepth 100000 in
theorem cok_49 {KO : List Nat} (hK : KOK KO) : cOk KD0 KO G0 ctr_49 := chk_ok (G0_xOK hK.1) (chkS_ok (show chkS sgl0 [ctr_12, ctr_13, ctr_14] ctr_49 = true by decide +kernel) hK.2) (fm_c (cok_12 hK) (fm_c (cok_13 hK) (fm_c (cok_14 hK) fm_n))) (show chk KD0 G0 (aX KD0) nX 2000 28 [ctr_12, ctr_13, ctr_14] ctr_49 = true by decide +kernel)
