-- X11_doubleArea
set_option maxRecDepth 100000 in
def ctr_50 : CTR := (123, [.inr (some 36)], some (.inl (-2147483648, 2147483647)), ["java/lang/IllegalStateException"], [], 3, 0, [], [], [])
set_option maxRecDepth 100000 in
theorem cok_50 {KO : List Nat} (hK : KOK KO) : cOk KD0 KO G0 ctr_50 := chk_ok (G0_xOK hK.1) (chkS_ok (show chkS sgl0 [ctr_46, ctr_49] ctr_50 = true by decide +kernel) hK.2) (fm_c (cok_46 hK) (fm_c (cok_49 hK) fm_n)) (show chk KD0 G0 (aX KD0) nX 2000 2 [ctr_46, ctr_49] ctr_50 = true by decide +kernel)
-- X6_before
set_option maxRecDepth 100000 in
def ctr_51 : CTR := (47, [.inr (some 25), .inl (-2147483648, 2147483647)], some (.inl (-1, 2147483646)), [], [], 1, 0, [], [], [])
set_option maxRecDepth 100000 in
theorem cok_51 {KO : List Nat} (hK : KOK KO) : cOk KD0 KO G0 ctr_51 := chk_ok (G0_xOK hK.1) (chkS_ok (show chkS sgl0 [] ctr_51 = true by decide +kernel) hK.2) fm_n (show chk KD0 G0 (aX KD0) nX 2000 2 [] ctr_51 = true by decide +kernel)
-- X4_turnOf
set_option maxRecDepth 100000 in
def ctr_52 : CTR := (24, [.inr (some 25), .inl (-2147483648, 2147483647), .inl (-2147483648, 2147483647), .inl (-2147483648, 2147483647)], some (.inl (-2147483648, 2147483647)), [], [], 2, 0, [], [], [])
set_option maxRecDepth 100000 in
theorem cok_52 {KO : List Nat} (hK : KOK KO) : cOk KD0 KO G0 ctr_52 := chk_ok (G0_xOK hK.1) (chkS_ok (show chkS sgl0 [ctr_13, ctr_14, ctr_16] ctr_52 = true by decide +kernel) hK.2) (fm_c (cok_13 hK) (fm_c (cok_14 hK) (fm_c (cok_16 hK) fm_n))) (show chk KD0 G0 (aX KD0) nX 2000 2 [ctr_13, ctr_14, ctr_16] ctr_52 = true by decide +kernel)
-- X4_reflexSet
set_option maxRecDepth 100000 in
def ctr_53 : CTR := (26, [.inr (some 25)], some (.inl (-2147483648, 2147483647)), [], [], 3, 0, [(17, [(0, .inr (some 25)), (1, .inl (0, 1)), (2, .inl (-2147483648, 2147483647)), (3, .inl (0, 12))], [], [], 24, [((3, none), -2)], [])], [], [])
set_option maxRecDepth 100000 in
theorem cok_53 {KO : List Nat} (hK : KOK KO) : cOk KD0 KO G0 ctr_53 := chk_ok (G0_xOK hK.1) (chkS_ok (show chkS sgl0 [ctr_12, ctr_49, ctr_51, ctr_52] ctr_53 = true by decide +kernel) hK.2) (fm_c (cok_12 hK) (fm_c (cok_49 hK) (fm_c (cok_51 hK) (fm_c (cok_52 hK) fm_n)))) (show chk KD0 G0 (aX KD0) nX 2000 28 [ctr_12, ctr_49, ctr_51, ctr_52] ctr_53 = true by decide +kernel)
-- X11_reflexVertices
set_option maxRecDepth 100000 in
def ctr_54 : CTR := (124, [.inr (some 36)], some (.inl (-2147483648, 2147483647)), ["java/lang/IllegalStateException"], [], 4, 0, [], [], [])
set_option maxRecDepth 100000 in
theorem cok_54 {KO : List Nat} (hK : KOK KO) : cOk KD0 KO G0 ctr_54 := chk_ok (G0_xOK hK.1) (chkS_ok (show chkS sgl0 [ctr_46, ctr_53] ctr_54 = true by decide +kernel) hK.2) (fm_c (cok_46 hK) (fm_c (cok_53 hK) fm_n)) (show chk KD0 G0 (aX KD0) nX 2000 2 [ctr_46, ctr_53] ctr_54 = true by decide +kernel)
-- X11_points
set_option maxRecDepth 100000 in
def ctr_55 : CTR := (125, [.inr (some 36)], some (.inl (0, 64)), [], [], 1, 0, [], [], [])
set_option maxRecDepth 100000 in
theorem cok_55 {KO : List Nat} (hK : KOK KO) : cOk KD0 KO G0 ctr_55 := chk_ok (G0_xOK hK.1) (chkS_ok (show chkS sgl0 [] ctr_55 = true by decide +kernel) hK.2) fm_n (show chk KD0 G0 (aX KD0) nX 2000 2 [] ctr_55 = true by decide +kernel)
-- X3_xOf
set_option maxRecDepth 100000 in
def ctr_56 : CTR := (19, [.inr (some 28), .inl (-2147483648, 2147483647)], some (.inl (-2147483648, 2147483647)), [], [], 1, 0, [], [], [])
set_option maxRecDepth 100000 in
theorem cok_56 {KO : List Nat} (hK : KOK KO) : cOk KD0 KO G0 ctr_56 := chk_ok (G0_xOK hK.1) (chkS_ok (show chkS sgl0 [] ctr_56 = true by decide +kernel) hK.2) fm_n (show chk KD0 G0 (aX KD0) nX 2000 2 [] ctr_56 = true by decide +kernel)
-- X11_pointX
set_option maxRecDepth 100000 in
def ctr_57 : CTR := (126, [.inr (some 36), .inl (-2147483648, 2147483647)], some (.inl (-2147483648, 2147483647)), ["java/lang/IllegalStateException", "java/lang/IndexOutOfBoundsException"], [], 2, 0, [], [], [])
set_option maxRecDepth 100000 in
theorem cok_57 {KO : List Nat} (hK : KOK KO) : cOk KD0 KO G0 ctr_57 := chk_ok (G0_xOK hK.1) (chkS_ok (show chkS sgl0 [ctr_46, ctr_56] ctr_57 = true by decide +kernel) hK.2) (fm_c (cok_46 hK) (fm_c (cok_56 hK) fm_n)) (show chk KD0 G0 (aX KD0) nX 2000 2 [ctr_46, ctr_56] ctr_57 = true by decide +kernel)
-- X3_yOf
set_option maxRecDepth 100000 in
def ctr_58 : CTR := (20, [.inr (some 28), .inl (-2147483648, 2147483647)], some (.inl (-2147483648, 2147483647)), [], [], 1, 0, [], [], [])
set_option maxRecDepth 100000 in
theorem cok_58 {KO : List Nat} (hK : KOK KO) : cOk KD0 KO G0 ctr_58 := chk_ok (G0_xOK hK.1) (chkS_ok (show chkS sgl0 [] ctr_58 = true by decide +kernel) hK.2) fm_n (show chk KD0 G0 (aX KD0) nX 2000 2 [] ctr_58 = true by decide +kernel)
-- X11_pointY
set_option maxRecDepth 100000 in
def ctr_59 : CTR := (127, [.inr (some 36), .inl (-2147483648, 2147483647)], some (.inl (-2147483648, 2147483647)), ["java/lang/IllegalStateException", "java/lang/IndexOutOfBoundsException"], [], 2, 0, [], [], [])
set_option maxRecDepth 100000 in
theorem cok_59 {KO : List Nat} (hK : KOK KO) : cOk KD0 KO G0 ctr_59 := chk_ok (G0_xOK hK.1) (chkS_ok (show chkS sgl0 [ctr_46, ctr_58] ctr_59 = true by decide +kernel) hK.2) (fm_c (cok_46 hK) (fm_c (cok_58 hK) fm_n)) (show chk KD0 G0 (aX KD0) nX 2000 2 [ctr_46, ctr_58] ctr_59 = true by decide +kernel)
-- X11_pointAt
set_option maxRecDepth 100000 in
def ctr_60 : CTR := (128, [.inr (some 36), .inl (-2147483648, 2147483647), .inl (-2147483648, 2147483647)], some (.inl (-2147483648, 2147483647)), ["java/lang/IllegalStateException"], [], 2, 0, [], [], [])
set_option maxRecDepth 100000 in
theorem cok_60 {KO : List Nat} (hK : KOK KO) : cOk KD0 KO G0 ctr_60 := chk_ok (G0_xOK hK.1) (chkS_ok (show chkS sgl0 [ctr_9, ctr_46] ctr_60 = true by decide +kernel) hK.2) (fm_c (cok_9 hK) (fm_c (cok_46 hK) fm_n)) (show chk KD0 G0 (aX KD0) nX 2000 2 [ctr_9, ctr_46] ctr_60 = true by decide +kernel)
-- X11_boundary
set_option maxRecDepth 100000 in
def ctr_61 : CTR := (129, [.inr (some 36)], some (.inr none), ["java/lang/IllegalStateException"], [], 2, 0, [], [], [])
set_option maxRecDepth 100000 in
theorem cok_61 {KO : List Nat} (hK : KOK KO) : cOk KD0 KO G0 ctr_61 := chk_ok (G0_xOK hK.1) (chkS_ok (show chkS sgl0 [ctr_46] ctr_61 = true by decide +kernel) hK.2) (fm_c (cok_46 hK) fm_n) (show chk KD0 G0 (aX KD0) nX 2000 2 [ctr_46] ctr_61 = true by decide +kernel)
-- X7_piecesOf
set_option maxRecDepth 100000 in
def ctr_62 : CTR := (70, [.inl (-2147483648, 2147483647), .inl (-2147483648, 2147483647)], some (.inl (1, 15)), [], [], 1, 0, [(3, [(0, .inl (-2147483648, 2147483647)), (1, .inl (-2147483648, 2147483647)), (2, .inl (1, 15))], [], [], -2, [((2, none), 2)], [])], [], [])
set_option maxRecDepth 100000 in
theorem cok_62 {KO : List Nat} (hK : KOK KO) : cOk KD0 KO G0 ctr_62 := chk_ok (G0_xOK hK.1) (chkS_ok (show chkS sgl0 [] ctr_62 = true by decide +kernel) hK.2) fm_n (show chk KD0 G0 (aX KD0) nX 2000 32 [] ctr_62 = true by decide +kernel)
-- X11_has
set_option maxRecDepth 100000 in
def ctr_63 : CTR := (177, [.inr none, .inl (-2147483648, 2147483647)], some (.inl (0, 1)), [], [], 1, 0, [], [], [])
set_option maxRecDepth 100000 in
theorem cok_63 {KO : List Nat} (hK : KOK KO) : cOk KD0 KO G0 ctr_63 := chk_ok (G0_xOK hK.1) (chkS_ok (show chkS sgl0 [] ctr_63 = true by decide +kernel) hK.2) fm_n (show chk KD0 G0 (aX KD0) nX 2000 2 [] ctr_63 = true by decide +kernel)
-- X7_isChained
set_option maxRecDepth 100000 in
def ctr_64 : CTR := (69, [.inr (some 30), .inl (1, 1), .inl (0, 0), .inl (2, 15)], some (.inl (0, 1)), [], [], 2, 0, [(55, [(0, .inr (some 30)), (1, .inl (1, 1)), (2, .inl (0, 0)), (3, .inl (2, 15)), (4, .inl (-2147483648, 2147483647)), (5, .inl (-2147483648, 2147483647)), (6, .inl (-2147483648, 2147483647)), (7, .inl (1, 16))], [], [], 32, [((7, none), -2)], [])], [], [])
set_option maxRecDepth 100000 in
theorem cok_64 {KO : List Nat} (hK : KOK KO) : cOk KD0 KO G0 ctr_64 := chk_ok (G0_xOK hK.1) (chkS_ok (show chkS sgl0 [ctr_9, ctr_56, ctr_58, ctr_63] ctr_64 = true by decide +kernel) hK.2) (fm_c (cok_9 hK) (fm_c (cok_56 hK) (fm_c (cok_58 hK) (fm_c (cok_63 hK) fm_n)))) (show chk KD0 G0 (aX KD0) nX 2000 34 [ctr_9, ctr_56, ctr_58, ctr_63] ctr_64 = true by decide +kernel)
-- X7_isClear
set_option maxRecDepth 100000 in
def ctr_65 : CTR := (68, [.inr (some 30), .inl (-2147483648, 2147483647), .inl (-2147483648, 2147483647)], some (.inl (0, 1)), [], [], 4, 0, [(42, [(0, .inr (some 30)), (1, .inl (-2147483648, 2147483647)), (2, .inl (-2147483648, 2147483647)), (3, .inl (-2147483648, 2147483647)), (4, .inl (-2147483648, 2147483647)), (5, .inl (-2147483648, 2147483647)), (6, .inl (-2147483648, 2147483647)), (7, .inl (0, 12))], [], [], 24, [((7, none), -2)], [])], [], [])
set_option maxRecDepth 100000 in
theorem cok_65 {KO : List Nat} (hK : KOK KO) : cOk KD0 KO G0 ctr_65 := chk_ok (G0_xOK hK.1) (chkS_ok (show chkS sgl0 [ctr_18, ctr_23, ctr_56, ctr_58] ctr_65 = true by decide +kernel) hK.2) (fm_c (cok_18 hK) (fm_c (cok_23 hK) (fm_c (cok_56 hK) (fm_c (cok_58 hK) fm_n)))) (show chk KD0 G0 (aX KD0) nX 2000 28 [ctr_18, ctr_23, ctr_56, ctr_58] ctr_65 = true by decide +kernel)
-- X7_isChained
set_option maxRecDepth 100000 in
def ctr_66 : CTR := (69, [.inr (some 30), .inl (1, 2), .inl (0, 1), .inl (2, 15)], some (.inl (0, 1)), [], [], 2, 0, [(55, [(0, .inr (some 30)), (1, .inl (1, 2)), (2, .inl (0, 1)), (3, .inl (2, 15)), (4, .inl (-2147483648, 2147483647)), (5, .inl (-2147483648, 2147483647)), (6, .inl (-2147483648, 2147483647)), (7, .inl (1, 16))], [], [], 32, [((7, none), -2)], [])], [], [])
set_option maxRecDepth 100000 in
theorem cok_66 {KO : List Nat} (hK : KOK KO) : cOk KD0 KO G0 ctr_66 := chk_ok (G0_xOK hK.1) (chkS_ok (show chkS sgl0 [ctr_9, ctr_56, ctr_58, ctr_63] ctr_66 = true by decide +kernel) hK.2) (fm_c (cok_9 hK) (fm_c (cok_56 hK) (fm_c (cok_58 hK) (fm_c (cok_63 hK) fm_n)))) (show chk KD0 G0 (aX KD0) nX 2000 34 [ctr_9, ctr_56, ctr_58, ctr_63] ctr_66 = true by decide +kernel)
-- X7_isChained
set_option maxRecDepth 100000 in
def ctr_67 : CTR := (69, [.inr (some 30), .inl (1, 3), .inl (0, 2), .inl (2, 15)], some (.inl (0, 1)), [], [], 2, 0, [(55, [(0, .inr (some 30)), (1, .inl (1, 3)), (2, .inl (0, 2)), (3, .inl (2, 15)), (4, .inl (-2147483648, 2147483647)), (5, .inl (-2147483648, 2147483647)), (6, .inl (-2147483648, 2147483647)), (7, .inl (1, 16))], [], [], 32, [((7, none), -2)], [])], [], [])
set_option maxRecDepth 100000 in
theorem cok_67 {KO : List Nat} (hK : KOK KO) : cOk KD0 KO G0 ctr_67 := chk_ok (G0_xOK hK.1) (chkS_ok (show chkS sgl0 [ctr_9, ctr_56, ctr_58, ctr_63] ctr_67 = true by decide +kernel) hK.2) (fm_c (cok_9 hK) (fm_c (cok_56 hK) (fm_c (cok_58 hK) (fm_c (cok_63 hK) fm_n)))) (show chk KD0 G0 (aX KD0) nX 2000 34 [ctr_9, ctr_56, ctr_58, ctr_63] ctr_67 = true by decide +kernel)
-- X7_isChained
set_option maxRecDepth 100000 in
def ctr_68 : CTR := (69, [.inr (some 30), .inl (1, 4), .inl (0, 3), .inl (2, 15)], some (.inl (0, 1)), [], [], 2, 0, [(55, [(0, .inr (some 30)), (1, .inl (1, 4)), (2, .inl (0, 3)), (3, .inl (2, 15)), (4, .inl (-2147483648, 2147483647)), (5, .inl (-2147483648, 2147483647)), (6, .inl (-2147483648, 2147483647)), (7, .inl (1, 16))], [], [], 32, [((7, none), -2)], [])], [], [])
set_option maxRecDepth 100000 in
theorem cok_68 {KO : List Nat} (hK : KOK KO) : cOk KD0 KO G0 ctr_68 := chk_ok (G0_xOK hK.1) (chkS_ok (show chkS sgl0 [ctr_9, ctr_56, ctr_58, ctr_63] ctr_68 = true by decide +kernel) hK.2) (fm_c (cok_9 hK) (fm_c (cok_56 hK) (fm_c (cok_58 hK) (fm_c (cok_63 hK) fm_n)))) (show chk KD0 G0 (aX KD0) nX 2000 34 [ctr_9, ctr_56, ctr_58, ctr_63] ctr_68 = true by decide +kernel)
-- X7_isChained
set_option maxRecDepth 100000 in
def ctr_69 : CTR := (69, [.inr (some 30), .inl (1, 6), .inl (0, 4), .inl (2, 15)], some (.inl (0, 1)), [], [], 2, 0, [(55, [(0, .inr (some 30)), (1, .inl (1, 6)), (2, .inl (0, 4)), (3, .inl (2, 15)), (4, .inl (-2147483648, 2147483647)), (5, .inl (-2147483648, 2147483647)), (6, .inl (-2147483648, 2147483647)), (7, .inl (1, 16))], [], [], 32, [((7, none), -2)], [])], [], [])
set_option maxRecDepth 100000 in
theorem cok_69 {KO : List Nat} (hK : KOK KO) : cOk KD0 KO G0 ctr_69 := chk_ok (G0_xOK hK.1) (chkS_ok (show chkS sgl0 [ctr_9, ctr_56, ctr_58, ctr_63] ctr_69 = true by decide +kernel) hK.2) (fm_c (cok_9 hK) (fm_c (cok_56 hK) (fm_c (cok_58 hK) (fm_c (cok_63 hK) fm_n)))) (show chk KD0 G0 (aX KD0) nX 2000 34 [ctr_9, ctr_56, ctr_58, ctr_63] ctr_69 = true by decide +kernel)
-- X7_isChained
set_option maxRecDepth 100000 in
def ctr_70 : CTR := (69, [.inr (some 30), .inl (1, 6), .inl (0, 5), .inl (2, 15)], some (.inl (0, 1)), [], [], 2, 0, [(55, [(0, .inr (some 30)), (1, .inl (1, 6)), (2, .inl (0, 5)), (3, .inl (2, 15)), (4, .inl (-2147483648, 2147483647)), (5, .inl (-2147483648, 2147483647)), (6, .inl (-2147483648, 2147483647)), (7, .inl (1, 16))], [], [], 32, [((7, none), -2)], [])], [], [])
set_option maxRecDepth 100000 in
theorem cok_70 {KO : List Nat} (hK : KOK KO) : cOk KD0 KO G0 ctr_70 := chk_ok (G0_xOK hK.1) (chkS_ok (show chkS sgl0 [ctr_9, ctr_56, ctr_58, ctr_63] ctr_70 = true by decide +kernel) hK.2) (fm_c (cok_9 hK) (fm_c (cok_56 hK) (fm_c (cok_58 hK) (fm_c (cok_63 hK) fm_n)))) (show chk KD0 G0 (aX KD0) nX 2000 34 [ctr_9, ctr_56, ctr_58, ctr_63] ctr_70 = true by decide +kernel)
-- X7_isChained
set_option maxRecDepth 100000 in
def ctr_71 : CTR := (69, [.inr (some 30), .inl (1, 7), .inl (0, 6), .inl (2, 15)], some (.inl (0, 1)), [], [], 2, 0, [(55, [(0, .inr (some 30)), (1, .inl (1, 7)), (2, .inl (0, 6)), (3, .inl (2, 15)), (4, .inl (-2147483648, 2147483647)), (5, .inl (-2147483648, 2147483647)), (6, .inl (-2147483648, 2147483647)), (7, .inl (1, 16))], [], [], 32, [((7, none), -2)], [])], [], [])
set_option maxRecDepth 100000 in
theorem cok_71 {KO : List Nat} (hK : KOK KO) : cOk KD0 KO G0 ctr_71 := chk_ok (G0_xOK hK.1) (chkS_ok (show chkS sgl0 [ctr_9, ctr_56, ctr_58, ctr_63] ctr_71 = true by decide +kernel) hK.2) (fm_c (cok_9 hK) (fm_c (cok_56 hK) (fm_c (cok_58 hK) (fm_c (cok_63 hK) fm_n)))) (show chk KD0 G0 (aX KD0) nX 2000 34 [ctr_9, ctr_56, ctr_58, ctr_63] ctr_71 = true by decide +kernel)
-- X7_isChained
set_option maxRecDepth 100000 in
def ctr_72 : CTR := (69, [.inr (some 30), .inl (1, 8), .inl (0, 7), .inl (2, 15)], some (.inl (0, 1)), [], [], 2, 0, [(55, [(0, .inr (some 30)), (1, .inl (1, 8)), (2, .inl (0, 7)), (3, .inl (2, 15)), (4, .inl (-2147483648, 2147483647)), (5, .inl (-2147483648, 2147483647)), (6, .inl (-2147483648, 2147483647)), (7, .inl (1, 16))], [], [], 32, [((7, none), -2)], [])], [], [])
set_option maxRecDepth 100000 in
theorem cok_72 {KO : List Nat} (hK : KOK KO) : cOk KD0 KO G0 ctr_72 := chk_ok (G0_xOK hK.1) (chkS_ok (show chkS sgl0 [ctr_9, ctr_56, ctr_58, ctr_63] ctr_72 = true by decide +kernel) hK.2) (fm_c (cok_9 hK) (fm_c (cok_56 hK) (fm_c (cok_58 hK) (fm_c (cok_63 hK) fm_n)))) (show chk KD0 G0 (aX KD0) nX 2000 34 [ctr_9, ctr_56, ctr_58, ctr_63] ctr_72 = true by decide +kernel)
-- X7_isChained
set_option maxRecDepth 100000 in
def ctr_73 : CTR := (69, [.inr (some 30), .inl (1, 10), .inl (0, 8), .inl (2, 15)], some (.inl (0, 1)), [], [], 2, 0, [(55, [(0, .inr (some 30)), (1, .inl (1, 10)), (2, .inl (0, 8)), (3, .inl (2, 15)), (4, .inl (-2147483648, 2147483647)), (5, .inl (-2147483648, 2147483647)), (6, .inl (-2147483648, 2147483647)), (7, .inl (1, 16))], [], [], 32, [((7, none), -2)], [])], [], [])
set_option maxRecDepth 100000 in
theorem cok_73 {KO : List Nat} (hK : KOK KO) : cOk KD0 KO G0 ctr_73 := chk_ok (G0_xOK hK.1) (chkS_ok (show chkS sgl0 [ctr_9, ctr_56, ctr_58, ctr_63] ctr_73 = true by decide +kernel) hK.2) (fm_c (cok_9 hK) (fm_c (cok_56 hK) (fm_c (cok_58 hK) (fm_c (cok_63 hK) fm_n)))) (show chk KD0 G0 (aX KD0) nX 2000 34 [ctr_9, ctr_56, ctr_58, ctr_63] ctr_73 = true by decide +kernel)
-- X7_isChained
set_option maxRecDepth 100000 in
def ctr_74 : CTR := (69, [.inr (some 30), .inl (1, 10), .inl (0, 9), .inl (2, 15)], some (.inl (0, 1)), [], [], 2, 0, [(55, [(0, .inr (some 30)), (1, .inl (1, 10)), (2, .inl (0, 9)), (3, .inl (2, 15)), (4, .inl (-2147483648, 2147483647)), (5, .inl (-2147483648, 2147483647)), (6, .inl (-2147483648, 2147483647)), (7, .inl (1, 16))], [], [], 32, [((7, none), -2)], [])], [], [])
set_option maxRecDepth 100000 in
theorem cok_74 {KO : List Nat} (hK : KOK KO) : cOk KD0 KO G0 ctr_74 := chk_ok (G0_xOK hK.1) (chkS_ok (show chkS sgl0 [ctr_9, ctr_56, ctr_58, ctr_63] ctr_74 = true by decide +kernel) hK.2) (fm_c (cok_9 hK) (fm_c (cok_56 hK) (fm_c (cok_58 hK) (fm_c (cok_63 hK) fm_n)))) (show chk KD0 G0 (aX KD0) nX 2000 34 [ctr_9, ctr_56, ctr_58, ctr_63] ctr_74 = true by decide +kernel)
