-- X7_isChained
set_option maxRecDepth 100000 in
def ctr_75 : CTR := (69, [.inr (some 30), .inl (1, 11), .inl (0, 10), .inl (2, 15)], some (.inl (0, 1)), [], [], 2, 0, [(55, [(0, .inr (some 30)), (1, .inl (1, 11)), (2, .inl (0, 10)), (3, .inl (2, 15)), (4, .inl (-2147483648, 2147483647)), (5, .inl (-2147483648, 2147483647)), (6, .inl (-2147483648, 2147483647)), (7, .inl (1, 16))], [], [], 32, [((7, none), -2)], [])], [], [])
set_option maxRecDepth 100000 in
theorem cok_75 {KO : List Nat} (hK : KOK KO) : cOk KD0 KO G0 ctr_75 := chk_ok (G0_xOK hK.1) (chkS_ok (show chkS sgl0 [ctr_9, ctr_56, ctr_58, ctr_63] ctr_75 = true by decide +kernel) hK.2) (fm_c (cok_9 hK) (fm_c (cok_56 hK) (fm_c (cok_58 hK) (fm_c (cok_63 hK) fm_n)))) (show chk KD0 G0 (aX KD0) nX 2000 34 [ctr_9, ctr_56, ctr_58, ctr_63] ctr_75 = true by decide +kernel)
-- X7_isChained
set_option maxRecDepth 100000 in
def ctr_76 : CTR := (69, [.inr (some 30), .inl (1, 12), .inl (0, 11), .inl (2, 15)], some (.inl (0, 1)), [], [], 2, 0, [(55, [(0, .inr (some 30)), (1, .inl (1, 12)), (2, .inl (0, 11)), (3, .inl (2, 15)), (4, .inl (-2147483648, 2147483647)), (5, .inl (-2147483648, 2147483647)), (6, .inl (-2147483648, 2147483647)), (7, .inl (1, 16))], [], [], 32, [((7, none), -2)], [])], [], [])
set_option maxRecDepth 100000 in
theorem cok_76 {KO : List Nat} (hK : KOK KO) : cOk KD0 KO G0 ctr_76 := chk_ok (G0_xOK hK.1) (chkS_ok (show chkS sgl0 [ctr_9, ctr_56, ctr_58, ctr_63] ctr_76 = true by decide +kernel) hK.2) (fm_c (cok_9 hK) (fm_c (cok_56 hK) (fm_c (cok_58 hK) (fm_c (cok_63 hK) fm_n)))) (show chk KD0 G0 (aX KD0) nX 2000 34 [ctr_9, ctr_56, ctr_58, ctr_63] ctr_76 = true by decide +kernel)
-- X7_isChained
set_option maxRecDepth 100000 in
def ctr_77 : CTR := (69, [.inr (some 30), .inl (1, 13), .inl (0, 12), .inl (2, 15)], some (.inl (0, 1)), [], [], 2, 0, [(55, [(0, .inr (some 30)), (1, .inl (1, 13)), (2, .inl (0, 12)), (3, .inl (2, 15)), (4, .inl (-2147483648, 2147483647)), (5, .inl (-2147483648, 2147483647)), (6, .inl (-2147483648, 2147483647)), (7, .inl (1, 16))], [], [], 32, [((7, none), -2)], [])], [], [])
set_option maxRecDepth 100000 in
theorem cok_77 {KO : List Nat} (hK : KOK KO) : cOk KD0 KO G0 ctr_77 := chk_ok (G0_xOK hK.1) (chkS_ok (show chkS sgl0 [ctr_9, ctr_56, ctr_58, ctr_63] ctr_77 = true by decide +kernel) hK.2) (fm_c (cok_9 hK) (fm_c (cok_56 hK) (fm_c (cok_58 hK) (fm_c (cok_63 hK) fm_n)))) (show chk KD0 G0 (aX KD0) nX 2000 34 [ctr_9, ctr_56, ctr_58, ctr_63] ctr_77 = true by decide +kernel)
-- X7_isChained
set_option maxRecDepth 100000 in
def ctr_78 : CTR := (69, [.inr (some 30), .inl (1, 15), .inl (0, 13), .inl (2, 15)], some (.inl (0, 1)), [], [], 2, 0, [(55, [(0, .inr (some 30)), (1, .inl (1, 15)), (2, .inl (0, 13)), (3, .inl (2, 15)), (4, .inl (-2147483648, 2147483647)), (5, .inl (-2147483648, 2147483647)), (6, .inl (-2147483648, 2147483647)), (7, .inl (1, 16))], [], [], 32, [((7, none), -2)], [])], [], [])
set_option maxRecDepth 100000 in
theorem cok_78 {KO : List Nat} (hK : KOK KO) : cOk KD0 KO G0 ctr_78 := chk_ok (G0_xOK hK.1) (chkS_ok (show chkS sgl0 [ctr_9, ctr_56, ctr_58, ctr_63] ctr_78 = true by decide +kernel) hK.2) (fm_c (cok_9 hK) (fm_c (cok_56 hK) (fm_c (cok_58 hK) (fm_c (cok_63 hK) fm_n)))) (show chk KD0 G0 (aX KD0) nX 2000 34 [ctr_9, ctr_56, ctr_58, ctr_63] ctr_78 = true by decide +kernel)
-- X7_isChained
set_option maxRecDepth 100000 in
def ctr_79 : CTR := (69, [.inr (some 30), .inl (1, 15), .inl (0, 14), .inl (2, 15)], some (.inl (0, 1)), [], [], 2, 0, [(55, [(0, .inr (some 30)), (1, .inl (1, 15)), (2, .inl (0, 14)), (3, .inl (2, 15)), (4, .inl (-2147483648, 2147483647)), (5, .inl (-2147483648, 2147483647)), (6, .inl (-2147483648, 2147483647)), (7, .inl (1, 16))], [], [], 32, [((7, none), -2)], [])], [], [])
set_option maxRecDepth 100000 in
theorem cok_79 {KO : List Nat} (hK : KOK KO) : cOk KD0 KO G0 ctr_79 := chk_ok (G0_xOK hK.1) (chkS_ok (show chkS sgl0 [ctr_9, ctr_56, ctr_58, ctr_63] ctr_79 = true by decide +kernel) hK.2) (fm_c (cok_9 hK) (fm_c (cok_56 hK) (fm_c (cok_58 hK) (fm_c (cok_63 hK) fm_n)))) (show chk KD0 G0 (aX KD0) nX 2000 34 [ctr_9, ctr_56, ctr_58, ctr_63] ctr_79 = true by decide +kernel)
-- X7_isChained
set_option maxRecDepth 100000 in
def ctr_80 : CTR := (69, [.inr (some 30), .inl (1, 16), .inl (0, 15), .inl (2, 15)], some (.inl (0, 1)), [], [], 2, 0, [(55, [(0, .inr (some 30)), (1, .inl (1, 16)), (2, .inl (0, 15)), (3, .inl (2, 15)), (4, .inl (-2147483648, 2147483647)), (5, .inl (-2147483648, 2147483647)), (6, .inl (-2147483648, 2147483647)), (7, .inl (1, 16))], [], [], 32, [((7, none), -2)], [])], [], [])
set_option maxRecDepth 100000 in
theorem cok_80 {KO : List Nat} (hK : KOK KO) : cOk KD0 KO G0 ctr_80 := chk_ok (G0_xOK hK.1) (chkS_ok (show chkS sgl0 [ctr_9, ctr_56, ctr_58, ctr_63] ctr_80 = true by decide +kernel) hK.2) (fm_c (cok_9 hK) (fm_c (cok_56 hK) (fm_c (cok_58 hK) (fm_c (cok_63 hK) fm_n)))) (show chk KD0 G0 (aX KD0) nX 2000 34 [ctr_9, ctr_56, ctr_58, ctr_63] ctr_80 = true by decide +kernel)
-- X7_isChained
set_option maxRecDepth 100000 in
def ctr_81 : CTR := (69, [.inr (some 30), .inl (1, 31), .inl (0, 16), .inl (2, 15)], some (.inl (0, 1)), [], [], 2, 0, [(55, [(0, .inr (some 30)), (1, .inl (1, 31)), (2, .inl (0, 16)), (3, .inl (2, 15)), (4, .inl (-2147483648, 2147483647)), (5, .inl (-2147483648, 2147483647)), (6, .inl (-2147483648, 2147483647)), (7, .inl (1, 16))], [], [], 32, [((7, none), -2)], [])], [], [])
set_option maxRecDepth 100000 in
theorem cok_81 {KO : List Nat} (hK : KOK KO) : cOk KD0 KO G0 ctr_81 := chk_ok (G0_xOK hK.1) (chkS_ok (show chkS sgl0 [ctr_9, ctr_56, ctr_58, ctr_63] ctr_81 = true by decide +kernel) hK.2) (fm_c (cok_9 hK) (fm_c (cok_56 hK) (fm_c (cok_58 hK) (fm_c (cok_63 hK) fm_n)))) (show chk KD0 G0 (aX KD0) nX 2000 34 [ctr_9, ctr_56, ctr_58, ctr_63] ctr_81 = true by decide +kernel)
-- X7_isChained
set_option maxRecDepth 100000 in
def ctr_82 : CTR := (69, [.inr (some 30), .inl (1, 31), .inl (0, 30), .inl (2, 15)], some (.inl (0, 1)), [], [], 2, 0, [(55, [(0, .inr (some 30)), (1, .inl (1, 31)), (2, .inl (0, 30)), (3, .inl (2, 15)), (4, .inl (-2147483648, 2147483647)), (5, .inl (-2147483648, 2147483647)), (6, .inl (-2147483648, 2147483647)), (7, .inl (1, 16))], [], [], 32, [((7, none), -2)], [])], [], [])
set_option maxRecDepth 100000 in
theorem cok_82 {KO : List Nat} (hK : KOK KO) : cOk KD0 KO G0 ctr_82 := chk_ok (G0_xOK hK.1) (chkS_ok (show chkS sgl0 [ctr_9, ctr_56, ctr_58, ctr_63] ctr_82 = true by decide +kernel) hK.2) (fm_c (cok_9 hK) (fm_c (cok_56 hK) (fm_c (cok_58 hK) (fm_c (cok_63 hK) fm_n)))) (show chk KD0 G0 (aX KD0) nX 2000 34 [ctr_9, ctr_56, ctr_58, ctr_63] ctr_82 = true by decide +kernel)
-- X7_isChained
set_option maxRecDepth 100000 in
def ctr_83 : CTR := (69, [.inr (some 30), .inl (1, 63), .inl (0, 31), .inl (2, 15)], some (.inl (0, 1)), [], [], 2, 0, [(55, [(0, .inr (some 30)), (1, .inl (1, 63)), (2, .inl (0, 31)), (3, .inl (2, 15)), (4, .inl (-2147483648, 2147483647)), (5, .inl (-2147483648, 2147483647)), (6, .inl (-2147483648, 2147483647)), (7, .inl (1, 16))], [], [], 32, [((7, none), -2)], [])], [], [])
set_option maxRecDepth 100000 in
theorem cok_83 {KO : List Nat} (hK : KOK KO) : cOk KD0 KO G0 ctr_83 := chk_ok (G0_xOK hK.1) (chkS_ok (show chkS sgl0 [ctr_9, ctr_56, ctr_58, ctr_63] ctr_83 = true by decide +kernel) hK.2) (fm_c (cok_9 hK) (fm_c (cok_56 hK) (fm_c (cok_58 hK) (fm_c (cok_63 hK) fm_n)))) (show chk KD0 G0 (aX KD0) nX 2000 34 [ctr_9, ctr_56, ctr_58, ctr_63] ctr_83 = true by decide +kernel)
-- X7_isChained
set_option maxRecDepth 100000 in
def ctr_84 : CTR := (69, [.inr (some 30), .inl (1, 63), .inl (0, 62), .inl (2, 15)], some (.inl (0, 1)), [], [], 2, 0, [(55, [(0, .inr (some 30)), (1, .inl (1, 63)), (2, .inl (0, 62)), (3, .inl (2, 15)), (4, .inl (-2147483648, 2147483647)), (5, .inl (-2147483648, 2147483647)), (6, .inl (-2147483648, 2147483647)), (7, .inl (1, 16))], [], [], 32, [((7, none), -2)], [])], [], [])
set_option maxRecDepth 100000 in
theorem cok_84 {KO : List Nat} (hK : KOK KO) : cOk KD0 KO G0 ctr_84 := chk_ok (G0_xOK hK.1) (chkS_ok (show chkS sgl0 [ctr_9, ctr_56, ctr_58, ctr_63] ctr_84 = true by decide +kernel) hK.2) (fm_c (cok_9 hK) (fm_c (cok_56 hK) (fm_c (cok_58 hK) (fm_c (cok_63 hK) fm_n)))) (show chk KD0 G0 (aX KD0) nX 2000 34 [ctr_9, ctr_56, ctr_58, ctr_63] ctr_84 = true by decide +kernel)
-- X7_linkPairs
set_option maxRecDepth 100000 in
def ctr_85 : CTR := (67, [.inr (some 30), .inl (-2147483648, 2147483647)], none, [], [(12, 0)], 5, 0, [(2, [(0, .inr (some 30)), (1, .inl (-2147483648, 2147483647)), (2, .inl (0, 64))], [], [], 8448, [((2, none), -130)], []), (33, [(0, .inr (some 30)), (1, .inl (-2147483648, 2147483647)), (2, .inl (0, 63)), (3, .inl (0, 63))], [], [], 8446, [((2, none), -130), ((3, none), -2)], [])], [], [])
set_option maxRecDepth 100000 in
theorem cok_85 {KO : List Nat} (hK : KOK KO) : cOk KD0 KO G0 ctr_85 := chk_ok (G0_xOK hK.1) (chkS_ok (show chkS sgl0 [ctr_56, ctr_58, ctr_62, ctr_64, ctr_65, ctr_66, ctr_67, ctr_68, ctr_69, ctr_70, ctr_71, ctr_72, ctr_73, ctr_74, ctr_75, ctr_76, ctr_77, ctr_78, ctr_79, ctr_80, ctr_81, ctr_82, ctr_83, ctr_84] ctr_85 = true by decide +kernel) hK.2) (fm_c (cok_56 hK) (fm_c (cok_58 hK) (fm_c (cok_62 hK) (fm_c (cok_64 hK) (fm_c (cok_65 hK) (fm_c (cok_66 hK) (fm_c (cok_67 hK) (fm_c (cok_68 hK) (fm_c (cok_69 hK) (fm_c (cok_70 hK) (fm_c (cok_71 hK) (fm_c (cok_72 hK) (fm_c (cok_73 hK) (fm_c (cok_74 hK) (fm_c (cok_75 hK) (fm_c (cok_76 hK) (fm_c (cok_77 hK) (fm_c (cok_78 hK) (fm_c (cok_79 hK) (fm_c (cok_80 hK) (fm_c (cok_81 hK) (fm_c (cok_82 hK) (fm_c (cok_83 hK) (fm_c (cok_84 hK) fm_n)))))))))))))))))))))))) (show chk KD0 G0 (aX KD0) nX 2000 8452 [ctr_56, ctr_58, ctr_62, ctr_64, ctr_65, ctr_66, ctr_67, ctr_68, ctr_69, ctr_70, ctr_71, ctr_72, ctr_73, ctr_74, ctr_75, ctr_76, ctr_77, ctr_78, ctr_79, ctr_80, ctr_81, ctr_82, ctr_83, ctr_84] ctr_85 = true by decide +kernel)
-- X7_learn
set_option maxRecDepth 100000 in
def ctr_86 : CTR := (66, [.inr (some 30)], none, [], [(12, 0), (30, 3)], 6, 0, [(15, [(0, .inr (some 30)), (1, .inl (0, 64))], [], [(0, 3, (1, 1))], 128, [((1, none), -2)], [])], [], [])
set_option maxRecDepth 100000 in
theorem cok_86 {KO : List Nat} (hK : KOK KO) : cOk KD0 KO G0 ctr_86 := chk_ok (G0_xOK hK.1) (chkS_ok (show chkS sgl0 [ctr_85] ctr_86 = true by decide +kernel) hK.2) (fm_c (cok_85 hK) fm_n) (show chk KD0 G0 (aX KD0) nX 2000 132 [ctr_85] ctr_86 = true by decide +kernel)
-- X7_from
set_option maxRecDepth 100000 in
def ctr_87 : CTR := (73, [.inr (some 30), .inl (-2147483648, 2147483647)], some (.inr none), [], [], 1, 0, [], [], [])
set_option maxRecDepth 100000 in
theorem cok_87 {KO : List Nat} (hK : KOK KO) : cOk KD0 KO G0 ctr_87 := chk_ok (G0_xOK hK.1) (chkS_ok (show chkS sgl0 [] ctr_87 = true by decide +kernel) hK.2) fm_n (show chk KD0 G0 (aX KD0) nX 2000 2 [] ctr_87 = true by decide +kernel)
-- X11_sees
set_option maxRecDepth 100000 in
def ctr_88 : CTR := (130, [.inr (some 36), .inl (-2147483648, 2147483647), .inl (-2147483648, 2147483647)], some (.inl (0, 1)), ["java/lang/IllegalStateException", "java/lang/IndexOutOfBoundsException"], [(12, 0), (30, 3)], 7, 0, [], [], [])
set_option maxRecDepth 100000 in
theorem cok_88 {KO : List Nat} (hK : KOK KO) : cOk KD0 KO G0 ctr_88 := chk_ok (G0_xOK hK.1) (chkS_ok (show chkS sgl0 [ctr_46, ctr_63, ctr_86, ctr_87] ctr_88 = true by decide +kernel) hK.2) (fm_c (cok_46 hK) (fm_c (cok_63 hK) (fm_c (cok_86 hK) (fm_c (cok_87 hK) fm_n)))) (show chk KD0 G0 (aX KD0) nX 2000 2 [ctr_46, ctr_63, ctr_86, ctr_87] ctr_88 = true by decide +kernel)
-- X11_visible
set_option maxRecDepth 100000 in
def ctr_89 : CTR := (131, [.inr (some 36), .inl (-2147483648, 2147483647)], some (.inr none), ["java/lang/IllegalStateException", "java/lang/IndexOutOfBoundsException"], [(12, 0), (30, 3)], 7, 0, [], [], [])
set_option maxRecDepth 100000 in
theorem cok_89 {KO : List Nat} (hK : KOK KO) : cOk KD0 KO G0 ctr_89 := chk_ok (G0_xOK hK.1) (chkS_ok (show chkS sgl0 [ctr_46, ctr_86, ctr_87] ctr_89 = true by decide +kernel) hK.2) (fm_c (cok_46 hK) (fm_c (cok_86 hK) (fm_c (cok_87 hK) fm_n))) (show chk KD0 G0 (aX KD0) nX 2000 2 [ctr_46, ctr_86, ctr_87] ctr_89 = true by decide +kernel)
-- X7_pointCount
set_option maxRecDepth 100000 in
def ctr_90 : CTR := (72, [.inr (some 30)], some (.inl (0, 64)), [], [], 1, 0, [], [], [])
set_option maxRecDepth 100000 in
theorem cok_90 {KO : List Nat} (hK : KOK KO) : cOk KD0 KO G0 ctr_90 := chk_ok (G0_xOK hK.1) (chkS_ok (show chkS sgl0 [] ctr_90 = true by decide +kernel) hK.2) fm_n (show chk KD0 G0 (aX KD0) nX 2000 2 [] ctr_90 = true by decide +kernel)
-- X3_everyPoint
set_option maxRecDepth 100000 in
def ctr_91 : CTR := (21, [.inr (some 28)], some (.inr none), [], [], 1, 0, [], [], [])
set_option maxRecDepth 100000 in
theorem cok_91 {KO : List Nat} (hK : KOK KO) : cOk KD0 KO G0 ctr_91 := chk_ok (G0_xOK hK.1) (chkS_ok (show chkS sgl0 [] ctr_91 = true by decide +kernel) hK.2) fm_n (show chk KD0 G0 (aX KD0) nX 2000 2 [] ctr_91 = true by decide +kernel)
-- X7_everyPoint
set_option maxRecDepth 100000 in
def ctr_92 : CTR := (71, [.inr (some 30)], some (.inr none), [], [], 2, 0, [], [], [])
set_option maxRecDepth 100000 in
theorem cok_92 {KO : List Nat} (hK : KOK KO) : cOk KD0 KO G0 ctr_92 := chk_ok (G0_xOK hK.1) (chkS_ok (show chkS sgl0 [ctr_91] ctr_92 = true by decide +kernel) hK.2) (fm_c (cok_91 hK) fm_n) (show chk KD0 G0 (aX KD0) nX 2000 2 [ctr_91] ctr_92 = true by decide +kernel)
-- X7_seeingAll
set_option maxRecDepth 100000 in
def ctr_93 : CTR := (76, [.inr (some 30)], some (.inr none), [], [], 3, 0, [(4, [(0, .inr (some 30)), (1, .inr none), (3, .inl (0, 64))], [], [], 128, [((3, none), -2)], [])], [], [])
set_option maxRecDepth 100000 in
theorem cok_93 {KO : List Nat} (hK : KOK KO) : cOk KD0 KO G0 ctr_93 := chk_ok (G0_xOK hK.1) (chkS_ok (show chkS sgl0 [ctr_87, ctr_90, ctr_92] ctr_93 = true by decide +kernel) hK.2) (fm_c (cok_87 hK) (fm_c (cok_90 hK) (fm_c (cok_92 hK) fm_n))) (show chk KD0 G0 (aX KD0) nX 2000 132 [ctr_87, ctr_90, ctr_92] ctr_93 = true by decide +kernel)
-- X11_kernel
set_option maxRecDepth 100000 in
def ctr_94 : CTR := (132, [.inr (some 36)], some (.inr none), ["java/lang/IllegalStateException"], [(12, 0), (30, 3)], 7, 0, [], [], [])
set_option maxRecDepth 100000 in
theorem cok_94 {KO : List Nat} (hK : KOK KO) : cOk KD0 KO G0 ctr_94 := chk_ok (G0_xOK hK.1) (chkS_ok (show chkS sgl0 [ctr_46, ctr_86, ctr_93] ctr_94 = true by decide +kernel) hK.2) (fm_c (cok_46 hK) (fm_c (cok_86 hK) (fm_c (cok_93 hK) fm_n))) (show chk KD0 G0 (aX KD0) nX 2000 2 [ctr_46, ctr_86, ctr_93] ctr_94 = true by decide +kernel)
-- X7_fromAnyOf
set_option maxRecDepth 100000 in
def ctr_95 : CTR := (74, [.inr (some 30), .inr none], some (.inr none), [], [], 2, 0, [(5, [(0, .inr (some 30)), (1, .inr none), (3, .inr none), (5, .inl (0, 64))], [], [], 128, [((5, none), -2)], [])], [], [])
set_option maxRecDepth 100000 in
theorem cok_95 {KO : List Nat} (hK : KOK KO) : cOk KD0 KO G0 ctr_95 := chk_ok (G0_xOK hK.1) (chkS_ok (show chkS sgl0 [ctr_63] ctr_95 = true by decide +kernel) hK.2) (fm_c (cok_63 hK) fm_n) (show chk KD0 G0 (aX KD0) nX 2000 132 [ctr_63] ctr_95 = true by decide +kernel)
-- X7_links
set_option maxRecDepth 100000 in
def ctr_96 : CTR := (77, [.inr (some 30), .inl (-2147483648, 2147483647), .inl (-2147483648, 2147483647)], some (.inl (-1, 63)), [], [], 3, 0, [(7, [(0, .inr (some 30)), (1, .inl (-2147483648, 2147483647)), (2, .inl (-2147483648, 2147483647)), (3, .inr none), (5, .inl (0, 64))], [], [], 128, [((5, none), -2)], [])], [], [])
set_option maxRecDepth 100000 in
theorem cok_96 {KO : List Nat} (hK : KOK KO) : cOk KD0 KO G0 ctr_96 := chk_ok (G0_xOK hK.1) (chkS_ok (show chkS sgl0 [ctr_63, ctr_95] ctr_96 = true by decide +kernel) hK.2) (fm_c (cok_63 hK) (fm_c (cok_95 hK) fm_n)) (show chk KD0 G0 (aX KD0) nX 2000 132 [ctr_63, ctr_95] ctr_96 = true by decide +kernel)
-- X11_linkDistance
set_option maxRecDepth 100000 in
def ctr_97 : CTR := (133, [.inr (some 36), .inl (-2147483648, 2147483647), .inl (-2147483648, 2147483647)], some (.inl (-1, 63)), ["java/lang/IllegalStateException", "java/lang/IndexOutOfBoundsException"], [(12, 0), (30, 3)], 7, 0, [], [], [])
set_option maxRecDepth 100000 in
theorem cok_97 {KO : List Nat} (hK : KOK KO) : cOk KD0 KO G0 ctr_97 := chk_ok (G0_xOK hK.1) (chkS_ok (show chkS sgl0 [ctr_46, ctr_86, ctr_96] ctr_97 = true by decide +kernel) hK.2) (fm_c (cok_46 hK) (fm_c (cok_86 hK) (fm_c (cok_96 hK) fm_n))) (show chk KD0 G0 (aX KD0) nX 2000 2 [ctr_46, ctr_86, ctr_96] ctr_97 = true by decide +kernel)
-- J6_numberOfTrailingZeros_0f7a4
set_option maxRecDepth 100000 in
def ctr_98 : CTR := (363, [.inl (-2147483648, 2147483647)], some (.inl (-2147483648, 2147483647)), [], [], 1, 0, [], [], [])
set_option maxRecDepth 100000 in
theorem cok_98 {KO : List Nat} (hK : KOK KO) : cOk KD0 KO G0 ctr_98 := chk_ok (G0_xOK hK.1) (chkS_ok (show chkS sgl0 [] ctr_98 = true by decide +kernel) hK.2) fm_n (show chk KD0 G0 (aX KD0) nX 2000 2 [] ctr_98 = true by decide +kernel)
-- J13_numberOfTrailingZeros_95d88
set_option maxRecDepth 100000 in
def ctr_99 : CTR := (365, [.inr none], some (.inl (-2147483648, 2147483647)), [], [], 2, 0, [], [], [])
set_option maxRecDepth 100000 in
theorem cok_99 {KO : List Nat} (hK : KOK KO) : cOk KD0 KO G0 ctr_99 := chk_ok (G0_xOK hK.1) (chkS_ok (show chkS sgl0 [ctr_98] ctr_99 = true by decide +kernel) hK.2) (fm_c (cok_98 hK) fm_n) (show chk KD0 G0 (aX KD0) nX 2000 2 [ctr_98] ctr_99 = true by decide +kernel)
