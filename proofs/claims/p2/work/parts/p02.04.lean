-- X7_lastReached
set_option maxRecDepth 100000 in
def ctr_100 : CTR := (78, [.inr (some 30), .inl (-2147483648, 2147483647)], some (.inl (-2147483648, 2147483647)), [], [], 3, 0, [(7, [(0, .inr (some 30)), (1, .inl (-2147483648, 2147483647)), (2, .inr none), (4, .inl (0, 64))], [], [], 128, [((4, none), -2)], [])], [], [])
set_option maxRecDepth 100000 in
theorem cok_100 {KO : List Nat} (hK : KOK KO) : cOk KD0 KO G0 ctr_100 := chk_ok (G0_xOK hK.1) (chkS_ok (show chkS sgl0 [ctr_92, ctr_95, ctr_99] ctr_100 = true by decide +kernel) hK.2) (fm_c (cok_92 hK) (fm_c (cok_95 hK) (fm_c (cok_99 hK) fm_n))) (show chk KD0 G0 (aX KD0) nX 2000 132 [ctr_92, ctr_95, ctr_99] ctr_100 = true by decide +kernel)
-- X7_mostLinks
set_option maxRecDepth 100000 in
def ctr_101 : CTR := (79, [.inr (some 30)], some (.inl (0, 63)), [], [], 4, 0, [(4, [(0, .inr (some 30)), (1, .inl (0, 63)), (2, .inl (0, 64))], [], [], 128, [((2, none), -2)], [])], [], [])
set_option maxRecDepth 100000 in
theorem cok_101 {KO : List Nat} (hK : KOK KO) : cOk KD0 KO G0 ctr_101 := chk_ok (G0_xOK hK.1) (chkS_ok (show chkS sgl0 [ctr_90, ctr_96, ctr_100] ctr_101 = true by decide +kernel) hK.2) (fm_c (cok_90 hK) (fm_c (cok_96 hK) (fm_c (cok_100 hK) fm_n))) (show chk KD0 G0 (aX KD0) nX 2000 132 [ctr_90, ctr_96, ctr_100] ctr_101 = true by decide +kernel)
-- X11_diameter
set_option maxRecDepth 100000 in
def ctr_102 : CTR := (134, [.inr (some 36)], some (.inl (0, 63)), ["java/lang/IllegalStateException"], [(12, 0), (30, 3)], 7, 0, [], [], [])
set_option maxRecDepth 100000 in
theorem cok_102 {KO : List Nat} (hK : KOK KO) : cOk KD0 KO G0 ctr_102 := chk_ok (G0_xOK hK.1) (chkS_ok (show chkS sgl0 [ctr_46, ctr_86, ctr_101] ctr_102 = true by decide +kernel) hK.2) (fm_c (cok_46 hK) (fm_c (cok_86 hK) (fm_c (cok_101 hK) fm_n))) (show chk KD0 G0 (aX KD0) nX 2000 2 [ctr_46, ctr_86, ctr_101] ctr_102 = true by decide +kernel)
-- X11_farthest
set_option maxRecDepth 100000 in
def ctr_103 : CTR := (135, [.inr (some 36), .inl (-2147483648, 2147483647)], some (.inl (-2147483648, 2147483647)), ["java/lang/IllegalStateException", "java/lang/IndexOutOfBoundsException"], [(12, 0), (30, 3)], 7, 0, [], [], [])
set_option maxRecDepth 100000 in
theorem cok_103 {KO : List Nat} (hK : KOK KO) : cOk KD0 KO G0 ctr_103 := chk_ok (G0_xOK hK.1) (chkS_ok (show chkS sgl0 [ctr_46, ctr_86, ctr_100] ctr_103 = true by decide +kernel) hK.2) (fm_c (cok_46 hK) (fm_c (cok_86 hK) (fm_c (cok_100 hK) fm_n))) (show chk KD0 G0 (aX KD0) nX 2000 2 [ctr_46, ctr_86, ctr_100] ctr_103 = true by decide +kernel)
-- X7_fromEdge
set_option maxRecDepth 100000 in
def ctr_104 : CTR := (75, [.inr (some 30), .inl (-2147483648, 2147483647)], some (.inr none), [], [], 3, 0, [(5, [(0, .inr (some 30)), (1, .inl (-2147483648, 2147483647)), (2, .inr none), (4, .inl (0, 64))], [], [], 128, [((4, none), -2)], [])], [], [])
set_option maxRecDepth 100000 in
theorem cok_104 {KO : List Nat} (hK : KOK KO) : cOk KD0 KO G0 ctr_104 := chk_ok (G0_xOK hK.1) (chkS_ok (show chkS sgl0 [ctr_19, ctr_56, ctr_58, ctr_90, ctr_95] ctr_104 = true by decide +kernel) hK.2) (fm_c (cok_19 hK) (fm_c (cok_56 hK) (fm_c (cok_58 hK) (fm_c (cok_90 hK) (fm_c (cok_95 hK) fm_n))))) (show chk KD0 G0 (aX KD0) nX 2000 132 [ctr_19, ctr_56, ctr_58, ctr_90, ctr_95] ctr_104 = true by decide +kernel)
-- X11_seenFromEdge
set_option maxRecDepth 100000 in
def ctr_105 : CTR := (136, [.inr (some 36), .inl (-2147483648, 2147483647)], some (.inr none), ["java/lang/IllegalStateException", "java/lang/IndexOutOfBoundsException"], [(12, 0), (30, 3)], 7, 0, [], [], [])
set_option maxRecDepth 100000 in
theorem cok_105 {KO : List Nat} (hK : KOK KO) : cOk KD0 KO G0 ctr_105 := chk_ok (G0_xOK hK.1) (chkS_ok (show chkS sgl0 [ctr_46, ctr_86, ctr_104] ctr_105 = true by decide +kernel) hK.2) (fm_c (cok_46 hK) (fm_c (cok_86 hK) (fm_c (cok_104 hK) fm_n))) (show chk KD0 G0 (aX KD0) nX 2000 2 [ctr_46, ctr_86, ctr_104] ctr_105 = true by decide +kernel)
-- X11_needRange
set_option maxRecDepth 100000 in
def ctr_106 : CTR := (176, [.inl (-2147483648, 2147483647), .inl (-2147483648, 2147483647), .inl (-2147483648, 2147483647)], none, ["java/lang/IllegalArgumentException"], [], 1, 0, [], [], [])
set_option maxRecDepth 100000 in
theorem cok_106 {KO : List Nat} (hK : KOK KO) : cOk KD0 KO G0 ctr_106 := chk_ok (G0_xOK hK.1) (chkS_ok (show chkS sgl0 [] ctr_106 = true by decide +kernel) hK.2) fm_n (show chk KD0 G0 (aX KD0) nX 2000 2 [] ctr_106 = true by decide +kernel)
-- X9_tint
set_option maxRecDepth 100000 in
def ctr_107 : CTR := (102, [.inr (some 31), .inl (-2147483648, 2147483647), .inl (-2147483648, 2147483647)], none, [], [(17, 0)], 1, 0, [], [], [])
set_option maxRecDepth 100000 in
theorem cok_107 {KO : List Nat} (hK : KOK KO) : cOk KD0 KO G0 ctr_107 := chk_ok (G0_xOK hK.1) (chkS_ok (show chkS sgl0 [] ctr_107 = true by decide +kernel) hK.2) fm_n (show chk KD0 G0 (aX KD0) nX 2000 2 [] ctr_107 = true by decide +kernel)
-- X9_tintOf
set_option maxRecDepth 100000 in
def ctr_108 : CTR := (103, [.inr (some 31), .inl (-2147483648, 2147483647)], some (.inl (-2147483648, 2147483647)), [], [], 1, 0, [], [], [])
set_option maxRecDepth 100000 in
theorem cok_108 {KO : List Nat} (hK : KOK KO) : cOk KD0 KO G0 ctr_108 := chk_ok (G0_xOK hK.1) (chkS_ok (show chkS sgl0 [] ctr_108 = true by decide +kernel) hK.2) fm_n (show chk KD0 G0 (aX KD0) nX 2000 2 [] ctr_108 = true by decide +kernel)
-- X9_paint
set_option maxRecDepth 100000 in
def ctr_109 : CTR := (101, [.inr (some 31), .inl (-2147483648, 2147483647)], none, [], [(17, 0)], 2, 0, [(52, [(0, .inr (some 31)), (1, .inl (-2147483648, 2147483647)), (2, .inl (0, 9)), (3, .inl (-1, 8))], [], [], 28, [((3, none), 2)], []), (139, [(0, .inr (some 31)), (1, .inl (-2147483648, 2147483647)), (2, .inl (0, 9)), (3, .inl (-2147483648, 2147483647)), (4, .inl (-2147483648, 2147483647)), (5, .inl (0, 12))], [], [], 24, [((5, none), -2)], [])], [], [])
set_option maxRecDepth 100000 in
theorem cok_109 {KO : List Nat} (hK : KOK KO) : cOk KD0 KO G0 ctr_109 := chk_ok (G0_xOK hK.1) (chkS_ok (show chkS sgl0 [ctr_107, ctr_108] ctr_109 = true by decide +kernel) hK.2) (fm_c (cok_107 hK) (fm_c (cok_108 hK) fm_n)) (show chk KD0 G0 (aX KD0) nX 2000 48 [ctr_107, ctr_108] ctr_109 = true by decide +kernel)
-- X9_ringAt
set_option maxRecDepth 100000 in
def ctr_110 : CTR := (97, [.inr (some 31), .inl (-2147483648, 2147483647)], some (.inl (-2147483648, 2147483647)), [], [], 1, 0, [], [], [])
set_option maxRecDepth 100000 in
theorem cok_110 {KO : List Nat} (hK : KOK KO) : cOk KD0 KO G0 ctr_110 := chk_ok (G0_xOK hK.1) (chkS_ok (show chkS sgl0 [] ctr_110 = true by decide +kernel) hK.2) fm_n (show chk KD0 G0 (aX KD0) nX 2000 2 [] ctr_110 = true by decide +kernel)
-- X9_inTriangle
set_option maxRecDepth 100000 in
def ctr_111 : CTR := (99, [.inr (some 31), .inl (-2147483648, 2147483647), .inl (-2147483648, 2147483647), .inl (-2147483648, 2147483647), .inl (-2147483648, 2147483647)], some (.inl (0, 1)), [], [], 3, 0, [], [], [])
set_option maxRecDepth 100000 in
theorem cok_111 {KO : List Nat} (hK : KOK KO) : cOk KD0 KO G0 ctr_111 := chk_ok (G0_xOK hK.1) (chkS_ok (show chkS sgl0 [ctr_52] ctr_111 = true by decide +kernel) hK.2) (fm_c (cok_52 hK) fm_n) (show chk KD0 G0 (aX KD0) nX 2000 2 [ctr_52] ctr_111 = true by decide +kernel)
-- X9_isFreeOfOthers
set_option maxRecDepth 100000 in
def ctr_112 : CTR := (98, [.inr (some 31), .inl (-2147483648, 2147483647)], some (.inl (0, 1)), [], [], 4, 0, [(26, [(0, .inr (some 31)), (1, .inl (-2147483648, 2147483647)), (2, .inl (-2147483648, 2147483647)), (3, .inl (-2147483648, 2147483647)), (4, .inl (-2147483648, 2147483647)), (5, .inl (0, 12))], [], [], 24, [((5, none), -2)], [])], [], [])
set_option maxRecDepth 100000 in
theorem cok_112 {KO : List Nat} (hK : KOK KO) : cOk KD0 KO G0 ctr_112 := chk_ok (G0_xOK hK.1) (chkS_ok (show chkS sgl0 [ctr_110, ctr_111] ctr_112 = true by decide +kernel) hK.2) (fm_c (cok_110 hK) (fm_c (cok_111 hK) fm_n)) (show chk KD0 G0 (aX KD0) nX 2000 28 [ctr_110, ctr_111] ctr_112 = true by decide +kernel)
-- X9_firstEar
set_option maxRecDepth 100000 in
def ctr_113 : CTR := (96, [.inr (some 31), .inl (-2147483648, 2147483647)], some (.inl (0, 11)), [], [], 5, 0, [(2, [(0, .inr (some 31)), (1, .inl (-2147483648, 2147483647)), (2, .inl (0, 12))], [], [], 24, [((2, none), -2)], [])], [], [])
set_option maxRecDepth 100000 in
theorem cok_113 {KO : List Nat} (hK : KOK KO) : cOk KD0 KO G0 ctr_113 := chk_ok (G0_xOK hK.1) (chkS_ok (show chkS sgl0 [ctr_52, ctr_110, ctr_112] ctr_113 = true by decide +kernel) hK.2) (fm_c (cok_52 hK) (fm_c (cok_110 hK) (fm_c (cok_112 hK) fm_n))) (show chk KD0 G0 (aX KD0) nX 2000 28 [ctr_52, ctr_110, ctr_112] ctr_113 = true by decide +kernel)
-- X9_clip
set_option maxRecDepth 100000 in
def ctr_114 : CTR := (100, [.inr (some 31), .inl (0, 0), .inl (0, 11)], none, [], [(13, 0), (14, 0), (15, 0), (16, 0), (18, 0), (31, 7)], 2, 0, [(107, [(0, .inr (some 31)), (1, .inl (0, 0)), (2, .inl (0, 11)), (3, .inl (-2147483648, 2147483647)), (4, .inl (-2147483648, 2147483647)), (5, .inl (-2147483648, 2147483647)), (6, .inl (0, 11))], [], [(0, 7, (3, 3))], 22, [((6, none), -2)], [])], [(31, 7, (3, 3))], [(31, 7, (2, 2))])
set_option maxRecDepth 100000 in
theorem cok_114 {KO : List Nat} (hK : KOK KO) : cOk KD0 KO G0 ctr_114 := chk_ok (G0_xOK hK.1) (chkS_ok (show chkS sgl0 [ctr_110] ctr_114 = true by decide +kernel) hK.2) (fm_c (cok_110 hK) fm_n) (show chk KD0 G0 (aX KD0) nX 2000 26 [ctr_110] ctr_114 = true by decide +kernel)
-- X9_clip
set_option maxRecDepth 100000 in
def ctr_115 : CTR := (100, [.inr (some 31), .inl (0, 0), .inl (0, 11)], none, [], [(13, 0), (14, 0), (15, 0), (16, 0), (18, 0), (31, 7)], 2, 0, [(107, [(0, .inr (some 31)), (1, .inl (0, 0)), (2, .inl (0, 11)), (3, .inl (-2147483648, 2147483647)), (4, .inl (-2147483648, 2147483647)), (5, .inl (-2147483648, 2147483647)), (6, .inl (0, 11))], [], [(0, 7, (3, 4))], 22, [((6, none), -2)], [])], [(31, 7, (3, 4))], [(31, 7, (2, 3))])
set_option maxRecDepth 100000 in
theorem cok_115 {KO : List Nat} (hK : KOK KO) : cOk KD0 KO G0 ctr_115 := chk_ok (G0_xOK hK.1) (chkS_ok (show chkS sgl0 [ctr_110] ctr_115 = true by decide +kernel) hK.2) (fm_c (cok_110 hK) fm_n) (show chk KD0 G0 (aX KD0) nX 2000 26 [ctr_110] ctr_115 = true by decide +kernel)
-- X9_clip
set_option maxRecDepth 100000 in
def ctr_116 : CTR := (100, [.inr (some 31), .inl (1, 1), .inl (0, 11)], none, [], [(13, 0), (14, 0), (15, 0), (16, 0), (18, 0), (31, 7)], 2, 0, [(107, [(0, .inr (some 31)), (1, .inl (1, 1)), (2, .inl (0, 11)), (3, .inl (-2147483648, 2147483647)), (4, .inl (-2147483648, 2147483647)), (5, .inl (-2147483648, 2147483647)), (6, .inl (0, 11))], [], [(0, 7, (2, 3))], 22, [((6, none), -2)], [])], [(31, 7, (2, 3))], [(31, 7, (1, 2))])
set_option maxRecDepth 100000 in
theorem cok_116 {KO : List Nat} (hK : KOK KO) : cOk KD0 KO G0 ctr_116 := chk_ok (G0_xOK hK.1) (chkS_ok (show chkS sgl0 [ctr_110] ctr_116 = true by decide +kernel) hK.2) (fm_c (cok_110 hK) fm_n) (show chk KD0 G0 (aX KD0) nX 2000 26 [ctr_110] ctr_116 = true by decide +kernel)
-- X9_clip
set_option maxRecDepth 100000 in
def ctr_117 : CTR := (100, [.inr (some 31), .inl (0, 0), .inl (0, 11)], none, [], [(13, 0), (14, 0), (15, 0), (16, 0), (18, 0), (31, 7)], 2, 0, [(107, [(0, .inr (some 31)), (1, .inl (0, 0)), (2, .inl (0, 11)), (3, .inl (-2147483648, 2147483647)), (4, .inl (-2147483648, 2147483647)), (5, .inl (-2147483648, 2147483647)), (6, .inl (0, 11))], [], [(0, 7, (3, 6))], 22, [((6, none), -2)], [])], [(31, 7, (3, 6))], [(31, 7, (2, 5))])
set_option maxRecDepth 100000 in
theorem cok_117 {KO : List Nat} (hK : KOK KO) : cOk KD0 KO G0 ctr_117 := chk_ok (G0_xOK hK.1) (chkS_ok (show chkS sgl0 [ctr_110] ctr_117 = true by decide +kernel) hK.2) (fm_c (cok_110 hK) fm_n) (show chk KD0 G0 (aX KD0) nX 2000 26 [ctr_110] ctr_117 = true by decide +kernel)
-- X9_clip
set_option maxRecDepth 100000 in
def ctr_118 : CTR := (100, [.inr (some 31), .inl (1, 1), .inl (0, 11)], none, [], [(13, 0), (14, 0), (15, 0), (16, 0), (18, 0), (31, 7)], 2, 0, [(107, [(0, .inr (some 31)), (1, .inl (1, 1)), (2, .inl (0, 11)), (3, .inl (-2147483648, 2147483647)), (4, .inl (-2147483648, 2147483647)), (5, .inl (-2147483648, 2147483647)), (6, .inl (0, 11))], [], [(0, 7, (2, 5))], 22, [((6, none), -2)], [])], [(31, 7, (2, 5))], [(31, 7, (1, 4))])
set_option maxRecDepth 100000 in
theorem cok_118 {KO : List Nat} (hK : KOK KO) : cOk KD0 KO G0 ctr_118 := chk_ok (G0_xOK hK.1) (chkS_ok (show chkS sgl0 [ctr_110] ctr_118 = true by decide +kernel) hK.2) (fm_c (cok_110 hK) fm_n) (show chk KD0 G0 (aX KD0) nX 2000 26 [ctr_110] ctr_118 = true by decide +kernel)
-- X9_clip
set_option maxRecDepth 100000 in
def ctr_119 : CTR := (100, [.inr (some 31), .inl (2, 2), .inl (0, 11)], none, [], [(13, 0), (14, 0), (15, 0), (16, 0), (18, 0), (31, 7)], 2, 0, [(107, [(0, .inr (some 31)), (1, .inl (2, 2)), (2, .inl (0, 11)), (3, .inl (-2147483648, 2147483647)), (4, .inl (-2147483648, 2147483647)), (5, .inl (-2147483648, 2147483647)), (6, .inl (0, 11))], [], [(0, 7, (1, 4))], 22, [((6, none), -2)], [])], [(31, 7, (1, 4))], [(31, 7, (0, 3))])
set_option maxRecDepth 100000 in
theorem cok_119 {KO : List Nat} (hK : KOK KO) : cOk KD0 KO G0 ctr_119 := chk_ok (G0_xOK hK.1) (chkS_ok (show chkS sgl0 [ctr_110] ctr_119 = true by decide +kernel) hK.2) (fm_c (cok_110 hK) fm_n) (show chk KD0 G0 (aX KD0) nX 2000 26 [ctr_110] ctr_119 = true by decide +kernel)
-- X9_clip
set_option maxRecDepth 100000 in
def ctr_120 : CTR := (100, [.inr (some 31), .inl (3, 3), .inl (0, 11)], none, [], [(13, 0), (14, 0), (15, 0), (16, 0), (18, 0), (31, 7)], 2, 0, [(107, [(0, .inr (some 31)), (1, .inl (3, 3)), (2, .inl (0, 11)), (3, .inl (-2147483648, 2147483647)), (4, .inl (-2147483648, 2147483647)), (5, .inl (-2147483648, 2147483647)), (6, .inl (0, 11))], [], [(0, 7, (0, 3))], 22, [((6, none), -2)], [])], [(31, 7, (0, 3))], [(31, 7, (-1, 2))])
set_option maxRecDepth 100000 in
theorem cok_120 {KO : List Nat} (hK : KOK KO) : cOk KD0 KO G0 ctr_120 := chk_ok (G0_xOK hK.1) (chkS_ok (show chkS sgl0 [ctr_110] ctr_120 = true by decide +kernel) hK.2) (fm_c (cok_110 hK) fm_n) (show chk KD0 G0 (aX KD0) nX 2000 26 [ctr_110] ctr_120 = true by decide +kernel)
-- X9_clip
set_option maxRecDepth 100000 in
def ctr_121 : CTR := (100, [.inr (some 31), .inl (0, 0), .inl (0, 11)], none, [], [(13, 0), (14, 0), (15, 0), (16, 0), (18, 0), (31, 7)], 2, 0, [(107, [(0, .inr (some 31)), (1, .inl (0, 0)), (2, .inl (0, 11)), (3, .inl (-2147483648, 2147483647)), (4, .inl (-2147483648, 2147483647)), (5, .inl (-2147483648, 2147483647)), (6, .inl (0, 11))], [], [(0, 7, (3, 7))], 22, [((6, none), -2)], [])], [(31, 7, (3, 7))], [(31, 7, (2, 6))])
set_option maxRecDepth 100000 in
theorem cok_121 {KO : List Nat} (hK : KOK KO) : cOk KD0 KO G0 ctr_121 := chk_ok (G0_xOK hK.1) (chkS_ok (show chkS sgl0 [ctr_110] ctr_121 = true by decide +kernel) hK.2) (fm_c (cok_110 hK) fm_n) (show chk KD0 G0 (aX KD0) nX 2000 26 [ctr_110] ctr_121 = true by decide +kernel)
-- X9_clip
set_option maxRecDepth 100000 in
def ctr_122 : CTR := (100, [.inr (some 31), .inl (1, 1), .inl (0, 11)], none, [], [(13, 0), (14, 0), (15, 0), (16, 0), (18, 0), (31, 7)], 2, 0, [(107, [(0, .inr (some 31)), (1, .inl (1, 1)), (2, .inl (0, 11)), (3, .inl (-2147483648, 2147483647)), (4, .inl (-2147483648, 2147483647)), (5, .inl (-2147483648, 2147483647)), (6, .inl (0, 11))], [], [(0, 7, (2, 6))], 22, [((6, none), -2)], [])], [(31, 7, (2, 6))], [(31, 7, (1, 5))])
set_option maxRecDepth 100000 in
theorem cok_122 {KO : List Nat} (hK : KOK KO) : cOk KD0 KO G0 ctr_122 := chk_ok (G0_xOK hK.1) (chkS_ok (show chkS sgl0 [ctr_110] ctr_122 = true by decide +kernel) hK.2) (fm_c (cok_110 hK) fm_n) (show chk KD0 G0 (aX KD0) nX 2000 26 [ctr_110] ctr_122 = true by decide +kernel)
-- X9_clip
set_option maxRecDepth 100000 in
def ctr_123 : CTR := (100, [.inr (some 31), .inl (2, 2), .inl (0, 11)], none, [], [(13, 0), (14, 0), (15, 0), (16, 0), (18, 0), (31, 7)], 2, 0, [(107, [(0, .inr (some 31)), (1, .inl (2, 2)), (2, .inl (0, 11)), (3, .inl (-2147483648, 2147483647)), (4, .inl (-2147483648, 2147483647)), (5, .inl (-2147483648, 2147483647)), (6, .inl (0, 11))], [], [(0, 7, (1, 5))], 22, [((6, none), -2)], [])], [(31, 7, (1, 5))], [(31, 7, (0, 4))])
set_option maxRecDepth 100000 in
theorem cok_123 {KO : List Nat} (hK : KOK KO) : cOk KD0 KO G0 ctr_123 := chk_ok (G0_xOK hK.1) (chkS_ok (show chkS sgl0 [ctr_110] ctr_123 = true by decide +kernel) hK.2) (fm_c (cok_110 hK) fm_n) (show chk KD0 G0 (aX KD0) nX 2000 26 [ctr_110] ctr_123 = true by decide +kernel)
-- X9_clip
set_option maxRecDepth 100000 in
def ctr_124 : CTR := (100, [.inr (some 31), .inl (3, 3), .inl (0, 11)], none, [], [(13, 0), (14, 0), (15, 0), (16, 0), (18, 0), (31, 7)], 2, 0, [(107, [(0, .inr (some 31)), (1, .inl (3, 3)), (2, .inl (0, 11)), (3, .inl (-2147483648, 2147483647)), (4, .inl (-2147483648, 2147483647)), (5, .inl (-2147483648, 2147483647)), (6, .inl (0, 11))], [], [(0, 7, (0, 4))], 22, [((6, none), -2)], [])], [(31, 7, (0, 4))], [(31, 7, (-1, 3))])
set_option maxRecDepth 100000 in
theorem cok_124 {KO : List Nat} (hK : KOK KO) : cOk KD0 KO G0 ctr_124 := chk_ok (G0_xOK hK.1) (chkS_ok (show chkS sgl0 [ctr_110] ctr_124 = true by decide +kernel) hK.2) (fm_c (cok_110 hK) fm_n) (show chk KD0 G0 (aX KD0) nX 2000 26 [ctr_110] ctr_124 = true by decide +kernel)
