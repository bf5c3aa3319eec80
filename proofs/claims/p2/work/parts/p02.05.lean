-- X9_clip
set_option maxRecDepth 100000 in
def ctr_125 : CTR := (100, [.inr (some 31), .inl (4, 4), .inl (0, 11)], none, [], [(13, 0), (14, 0), (15, 0), (16, 0), (18, 0), (31, 7)], 2, 0, [(107, [(0, .inr (some 31)), (1, .inl (4, 4)), (2, .inl (0, 11)), (3, .inl (-2147483648, 2147483647)), (4, .inl (-2147483648, 2147483647)), (5, .inl (-2147483648, 2147483647)), (6, .inl (0, 11))], [], [(0, 7, (-1, 3))], 22, [((6, none), -2)], [])], [(31, 7, (-1, 3))], [(31, 7, (-2, 2))])
set_option maxRecDepth 100000 in
theorem cok_125 {KO : List Nat} (hK : KOK KO) : cOk KD0 KO G0 ctr_125 := chk_ok (G0_xOK hK.1) (chkS_ok (show chkS sgl0 [ctr_110] ctr_125 = true by decide +kernel) hK.2) (fm_c (cok_110 hK) fm_n) (show chk KD0 G0 (aX KD0) nX 2000 26 [ctr_110] ctr_125 = true by decide +kernel)
-- X9_clip
set_option maxRecDepth 100000 in
def ctr_126 : CTR := (100, [.inr (some 31), .inl (0, 0), .inl (0, 11)], none, [], [(13, 0), (14, 0), (15, 0), (16, 0), (18, 0), (31, 7)], 2, 0, [(107, [(0, .inr (some 31)), (1, .inl (0, 0)), (2, .inl (0, 11)), (3, .inl (-2147483648, 2147483647)), (4, .inl (-2147483648, 2147483647)), (5, .inl (-2147483648, 2147483647)), (6, .inl (0, 11))], [], [(0, 7, (3, 8))], 22, [((6, none), -2)], [])], [(31, 7, (3, 8))], [(31, 7, (2, 7))])
set_option maxRecDepth 100000 in
theorem cok_126 {KO : List Nat} (hK : KOK KO) : cOk KD0 KO G0 ctr_126 := chk_ok (G0_xOK hK.1) (chkS_ok (show chkS sgl0 [ctr_110] ctr_126 = true by decide +kernel) hK.2) (fm_c (cok_110 hK) fm_n) (show chk KD0 G0 (aX KD0) nX 2000 26 [ctr_110] ctr_126 = true by decide +kernel)
-- X9_clip
set_option maxRecDepth 100000 in
def ctr_127 : CTR := (100, [.inr (some 31), .inl (1, 1), .inl (0, 11)], none, [], [(13, 0), (14, 0), (15, 0), (16, 0), (18, 0), (31, 7)], 2, 0, [(107, [(0, .inr (some 31)), (1, .inl (1, 1)), (2, .inl (0, 11)), (3, .inl (-2147483648, 2147483647)), (4, .inl (-2147483648, 2147483647)), (5, .inl (-2147483648, 2147483647)), (6, .inl (0, 11))], [], [(0, 7, (2, 7))], 22, [((6, none), -2)], [])], [(31, 7, (2, 7))], [(31, 7, (1, 6))])
set_option maxRecDepth 100000 in
theorem cok_127 {KO : List Nat} (hK : KOK KO) : cOk KD0 KO G0 ctr_127 := chk_ok (G0_xOK hK.1) (chkS_ok (show chkS sgl0 [ctr_110] ctr_127 = true by decide +kernel) hK.2) (fm_c (cok_110 hK) fm_n) (show chk KD0 G0 (aX KD0) nX 2000 26 [ctr_110] ctr_127 = true by decide +kernel)
-- X9_clip
set_option maxRecDepth 100000 in
def ctr_128 : CTR := (100, [.inr (some 31), .inl (2, 2), .inl (0, 11)], none, [], [(13, 0), (14, 0), (15, 0), (16, 0), (18, 0), (31, 7)], 2, 0, [(107, [(0, .inr (some 31)), (1, .inl (2, 2)), (2, .inl (0, 11)), (3, .inl (-2147483648, 2147483647)), (4, .inl (-2147483648, 2147483647)), (5, .inl (-2147483648, 2147483647)), (6, .inl (0, 11))], [], [(0, 7, (1, 6))], 22, [((6, none), -2)], [])], [(31, 7, (1, 6))], [(31, 7, (0, 5))])
set_option maxRecDepth 100000 in
theorem cok_128 {KO : List Nat} (hK : KOK KO) : cOk KD0 KO G0 ctr_128 := chk_ok (G0_xOK hK.1) (chkS_ok (show chkS sgl0 [ctr_110] ctr_128 = true by decide +kernel) hK.2) (fm_c (cok_110 hK) fm_n) (show chk KD0 G0 (aX KD0) nX 2000 26 [ctr_110] ctr_128 = true by decide +kernel)
-- X9_clip
set_option maxRecDepth 100000 in
def ctr_129 : CTR := (100, [.inr (some 31), .inl (3, 3), .inl (0, 11)], none, [], [(13, 0), (14, 0), (15, 0), (16, 0), (18, 0), (31, 7)], 2, 0, [(107, [(0, .inr (some 31)), (1, .inl (3, 3)), (2, .inl (0, 11)), (3, .inl (-2147483648, 2147483647)), (4, .inl (-2147483648, 2147483647)), (5, .inl (-2147483648, 2147483647)), (6, .inl (0, 11))], [], [(0, 7, (0, 5))], 22, [((6, none), -2)], [])], [(31, 7, (0, 5))], [(31, 7, (-1, 4))])
set_option maxRecDepth 100000 in
theorem cok_129 {KO : List Nat} (hK : KOK KO) : cOk KD0 KO G0 ctr_129 := chk_ok (G0_xOK hK.1) (chkS_ok (show chkS sgl0 [ctr_110] ctr_129 = true by decide +kernel) hK.2) (fm_c (cok_110 hK) fm_n) (show chk KD0 G0 (aX KD0) nX 2000 26 [ctr_110] ctr_129 = true by decide +kernel)
-- X9_clip
set_option maxRecDepth 100000 in
def ctr_130 : CTR := (100, [.inr (some 31), .inl (4, 4), .inl (0, 11)], none, [], [(13, 0), (14, 0), (15, 0), (16, 0), (18, 0), (31, 7)], 2, 0, [(107, [(0, .inr (some 31)), (1, .inl (4, 4)), (2, .inl (0, 11)), (3, .inl (-2147483648, 2147483647)), (4, .inl (-2147483648, 2147483647)), (5, .inl (-2147483648, 2147483647)), (6, .inl (0, 11))], [], [(0, 7, (-1, 4))], 22, [((6, none), -2)], [])], [(31, 7, (-1, 4))], [(31, 7, (-2, 3))])
set_option maxRecDepth 100000 in
theorem cok_130 {KO : List Nat} (hK : KOK KO) : cOk KD0 KO G0 ctr_130 := chk_ok (G0_xOK hK.1) (chkS_ok (show chkS sgl0 [ctr_110] ctr_130 = true by decide +kernel) hK.2) (fm_c (cok_110 hK) fm_n) (show chk KD0 G0 (aX KD0) nX 2000 26 [ctr_110] ctr_130 = true by decide +kernel)
-- X9_clip
set_option maxRecDepth 100000 in
def ctr_131 : CTR := (100, [.inr (some 31), .inl (5, 5), .inl (0, 11)], none, [], [(13, 0), (14, 0), (15, 0), (16, 0), (18, 0), (31, 7)], 2, 0, [(107, [(0, .inr (some 31)), (1, .inl (5, 5)), (2, .inl (0, 11)), (3, .inl (-2147483648, 2147483647)), (4, .inl (-2147483648, 2147483647)), (5, .inl (-2147483648, 2147483647)), (6, .inl (0, 11))], [], [(0, 7, (-2, 3))], 22, [((6, none), -2)], [])], [(31, 7, (-2, 3))], [(31, 7, (-3, 2))])
set_option maxRecDepth 100000 in
theorem cok_131 {KO : List Nat} (hK : KOK KO) : cOk KD0 KO G0 ctr_131 := chk_ok (G0_xOK hK.1) (chkS_ok (show chkS sgl0 [ctr_110] ctr_131 = true by decide +kernel) hK.2) (fm_c (cok_110 hK) fm_n) (show chk KD0 G0 (aX KD0) nX 2000 26 [ctr_110] ctr_131 = true by decide +kernel)
-- X9_clip
set_option maxRecDepth 100000 in
def ctr_132 : CTR := (100, [.inr (some 31), .inl (0, 0), .inl (0, 11)], none, [], [(13, 0), (14, 0), (15, 0), (16, 0), (18, 0), (31, 7)], 2, 0, [(107, [(0, .inr (some 31)), (1, .inl (0, 0)), (2, .inl (0, 11)), (3, .inl (-2147483648, 2147483647)), (4, .inl (-2147483648, 2147483647)), (5, .inl (-2147483648, 2147483647)), (6, .inl (0, 11))], [], [(0, 7, (3, 9))], 22, [((6, none), -2)], [])], [(31, 7, (3, 9))], [(31, 7, (2, 8))])
set_option maxRecDepth 100000 in
theorem cok_132 {KO : List Nat} (hK : KOK KO) : cOk KD0 KO G0 ctr_132 := chk_ok (G0_xOK hK.1) (chkS_ok (show chkS sgl0 [ctr_110] ctr_132 = true by decide +kernel) hK.2) (fm_c (cok_110 hK) fm_n) (show chk KD0 G0 (aX KD0) nX 2000 26 [ctr_110] ctr_132 = true by decide +kernel)
-- X9_clip
set_option maxRecDepth 100000 in
def ctr_133 : CTR := (100, [.inr (some 31), .inl (1, 1), .inl (0, 11)], none, [], [(13, 0), (14, 0), (15, 0), (16, 0), (18, 0), (31, 7)], 2, 0, [(107, [(0, .inr (some 31)), (1, .inl (1, 1)), (2, .inl (0, 11)), (3, .inl (-2147483648, 2147483647)), (4, .inl (-2147483648, 2147483647)), (5, .inl (-2147483648, 2147483647)), (6, .inl (0, 11))], [], [(0, 7, (2, 8))], 22, [((6, none), -2)], [])], [(31, 7, (2, 8))], [(31, 7, (1, 7))])
set_option maxRecDepth 100000 in
theorem cok_133 {KO : List Nat} (hK : KOK KO) : cOk KD0 KO G0 ctr_133 := chk_ok (G0_xOK hK.1) (chkS_ok (show chkS sgl0 [ctr_110] ctr_133 = true by decide +kernel) hK.2) (fm_c (cok_110 hK) fm_n) (show chk KD0 G0 (aX KD0) nX 2000 26 [ctr_110] ctr_133 = true by decide +kernel)
-- X9_clip
set_option maxRecDepth 100000 in
def ctr_134 : CTR := (100, [.inr (some 31), .inl (2, 2), .inl (0, 11)], none, [], [(13, 0), (14, 0), (15, 0), (16, 0), (18, 0), (31, 7)], 2, 0, [(107, [(0, .inr (some 31)), (1, .inl (2, 2)), (2, .inl (0, 11)), (3, .inl (-2147483648, 2147483647)), (4, .inl (-2147483648, 2147483647)), (5, .inl (-2147483648, 2147483647)), (6, .inl (0, 11))], [], [(0, 7, (1, 7))], 22, [((6, none), -2)], [])], [(31, 7, (1, 7))], [(31, 7, (0, 6))])
set_option maxRecDepth 100000 in
theorem cok_134 {KO : List Nat} (hK : KOK KO) : cOk KD0 KO G0 ctr_134 := chk_ok (G0_xOK hK.1) (chkS_ok (show chkS sgl0 [ctr_110] ctr_134 = true by decide +kernel) hK.2) (fm_c (cok_110 hK) fm_n) (show chk KD0 G0 (aX KD0) nX 2000 26 [ctr_110] ctr_134 = true by decide +kernel)
-- X9_clip
set_option maxRecDepth 100000 in
def ctr_135 : CTR := (100, [.inr (some 31), .inl (3, 3), .inl (0, 11)], none, [], [(13, 0), (14, 0), (15, 0), (16, 0), (18, 0), (31, 7)], 2, 0, [(107, [(0, .inr (some 31)), (1, .inl (3, 3)), (2, .inl (0, 11)), (3, .inl (-2147483648, 2147483647)), (4, .inl (-2147483648, 2147483647)), (5, .inl (-2147483648, 2147483647)), (6, .inl (0, 11))], [], [(0, 7, (0, 6))], 22, [((6, none), -2)], [])], [(31, 7, (0, 6))], [(31, 7, (-1, 5))])
set_option maxRecDepth 100000 in
theorem cok_135 {KO : List Nat} (hK : KOK KO) : cOk KD0 KO G0 ctr_135 := chk_ok (G0_xOK hK.1) (chkS_ok (show chkS sgl0 [ctr_110] ctr_135 = true by decide +kernel) hK.2) (fm_c (cok_110 hK) fm_n) (show chk KD0 G0 (aX KD0) nX 2000 26 [ctr_110] ctr_135 = true by decide +kernel)
-- X9_clip
set_option maxRecDepth 100000 in
def ctr_136 : CTR := (100, [.inr (some 31), .inl (4, 4), .inl (0, 11)], none, [], [(13, 0), (14, 0), (15, 0), (16, 0), (18, 0), (31, 7)], 2, 0, [(107, [(0, .inr (some 31)), (1, .inl (4, 4)), (2, .inl (0, 11)), (3, .inl (-2147483648, 2147483647)), (4, .inl (-2147483648, 2147483647)), (5, .inl (-2147483648, 2147483647)), (6, .inl (0, 11))], [], [(0, 7, (-1, 5))], 22, [((6, none), -2)], [])], [(31, 7, (-1, 5))], [(31, 7, (-2, 4))])
set_option maxRecDepth 100000 in
theorem cok_136 {KO : List Nat} (hK : KOK KO) : cOk KD0 KO G0 ctr_136 := chk_ok (G0_xOK hK.1) (chkS_ok (show chkS sgl0 [ctr_110] ctr_136 = true by decide +kernel) hK.2) (fm_c (cok_110 hK) fm_n) (show chk KD0 G0 (aX KD0) nX 2000 26 [ctr_110] ctr_136 = true by decide +kernel)
-- X9_clip
set_option maxRecDepth 100000 in
def ctr_137 : CTR := (100, [.inr (some 31), .inl (5, 5), .inl (0, 11)], none, [], [(13, 0), (14, 0), (15, 0), (16, 0), (18, 0), (31, 7)], 2, 0, [(107, [(0, .inr (some 31)), (1, .inl (5, 5)), (2, .inl (0, 11)), (3, .inl (-2147483648, 2147483647)), (4, .inl (-2147483648, 2147483647)), (5, .inl (-2147483648, 2147483647)), (6, .inl (0, 11))], [], [(0, 7, (-2, 4))], 22, [((6, none), -2)], [])], [(31, 7, (-2, 4))], [(31, 7, (-3, 3))])
set_option maxRecDepth 100000 in
theorem cok_137 {KO : List Nat} (hK : KOK KO) : cOk KD0 KO G0 ctr_137 := chk_ok (G0_xOK hK.1) (chkS_ok (show chkS sgl0 [ctr_110] ctr_137 = true by decide +kernel) hK.2) (fm_c (cok_110 hK) fm_n) (show chk KD0 G0 (aX KD0) nX 2000 26 [ctr_110] ctr_137 = true by decide +kernel)
-- X9_clip
set_option maxRecDepth 100000 in
def ctr_138 : CTR := (100, [.inr (some 31), .inl (6, 6), .inl (0, 11)], none, [], [(13, 0), (14, 0), (15, 0), (16, 0), (18, 0), (31, 7)], 2, 0, [(107, [(0, .inr (some 31)), (1, .inl (6, 6)), (2, .inl (0, 11)), (3, .inl (-2147483648, 2147483647)), (4, .inl (-2147483648, 2147483647)), (5, .inl (-2147483648, 2147483647)), (6, .inl (0, 11))], [], [(0, 7, (-3, 3))], 22, [((6, none), -2)], [])], [(31, 7, (-3, 3))], [(31, 7, (-4, 2))])
set_option maxRecDepth 100000 in
theorem cok_138 {KO : List Nat} (hK : KOK KO) : cOk KD0 KO G0 ctr_138 := chk_ok (G0_xOK hK.1) (chkS_ok (show chkS sgl0 [ctr_110] ctr_138 = true by decide +kernel) hK.2) (fm_c (cok_110 hK) fm_n) (show chk KD0 G0 (aX KD0) nX 2000 26 [ctr_110] ctr_138 = true by decide +kernel)
-- X9_clip
set_option maxRecDepth 100000 in
def ctr_139 : CTR := (100, [.inr (some 31), .inl (0, 0), .inl (0, 11)], none, [], [(13, 0), (14, 0), (15, 0), (16, 0), (18, 0), (31, 7)], 2, 0, [(107, [(0, .inr (some 31)), (1, .inl (0, 0)), (2, .inl (0, 11)), (3, .inl (-2147483648, 2147483647)), (4, .inl (-2147483648, 2147483647)), (5, .inl (-2147483648, 2147483647)), (6, .inl (0, 11))], [], [(0, 7, (3, 10))], 22, [((6, none), -2)], [])], [(31, 7, (3, 10))], [(31, 7, (2, 9))])
set_option maxRecDepth 100000 in
theorem cok_139 {KO : List Nat} (hK : KOK KO) : cOk KD0 KO G0 ctr_139 := chk_ok (G0_xOK hK.1) (chkS_ok (show chkS sgl0 [ctr_110] ctr_139 = true by decide +kernel) hK.2) (fm_c (cok_110 hK) fm_n) (show chk KD0 G0 (aX KD0) nX 2000 26 [ctr_110] ctr_139 = true by decide +kernel)
-- X9_clip
set_option maxRecDepth 100000 in
def ctr_140 : CTR := (100, [.inr (some 31), .inl (1, 1), .inl (0, 11)], none, [], [(13, 0), (14, 0), (15, 0), (16, 0), (18, 0), (31, 7)], 2, 0, [(107, [(0, .inr (some 31)), (1, .inl (1, 1)), (2, .inl (0, 11)), (3, .inl (-2147483648, 2147483647)), (4, .inl (-2147483648, 2147483647)), (5, .inl (-2147483648, 2147483647)), (6, .inl (0, 11))], [], [(0, 7, (2, 9))], 22, [((6, none), -2)], [])], [(31, 7, (2, 9))], [(31, 7, (1, 8))])
set_option maxRecDepth 100000 in
theorem cok_140 {KO : List Nat} (hK : KOK KO) : cOk KD0 KO G0 ctr_140 := chk_ok (G0_xOK hK.1) (chkS_ok (show chkS sgl0 [ctr_110] ctr_140 = true by decide +kernel) hK.2) (fm_c (cok_110 hK) fm_n) (show chk KD0 G0 (aX KD0) nX 2000 26 [ctr_110] ctr_140 = true by decide +kernel)
-- X9_clip
set_option maxRecDepth 100000 in
def ctr_141 : CTR := (100, [.inr (some 31), .inl (2, 2), .inl (0, 11)], none, [], [(13, 0), (14, 0), (15, 0), (16, 0), (18, 0), (31, 7)], 2, 0, [(107, [(0, .inr (some 31)), (1, .inl (2, 2)), (2, .inl (0, 11)), (3, .inl (-2147483648, 2147483647)), (4, .inl (-2147483648, 2147483647)), (5, .inl (-2147483648, 2147483647)), (6, .inl (0, 11))], [], [(0, 7, (1, 8))], 22, [((6, none), -2)], [])], [(31, 7, (1, 8))], [(31, 7, (0, 7))])
set_option maxRecDepth 100000 in
theorem cok_141 {KO : List Nat} (hK : KOK KO) : cOk KD0 KO G0 ctr_141 := chk_ok (G0_xOK hK.1) (chkS_ok (show chkS sgl0 [ctr_110] ctr_141 = true by decide +kernel) hK.2) (fm_c (cok_110 hK) fm_n) (show chk KD0 G0 (aX KD0) nX 2000 26 [ctr_110] ctr_141 = true by decide +kernel)
-- X9_clip
set_option maxRecDepth 100000 in
def ctr_142 : CTR := (100, [.inr (some 31), .inl (3, 3), .inl (0, 11)], none, [], [(13, 0), (14, 0), (15, 0), (16, 0), (18, 0), (31, 7)], 2, 0, [(107, [(0, .inr (some 31)), (1, .inl (3, 3)), (2, .inl (0, 11)), (3, .inl (-2147483648, 2147483647)), (4, .inl (-2147483648, 2147483647)), (5, .inl (-2147483648, 2147483647)), (6, .inl (0, 11))], [], [(0, 7, (0, 7))], 22, [((6, none), -2)], [])], [(31, 7, (0, 7))], [(31, 7, (-1, 6))])
set_option maxRecDepth 100000 in
theorem cok_142 {KO : List Nat} (hK : KOK KO) : cOk KD0 KO G0 ctr_142 := chk_ok (G0_xOK hK.1) (chkS_ok (show chkS sgl0 [ctr_110] ctr_142 = true by decide +kernel) hK.2) (fm_c (cok_110 hK) fm_n) (show chk KD0 G0 (aX KD0) nX 2000 26 [ctr_110] ctr_142 = true by decide +kernel)
-- X9_clip
set_option maxRecDepth 100000 in
def ctr_143 : CTR := (100, [.inr (some 31), .inl (4, 4), .inl (0, 11)], none, [], [(13, 0), (14, 0), (15, 0), (16, 0), (18, 0), (31, 7)], 2, 0, [(107, [(0, .inr (some 31)), (1, .inl (4, 4)), (2, .inl (0, 11)), (3, .inl (-2147483648, 2147483647)), (4, .inl (-2147483648, 2147483647)), (5, .inl (-2147483648, 2147483647)), (6, .inl (0, 11))], [], [(0, 7, (-1, 6))], 22, [((6, none), -2)], [])], [(31, 7, (-1, 6))], [(31, 7, (-2, 5))])
set_option maxRecDepth 100000 in
theorem cok_143 {KO : List Nat} (hK : KOK KO) : cOk KD0 KO G0 ctr_143 := chk_ok (G0_xOK hK.1) (chkS_ok (show chkS sgl0 [ctr_110] ctr_143 = true by decide +kernel) hK.2) (fm_c (cok_110 hK) fm_n) (show chk KD0 G0 (aX KD0) nX 2000 26 [ctr_110] ctr_143 = true by decide +kernel)
-- X9_clip
set_option maxRecDepth 100000 in
def ctr_144 : CTR := (100, [.inr (some 31), .inl (5, 5), .inl (0, 11)], none, [], [(13, 0), (14, 0), (15, 0), (16, 0), (18, 0), (31, 7)], 2, 0, [(107, [(0, .inr (some 31)), (1, .inl (5, 5)), (2, .inl (0, 11)), (3, .inl (-2147483648, 2147483647)), (4, .inl (-2147483648, 2147483647)), (5, .inl (-2147483648, 2147483647)), (6, .inl (0, 11))], [], [(0, 7, (-2, 5))], 22, [((6, none), -2)], [])], [(31, 7, (-2, 5))], [(31, 7, (-3, 4))])
set_option maxRecDepth 100000 in
theorem cok_144 {KO : List Nat} (hK : KOK KO) : cOk KD0 KO G0 ctr_144 := chk_ok (G0_xOK hK.1) (chkS_ok (show chkS sgl0 [ctr_110] ctr_144 = true by decide +kernel) hK.2) (fm_c (cok_110 hK) fm_n) (show chk KD0 G0 (aX KD0) nX 2000 26 [ctr_110] ctr_144 = true by decide +kernel)
-- X9_clip
set_option maxRecDepth 100000 in
def ctr_145 : CTR := (100, [.inr (some 31), .inl (6, 6), .inl (0, 11)], none, [], [(13, 0), (14, 0), (15, 0), (16, 0), (18, 0), (31, 7)], 2, 0, [(107, [(0, .inr (some 31)), (1, .inl (6, 6)), (2, .inl (0, 11)), (3, .inl (-2147483648, 2147483647)), (4, .inl (-2147483648, 2147483647)), (5, .inl (-2147483648, 2147483647)), (6, .inl (0, 11))], [], [(0, 7, (-3, 4))], 22, [((6, none), -2)], [])], [(31, 7, (-3, 4))], [(31, 7, (-4, 3))])
set_option maxRecDepth 100000 in
theorem cok_145 {KO : List Nat} (hK : KOK KO) : cOk KD0 KO G0 ctr_145 := chk_ok (G0_xOK hK.1) (chkS_ok (show chkS sgl0 [ctr_110] ctr_145 = true by decide +kernel) hK.2) (fm_c (cok_110 hK) fm_n) (show chk KD0 G0 (aX KD0) nX 2000 26 [ctr_110] ctr_145 = true by decide +kernel)
-- X9_clip
set_option maxRecDepth 100000 in
def ctr_146 : CTR := (100, [.inr (some 31), .inl (7, 7), .inl (0, 11)], none, [], [(13, 0), (14, 0), (15, 0), (16, 0), (18, 0), (31, 7)], 2, 0, [(107, [(0, .inr (some 31)), (1, .inl (7, 7)), (2, .inl (0, 11)), (3, .inl (-2147483648, 2147483647)), (4, .inl (-2147483648, 2147483647)), (5, .inl (-2147483648, 2147483647)), (6, .inl (0, 11))], [], [(0, 7, (-4, 3))], 22, [((6, none), -2)], [])], [(31, 7, (-4, 3))], [(31, 7, (-5, 2))])
set_option maxRecDepth 100000 in
theorem cok_146 {KO : List Nat} (hK : KOK KO) : cOk KD0 KO G0 ctr_146 := chk_ok (G0_xOK hK.1) (chkS_ok (show chkS sgl0 [ctr_110] ctr_146 = true by decide +kernel) hK.2) (fm_c (cok_110 hK) fm_n) (show chk KD0 G0 (aX KD0) nX 2000 26 [ctr_110] ctr_146 = true by decide +kernel)
-- X9_clip
set_option maxRecDepth 100000 in
def ctr_147 : CTR := (100, [.inr (some 31), .inl (0, 0), .inl (0, 11)], none, [], [(13, 0), (14, 0), (15, 0), (16, 0), (18, 0), (31, 7)], 2, 0, [(107, [(0, .inr (some 31)), (1, .inl (0, 0)), (2, .inl (0, 11)), (3, .inl (-2147483648, 2147483647)), (4, .inl (-2147483648, 2147483647)), (5, .inl (-2147483648, 2147483647)), (6, .inl (0, 11))], [], [(0, 7, (3, 11))], 22, [((6, none), -2)], [])], [(31, 7, (3, 11))], [(31, 7, (2, 10))])
set_option maxRecDepth 100000 in
theorem cok_147 {KO : List Nat} (hK : KOK KO) : cOk KD0 KO G0 ctr_147 := chk_ok (G0_xOK hK.1) (chkS_ok (show chkS sgl0 [ctr_110] ctr_147 = true by decide +kernel) hK.2) (fm_c (cok_110 hK) fm_n) (show chk KD0 G0 (aX KD0) nX 2000 26 [ctr_110] ctr_147 = true by decide +kernel)
-- X9_clip
set_option maxRecDepth 100000 in
def ctr_148 : CTR := (100, [.inr (some 31), .inl (1, 1), .inl (0, 11)], none, [], [(13, 0), (14, 0), (15, 0), (16, 0), (18, 0), (31, 7)], 2, 0, [(107, [(0, .inr (some 31)), (1, .inl (1, 1)), (2, .inl (0, 11)), (3, .inl (-2147483648, 2147483647)), (4, .inl (-2147483648, 2147483647)), (5, .inl (-2147483648, 2147483647)), (6, .inl (0, 11))], [], [(0, 7, (2, 10))], 22, [((6, none), -2)], [])], [(31, 7, (2, 10))], [(31, 7, (1, 9))])
set_option maxRecDepth 100000 in
theorem cok_148 {KO : List Nat} (hK : KOK KO) : cOk KD0 KO G0 ctr_148 := chk_ok (G0_xOK hK.1) (chkS_ok (show chkS sgl0 [ctr_110] ctr_148 = true by decide +kernel) hK.2) (fm_c (cok_110 hK) fm_n) (show chk KD0 G0 (aX KD0) nX 2000 26 [ctr_110] ctr_148 = true by decide +kernel)
-- X9_clip
set_option maxRecDepth 100000 in
def ctr_149 : CTR := (100, [.inr (some 31), .inl (2, 2), .inl (0, 11)], none, [], [(13, 0), (14, 0), (15, 0), (16, 0), (18, 0), (31, 7)], 2, 0, [(107, [(0, .inr (some 31)), (1, .inl (2, 2)), (2, .inl (0, 11)), (3, .inl (-2147483648, 2147483647)), (4, .inl (-2147483648, 2147483647)), (5, .inl (-2147483648, 2147483647)), (6, .inl (0, 11))], [], [(0, 7, (1, 9))], 22, [((6, none), -2)], [])], [(31, 7, (1, 9))], [(31, 7, (0, 8))])
set_option maxRecDepth 100000 in
theorem cok_149 {KO : List Nat} (hK : KOK KO) : cOk KD0 KO G0 ctr_149 := chk_ok (G0_xOK hK.1) (chkS_ok (show chkS sgl0 [ctr_110] ctr_149 = true by decide +kernel) hK.2) (fm_c (cok_110 hK) fm_n) (show chk KD0 G0 (aX KD0) nX 2000 26 [ctr_110] ctr_149 = true by decide +kernel)
