-- X9_clip
set_option maxRecDepth 100000 in
def ctr_150 : CTR := (100, [.inr (some 31), .inl (3, 3), .inl (0, 11)], none, [], [(13, 0), (14, 0), (15, 0), (16, 0), (18, 0), (31, 7)], 2, 0, [(107, [(0, .inr (some 31)), (1, .inl (3, 3)), (2, .inl (0, 11)), (3, .inl (-2147483648, 2147483647)), (4, .inl (-2147483648, 2147483647)), (5, .inl (-2147483648, 2147483647)), (6, .inl (0, 11))], [], [(0, 7, (0, 8))], 22, [((6, none), -2)], [])], [(31, 7, (0, 8))], [(31, 7, (-1, 7))])
set_option maxRecDepth 100000 in
theorem cok_150 {KO : List Nat} (hK : KOK KO) : cOk KD0 KO G0 ctr_150 := chk_ok (G0_xOK hK.1) (chkS_ok (show chkS sgl0 [ctr_110] ctr_150 = true by decide +kernel) hK.2) (fm_c (cok_110 hK) fm_n) (show chk KD0 G0 (aX KD0) nX 2000 26 [ctr_110] ctr_150 = true by decide +kernel)
-- X9_clip
set_option maxRecDepth 100000 in
def ctr_151 : CTR := (100, [.inr (some 31), .inl (4, 4), .inl (0, 11)], none, [], [(13, 0), (14, 0), (15, 0), (16, 0), (18, 0), (31, 7)], 2, 0, [(107, [(0, .inr (some 31)), (1, .inl (4, 4)), (2, .inl (0, 11)), (3, .inl (-2147483648, 2147483647)), (4, .inl (-2147483648, 2147483647)), (5, .inl (-2147483648, 2147483647)), (6, .inl (0, 11))], [], [(0, 7, (-1, 7))], 22, [((6, none), -2)], [])], [(31, 7, (-1, 7))], [(31, 7, (-2, 6))])
set_option maxRecDepth 100000 in
theorem cok_151 {KO : List Nat} (hK : KOK KO) : cOk KD0 KO G0 ctr_151 := chk_ok (G0_xOK hK.1) (chkS_ok (show chkS sgl0 [ctr_110] ctr_151 = true by decide +kernel) hK.2) (fm_c (cok_110 hK) fm_n) (show chk KD0 G0 (aX KD0) nX 2000 26 [ctr_110] ctr_151 = true by decide +kernel)
-- X9_clip
set_option maxRecDepth 100000 in
def ctr_152 : CTR := (100, [.inr (some 31), .inl (5, 5), .inl (0, 11)], none, [], [(13, 0), (14, 0), (15, 0), (16, 0), (18, 0), (31, 7)], 2, 0, [(107, [(0, .inr (some 31)), (1, .inl (5, 5)), (2, .inl (0, 11)), (3, .inl (-2147483648, 2147483647)), (4, .inl (-2147483648, 2147483647)), (5, .inl (-2147483648, 2147483647)), (6, .inl (0, 11))], [], [(0, 7, (-2, 6))], 22, [((6, none), -2)], [])], [(31, 7, (-2, 6))], [(31, 7, (-3, 5))])
set_option maxRecDepth 100000 in
theorem cok_152 {KO : List Nat} (hK : KOK KO) : cOk KD0 KO G0 ctr_152 := chk_ok (G0_xOK hK.1) (chkS_ok (show chkS sgl0 [ctr_110] ctr_152 = true by decide +kernel) hK.2) (fm_c (cok_110 hK) fm_n) (show chk KD0 G0 (aX KD0) nX 2000 26 [ctr_110] ctr_152 = true by decide +kernel)
-- X9_clip
set_option maxRecDepth 100000 in
def ctr_153 : CTR := (100, [.inr (some 31), .inl (6, 6), .inl (0, 11)], none, [], [(13, 0), (14, 0), (15, 0), (16, 0), (18, 0), (31, 7)], 2, 0, [(107, [(0, .inr (some 31)), (1, .inl (6, 6)), (2, .inl (0, 11)), (3, .inl (-2147483648, 2147483647)), (4, .inl (-2147483648, 2147483647)), (5, .inl (-2147483648, 2147483647)), (6, .inl (0, 11))], [], [(0, 7, (-3, 5))], 22, [((6, none), -2)], [])], [(31, 7, (-3, 5))], [(31, 7, (-4, 4))])
set_option maxRecDepth 100000 in
theorem cok_153 {KO : List Nat} (hK : KOK KO) : cOk KD0 KO G0 ctr_153 := chk_ok (G0_xOK hK.1) (chkS_ok (show chkS sgl0 [ctr_110] ctr_153 = true by decide +kernel) hK.2) (fm_c (cok_110 hK) fm_n) (show chk KD0 G0 (aX KD0) nX 2000 26 [ctr_110] ctr_153 = true by decide +kernel)
-- X9_clip
set_option maxRecDepth 100000 in
def ctr_154 : CTR := (100, [.inr (some 31), .inl (7, 7), .inl (0, 11)], none, [], [(13, 0), (14, 0), (15, 0), (16, 0), (18, 0), (31, 7)], 2, 0, [(107, [(0, .inr (some 31)), (1, .inl (7, 7)), (2, .inl (0, 11)), (3, .inl (-2147483648, 2147483647)), (4, .inl (-2147483648, 2147483647)), (5, .inl (-2147483648, 2147483647)), (6, .inl (0, 11))], [], [(0, 7, (-4, 4))], 22, [((6, none), -2)], [])], [(31, 7, (-4, 4))], [(31, 7, (-5, 3))])
set_option maxRecDepth 100000 in
theorem cok_154 {KO : List Nat} (hK : KOK KO) : cOk KD0 KO G0 ctr_154 := chk_ok (G0_xOK hK.1) (chkS_ok (show chkS sgl0 [ctr_110] ctr_154 = true by decide +kernel) hK.2) (fm_c (cok_110 hK) fm_n) (show chk KD0 G0 (aX KD0) nX 2000 26 [ctr_110] ctr_154 = true by decide +kernel)
-- X9_clip
set_option maxRecDepth 100000 in
def ctr_155 : CTR := (100, [.inr (some 31), .inl (8, 8), .inl (0, 11)], none, [], [(13, 0), (14, 0), (15, 0), (16, 0), (18, 0), (31, 7)], 2, 0, [(107, [(0, .inr (some 31)), (1, .inl (8, 8)), (2, .inl (0, 11)), (3, .inl (-2147483648, 2147483647)), (4, .inl (-2147483648, 2147483647)), (5, .inl (-2147483648, 2147483647)), (6, .inl (0, 11))], [], [(0, 7, (-5, 3))], 22, [((6, none), -2)], [])], [(31, 7, (-5, 3))], [(31, 7, (-6, 2))])
set_option maxRecDepth 100000 in
theorem cok_155 {KO : List Nat} (hK : KOK KO) : cOk KD0 KO G0 ctr_155 := chk_ok (G0_xOK hK.1) (chkS_ok (show chkS sgl0 [ctr_110] ctr_155 = true by decide +kernel) hK.2) (fm_c (cok_110 hK) fm_n) (show chk KD0 G0 (aX KD0) nX 2000 26 [ctr_110] ctr_155 = true by decide +kernel)
-- X9_clip
set_option maxRecDepth 100000 in
def ctr_156 : CTR := (100, [.inr (some 31), .inl (0, 0), .inl (0, 11)], none, [], [(13, 0), (14, 0), (15, 0), (16, 0), (18, 0), (31, 7)], 2, 0, [(107, [(0, .inr (some 31)), (1, .inl (0, 0)), (2, .inl (0, 11)), (3, .inl (-2147483648, 2147483647)), (4, .inl (-2147483648, 2147483647)), (5, .inl (-2147483648, 2147483647)), (6, .inl (0, 11))], [], [(0, 7, (3, 12))], 22, [((6, none), -2)], [])], [(31, 7, (3, 12))], [(31, 7, (2, 11))])
set_option maxRecDepth 100000 in
theorem cok_156 {KO : List Nat} (hK : KOK KO) : cOk KD0 KO G0 ctr_156 := chk_ok (G0_xOK hK.1) (chkS_ok (show chkS sgl0 [ctr_110] ctr_156 = true by decide +kernel) hK.2) (fm_c (cok_110 hK) fm_n) (show chk KD0 G0 (aX KD0) nX 2000 26 [ctr_110] ctr_156 = true by decide +kernel)
-- X9_clip
set_option maxRecDepth 100000 in
def ctr_157 : CTR := (100, [.inr (some 31), .inl (1, 1), .inl (0, 11)], none, [], [(13, 0), (14, 0), (15, 0), (16, 0), (18, 0), (31, 7)], 2, 0, [(107, [(0, .inr (some 31)), (1, .inl (1, 1)), (2, .inl (0, 11)), (3, .inl (-2147483648, 2147483647)), (4, .inl (-2147483648, 2147483647)), (5, .inl (-2147483648, 2147483647)), (6, .inl (0, 11))], [], [(0, 7, (2, 11))], 22, [((6, none), -2)], [])], [(31, 7, (2, 11))], [(31, 7, (1, 10))])
set_option maxRecDepth 100000 in
theorem cok_157 {KO : List Nat} (hK : KOK KO) : cOk KD0 KO G0 ctr_157 := chk_ok (G0_xOK hK.1) (chkS_ok (show chkS sgl0 [ctr_110] ctr_157 = true by decide +kernel) hK.2) (fm_c (cok_110 hK) fm_n) (show chk KD0 G0 (aX KD0) nX 2000 26 [ctr_110] ctr_157 = true by decide +kernel)
-- X9_clip
set_option maxRecDepth 100000 in
def ctr_158 : CTR := (100, [.inr (some 31), .inl (2, 2), .inl (0, 11)], none, [], [(13, 0), (14, 0), (15, 0), (16, 0), (18, 0), (31, 7)], 2, 0, [(107, [(0, .inr (some 31)), (1, .inl (2, 2)), (2, .inl (0, 11)), (3, .inl (-2147483648, 2147483647)), (4, .inl (-2147483648, 2147483647)), (5, .inl (-2147483648, 2147483647)), (6, .inl (0, 11))], [], [(0, 7, (1, 10))], 22, [((6, none), -2)], [])], [(31, 7, (1, 10))], [(31, 7, (0, 9))])
set_option maxRecDepth 100000 in
theorem cok_158 {KO : List Nat} (hK : KOK KO) : cOk KD0 KO G0 ctr_158 := chk_ok (G0_xOK hK.1) (chkS_ok (show chkS sgl0 [ctr_110] ctr_158 = true by decide +kernel) hK.2) (fm_c (cok_110 hK) fm_n) (show chk KD0 G0 (aX KD0) nX 2000 26 [ctr_110] ctr_158 = true by decide +kernel)
-- X9_clip
set_option maxRecDepth 100000 in
def ctr_159 : CTR := (100, [.inr (some 31), .inl (3, 3), .inl (0, 11)], none, [], [(13, 0), (14, 0), (15, 0), (16, 0), (18, 0), (31, 7)], 2, 0, [(107, [(0, .inr (some 31)), (1, .inl (3, 3)), (2, .inl (0, 11)), (3, .inl (-2147483648, 2147483647)), (4, .inl (-2147483648, 2147483647)), (5, .inl (-2147483648, 2147483647)), (6, .inl (0, 11))], [], [(0, 7, (0, 9))], 22, [((6, none), -2)], [])], [(31, 7, (0, 9))], [(31, 7, (-1, 8))])
set_option maxRecDepth 100000 in
theorem cok_159 {KO : List Nat} (hK : KOK KO) : cOk KD0 KO G0 ctr_159 := chk_ok (G0_xOK hK.1) (chkS_ok (show chkS sgl0 [ctr_110] ctr_159 = true by decide +kernel) hK.2) (fm_c (cok_110 hK) fm_n) (show chk KD0 G0 (aX KD0) nX 2000 26 [ctr_110] ctr_159 = true by decide +kernel)
-- X9_clip
set_option maxRecDepth 100000 in
def ctr_160 : CTR := (100, [.inr (some 31), .inl (4, 4), .inl (0, 11)], none, [], [(13, 0), (14, 0), (15, 0), (16, 0), (18, 0), (31, 7)], 2, 0, [(107, [(0, .inr (some 31)), (1, .inl (4, 4)), (2, .inl (0, 11)), (3, .inl (-2147483648, 2147483647)), (4, .inl (-2147483648, 2147483647)), (5, .inl (-2147483648, 2147483647)), (6, .inl (0, 11))], [], [(0, 7, (-1, 8))], 22, [((6, none), -2)], [])], [(31, 7, (-1, 8))], [(31, 7, (-2, 7))])
set_option maxRecDepth 100000 in
theorem cok_160 {KO : List Nat} (hK : KOK KO) : cOk KD0 KO G0 ctr_160 := chk_ok (G0_xOK hK.1) (chkS_ok (show chkS sgl0 [ctr_110] ctr_160 = true by decide +kernel) hK.2) (fm_c (cok_110 hK) fm_n) (show chk KD0 G0 (aX KD0) nX 2000 26 [ctr_110] ctr_160 = true by decide +kernel)
-- X9_clip
set_option maxRecDepth 100000 in
def ctr_161 : CTR := (100, [.inr (some 31), .inl (5, 5), .inl (0, 11)], none, [], [(13, 0), (14, 0), (15, 0), (16, 0), (18, 0), (31, 7)], 2, 0, [(107, [(0, .inr (some 31)), (1, .inl (5, 5)), (2, .inl (0, 11)), (3, .inl (-2147483648, 2147483647)), (4, .inl (-2147483648, 2147483647)), (5, .inl (-2147483648, 2147483647)), (6, .inl (0, 11))], [], [(0, 7, (-2, 7))], 22, [((6, none), -2)], [])], [(31, 7, (-2, 7))], [(31, 7, (-3, 6))])
set_option maxRecDepth 100000 in
theorem cok_161 {KO : List Nat} (hK : KOK KO) : cOk KD0 KO G0 ctr_161 := chk_ok (G0_xOK hK.1) (chkS_ok (show chkS sgl0 [ctr_110] ctr_161 = true by decide +kernel) hK.2) (fm_c (cok_110 hK) fm_n) (show chk KD0 G0 (aX KD0) nX 2000 26 [ctr_110] ctr_161 = true by decide +kernel)
-- X9_clip
set_option maxRecDepth 100000 in
def ctr_162 : CTR := (100, [.inr (some 31), .inl (6, 6), .inl (0, 11)], none, [], [(13, 0), (14, 0), (15, 0), (16, 0), (18, 0), (31, 7)], 2, 0, [(107, [(0, .inr (some 31)), (1, .inl (6, 6)), (2, .inl (0, 11)), (3, .inl (-2147483648, 2147483647)), (4, .inl (-2147483648, 2147483647)), (5, .inl (-2147483648, 2147483647)), (6, .inl (0, 11))], [], [(0, 7, (-3, 6))], 22, [((6, none), -2)], [])], [(31, 7, (-3, 6))], [(31, 7, (-4, 5))])
set_option maxRecDepth 100000 in
theorem cok_162 {KO : List Nat} (hK : KOK KO) : cOk KD0 KO G0 ctr_162 := chk_ok (G0_xOK hK.1) (chkS_ok (show chkS sgl0 [ctr_110] ctr_162 = true by decide +kernel) hK.2) (fm_c (cok_110 hK) fm_n) (show chk KD0 G0 (aX KD0) nX 2000 26 [ctr_110] ctr_162 = true by decide +kernel)
-- X9_clip
set_option maxRecDepth 100000 in
def ctr_163 : CTR := (100, [.inr (some 31), .inl (7, 7), .inl (0, 11)], none, [], [(13, 0), (14, 0), (15, 0), (16, 0), (18, 0), (31, 7)], 2, 0, [(107, [(0, .inr (some 31)), (1, .inl (7, 7)), (2, .inl (0, 11)), (3, .inl (-2147483648, 2147483647)), (4, .inl (-2147483648, 2147483647)), (5, .inl (-2147483648, 2147483647)), (6, .inl (0, 11))], [], [(0, 7, (-4, 5))], 22, [((6, none), -2)], [])], [(31, 7, (-4, 5))], [(31, 7, (-5, 4))])
set_option maxRecDepth 100000 in
theorem cok_163 {KO : List Nat} (hK : KOK KO) : cOk KD0 KO G0 ctr_163 := chk_ok (G0_xOK hK.1) (chkS_ok (show chkS sgl0 [ctr_110] ctr_163 = true by decide +kernel) hK.2) (fm_c (cok_110 hK) fm_n) (show chk KD0 G0 (aX KD0) nX 2000 26 [ctr_110] ctr_163 = true by decide +kernel)
-- X9_clip
set_option maxRecDepth 100000 in
def ctr_164 : CTR := (100, [.inr (some 31), .inl (8, 8), .inl (0, 11)], none, [], [(13, 0), (14, 0), (15, 0), (16, 0), (18, 0), (31, 7)], 2, 0, [(107, [(0, .inr (some 31)), (1, .inl (8, 8)), (2, .inl (0, 11)), (3, .inl (-2147483648, 2147483647)), (4, .inl (-2147483648, 2147483647)), (5, .inl (-2147483648, 2147483647)), (6, .inl (0, 11))], [], [(0, 7, (-5, 4))], 22, [((6, none), -2)], [])], [(31, 7, (-5, 4))], [(31, 7, (-6, 3))])
set_option maxRecDepth 100000 in
theorem cok_164 {KO : List Nat} (hK : KOK KO) : cOk KD0 KO G0 ctr_164 := chk_ok (G0_xOK hK.1) (chkS_ok (show chkS sgl0 [ctr_110] ctr_164 = true by decide +kernel) hK.2) (fm_c (cok_110 hK) fm_n) (show chk KD0 G0 (aX KD0) nX 2000 26 [ctr_110] ctr_164 = true by decide +kernel)
-- X9_clip
set_option maxRecDepth 100000 in
def ctr_165 : CTR := (100, [.inr (some 31), .inl (9, 9), .inl (0, 11)], none, [], [(13, 0), (14, 0), (15, 0), (16, 0), (18, 0), (31, 7)], 2, 0, [(107, [(0, .inr (some 31)), (1, .inl (9, 9)), (2, .inl (0, 11)), (3, .inl (-2147483648, 2147483647)), (4, .inl (-2147483648, 2147483647)), (5, .inl (-2147483648, 2147483647)), (6, .inl (0, 11))], [], [(0, 7, (-6, 3))], 22, [((6, none), -2)], [])], [(31, 7, (-6, 3))], [(31, 7, (-7, 2))])
set_option maxRecDepth 100000 in
theorem cok_165 {KO : List Nat} (hK : KOK KO) : cOk KD0 KO G0 ctr_165 := chk_ok (G0_xOK hK.1) (chkS_ok (show chkS sgl0 [ctr_110] ctr_165 = true by decide +kernel) hK.2) (fm_c (cok_110 hK) fm_n) (show chk KD0 G0 (aX KD0) nX 2000 26 [ctr_110] ctr_165 = true by decide +kernel)
-- X9_learn
set_option maxRecDepth 100000 in
def ctr_166 : CTR := (95, [.inr (some 31)], none, [], [(13, 0), (14, 0), (15, 0), (16, 0), (17, 0), (18, 0), (31, 7), (31, 8)], 6, 0, [(31, [(0, .inr (some 31)), (1, .inl (0, 12))], [], [(0, 7, (0, 12)), (0, 8, (1, 1))], 24, [((1, none), -2)], [])], [], [])
set_option maxRecDepth 100000 in
theorem cok_166 {KO : List Nat} (hK : KOK KO) : cOk KD0 KO G0 ctr_166 := chk_ok (G0_xOK hK.1) (chkS_ok (show chkS sgl0 [ctr_49, ctr_109, ctr_113, ctr_114, ctr_115, ctr_116, ctr_117, ctr_118, ctr_119, ctr_120, ctr_121, ctr_122, ctr_123, ctr_124, ctr_125, ctr_126, ctr_127, ctr_128, ctr_129, ctr_130, ctr_131, ctr_132, ctr_133, ctr_134, ctr_135, ctr_136, ctr_137, ctr_138, ctr_139, ctr_140, ctr_141, ctr_142, ctr_143, ctr_144, ctr_145, ctr_146, ctr_147, ctr_148, ctr_149, ctr_150, ctr_151, ctr_152, ctr_153, ctr_154, ctr_155, ctr_156, ctr_157, ctr_158, ctr_159, ctr_160, ctr_161, ctr_162, ctr_163, ctr_164, ctr_165] ctr_166 = true by decide +kernel) hK.2) (fm_c (cok_49 hK) (fm_c (cok_109 hK) (fm_c (cok_113 hK) (fm_c (cok_114 hK) (fm_c (cok_115 hK) (fm_c (cok_116 hK) (fm_c (cok_117 hK) (fm_c (cok_118 hK) (fm_c (cok_119 hK) (fm_c (cok_120 hK) (fm_c (cok_121 hK) (fm_c (cok_122 hK) (fm_c (cok_123 hK) (fm_c (cok_124 hK) (fm_c (cok_125 hK) (fm_c (cok_126 hK) (fm_c (cok_127 hK) (fm_c (cok_128 hK) (fm_c (cok_129 hK) (fm_c (cok_130 hK) (fm_c (cok_131 hK) (fm_c (cok_132 hK) (fm_c (cok_133 hK) (fm_c (cok_134 hK) (fm_c (cok_135 hK) (fm_c (cok_136 hK) (fm_c (cok_137 hK) (fm_c (cok_138 hK) (fm_c (cok_139 hK) (fm_c (cok_140 hK) (fm_c (cok_141 hK) (fm_c (cok_142 hK) (fm_c (cok_143 hK) (fm_c (cok_144 hK) (fm_c (cok_145 hK) (fm_c (cok_146 hK) (fm_c (cok_147 hK) (fm_c (cok_148 hK) (fm_c (cok_149 hK) (fm_c (cok_150 hK) (fm_c (cok_151 hK) (fm_c (cok_152 hK) (fm_c (cok_153 hK) (fm_c (cok_154 hK) (fm_c (cok_155 hK) (fm_c (cok_156 hK) (fm_c (cok_157 hK) (fm_c (cok_158 hK) (fm_c (cok_159 hK) (fm_c (cok_160 hK) (fm_c (cok_161 hK) (fm_c (cok_162 hK) (fm_c (cok_163 hK) (fm_c (cok_164 hK) (fm_c (cok_165 hK) fm_n))))))))))))))))))))))))))))))))))))))))))))))))))))))) (show chk KD0 G0 (aX KD0) nX 2000 28 [ctr_49, ctr_109, ctr_113, ctr_114, ctr_115, ctr_116, ctr_117, ctr_118, ctr_119, ctr_120, ctr_121, ctr_122, ctr_123, ctr_124, ctr_125, ctr_126, ctr_127, ctr_128, ctr_129, ctr_130, ctr_131, ctr_132, ctr_133, ctr_134, ctr_135, ctr_136, ctr_137, ctr_138, ctr_139, ctr_140, ctr_141, ctr_142, ctr_143, ctr_144, ctr_145, ctr_146, ctr_147, ctr_148, ctr_149, ctr_150, ctr_151, ctr_152, ctr_153, ctr_154, ctr_155, ctr_156, ctr_157, ctr_158, ctr_159, ctr_160, ctr_161, ctr_162, ctr_163, ctr_164, ctr_165] ctr_166 = true by decide +kernel)
-- X9_cornerOf
set_option maxRecDepth 100000 in
def ctr_167 : CTR := (90, [.inr (some 31), .inl (-2147483648, 2147483647), .inl (-2147483648, 2147483647)], some (.inl (-2147483648, 2147483647)), [], [], 1, 0, [], [], [])
set_option maxRecDepth 100000 in
theorem cok_167 {KO : List Nat} (hK : KOK KO) : cOk KD0 KO G0 ctr_167 := chk_ok (G0_xOK hK.1) (chkS_ok (show chkS sgl0 [] ctr_167 = true by decide +kernel) hK.2) fm_n (show chk KD0 G0 (aX KD0) nX 2000 2 [] ctr_167 = true by decide +kernel)
-- X11_triangleVertex
set_option maxRecDepth 100000 in
def ctr_168 : CTR := (137, [.inr (some 36), .inl (-2147483648, 2147483647), .inl (-2147483648, 2147483647)], some (.inl (-2147483648, 2147483647)), ["java/lang/IllegalArgumentException", "java/lang/IllegalStateException", "java/lang/IndexOutOfBoundsException"], [(13, 0), (14, 0), (15, 0), (16, 0), (17, 0), (18, 0), (31, 7), (31, 8)], 7, 0, [], [], [])
set_option maxRecDepth 100000 in
theorem cok_168 {KO : List Nat} (hK : KOK KO) : cOk KD0 KO G0 ctr_168 := chk_ok (G0_xOK hK.1) (chkS_ok (show chkS sgl0 [ctr_46, ctr_106, ctr_166, ctr_167] ctr_168 = true by decide +kernel) hK.2) (fm_c (cok_46 hK) (fm_c (cok_106 hK) (fm_c (cok_166 hK) (fm_c (cok_167 hK) fm_n)))) (show chk KD0 G0 (aX KD0) nX 2000 2 [ctr_46, ctr_106, ctr_166, ctr_167] ctr_168 = true by decide +kernel)
-- X9_areaOf
set_option maxRecDepth 100000 in
def ctr_169 : CTR := (91, [.inr (some 31), .inl (-2147483648, 2147483647)], some (.inl (-2147483648, 2147483647)), [], [], 3, 0, [], [], [])
set_option maxRecDepth 100000 in
theorem cok_169 {KO : List Nat} (hK : KOK KO) : cOk KD0 KO G0 ctr_169 := chk_ok (G0_xOK hK.1) (chkS_ok (show chkS sgl0 [ctr_52, ctr_167] ctr_169 = true by decide +kernel) hK.2) (fm_c (cok_52 hK) (fm_c (cok_167 hK) fm_n)) (show chk KD0 G0 (aX KD0) nX 2000 2 [ctr_52, ctr_167] ctr_169 = true by decide +kernel)
-- X11_triangleArea
set_option maxRecDepth 100000 in
def ctr_170 : CTR := (138, [.inr (some 36), .inl (-2147483648, 2147483647)], some (.inl (-2147483648, 2147483647)), ["java/lang/IllegalStateException", "java/lang/IndexOutOfBoundsException"], [(13, 0), (14, 0), (15, 0), (16, 0), (17, 0), (18, 0), (31, 7), (31, 8)], 7, 0, [], [], [])
set_option maxRecDepth 100000 in
theorem cok_170 {KO : List Nat} (hK : KOK KO) : cOk KD0 KO G0 ctr_170 := chk_ok (G0_xOK hK.1) (chkS_ok (show chkS sgl0 [ctr_46, ctr_166, ctr_169] ctr_170 = true by decide +kernel) hK.2) (fm_c (cok_46 hK) (fm_c (cok_166 hK) (fm_c (cok_169 hK) fm_n))) (show chk KD0 G0 (aX KD0) nX 2000 2 [ctr_46, ctr_166, ctr_169] ctr_170 = true by decide +kernel)
-- X9_colourOf
set_option maxRecDepth 100000 in
def ctr_171 : CTR := (92, [.inr (some 31), .inl (-2147483648, 2147483647)], some (.inl (-2147483648, 2147483647)), [], [], 1, 0, [], [], [])
set_option maxRecDepth 100000 in
theorem cok_171 {KO : List Nat} (hK : KOK KO) : cOk KD0 KO G0 ctr_171 := chk_ok (G0_xOK hK.1) (chkS_ok (show chkS sgl0 [] ctr_171 = true by decide +kernel) hK.2) fm_n (show chk KD0 G0 (aX KD0) nX 2000 2 [] ctr_171 = true by decide +kernel)
-- X11_colour
set_option maxRecDepth 100000 in
def ctr_172 : CTR := (139, [.inr (some 36), .inl (-2147483648, 2147483647)], some (.inl (-2147483648, 2147483647)), ["java/lang/IllegalStateException", "java/lang/IndexOutOfBoundsException"], [(13, 0), (14, 0), (15, 0), (16, 0), (17, 0), (18, 0), (31, 7), (31, 8)], 7, 0, [], [], [])
set_option maxRecDepth 100000 in
theorem cok_172 {KO : List Nat} (hK : KOK KO) : cOk KD0 KO G0 ctr_172 := chk_ok (G0_xOK hK.1) (chkS_ok (show chkS sgl0 [ctr_46, ctr_166, ctr_171] ctr_172 = true by decide +kernel) hK.2) (fm_c (cok_46 hK) (fm_c (cok_166 hK) (fm_c (cok_171 hK) fm_n))) (show chk KD0 G0 (aX KD0) nX 2000 2 [ctr_46, ctr_166, ctr_171] ctr_172 = true by decide +kernel)
-- X9_colourSet
set_option maxRecDepth 100000 in
def ctr_173 : CTR := (94, [.inr (some 31), .inl (-2147483648, 2147483647)], some (.inl (-2147483648, 2147483647)), [], [], 2, 0, [(4, [(0, .inr (some 31)), (1, .inl (-2147483648, 2147483647)), (2, .inl (-2147483648, 2147483647)), (3, .inl (0, 12))], [], [], 24, [((3, none), -2)], [])], [], [])
set_option maxRecDepth 100000 in
theorem cok_173 {KO : List Nat} (hK : KOK KO) : cOk KD0 KO G0 ctr_173 := chk_ok (G0_xOK hK.1) (chkS_ok (show chkS sgl0 [ctr_171] ctr_173 = true by decide +kernel) hK.2) (fm_c (cok_171 hK) fm_n) (show chk KD0 G0 (aX KD0) nX 2000 28 [ctr_171] ctr_173 = true by decide +kernel)
-- J6_bitCount_0f7a4
set_option maxRecDepth 100000 in
def ctr_174 : CTR := (364, [.inl (-2147483648, 2147483647)], some (.inl (-2147483648, 2147483647)), [], [], 1, 0, [], [], [])
set_option maxRecDepth 100000 in
theorem cok_174 {KO : List Nat} (hK : KOK KO) : cOk KD0 KO G0 ctr_174 := chk_ok (G0_xOK hK.1) (chkS_ok (show chkS sgl0 [] ctr_174 = true by decide +kernel) hK.2) fm_n (show chk KD0 G0 (aX KD0) nX 2000 2 [] ctr_174 = true by decide +kernel)
