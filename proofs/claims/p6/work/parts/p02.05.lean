-- X0_pick
set_option maxRecDepth 100000 in
def ctr_125 : CTR := (7, [.inr (some 32), .inr none, .inl (1, 7), .inl (1, 2), .inl (1, 1)], some (.inl (0, 1)), [], [(21, 0)], 2, 0, [(22, [(0, .inr (some 32)), (1, .inr none), (3, .inl (1, 7)), (4, .inl (2, 2)), (5, .inl (1, 1)), (6, .inl (1, 64))], [], [], 128, [(6, -2)])])
set_option maxRecDepth 100000 in
theorem cok_125 {KO : List Nat} (hK : KOS KO) : cOk KD0 KO G0 ctr_125 := chk_ok (G0_xOK hK) (fm_c (cok_87 hK) fm_n) (show chk KD0 G0 (aX KD0) nX 2000 130 [ctr_87] ctr_125 = true by decide +kernel)
-- X0_pick
set_option maxRecDepth 100000 in
def ctr_126 : CTR := (7, [.inr (some 32), .inr none, .inl (1, 8), .inl (1, 2), .inl (1, 1)], some (.inl (0, 1)), [], [(21, 0)], 2, 0, [(22, [(0, .inr (some 32)), (1, .inr none), (3, .inl (1, 8)), (4, .inl (2, 2)), (5, .inl (1, 1)), (6, .inl (1, 64))], [], [], 128, [(6, -2)])])
set_option maxRecDepth 100000 in
theorem cok_126 {KO : List Nat} (hK : KOS KO) : cOk KD0 KO G0 ctr_126 := chk_ok (G0_xOK hK) (fm_c (cok_87 hK) fm_n) (show chk KD0 G0 (aX KD0) nX 2000 130 [ctr_87] ctr_126 = true by decide +kernel)
-- X0_pick
set_option maxRecDepth 100000 in
def ctr_127 : CTR := (7, [.inr (some 32), .inr none, .inl (1, 9), .inl (1, 2), .inl (1, 1)], some (.inl (0, 1)), [], [(21, 0)], 2, 0, [(22, [(0, .inr (some 32)), (1, .inr none), (3, .inl (1, 9)), (4, .inl (2, 2)), (5, .inl (1, 1)), (6, .inl (1, 64))], [], [], 128, [(6, -2)])])
set_option maxRecDepth 100000 in
theorem cok_127 {KO : List Nat} (hK : KOS KO) : cOk KD0 KO G0 ctr_127 := chk_ok (G0_xOK hK) (fm_c (cok_87 hK) fm_n) (show chk KD0 G0 (aX KD0) nX 2000 130 [ctr_87] ctr_127 = true by decide +kernel)
-- X0_pick
set_option maxRecDepth 100000 in
def ctr_128 : CTR := (7, [.inr (some 32), .inr none, .inl (1, 11), .inl (1, 2), .inl (1, 1)], some (.inl (0, 1)), [], [(21, 0)], 2, 0, [(22, [(0, .inr (some 32)), (1, .inr none), (3, .inl (1, 11)), (4, .inl (2, 2)), (5, .inl (1, 1)), (6, .inl (1, 64))], [], [], 128, [(6, -2)])])
set_option maxRecDepth 100000 in
theorem cok_128 {KO : List Nat} (hK : KOS KO) : cOk KD0 KO G0 ctr_128 := chk_ok (G0_xOK hK) (fm_c (cok_87 hK) fm_n) (show chk KD0 G0 (aX KD0) nX 2000 130 [ctr_87] ctr_128 = true by decide +kernel)
-- X0_pick
set_option maxRecDepth 100000 in
def ctr_129 : CTR := (7, [.inr (some 32), .inr none, .inl (1, 12), .inl (1, 2), .inl (1, 1)], some (.inl (0, 1)), [], [(21, 0)], 2, 0, [(22, [(0, .inr (some 32)), (1, .inr none), (3, .inl (1, 12)), (4, .inl (2, 2)), (5, .inl (1, 1)), (6, .inl (1, 64))], [], [], 128, [(6, -2)])])
set_option maxRecDepth 100000 in
theorem cok_129 {KO : List Nat} (hK : KOS KO) : cOk KD0 KO G0 ctr_129 := chk_ok (G0_xOK hK) (fm_c (cok_87 hK) fm_n) (show chk KD0 G0 (aX KD0) nX 2000 130 [ctr_87] ctr_129 = true by decide +kernel)
-- X0_pick
set_option maxRecDepth 100000 in
def ctr_130 : CTR := (7, [.inr (some 32), .inr none, .inl (1, 13), .inl (1, 2), .inl (1, 1)], some (.inl (0, 1)), [], [(21, 0)], 2, 0, [(22, [(0, .inr (some 32)), (1, .inr none), (3, .inl (1, 13)), (4, .inl (2, 2)), (5, .inl (1, 1)), (6, .inl (1, 64))], [], [], 128, [(6, -2)])])
set_option maxRecDepth 100000 in
theorem cok_130 {KO : List Nat} (hK : KOS KO) : cOk KD0 KO G0 ctr_130 := chk_ok (G0_xOK hK) (fm_c (cok_87 hK) fm_n) (show chk KD0 G0 (aX KD0) nX 2000 130 [ctr_87] ctr_130 = true by decide +kernel)
-- X0_pick
set_option maxRecDepth 100000 in
def ctr_131 : CTR := (7, [.inr (some 32), .inr none, .inl (1, 14), .inl (1, 2), .inl (1, 1)], some (.inl (0, 1)), [], [(21, 0)], 2, 0, [(22, [(0, .inr (some 32)), (1, .inr none), (3, .inl (1, 14)), (4, .inl (2, 2)), (5, .inl (1, 1)), (6, .inl (1, 64))], [], [], 128, [(6, -2)])])
set_option maxRecDepth 100000 in
theorem cok_131 {KO : List Nat} (hK : KOS KO) : cOk KD0 KO G0 ctr_131 := chk_ok (G0_xOK hK) (fm_c (cok_87 hK) fm_n) (show chk KD0 G0 (aX KD0) nX 2000 130 [ctr_87] ctr_131 = true by decide +kernel)
-- X0_pick
set_option maxRecDepth 100000 in
def ctr_132 : CTR := (7, [.inr (some 32), .inr none, .inl (1, 16), .inl (1, 2), .inl (1, 1)], some (.inl (0, 1)), [], [(21, 0)], 2, 0, [(22, [(0, .inr (some 32)), (1, .inr none), (3, .inl (1, 16)), (4, .inl (2, 2)), (5, .inl (1, 1)), (6, .inl (1, 64))], [], [], 128, [(6, -2)])])
set_option maxRecDepth 100000 in
theorem cok_132 {KO : List Nat} (hK : KOS KO) : cOk KD0 KO G0 ctr_132 := chk_ok (G0_xOK hK) (fm_c (cok_87 hK) fm_n) (show chk KD0 G0 (aX KD0) nX 2000 130 [ctr_87] ctr_132 = true by decide +kernel)
-- X0_pick
set_option maxRecDepth 100000 in
def ctr_133 : CTR := (7, [.inr (some 32), .inr none, .inl (1, 17), .inl (1, 2), .inl (1, 1)], some (.inl (0, 1)), [], [(21, 0)], 2, 0, [(22, [(0, .inr (some 32)), (1, .inr none), (3, .inl (1, 17)), (4, .inl (2, 2)), (5, .inl (1, 1)), (6, .inl (1, 64))], [], [], 128, [(6, -2)])])
set_option maxRecDepth 100000 in
theorem cok_133 {KO : List Nat} (hK : KOS KO) : cOk KD0 KO G0 ctr_133 := chk_ok (G0_xOK hK) (fm_c (cok_87 hK) fm_n) (show chk KD0 G0 (aX KD0) nX 2000 130 [ctr_87] ctr_133 = true by decide +kernel)
-- X0_pick
set_option maxRecDepth 100000 in
def ctr_134 : CTR := (7, [.inr (some 32), .inr none, .inl (1, 32), .inl (1, 2), .inl (1, 1)], some (.inl (0, 1)), [], [(21, 0)], 2, 0, [(22, [(0, .inr (some 32)), (1, .inr none), (3, .inl (1, 32)), (4, .inl (2, 2)), (5, .inl (1, 1)), (6, .inl (1, 64))], [], [], 128, [(6, -2)])])
set_option maxRecDepth 100000 in
theorem cok_134 {KO : List Nat} (hK : KOS KO) : cOk KD0 KO G0 ctr_134 := chk_ok (G0_xOK hK) (fm_c (cok_87 hK) fm_n) (show chk KD0 G0 (aX KD0) nX 2000 130 [ctr_87] ctr_134 = true by decide +kernel)
-- X0_pick
set_option maxRecDepth 100000 in
def ctr_135 : CTR := (7, [.inr (some 32), .inr none, .inl (1, 64), .inl (1, 2), .inl (1, 1)], some (.inl (0, 1)), [], [(21, 0)], 2, 0, [(22, [(0, .inr (some 32)), (1, .inr none), (3, .inl (1, 64)), (4, .inl (2, 2)), (5, .inl (1, 1)), (6, .inl (1, 64))], [], [], 128, [(6, -2)])])
set_option maxRecDepth 100000 in
theorem cok_135 {KO : List Nat} (hK : KOS KO) : cOk KD0 KO G0 ctr_135 := chk_ok (G0_xOK hK) (fm_c (cok_87 hK) fm_n) (show chk KD0 G0 (aX KD0) nX 2000 130 [ctr_87] ctr_135 = true by decide +kernel)
-- X0_pick
set_option maxRecDepth 100000 in
def ctr_136 : CTR := (7, [.inr (some 32), .inr none, .inl (0, 0), .inl (1, 2), .inl (0, 0)], some (.inl (0, 1)), [], [(21, 0)], 3, 0, [(22, [(0, .inr (some 32)), (1, .inr none), (3, .inl (0, 0)), (4, .inl (1, 2)), (5, .inl (0, 0)), (6, .inl (0, 64))], [], [], 128, [(6, -2)])])
set_option maxRecDepth 100000 in
theorem cok_136 {KO : List Nat} (hK : KOS KO) : cOk KD0 KO G0 ctr_136 := chk_ok (G0_xOK hK) (fm_c (cok_87 hK) (fm_c (cok_119 hK) (fm_c (cok_120 hK) (fm_c (cok_121 hK) (fm_c (cok_122 hK) (fm_c (cok_123 hK) (fm_c (cok_124 hK) (fm_c (cok_125 hK) (fm_c (cok_126 hK) (fm_c (cok_127 hK) (fm_c (cok_128 hK) (fm_c (cok_129 hK) (fm_c (cok_130 hK) (fm_c (cok_131 hK) (fm_c (cok_132 hK) (fm_c (cok_133 hK) (fm_c (cok_134 hK) (fm_c (cok_135 hK) fm_n)))))))))))))))))) (show chk KD0 G0 (aX KD0) nX 2000 132 [ctr_87, ctr_119, ctr_120, ctr_121, ctr_122, ctr_123, ctr_124, ctr_125, ctr_126, ctr_127, ctr_128, ctr_129, ctr_130, ctr_131, ctr_132, ctr_133, ctr_134, ctr_135] ctr_136 = true by decide +kernel)
-- X0_pick
set_option maxRecDepth 100000 in
def ctr_137 : CTR := (7, [.inr (some 32), .inr none, .inl (2, 2), .inl (2, 3), .inl (2, 2)], some (.inl (0, 1)), [], [(21, 0)], 2, 0, [(22, [(0, .inr (some 32)), (1, .inr none), (3, .inl (2, 2)), (4, .inl (3, 3)), (5, .inl (2, 2)), (6, .inl (2, 64))], [], [], 128, [(6, -2)])])
set_option maxRecDepth 100000 in
theorem cok_137 {KO : List Nat} (hK : KOS KO) : cOk KD0 KO G0 ctr_137 := chk_ok (G0_xOK hK) (fm_c (cok_87 hK) fm_n) (show chk KD0 G0 (aX KD0) nX 2000 128 [ctr_87] ctr_137 = true by decide +kernel)
-- X0_pick
set_option maxRecDepth 100000 in
def ctr_138 : CTR := (7, [.inr (some 32), .inr none, .inl (2, 3), .inl (2, 3), .inl (2, 2)], some (.inl (0, 1)), [], [(21, 0)], 2, 0, [(22, [(0, .inr (some 32)), (1, .inr none), (3, .inl (2, 3)), (4, .inl (3, 3)), (5, .inl (2, 2)), (6, .inl (2, 64))], [], [], 128, [(6, -2)])])
set_option maxRecDepth 100000 in
theorem cok_138 {KO : List Nat} (hK : KOS KO) : cOk KD0 KO G0 ctr_138 := chk_ok (G0_xOK hK) (fm_c (cok_87 hK) fm_n) (show chk KD0 G0 (aX KD0) nX 2000 128 [ctr_87] ctr_138 = true by decide +kernel)
-- X0_pick
set_option maxRecDepth 100000 in
def ctr_139 : CTR := (7, [.inr (some 32), .inr none, .inl (2, 4), .inl (2, 3), .inl (2, 2)], some (.inl (0, 1)), [], [(21, 0)], 2, 0, [(22, [(0, .inr (some 32)), (1, .inr none), (3, .inl (2, 4)), (4, .inl (3, 3)), (5, .inl (2, 2)), (6, .inl (2, 64))], [], [], 128, [(6, -2)])])
set_option maxRecDepth 100000 in
theorem cok_139 {KO : List Nat} (hK : KOS KO) : cOk KD0 KO G0 ctr_139 := chk_ok (G0_xOK hK) (fm_c (cok_87 hK) fm_n) (show chk KD0 G0 (aX KD0) nX 2000 128 [ctr_87] ctr_139 = true by decide +kernel)
-- X0_pick
set_option maxRecDepth 100000 in
def ctr_140 : CTR := (7, [.inr (some 32), .inr none, .inl (2, 5), .inl (2, 3), .inl (2, 2)], some (.inl (0, 1)), [], [(21, 0)], 2, 0, [(22, [(0, .inr (some 32)), (1, .inr none), (3, .inl (2, 5)), (4, .inl (3, 3)), (5, .inl (2, 2)), (6, .inl (2, 64))], [], [], 128, [(6, -2)])])
set_option maxRecDepth 100000 in
theorem cok_140 {KO : List Nat} (hK : KOS KO) : cOk KD0 KO G0 ctr_140 := chk_ok (G0_xOK hK) (fm_c (cok_87 hK) fm_n) (show chk KD0 G0 (aX KD0) nX 2000 128 [ctr_87] ctr_140 = true by decide +kernel)
-- X0_pick
set_option maxRecDepth 100000 in
def ctr_141 : CTR := (7, [.inr (some 32), .inr none, .inl (2, 6), .inl (2, 3), .inl (2, 2)], some (.inl (0, 1)), [], [(21, 0)], 2, 0, [(22, [(0, .inr (some 32)), (1, .inr none), (3, .inl (2, 6)), (4, .inl (3, 3)), (5, .inl (2, 2)), (6, .inl (2, 64))], [], [], 128, [(6, -2)])])
set_option maxRecDepth 100000 in
theorem cok_141 {KO : List Nat} (hK : KOS KO) : cOk KD0 KO G0 ctr_141 := chk_ok (G0_xOK hK) (fm_c (cok_87 hK) fm_n) (show chk KD0 G0 (aX KD0) nX 2000 128 [ctr_87] ctr_141 = true by decide +kernel)
-- X0_pick
set_option maxRecDepth 100000 in
def ctr_142 : CTR := (7, [.inr (some 32), .inr none, .inl (2, 7), .inl (2, 3), .inl (2, 2)], some (.inl (0, 1)), [], [(21, 0)], 2, 0, [(22, [(0, .inr (some 32)), (1, .inr none), (3, .inl (2, 7)), (4, .inl (3, 3)), (5, .inl (2, 2)), (6, .inl (2, 64))], [], [], 128, [(6, -2)])])
set_option maxRecDepth 100000 in
theorem cok_142 {KO : List Nat} (hK : KOS KO) : cOk KD0 KO G0 ctr_142 := chk_ok (G0_xOK hK) (fm_c (cok_87 hK) fm_n) (show chk KD0 G0 (aX KD0) nX 2000 128 [ctr_87] ctr_142 = true by decide +kernel)
-- X0_pick
set_option maxRecDepth 100000 in
def ctr_143 : CTR := (7, [.inr (some 32), .inr none, .inl (2, 8), .inl (2, 3), .inl (2, 2)], some (.inl (0, 1)), [], [(21, 0)], 2, 0, [(22, [(0, .inr (some 32)), (1, .inr none), (3, .inl (2, 8)), (4, .inl (3, 3)), (5, .inl (2, 2)), (6, .inl (2, 64))], [], [], 128, [(6, -2)])])
set_option maxRecDepth 100000 in
theorem cok_143 {KO : List Nat} (hK : KOS KO) : cOk KD0 KO G0 ctr_143 := chk_ok (G0_xOK hK) (fm_c (cok_87 hK) fm_n) (show chk KD0 G0 (aX KD0) nX 2000 128 [ctr_87] ctr_143 = true by decide +kernel)
-- X0_pick
set_option maxRecDepth 100000 in
def ctr_144 : CTR := (7, [.inr (some 32), .inr none, .inl (2, 9), .inl (2, 3), .inl (2, 2)], some (.inl (0, 1)), [], [(21, 0)], 2, 0, [(22, [(0, .inr (some 32)), (1, .inr none), (3, .inl (2, 9)), (4, .inl (3, 3)), (5, .inl (2, 2)), (6, .inl (2, 64))], [], [], 128, [(6, -2)])])
set_option maxRecDepth 100000 in
theorem cok_144 {KO : List Nat} (hK : KOS KO) : cOk KD0 KO G0 ctr_144 := chk_ok (G0_xOK hK) (fm_c (cok_87 hK) fm_n) (show chk KD0 G0 (aX KD0) nX 2000 128 [ctr_87] ctr_144 = true by decide +kernel)
-- X0_pick
set_option maxRecDepth 100000 in
def ctr_145 : CTR := (7, [.inr (some 32), .inr none, .inl (2, 11), .inl (2, 3), .inl (2, 2)], some (.inl (0, 1)), [], [(21, 0)], 2, 0, [(22, [(0, .inr (some 32)), (1, .inr none), (3, .inl (2, 11)), (4, .inl (3, 3)), (5, .inl (2, 2)), (6, .inl (2, 64))], [], [], 128, [(6, -2)])])
set_option maxRecDepth 100000 in
theorem cok_145 {KO : List Nat} (hK : KOS KO) : cOk KD0 KO G0 ctr_145 := chk_ok (G0_xOK hK) (fm_c (cok_87 hK) fm_n) (show chk KD0 G0 (aX KD0) nX 2000 128 [ctr_87] ctr_145 = true by decide +kernel)
-- X0_pick
set_option maxRecDepth 100000 in
def ctr_146 : CTR := (7, [.inr (some 32), .inr none, .inl (2, 12), .inl (2, 3), .inl (2, 2)], some (.inl (0, 1)), [], [(21, 0)], 2, 0, [(22, [(0, .inr (some 32)), (1, .inr none), (3, .inl (2, 12)), (4, .inl (3, 3)), (5, .inl (2, 2)), (6, .inl (2, 64))], [], [], 128, [(6, -2)])])
set_option maxRecDepth 100000 in
theorem cok_146 {KO : List Nat} (hK : KOS KO) : cOk KD0 KO G0 ctr_146 := chk_ok (G0_xOK hK) (fm_c (cok_87 hK) fm_n) (show chk KD0 G0 (aX KD0) nX 2000 128 [ctr_87] ctr_146 = true by decide +kernel)
-- X0_pick
set_option maxRecDepth 100000 in
def ctr_147 : CTR := (7, [.inr (some 32), .inr none, .inl (2, 13), .inl (2, 3), .inl (2, 2)], some (.inl (0, 1)), [], [(21, 0)], 2, 0, [(22, [(0, .inr (some 32)), (1, .inr none), (3, .inl (2, 13)), (4, .inl (3, 3)), (5, .inl (2, 2)), (6, .inl (2, 64))], [], [], 128, [(6, -2)])])
set_option maxRecDepth 100000 in
theorem cok_147 {KO : List Nat} (hK : KOS KO) : cOk KD0 KO G0 ctr_147 := chk_ok (G0_xOK hK) (fm_c (cok_87 hK) fm_n) (show chk KD0 G0 (aX KD0) nX 2000 128 [ctr_87] ctr_147 = true by decide +kernel)
-- X0_pick
set_option maxRecDepth 100000 in
def ctr_148 : CTR := (7, [.inr (some 32), .inr none, .inl (2, 14), .inl (2, 3), .inl (2, 2)], some (.inl (0, 1)), [], [(21, 0)], 2, 0, [(22, [(0, .inr (some 32)), (1, .inr none), (3, .inl (2, 14)), (4, .inl (3, 3)), (5, .inl (2, 2)), (6, .inl (2, 64))], [], [], 128, [(6, -2)])])
set_option maxRecDepth 100000 in
theorem cok_148 {KO : List Nat} (hK : KOS KO) : cOk KD0 KO G0 ctr_148 := chk_ok (G0_xOK hK) (fm_c (cok_87 hK) fm_n) (show chk KD0 G0 (aX KD0) nX 2000 128 [ctr_87] ctr_148 = true by decide +kernel)
-- X0_pick
set_option maxRecDepth 100000 in
def ctr_149 : CTR := (7, [.inr (some 32), .inr none, .inl (2, 16), .inl (2, 3), .inl (2, 2)], some (.inl (0, 1)), [], [(21, 0)], 2, 0, [(22, [(0, .inr (some 32)), (1, .inr none), (3, .inl (2, 16)), (4, .inl (3, 3)), (5, .inl (2, 2)), (6, .inl (2, 64))], [], [], 128, [(6, -2)])])
set_option maxRecDepth 100000 in
theorem cok_149 {KO : List Nat} (hK : KOS KO) : cOk KD0 KO G0 ctr_149 := chk_ok (G0_xOK hK) (fm_c (cok_87 hK) fm_n) (show chk KD0 G0 (aX KD0) nX 2000 128 [ctr_87] ctr_149 = true by decide +kernel)
