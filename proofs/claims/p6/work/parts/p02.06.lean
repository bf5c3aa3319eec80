-- X0_pick
set_option maxRecDepth 100000 in
def ctr_150 : CTR := (7, [.inr (some 32), .inr none, .inl (2, 17), .inl (2, 3), .inl (2, 2)], some (.inl (0, 1)), [], [(21, 0)], 2, 0, [(22, [(0, .inr (some 32)), (1, .inr none), (3, .inl (2, 17)), (4, .inl (3, 3)), (5, .inl (2, 2)), (6, .inl (2, 64))], [], [], 128, [(6, -2)])])
set_option maxRecDepth 100000 in
theorem cok_150 {KO : List Nat} (hK : KOS KO) : cOk KD0 KO G0 ctr_150 := chk_ok (G0_xOK hK) (fm_c (cok_87 hK) fm_n) (show chk KD0 G0 (aX KD0) nX 2000 128 [ctr_87] ctr_150 = true by decide +kernel)
-- X0_pick
set_option maxRecDepth 100000 in
def ctr_151 : CTR := (7, [.inr (some 32), .inr none, .inl (2, 32), .inl (2, 3), .inl (2, 2)], some (.inl (0, 1)), [], [(21, 0)], 2, 0, [(22, [(0, .inr (some 32)), (1, .inr none), (3, .inl (2, 32)), (4, .inl (3, 3)), (5, .inl (2, 2)), (6, .inl (2, 64))], [], [], 128, [(6, -2)])])
set_option maxRecDepth 100000 in
theorem cok_151 {KO : List Nat} (hK : KOS KO) : cOk KD0 KO G0 ctr_151 := chk_ok (G0_xOK hK) (fm_c (cok_87 hK) fm_n) (show chk KD0 G0 (aX KD0) nX 2000 128 [ctr_87] ctr_151 = true by decide +kernel)
-- X0_pick
set_option maxRecDepth 100000 in
def ctr_152 : CTR := (7, [.inr (some 32), .inr none, .inl (2, 64), .inl (2, 3), .inl (2, 2)], some (.inl (0, 1)), [], [(21, 0)], 2, 0, [(22, [(0, .inr (some 32)), (1, .inr none), (3, .inl (2, 64)), (4, .inl (3, 3)), (5, .inl (2, 2)), (6, .inl (2, 64))], [], [], 128, [(6, -2)])])
set_option maxRecDepth 100000 in
theorem cok_152 {KO : List Nat} (hK : KOS KO) : cOk KD0 KO G0 ctr_152 := chk_ok (G0_xOK hK) (fm_c (cok_87 hK) fm_n) (show chk KD0 G0 (aX KD0) nX 2000 128 [ctr_87] ctr_152 = true by decide +kernel)
-- X0_pick
set_option maxRecDepth 100000 in
def ctr_153 : CTR := (7, [.inr (some 32), .inr none, .inl (1, 1), .inl (1, 3), .inl (1, 1)], some (.inl (0, 1)), [], [(21, 0)], 3, 0, [(22, [(0, .inr (some 32)), (1, .inr none), (3, .inl (1, 1)), (4, .inl (2, 3)), (5, .inl (1, 1)), (6, .inl (1, 64))], [], [], 128, [(6, -2)])])
set_option maxRecDepth 100000 in
theorem cok_153 {KO : List Nat} (hK : KOS KO) : cOk KD0 KO G0 ctr_153 := chk_ok (G0_xOK hK) (fm_c (cok_87 hK) (fm_c (cok_137 hK) (fm_c (cok_138 hK) (fm_c (cok_139 hK) (fm_c (cok_140 hK) (fm_c (cok_141 hK) (fm_c (cok_142 hK) (fm_c (cok_143 hK) (fm_c (cok_144 hK) (fm_c (cok_145 hK) (fm_c (cok_146 hK) (fm_c (cok_147 hK) (fm_c (cok_148 hK) (fm_c (cok_149 hK) (fm_c (cok_150 hK) (fm_c (cok_151 hK) (fm_c (cok_152 hK) fm_n))))))))))))))))) (show chk KD0 G0 (aX KD0) nX 2000 130 [ctr_87, ctr_137, ctr_138, ctr_139, ctr_140, ctr_141, ctr_142, ctr_143, ctr_144, ctr_145, ctr_146, ctr_147, ctr_148, ctr_149, ctr_150, ctr_151, ctr_152] ctr_153 = true by decide +kernel)
-- X0_pick
set_option maxRecDepth 100000 in
def ctr_154 : CTR := (7, [.inr (some 32), .inr none, .inl (1, 2), .inl (1, 3), .inl (1, 1)], some (.inl (0, 1)), [], [(21, 0)], 3, 0, [(22, [(0, .inr (some 32)), (1, .inr none), (3, .inl (1, 2)), (4, .inl (2, 3)), (5, .inl (1, 1)), (6, .inl (1, 64))], [], [], 128, [(6, -2)])])
set_option maxRecDepth 100000 in
theorem cok_154 {KO : List Nat} (hK : KOS KO) : cOk KD0 KO G0 ctr_154 := chk_ok (G0_xOK hK) (fm_c (cok_87 hK) (fm_c (cok_138 hK) (fm_c (cok_139 hK) (fm_c (cok_140 hK) (fm_c (cok_141 hK) (fm_c (cok_142 hK) (fm_c (cok_143 hK) (fm_c (cok_144 hK) (fm_c (cok_145 hK) (fm_c (cok_146 hK) (fm_c (cok_147 hK) (fm_c (cok_148 hK) (fm_c (cok_149 hK) (fm_c (cok_150 hK) (fm_c (cok_151 hK) (fm_c (cok_152 hK) fm_n)))))))))))))))) (show chk KD0 G0 (aX KD0) nX 2000 130 [ctr_87, ctr_138, ctr_139, ctr_140, ctr_141, ctr_142, ctr_143, ctr_144, ctr_145, ctr_146, ctr_147, ctr_148, ctr_149, ctr_150, ctr_151, ctr_152] ctr_154 = true by decide +kernel)
-- X0_pick
set_option maxRecDepth 100000 in
def ctr_155 : CTR := (7, [.inr (some 32), .inr none, .inl (1, 3), .inl (1, 3), .inl (1, 1)], some (.inl (0, 1)), [], [(21, 0)], 3, 0, [(22, [(0, .inr (some 32)), (1, .inr none), (3, .inl (1, 3)), (4, .inl (2, 3)), (5, .inl (1, 1)), (6, .inl (1, 64))], [], [], 128, [(6, -2)])])
set_option maxRecDepth 100000 in
theorem cok_155 {KO : List Nat} (hK : KOS KO) : cOk KD0 KO G0 ctr_155 := chk_ok (G0_xOK hK) (fm_c (cok_87 hK) (fm_c (cok_139 hK) (fm_c (cok_140 hK) (fm_c (cok_141 hK) (fm_c (cok_142 hK) (fm_c (cok_143 hK) (fm_c (cok_144 hK) (fm_c (cok_145 hK) (fm_c (cok_146 hK) (fm_c (cok_147 hK) (fm_c (cok_148 hK) (fm_c (cok_149 hK) (fm_c (cok_150 hK) (fm_c (cok_151 hK) (fm_c (cok_152 hK) fm_n))))))))))))))) (show chk KD0 G0 (aX KD0) nX 2000 130 [ctr_87, ctr_139, ctr_140, ctr_141, ctr_142, ctr_143, ctr_144, ctr_145, ctr_146, ctr_147, ctr_148, ctr_149, ctr_150, ctr_151, ctr_152] ctr_155 = true by decide +kernel)
-- X0_pick
set_option maxRecDepth 100000 in
def ctr_156 : CTR := (7, [.inr (some 32), .inr none, .inl (1, 4), .inl (1, 3), .inl (1, 1)], some (.inl (0, 1)), [], [(21, 0)], 3, 0, [(22, [(0, .inr (some 32)), (1, .inr none), (3, .inl (1, 4)), (4, .inl (2, 3)), (5, .inl (1, 1)), (6, .inl (1, 64))], [], [], 128, [(6, -2)])])
set_option maxRecDepth 100000 in
theorem cok_156 {KO : List Nat} (hK : KOS KO) : cOk KD0 KO G0 ctr_156 := chk_ok (G0_xOK hK) (fm_c (cok_87 hK) (fm_c (cok_140 hK) (fm_c (cok_141 hK) (fm_c (cok_142 hK) (fm_c (cok_143 hK) (fm_c (cok_144 hK) (fm_c (cok_145 hK) (fm_c (cok_146 hK) (fm_c (cok_147 hK) (fm_c (cok_148 hK) (fm_c (cok_149 hK) (fm_c (cok_150 hK) (fm_c (cok_151 hK) (fm_c (cok_152 hK) fm_n)))))))))))))) (show chk KD0 G0 (aX KD0) nX 2000 130 [ctr_87, ctr_140, ctr_141, ctr_142, ctr_143, ctr_144, ctr_145, ctr_146, ctr_147, ctr_148, ctr_149, ctr_150, ctr_151, ctr_152] ctr_156 = true by decide +kernel)
-- X0_pick
set_option maxRecDepth 100000 in
def ctr_157 : CTR := (7, [.inr (some 32), .inr none, .inl (1, 5), .inl (1, 3), .inl (1, 1)], some (.inl (0, 1)), [], [(21, 0)], 3, 0, [(22, [(0, .inr (some 32)), (1, .inr none), (3, .inl (1, 5)), (4, .inl (2, 3)), (5, .inl (1, 1)), (6, .inl (1, 64))], [], [], 128, [(6, -2)])])
set_option maxRecDepth 100000 in
theorem cok_157 {KO : List Nat} (hK : KOS KO) : cOk KD0 KO G0 ctr_157 := chk_ok (G0_xOK hK) (fm_c (cok_87 hK) (fm_c (cok_141 hK) (fm_c (cok_142 hK) (fm_c (cok_143 hK) (fm_c (cok_144 hK) (fm_c (cok_145 hK) (fm_c (cok_146 hK) (fm_c (cok_147 hK) (fm_c (cok_148 hK) (fm_c (cok_149 hK) (fm_c (cok_150 hK) (fm_c (cok_151 hK) (fm_c (cok_152 hK) fm_n))))))))))))) (show chk KD0 G0 (aX KD0) nX 2000 130 [ctr_87, ctr_141, ctr_142, ctr_143, ctr_144, ctr_145, ctr_146, ctr_147, ctr_148, ctr_149, ctr_150, ctr_151, ctr_152] ctr_157 = true by decide +kernel)
-- X0_pick
set_option maxRecDepth 100000 in
def ctr_158 : CTR := (7, [.inr (some 32), .inr none, .inl (1, 6), .inl (1, 3), .inl (1, 1)], some (.inl (0, 1)), [], [(21, 0)], 3, 0, [(22, [(0, .inr (some 32)), (1, .inr none), (3, .inl (1, 6)), (4, .inl (2, 3)), (5, .inl (1, 1)), (6, .inl (1, 64))], [], [], 128, [(6, -2)])])
set_option maxRecDepth 100000 in
theorem cok_158 {KO : List Nat} (hK : KOS KO) : cOk KD0 KO G0 ctr_158 := chk_ok (G0_xOK hK) (fm_c (cok_87 hK) (fm_c (cok_142 hK) (fm_c (cok_143 hK) (fm_c (cok_144 hK) (fm_c (cok_145 hK) (fm_c (cok_146 hK) (fm_c (cok_147 hK) (fm_c (cok_148 hK) (fm_c (cok_149 hK) (fm_c (cok_150 hK) (fm_c (cok_151 hK) (fm_c (cok_152 hK) fm_n)))))))))))) (show chk KD0 G0 (aX KD0) nX 2000 130 [ctr_87, ctr_142, ctr_143, ctr_144, ctr_145, ctr_146, ctr_147, ctr_148, ctr_149, ctr_150, ctr_151, ctr_152] ctr_158 = true by decide +kernel)
-- X0_pick
set_option maxRecDepth 100000 in
def ctr_159 : CTR := (7, [.inr (some 32), .inr none, .inl (1, 7), .inl (1, 3), .inl (1, 1)], some (.inl (0, 1)), [], [(21, 0)], 3, 0, [(22, [(0, .inr (some 32)), (1, .inr none), (3, .inl (1, 7)), (4, .inl (2, 3)), (5, .inl (1, 1)), (6, .inl (1, 64))], [], [], 128, [(6, -2)])])
set_option maxRecDepth 100000 in
theorem cok_159 {KO : List Nat} (hK : KOS KO) : cOk KD0 KO G0 ctr_159 := chk_ok (G0_xOK hK) (fm_c (cok_87 hK) (fm_c (cok_143 hK) (fm_c (cok_144 hK) (fm_c (cok_145 hK) (fm_c (cok_146 hK) (fm_c (cok_147 hK) (fm_c (cok_148 hK) (fm_c (cok_149 hK) (fm_c (cok_150 hK) (fm_c (cok_151 hK) (fm_c (cok_152 hK) fm_n))))))))))) (show chk KD0 G0 (aX KD0) nX 2000 130 [ctr_87, ctr_143, ctr_144, ctr_145, ctr_146, ctr_147, ctr_148, ctr_149, ctr_150, ctr_151, ctr_152] ctr_159 = true by decide +kernel)
-- X0_pick
set_option maxRecDepth 100000 in
def ctr_160 : CTR := (7, [.inr (some 32), .inr none, .inl (1, 8), .inl (1, 3), .inl (1, 1)], some (.inl (0, 1)), [], [(21, 0)], 3, 0, [(22, [(0, .inr (some 32)), (1, .inr none), (3, .inl (1, 8)), (4, .inl (2, 3)), (5, .inl (1, 1)), (6, .inl (1, 64))], [], [], 128, [(6, -2)])])
set_option maxRecDepth 100000 in
theorem cok_160 {KO : List Nat} (hK : KOS KO) : cOk KD0 KO G0 ctr_160 := chk_ok (G0_xOK hK) (fm_c (cok_87 hK) (fm_c (cok_144 hK) (fm_c (cok_145 hK) (fm_c (cok_146 hK) (fm_c (cok_147 hK) (fm_c (cok_148 hK) (fm_c (cok_149 hK) (fm_c (cok_150 hK) (fm_c (cok_151 hK) (fm_c (cok_152 hK) fm_n)))))))))) (show chk KD0 G0 (aX KD0) nX 2000 130 [ctr_87, ctr_144, ctr_145, ctr_146, ctr_147, ctr_148, ctr_149, ctr_150, ctr_151, ctr_152] ctr_160 = true by decide +kernel)
-- X0_pick
set_option maxRecDepth 100000 in
def ctr_161 : CTR := (7, [.inr (some 32), .inr none, .inl (1, 9), .inl (1, 3), .inl (1, 1)], some (.inl (0, 1)), [], [(21, 0)], 3, 0, [(22, [(0, .inr (some 32)), (1, .inr none), (3, .inl (1, 9)), (4, .inl (2, 3)), (5, .inl (1, 1)), (6, .inl (1, 64))], [], [], 128, [(6, -2)])])
set_option maxRecDepth 100000 in
theorem cok_161 {KO : List Nat} (hK : KOS KO) : cOk KD0 KO G0 ctr_161 := chk_ok (G0_xOK hK) (fm_c (cok_87 hK) (fm_c (cok_145 hK) (fm_c (cok_146 hK) (fm_c (cok_147 hK) (fm_c (cok_148 hK) (fm_c (cok_149 hK) (fm_c (cok_150 hK) (fm_c (cok_151 hK) (fm_c (cok_152 hK) fm_n))))))))) (show chk KD0 G0 (aX KD0) nX 2000 130 [ctr_87, ctr_145, ctr_146, ctr_147, ctr_148, ctr_149, ctr_150, ctr_151, ctr_152] ctr_161 = true by decide +kernel)
-- X0_pick
set_option maxRecDepth 100000 in
def ctr_162 : CTR := (7, [.inr (some 32), .inr none, .inl (1, 11), .inl (1, 3), .inl (1, 1)], some (.inl (0, 1)), [], [(21, 0)], 3, 0, [(22, [(0, .inr (some 32)), (1, .inr none), (3, .inl (1, 11)), (4, .inl (2, 3)), (5, .inl (1, 1)), (6, .inl (1, 64))], [], [], 128, [(6, -2)])])
set_option maxRecDepth 100000 in
theorem cok_162 {KO : List Nat} (hK : KOS KO) : cOk KD0 KO G0 ctr_162 := chk_ok (G0_xOK hK) (fm_c (cok_87 hK) (fm_c (cok_146 hK) (fm_c (cok_147 hK) (fm_c (cok_148 hK) (fm_c (cok_149 hK) (fm_c (cok_150 hK) (fm_c (cok_151 hK) (fm_c (cok_152 hK) fm_n)))))))) (show chk KD0 G0 (aX KD0) nX 2000 130 [ctr_87, ctr_146, ctr_147, ctr_148, ctr_149, ctr_150, ctr_151, ctr_152] ctr_162 = true by decide +kernel)
-- X0_pick
set_option maxRecDepth 100000 in
def ctr_163 : CTR := (7, [.inr (some 32), .inr none, .inl (1, 12), .inl (1, 3), .inl (1, 1)], some (.inl (0, 1)), [], [(21, 0)], 3, 0, [(22, [(0, .inr (some 32)), (1, .inr none), (3, .inl (1, 12)), (4, .inl (2, 3)), (5, .inl (1, 1)), (6, .inl (1, 64))], [], [], 128, [(6, -2)])])
set_option maxRecDepth 100000 in
theorem cok_163 {KO : List Nat} (hK : KOS KO) : cOk KD0 KO G0 ctr_163 := chk_ok (G0_xOK hK) (fm_c (cok_87 hK) (fm_c (cok_147 hK) (fm_c (cok_148 hK) (fm_c (cok_149 hK) (fm_c (cok_150 hK) (fm_c (cok_151 hK) (fm_c (cok_152 hK) fm_n))))))) (show chk KD0 G0 (aX KD0) nX 2000 130 [ctr_87, ctr_147, ctr_148, ctr_149, ctr_150, ctr_151, ctr_152] ctr_163 = true by decide +kernel)
-- X0_pick
set_option maxRecDepth 100000 in
def ctr_164 : CTR := (7, [.inr (some 32), .inr none, .inl (1, 13), .inl (1, 3), .inl (1, 1)], some (.inl (0, 1)), [], [(21, 0)], 3, 0, [(22, [(0, .inr (some 32)), (1, .inr none), (3, .inl (1, 13)), (4, .inl (2, 3)), (5, .inl (1, 1)), (6, .inl (1, 64))], [], [], 128, [(6, -2)])])
set_option maxRecDepth 100000 in
theorem cok_164 {KO : List Nat} (hK : KOS KO) : cOk KD0 KO G0 ctr_164 := chk_ok (G0_xOK hK) (fm_c (cok_87 hK) (fm_c (cok_148 hK) (fm_c (cok_149 hK) (fm_c (cok_150 hK) (fm_c (cok_151 hK) (fm_c (cok_152 hK) fm_n)))))) (show chk KD0 G0 (aX KD0) nX 2000 130 [ctr_87, ctr_148, ctr_149, ctr_150, ctr_151, ctr_152] ctr_164 = true by decide +kernel)
-- X0_pick
set_option maxRecDepth 100000 in
def ctr_165 : CTR := (7, [.inr (some 32), .inr none, .inl (1, 14), .inl (1, 3), .inl (1, 1)], some (.inl (0, 1)), [], [(21, 0)], 3, 0, [(22, [(0, .inr (some 32)), (1, .inr none), (3, .inl (1, 14)), (4, .inl (2, 3)), (5, .inl (1, 1)), (6, .inl (1, 64))], [], [], 128, [(6, -2)])])
set_option maxRecDepth 100000 in
theorem cok_165 {KO : List Nat} (hK : KOS KO) : cOk KD0 KO G0 ctr_165 := chk_ok (G0_xOK hK) (fm_c (cok_87 hK) (fm_c (cok_149 hK) (fm_c (cok_150 hK) (fm_c (cok_151 hK) (fm_c (cok_152 hK) fm_n))))) (show chk KD0 G0 (aX KD0) nX 2000 130 [ctr_87, ctr_149, ctr_150, ctr_151, ctr_152] ctr_165 = true by decide +kernel)
-- X0_pick
set_option maxRecDepth 100000 in
def ctr_166 : CTR := (7, [.inr (some 32), .inr none, .inl (1, 16), .inl (1, 3), .inl (1, 1)], some (.inl (0, 1)), [], [(21, 0)], 3, 0, [(22, [(0, .inr (some 32)), (1, .inr none), (3, .inl (1, 16)), (4, .inl (2, 3)), (5, .inl (1, 1)), (6, .inl (1, 64))], [], [], 128, [(6, -2)])])
set_option maxRecDepth 100000 in
theorem cok_166 {KO : List Nat} (hK : KOS KO) : cOk KD0 KO G0 ctr_166 := chk_ok (G0_xOK hK) (fm_c (cok_87 hK) (fm_c (cok_150 hK) (fm_c (cok_151 hK) (fm_c (cok_152 hK) fm_n)))) (show chk KD0 G0 (aX KD0) nX 2000 130 [ctr_87, ctr_150, ctr_151, ctr_152] ctr_166 = true by decide +kernel)
-- X0_pick
set_option maxRecDepth 100000 in
def ctr_167 : CTR := (7, [.inr (some 32), .inr none, .inl (1, 17), .inl (1, 3), .inl (1, 1)], some (.inl (0, 1)), [], [(21, 0)], 3, 0, [(22, [(0, .inr (some 32)), (1, .inr none), (3, .inl (1, 17)), (4, .inl (2, 3)), (5, .inl (1, 1)), (6, .inl (1, 64))], [], [], 128, [(6, -2)])])
set_option maxRecDepth 100000 in
theorem cok_167 {KO : List Nat} (hK : KOS KO) : cOk KD0 KO G0 ctr_167 := chk_ok (G0_xOK hK) (fm_c (cok_87 hK) (fm_c (cok_151 hK) (fm_c (cok_152 hK) fm_n))) (show chk KD0 G0 (aX KD0) nX 2000 130 [ctr_87, ctr_151, ctr_152] ctr_167 = true by decide +kernel)
-- X0_pick
set_option maxRecDepth 100000 in
def ctr_168 : CTR := (7, [.inr (some 32), .inr none, .inl (1, 32), .inl (1, 3), .inl (1, 1)], some (.inl (0, 1)), [], [(21, 0)], 3, 0, [(22, [(0, .inr (some 32)), (1, .inr none), (3, .inl (1, 32)), (4, .inl (2, 3)), (5, .inl (1, 1)), (6, .inl (1, 64))], [], [], 128, [(6, -2)])])
set_option maxRecDepth 100000 in
theorem cok_168 {KO : List Nat} (hK : KOS KO) : cOk KD0 KO G0 ctr_168 := chk_ok (G0_xOK hK) (fm_c (cok_87 hK) (fm_c (cok_152 hK) fm_n)) (show chk KD0 G0 (aX KD0) nX 2000 130 [ctr_87, ctr_152] ctr_168 = true by decide +kernel)
-- X0_pick
set_option maxRecDepth 100000 in
def ctr_169 : CTR := (7, [.inr (some 32), .inr none, .inl (1, 64), .inl (1, 3), .inl (1, 1)], some (.inl (0, 1)), [], [(21, 0)], 3, 0, [(22, [(0, .inr (some 32)), (1, .inr none), (3, .inl (1, 64)), (4, .inl (2, 3)), (5, .inl (1, 1)), (6, .inl (1, 64))], [], [], 128, [(6, -2)])])
set_option maxRecDepth 100000 in
theorem cok_169 {KO : List Nat} (hK : KOS KO) : cOk KD0 KO G0 ctr_169 := chk_ok (G0_xOK hK) (fm_c (cok_87 hK) (fm_c (cok_152 hK) fm_n)) (show chk KD0 G0 (aX KD0) nX 2000 130 [ctr_87, ctr_152] ctr_169 = true by decide +kernel)
-- X0_pick
set_option maxRecDepth 100000 in
def ctr_170 : CTR := (7, [.inr (some 32), .inr none, .inl (0, 0), .inl (1, 3), .inl (0, 0)], some (.inl (0, 1)), [], [(21, 0)], 4, 0, [(22, [(0, .inr (some 32)), (1, .inr none), (3, .inl (0, 0)), (4, .inl (1, 3)), (5, .inl (0, 0)), (6, .inl (0, 64))], [], [], 128, [(6, -2)])])
set_option maxRecDepth 100000 in
theorem cok_170 {KO : List Nat} (hK : KOS KO) : cOk KD0 KO G0 ctr_170 := chk_ok (G0_xOK hK) (fm_c (cok_87 hK) (fm_c (cok_153 hK) (fm_c (cok_154 hK) (fm_c (cok_155 hK) (fm_c (cok_156 hK) (fm_c (cok_157 hK) (fm_c (cok_158 hK) (fm_c (cok_159 hK) (fm_c (cok_160 hK) (fm_c (cok_161 hK) (fm_c (cok_162 hK) (fm_c (cok_163 hK) (fm_c (cok_164 hK) (fm_c (cok_165 hK) (fm_c (cok_166 hK) (fm_c (cok_167 hK) (fm_c (cok_168 hK) (fm_c (cok_169 hK) fm_n)))))))))))))))))) (show chk KD0 G0 (aX KD0) nX 2000 132 [ctr_87, ctr_153, ctr_154, ctr_155, ctr_156, ctr_157, ctr_158, ctr_159, ctr_160, ctr_161, ctr_162, ctr_163, ctr_164, ctr_165, ctr_166, ctr_167, ctr_168, ctr_169] ctr_170 = true by decide +kernel)
-- X0_pick
set_option maxRecDepth 100000 in
def ctr_171 : CTR := (7, [.inr (some 32), .inr none, .inl (3, 3), .inl (3, 4), .inl (3, 3)], some (.inl (0, 1)), [], [(21, 0)], 2, 0, [(22, [(0, .inr (some 32)), (1, .inr none), (3, .inl (3, 3)), (4, .inl (4, 4)), (5, .inl (3, 3)), (6, .inl (3, 64))], [], [], 128, [(6, -2)])])
set_option maxRecDepth 100000 in
theorem cok_171 {KO : List Nat} (hK : KOS KO) : cOk KD0 KO G0 ctr_171 := chk_ok (G0_xOK hK) (fm_c (cok_87 hK) fm_n) (show chk KD0 G0 (aX KD0) nX 2000 126 [ctr_87] ctr_171 = true by decide +kernel)
-- X0_pick
set_option maxRecDepth 100000 in
def ctr_172 : CTR := (7, [.inr (some 32), .inr none, .inl (3, 4), .inl (3, 4), .inl (3, 3)], some (.inl (0, 1)), [], [(21, 0)], 2, 0, [(22, [(0, .inr (some 32)), (1, .inr none), (3, .inl (3, 4)), (4, .inl (4, 4)), (5, .inl (3, 3)), (6, .inl (3, 64))], [], [], 128, [(6, -2)])])
set_option maxRecDepth 100000 in
theorem cok_172 {KO : List Nat} (hK : KOS KO) : cOk KD0 KO G0 ctr_172 := chk_ok (G0_xOK hK) (fm_c (cok_87 hK) fm_n) (show chk KD0 G0 (aX KD0) nX 2000 126 [ctr_87] ctr_172 = true by decide +kernel)
-- X0_pick
set_option maxRecDepth 100000 in
def ctr_173 : CTR := (7, [.inr (some 32), .inr none, .inl (3, 5), .inl (3, 4), .inl (3, 3)], some (.inl (0, 1)), [], [(21, 0)], 2, 0, [(22, [(0, .inr (some 32)), (1, .inr none), (3, .inl (3, 5)), (4, .inl (4, 4)), (5, .inl (3, 3)), (6, .inl (3, 64))], [], [], 128, [(6, -2)])])
set_option maxRecDepth 100000 in
theorem cok_173 {KO : List Nat} (hK : KOS KO) : cOk KD0 KO G0 ctr_173 := chk_ok (G0_xOK hK) (fm_c (cok_87 hK) fm_n) (show chk KD0 G0 (aX KD0) nX 2000 126 [ctr_87] ctr_173 = true by decide +kernel)
-- X0_pick
set_option maxRecDepth 100000 in
def ctr_174 : CTR := (7, [.inr (some 32), .inr none, .inl (3, 6), .inl (3, 4), .inl (3, 3)], some (.inl (0, 1)), [], [(21, 0)], 2, 0, [(22, [(0, .inr (some 32)), (1, .inr none), (3, .inl (3, 6)), (4, .inl (4, 4)), (5, .inl (3, 3)), (6, .inl (3, 64))], [], [], 128, [(6, -2)])])
set_option maxRecDepth 100000 in
theorem cok_174 {KO : List Nat} (hK : KOS KO) : cOk KD0 KO G0 ctr_174 := chk_ok (G0_xOK hK) (fm_c (cok_87 hK) fm_n) (show chk KD0 G0 (aX KD0) nX 2000 126 [ctr_87] ctr_174 = true by decide +kernel)
