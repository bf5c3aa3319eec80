-- X9_rarestColourSet
set_option maxRecDepth 100000 in
def ctr_175 : CTR := (93, [.inr (some 31)], some (.inl (-2147483648, 2147483647)), [], [], 3, 0, [(8, [(0, .inr (some 31)), (1, .inl (-2147483648, 2147483647)), (2, .inl (1, 3))], [], [], 6, [((2, none), -2)], [])], [], [])
set_option maxRecDepth 100000 in
theorem cok_175 {KO : List Nat} (hK : KOK KO) : cOk KD0 KO G0 ctr_175 := chk_ok (G0_xOK hK.1) (chkS_ok (show chkS sgl0 [ctr_173, ctr_174] ctr_175 = true by decide +kernel) hK.2) (fm_c (cok_173 hK) (fm_c (cok_174 hK) fm_n)) (show chk KD0 G0 (aX KD0) nX 2000 8 [ctr_173, ctr_174] ctr_175 = true by decide +kernel)
-- X11_colourGuards
set_option maxRecDepth 100000 in
def ctr_176 : CTR := (140, [.inr (some 36)], some (.inl (-2147483648, 2147483647)), ["java/lang/IllegalStateException"], [(13, 0), (14, 0), (15, 0), (16, 0), (17, 0), (18, 0), (31, 7), (31, 8)], 7, 0, [], [], [])
set_option maxRecDepth 100000 in
theorem cok_176 {KO : List Nat} (hK : KOK KO) : cOk KD0 KO G0 ctr_176 := chk_ok (G0_xOK hK.1) (chkS_ok (show chkS sgl0 [ctr_46, ctr_166, ctr_175] ctr_176 = true by decide +kernel) hK.2) (fm_c (cok_46 hK) (fm_c (cok_166 hK) (fm_c (cok_175 hK) fm_n))) (show chk KD0 G0 (aX KD0) nX 2000 2 [ctr_46, ctr_166, ctr_175] ctr_176 = true by decide +kernel)
-- X0_viewOf
set_option maxRecDepth 100000 in
def ctr_177 : CTR := (4, [.inr (some 32), .inl (-2147483648, 2147483647)], some (.inr none), [], [], 2, 0, [(5, [(0, .inr (some 32)), (1, .inl (-2147483648, 2147483647)), (2, .inr none), (4, .inl (0, 12))], [], [], 24, [((4, none), -2)], [])], [], [])
set_option maxRecDepth 100000 in
theorem cok_177 {KO : List Nat} (hK : KOK KO) : cOk KD0 KO G0 ctr_177 := chk_ok (G0_xOK hK.1) (chkS_ok (show chkS sgl0 [ctr_63] ctr_177 = true by decide +kernel) hK.2) (fm_c (cok_63 hK) fm_n) (show chk KD0 G0 (aX KD0) nX 2000 28 [ctr_63] ctr_177 = true by decide +kernel)
-- X0_fewestViews
set_option maxRecDepth 100000 in
def ctr_178 : CTR := (3, [.inr (some 32)], some (.inl (-2147483648, 2147483647)), [], [], 3, 0, [(21, [(0, .inr (some 32)), (1, .inl (-2147483648, 2147483647)), (2, .inl (-2147483648, 2147483647)), (3, .inl (1, 2147483647))], [], [], 4294967294, [((3, none), -2)], [])], [], [])
set_option maxRecDepth 100000 in
theorem cok_178 {KO : List Nat} (hK : KOK KO) : cOk KD0 KO G0 ctr_178 := chk_ok (G0_xOK hK.1) (chkS_ok (show chkS sgl0 [ctr_91, ctr_174, ctr_177] ctr_178 = true by decide +kernel) hK.2) (fm_c (cok_91 hK) (fm_c (cok_174 hK) (fm_c (cok_177 hK) fm_n))) (show chk KD0 G0 (aX KD0) nX 2000 4294967296 [ctr_91, ctr_174, ctr_177] ctr_178 = true by decide +kernel)
-- X0_fewestVertices
set_option maxRecDepth 100000 in
def ctr_179 : CTR := (1, [.inr (some 32)], some (.inl (-2147483648, 2147483647)), [], [(19, 0), (32, 6)], 4, 0, [(9, [(0, .inr (some 32)), (1, .inl (0, 12))], [], [(0, 6, (0, 0))], 24, [((1, none), -2)], [])], [], [])
set_option maxRecDepth 100000 in
theorem cok_179 {KO : List Nat} (hK : KOK KO) : cOk KD0 KO G0 ctr_179 := chk_ok (G0_xOK hK.1) (chkS_ok (show chkS sgl0 [ctr_9, ctr_13, ctr_14, ctr_87, ctr_178] ctr_179 = true by decide +kernel) hK.2) (fm_c (cok_9 hK) (fm_c (cok_13 hK) (fm_c (cok_14 hK) (fm_c (cok_87 hK) (fm_c (cok_178 hK) fm_n))))) (show chk KD0 G0 (aX KD0) nX 2000 28 [ctr_9, ctr_13, ctr_14, ctr_87, ctr_178] ctr_179 = true by decide +kernel)
-- X11_vertexGuards
set_option maxRecDepth 100000 in
def ctr_180 : CTR := (141, [.inr (some 36)], some (.inl (-2147483648, 2147483647)), ["java/lang/IllegalStateException"], [(12, 0), (19, 0), (30, 3), (32, 6)], 7, 0, [], [], [])
set_option maxRecDepth 100000 in
theorem cok_180 {KO : List Nat} (hK : KOK KO) : cOk KD0 KO G0 ctr_180 := chk_ok (G0_xOK hK.1) (chkS_ok (show chkS sgl0 [ctr_46, ctr_86, ctr_179] ctr_180 = true by decide +kernel) hK.2) (fm_c (cok_46 hK) (fm_c (cok_86 hK) (fm_c (cok_179 hK) fm_n))) (show chk KD0 G0 (aX KD0) nX 2000 2 [ctr_46, ctr_86, ctr_179] ctr_180 = true by decide +kernel)
-- X0_fewestEdges
set_option maxRecDepth 100000 in
def ctr_181 : CTR := (2, [.inr (some 32)], some (.inl (-2147483648, 2147483647)), [], [(19, 0), (32, 7)], 4, 0, [(9, [(0, .inr (some 32)), (1, .inl (0, 12))], [], [(0, 7, (0, 0))], 24, [((1, none), -2)], [])], [], [])
set_option maxRecDepth 100000 in
theorem cok_181 {KO : List Nat} (hK : KOK KO) : cOk KD0 KO G0 ctr_181 := chk_ok (G0_xOK hK.1) (chkS_ok (show chkS sgl0 [ctr_104, ctr_178] ctr_181 = true by decide +kernel) hK.2) (fm_c (cok_104 hK) (fm_c (cok_178 hK) fm_n)) (show chk KD0 G0 (aX KD0) nX 2000 28 [ctr_104, ctr_178] ctr_181 = true by decide +kernel)
-- X11_edgeGuards
set_option maxRecDepth 100000 in
def ctr_182 : CTR := (142, [.inr (some 36)], some (.inl (-2147483648, 2147483647)), ["java/lang/IllegalStateException"], [(12, 0), (19, 0), (30, 3), (32, 7)], 7, 0, [], [], [])
set_option maxRecDepth 100000 in
theorem cok_182 {KO : List Nat} (hK : KOK KO) : cOk KD0 KO G0 ctr_182 := chk_ok (G0_xOK hK.1) (chkS_ok (show chkS sgl0 [ctr_46, ctr_86, ctr_181] ctr_182 = true by decide +kernel) hK.2) (fm_c (cok_46 hK) (fm_c (cok_86 hK) (fm_c (cok_181 hK) fm_n))) (show chk KD0 G0 (aX KD0) nX 2000 2 [ctr_46, ctr_86, ctr_181] ctr_182 = true by decide +kernel)
-- X0_pick
set_option maxRecDepth 100000 in
def ctr_183 : CTR := (7, [.inr (some 32), .inr none, .inl (0, 0), .inl (1, 1), .inl (0, 0)], some (.inl (0, 1)), [], [(21, 0)], 2, 0, [(22, [(0, .inr (some 32)), (1, .inr none), (3, .inl (0, 0)), (4, .inl (1, 1)), (5, .inl (0, 0)), (6, .inl (0, 64))], [], [], 128, [((6, none), -2)], [])], [], [])
set_option maxRecDepth 100000 in
theorem cok_183 {KO : List Nat} (hK : KOK KO) : cOk KD0 KO G0 ctr_183 := chk_ok (G0_xOK hK.1) (chkS_ok (show chkS sgl0 [ctr_87] ctr_183 = true by decide +kernel) hK.2) (fm_c (cok_87 hK) fm_n) (show chk KD0 G0 (aX KD0) nX 2000 132 [ctr_87] ctr_183 = true by decide +kernel)
-- X0_pick
set_option maxRecDepth 100000 in
def ctr_184 : CTR := (7, [.inr (some 32), .inr none, .inl (1, 1), .inl (1, 2), .inl (1, 1)], some (.inl (0, 1)), [], [(21, 0)], 2, 0, [(22, [(0, .inr (some 32)), (1, .inr none), (3, .inl (1, 1)), (4, .inl (2, 2)), (5, .inl (1, 1)), (6, .inl (1, 64))], [], [], 128, [((6, none), -2)], [])], [], [])
set_option maxRecDepth 100000 in
theorem cok_184 {KO : List Nat} (hK : KOK KO) : cOk KD0 KO G0 ctr_184 := chk_ok (G0_xOK hK.1) (chkS_ok (show chkS sgl0 [ctr_87] ctr_184 = true by decide +kernel) hK.2) (fm_c (cok_87 hK) fm_n) (show chk KD0 G0 (aX KD0) nX 2000 130 [ctr_87] ctr_184 = true by decide +kernel)
-- X0_pick
set_option maxRecDepth 100000 in
def ctr_185 : CTR := (7, [.inr (some 32), .inr none, .inl (1, 2), .inl (1, 2), .inl (1, 1)], some (.inl (0, 1)), [], [(21, 0)], 2, 0, [(22, [(0, .inr (some 32)), (1, .inr none), (3, .inl (1, 2)), (4, .inl (2, 2)), (5, .inl (1, 1)), (6, .inl (1, 64))], [], [], 128, [((6, none), -2)], [])], [], [])
set_option maxRecDepth 100000 in
theorem cok_185 {KO : List Nat} (hK : KOK KO) : cOk KD0 KO G0 ctr_185 := chk_ok (G0_xOK hK.1) (chkS_ok (show chkS sgl0 [ctr_87] ctr_185 = true by decide +kernel) hK.2) (fm_c (cok_87 hK) fm_n) (show chk KD0 G0 (aX KD0) nX 2000 130 [ctr_87] ctr_185 = true by decide +kernel)
-- X0_pick
set_option maxRecDepth 100000 in
def ctr_186 : CTR := (7, [.inr (some 32), .inr none, .inl (1, 3), .inl (1, 2), .inl (1, 1)], some (.inl (0, 1)), [], [(21, 0)], 2, 0, [(22, [(0, .inr (some 32)), (1, .inr none), (3, .inl (1, 3)), (4, .inl (2, 2)), (5, .inl (1, 1)), (6, .inl (1, 64))], [], [], 128, [((6, none), -2)], [])], [], [])
set_option maxRecDepth 100000 in
theorem cok_186 {KO : List Nat} (hK : KOK KO) : cOk KD0 KO G0 ctr_186 := chk_ok (G0_xOK hK.1) (chkS_ok (show chkS sgl0 [ctr_87] ctr_186 = true by decide +kernel) hK.2) (fm_c (cok_87 hK) fm_n) (show chk KD0 G0 (aX KD0) nX 2000 130 [ctr_87] ctr_186 = true by decide +kernel)
-- X0_pick
set_option maxRecDepth 100000 in
def ctr_187 : CTR := (7, [.inr (some 32), .inr none, .inl (1, 4), .inl (1, 2), .inl (1, 1)], some (.inl (0, 1)), [], [(21, 0)], 2, 0, [(22, [(0, .inr (some 32)), (1, .inr none), (3, .inl (1, 4)), (4, .inl (2, 2)), (5, .inl (1, 1)), (6, .inl (1, 64))], [], [], 128, [((6, none), -2)], [])], [], [])
set_option maxRecDepth 100000 in
theorem cok_187 {KO : List Nat} (hK : KOK KO) : cOk KD0 KO G0 ctr_187 := chk_ok (G0_xOK hK.1) (chkS_ok (show chkS sgl0 [ctr_87] ctr_187 = true by decide +kernel) hK.2) (fm_c (cok_87 hK) fm_n) (show chk KD0 G0 (aX KD0) nX 2000 130 [ctr_87] ctr_187 = true by decide +kernel)
-- X0_pick
set_option maxRecDepth 100000 in
def ctr_188 : CTR := (7, [.inr (some 32), .inr none, .inl (1, 5), .inl (1, 2), .inl (1, 1)], some (.inl (0, 1)), [], [(21, 0)], 2, 0, [(22, [(0, .inr (some 32)), (1, .inr none), (3, .inl (1, 5)), (4, .inl (2, 2)), (5, .inl (1, 1)), (6, .inl (1, 64))], [], [], 128, [((6, none), -2)], [])], [], [])
set_option maxRecDepth 100000 in
theorem cok_188 {KO : List Nat} (hK : KOK KO) : cOk KD0 KO G0 ctr_188 := chk_ok (G0_xOK hK.1) (chkS_ok (show chkS sgl0 [ctr_87] ctr_188 = true by decide +kernel) hK.2) (fm_c (cok_87 hK) fm_n) (show chk KD0 G0 (aX KD0) nX 2000 130 [ctr_87] ctr_188 = true by decide +kernel)
-- X0_pick
set_option maxRecDepth 100000 in
def ctr_189 : CTR := (7, [.inr (some 32), .inr none, .inl (1, 6), .inl (1, 2), .inl (1, 1)], some (.inl (0, 1)), [], [(21, 0)], 2, 0, [(22, [(0, .inr (some 32)), (1, .inr none), (3, .inl (1, 6)), (4, .inl (2, 2)), (5, .inl (1, 1)), (6, .inl (1, 64))], [], [], 128, [((6, none), -2)], [])], [], [])
set_option maxRecDepth 100000 in
theorem cok_189 {KO : List Nat} (hK : KOK KO) : cOk KD0 KO G0 ctr_189 := chk_ok (G0_xOK hK.1) (chkS_ok (show chkS sgl0 [ctr_87] ctr_189 = true by decide +kernel) hK.2) (fm_c (cok_87 hK) fm_n) (show chk KD0 G0 (aX KD0) nX 2000 130 [ctr_87] ctr_189 = true by decide +kernel)
-- X0_pick
set_option maxRecDepth 100000 in
def ctr_190 : CTR := (7, [.inr (some 32), .inr none, .inl (1, 7), .inl (1, 2), .inl (1, 1)], some (.inl (0, 1)), [], [(21, 0)], 2, 0, [(22, [(0, .inr (some 32)), (1, .inr none), (3, .inl (1, 7)), (4, .inl (2, 2)), (5, .inl (1, 1)), (6, .inl (1, 64))], [], [], 128, [((6, none), -2)], [])], [], [])
set_option maxRecDepth 100000 in
theorem cok_190 {KO : List Nat} (hK : KOK KO) : cOk KD0 KO G0 ctr_190 := chk_ok (G0_xOK hK.1) (chkS_ok (show chkS sgl0 [ctr_87] ctr_190 = true by decide +kernel) hK.2) (fm_c (cok_87 hK) fm_n) (show chk KD0 G0 (aX KD0) nX 2000 130 [ctr_87] ctr_190 = true by decide +kernel)
-- X0_pick
set_option maxRecDepth 100000 in
def ctr_191 : CTR := (7, [.inr (some 32), .inr none, .inl (1, 8), .inl (1, 2), .inl (1, 1)], some (.inl (0, 1)), [], [(21, 0)], 2, 0, [(22, [(0, .inr (some 32)), (1, .inr none), (3, .inl (1, 8)), (4, .inl (2, 2)), (5, .inl (1, 1)), (6, .inl (1, 64))], [], [], 128, [((6, none), -2)], [])], [], [])
set_option maxRecDepth 100000 in
theorem cok_191 {KO : List Nat} (hK : KOK KO) : cOk KD0 KO G0 ctr_191 := chk_ok (G0_xOK hK.1) (chkS_ok (show chkS sgl0 [ctr_87] ctr_191 = true by decide +kernel) hK.2) (fm_c (cok_87 hK) fm_n) (show chk KD0 G0 (aX KD0) nX 2000 130 [ctr_87] ctr_191 = true by decide +kernel)
-- X0_pick
set_option maxRecDepth 100000 in
def ctr_192 : CTR := (7, [.inr (some 32), .inr none, .inl (1, 9), .inl (1, 2), .inl (1, 1)], some (.inl (0, 1)), [], [(21, 0)], 2, 0, [(22, [(0, .inr (some 32)), (1, .inr none), (3, .inl (1, 9)), (4, .inl (2, 2)), (5, .inl (1, 1)), (6, .inl (1, 64))], [], [], 128, [((6, none), -2)], [])], [], [])
set_option maxRecDepth 100000 in
theorem cok_192 {KO : List Nat} (hK : KOK KO) : cOk KD0 KO G0 ctr_192 := chk_ok (G0_xOK hK.1) (chkS_ok (show chkS sgl0 [ctr_87] ctr_192 = true by decide +kernel) hK.2) (fm_c (cok_87 hK) fm_n) (show chk KD0 G0 (aX KD0) nX 2000 130 [ctr_87] ctr_192 = true by decide +kernel)
-- X0_pick
set_option maxRecDepth 100000 in
def ctr_193 : CTR := (7, [.inr (some 32), .inr none, .inl (1, 11), .inl (1, 2), .inl (1, 1)], some (.inl (0, 1)), [], [(21, 0)], 2, 0, [(22, [(0, .inr (some 32)), (1, .inr none), (3, .inl (1, 11)), (4, .inl (2, 2)), (5, .inl (1, 1)), (6, .inl (1, 64))], [], [], 128, [((6, none), -2)], [])], [], [])
set_option maxRecDepth 100000 in
theorem cok_193 {KO : List Nat} (hK : KOK KO) : cOk KD0 KO G0 ctr_193 := chk_ok (G0_xOK hK.1) (chkS_ok (show chkS sgl0 [ctr_87] ctr_193 = true by decide +kernel) hK.2) (fm_c (cok_87 hK) fm_n) (show chk KD0 G0 (aX KD0) nX 2000 130 [ctr_87] ctr_193 = true by decide +kernel)
-- X0_pick
set_option maxRecDepth 100000 in
def ctr_194 : CTR := (7, [.inr (some 32), .inr none, .inl (1, 12), .inl (1, 2), .inl (1, 1)], some (.inl (0, 1)), [], [(21, 0)], 2, 0, [(22, [(0, .inr (some 32)), (1, .inr none), (3, .inl (1, 12)), (4, .inl (2, 2)), (5, .inl (1, 1)), (6, .inl (1, 64))], [], [], 128, [((6, none), -2)], [])], [], [])
set_option maxRecDepth 100000 in
theorem cok_194 {KO : List Nat} (hK : KOK KO) : cOk KD0 KO G0 ctr_194 := chk_ok (G0_xOK hK.1) (chkS_ok (show chkS sgl0 [ctr_87] ctr_194 = true by decide +kernel) hK.2) (fm_c (cok_87 hK) fm_n) (show chk KD0 G0 (aX KD0) nX 2000 130 [ctr_87] ctr_194 = true by decide +kernel)
-- X0_pick
set_option maxRecDepth 100000 in
def ctr_195 : CTR := (7, [.inr (some 32), .inr none, .inl (1, 13), .inl (1, 2), .inl (1, 1)], some (.inl (0, 1)), [], [(21, 0)], 2, 0, [(22, [(0, .inr (some 32)), (1, .inr none), (3, .inl (1, 13)), (4, .inl (2, 2)), (5, .inl (1, 1)), (6, .inl (1, 64))], [], [], 128, [((6, none), -2)], [])], [], [])
set_option maxRecDepth 100000 in
theorem cok_195 {KO : List Nat} (hK : KOK KO) : cOk KD0 KO G0 ctr_195 := chk_ok (G0_xOK hK.1) (chkS_ok (show chkS sgl0 [ctr_87] ctr_195 = true by decide +kernel) hK.2) (fm_c (cok_87 hK) fm_n) (show chk KD0 G0 (aX KD0) nX 2000 130 [ctr_87] ctr_195 = true by decide +kernel)
-- X0_pick
set_option maxRecDepth 100000 in
def ctr_196 : CTR := (7, [.inr (some 32), .inr none, .inl (1, 14), .inl (1, 2), .inl (1, 1)], some (.inl (0, 1)), [], [(21, 0)], 2, 0, [(22, [(0, .inr (some 32)), (1, .inr none), (3, .inl (1, 14)), (4, .inl (2, 2)), (5, .inl (1, 1)), (6, .inl (1, 64))], [], [], 128, [((6, none), -2)], [])], [], [])
set_option maxRecDepth 100000 in
theorem cok_196 {KO : List Nat} (hK : KOK KO) : cOk KD0 KO G0 ctr_196 := chk_ok (G0_xOK hK.1) (chkS_ok (show chkS sgl0 [ctr_87] ctr_196 = true by decide +kernel) hK.2) (fm_c (cok_87 hK) fm_n) (show chk KD0 G0 (aX KD0) nX 2000 130 [ctr_87] ctr_196 = true by decide +kernel)
-- X0_pick
set_option maxRecDepth 100000 in
def ctr_197 : CTR := (7, [.inr (some 32), .inr none, .inl (1, 16), .inl (1, 2), .inl (1, 1)], some (.inl (0, 1)), [], [(21, 0)], 2, 0, [(22, [(0, .inr (some 32)), (1, .inr none), (3, .inl (1, 16)), (4, .inl (2, 2)), (5, .inl (1, 1)), (6, .inl (1, 64))], [], [], 128, [((6, none), -2)], [])], [], [])
set_option maxRecDepth 100000 in
theorem cok_197 {KO : List Nat} (hK : KOK KO) : cOk KD0 KO G0 ctr_197 := chk_ok (G0_xOK hK.1) (chkS_ok (show chkS sgl0 [ctr_87] ctr_197 = true by decide +kernel) hK.2) (fm_c (cok_87 hK) fm_n) (show chk KD0 G0 (aX KD0) nX 2000 130 [ctr_87] ctr_197 = true by decide +kernel)
-- X0_pick
set_option maxRecDepth 100000 in
def ctr_198 : CTR := (7, [.inr (some 32), .inr none, .inl (1, 17), .inl (1, 2), .inl (1, 1)], some (.inl (0, 1)), [], [(21, 0)], 2, 0, [(22, [(0, .inr (some 32)), (1, .inr none), (3, .inl (1, 17)), (4, .inl (2, 2)), (5, .inl (1, 1)), (6, .inl (1, 64))], [], [], 128, [((6, none), -2)], [])], [], [])
set_option maxRecDepth 100000 in
theorem cok_198 {KO : List Nat} (hK : KOK KO) : cOk KD0 KO G0 ctr_198 := chk_ok (G0_xOK hK.1) (chkS_ok (show chkS sgl0 [ctr_87] ctr_198 = true by decide +kernel) hK.2) (fm_c (cok_87 hK) fm_n) (show chk KD0 G0 (aX KD0) nX 2000 130 [ctr_87] ctr_198 = true by decide +kernel)
-- X0_pick
set_option maxRecDepth 100000 in
def ctr_199 : CTR := (7, [.inr (some 32), .inr none, .inl (1, 32), .inl (1, 2), .inl (1, 1)], some (.inl (0, 1)), [], [(21, 0)], 2, 0, [(22, [(0, .inr (some 32)), (1, .inr none), (3, .inl (1, 32)), (4, .inl (2, 2)), (5, .inl (1, 1)), (6, .inl (1, 64))], [], [], 128, [((6, none), -2)], [])], [], [])
set_option maxRecDepth 100000 in
theorem cok_199 {KO : List Nat} (hK : KOK KO) : cOk KD0 KO G0 ctr_199 := chk_ok (G0_xOK hK.1) (chkS_ok (show chkS sgl0 [ctr_87] ctr_199 = true by decide +kernel) hK.2) (fm_c (cok_87 hK) fm_n) (show chk KD0 G0 (aX KD0) nX 2000 130 [ctr_87] ctr_199 = true by decide +kernel)
