-- X0_pick
set_option maxRecDepth 100000 in
def ctr_200 : CTR := (7, [.inr (some 32), .inr none, .inl (1, 64), .inl (1, 2), .inl (1, 1)], some (.inl (0, 1)), [], [(21, 0)], 2, 0, [(22, [(0, .inr (some 32)), (1, .inr none), (3, .inl (1, 64)), (4, .inl (2, 2)), (5, .inl (1, 1)), (6, .inl (1, 64))], [], [], 128, [((6, none), -2)], [])], [], [])
set_option maxRecDepth 100000 in
theorem cok_200 {KO : List Nat} (hK : KOK KO) : cOk KD0 KO G0 ctr_200 := chk_ok (G0_xOK hK.1) (chkS_ok (show chkS sgl0 [ctr_87] ctr_200 = true by decide +kernel) hK.2) (fm_c (cok_87 hK) fm_n) (show chk KD0 G0 (aX KD0) nX 2000 130 [ctr_87] ctr_200 = true by decide +kernel)
-- X0_pick
set_option maxRecDepth 100000 in
def ctr_201 : CTR := (7, [.inr (some 32), .inr none, .inl (0, 0), .inl (1, 2), .inl (0, 0)], some (.inl (0, 1)), [], [(21, 0)], 3, 0, [(22, [(0, .inr (some 32)), (1, .inr none), (3, .inl (0, 0)), (4, .inl (1, 2)), (5, .inl (0, 0)), (6, .inl (0, 64))], [], [], 128, [((6, none), -2)], [])], [], [])
set_option maxRecDepth 100000 in
theorem cok_201 {KO : List Nat} (hK : KOK KO) : cOk KD0 KO G0 ctr_201 := chk_ok (G0_xOK hK.1) (chkS_ok (show chkS sgl0 [ctr_87, ctr_184, ctr_185, ctr_186, ctr_187, ctr_188, ctr_189, ctr_190, ctr_191, ctr_192, ctr_193, ctr_194, ctr_195, ctr_196, ctr_197, ctr_198, ctr_199, ctr_200] ctr_201 = true by decide +kernel) hK.2) (fm_c (cok_87 hK) (fm_c (cok_184 hK) (fm_c (cok_185 hK) (fm_c (cok_186 hK) (fm_c (cok_187 hK) (fm_c (cok_188 hK) (fm_c (cok_189 hK) (fm_c (cok_190 hK) (fm_c (cok_191 hK) (fm_c (cok_192 hK) (fm_c (cok_193 hK) (fm_c (cok_194 hK) (fm_c (cok_195 hK) (fm_c (cok_196 hK) (fm_c (cok_197 hK) (fm_c (cok_198 hK) (fm_c (cok_199 hK) (fm_c (cok_200 hK) fm_n)))))))))))))))))) (show chk KD0 G0 (aX KD0) nX 2000 132 [ctr_87, ctr_184, ctr_185, ctr_186, ctr_187, ctr_188, ctr_189, ctr_190, ctr_191, ctr_192, ctr_193, ctr_194, ctr_195, ctr_196, ctr_197, ctr_198, ctr_199, ctr_200] ctr_201 = true by decide +kernel)
-- X0_pick
set_option maxRecDepth 100000 in
def ctr_202 : CTR := (7, [.inr (some 32), .inr none, .inl (2, 2), .inl (2, 3), .inl (2, 2)], some (.inl (0, 1)), [], [(21, 0)], 2, 0, [(22, [(0, .inr (some 32)), (1, .inr none), (3, .inl (2, 2)), (4, .inl (3, 3)), (5, .inl (2, 2)), (6, .inl (2, 64))], [], [], 128, [((6, none), -2)], [])], [], [])
set_option maxRecDepth 100000 in
theorem cok_202 {KO : List Nat} (hK : KOK KO) : cOk KD0 KO G0 ctr_202 := chk_ok (G0_xOK hK.1) (chkS_ok (show chkS sgl0 [ctr_87] ctr_202 = true by decide +kernel) hK.2) (fm_c (cok_87 hK) fm_n) (show chk KD0 G0 (aX KD0) nX 2000 128 [ctr_87] ctr_202 = true by decide +kernel)
-- X0_pick
set_option maxRecDepth 100000 in
def ctr_203 : CTR := (7, [.inr (some 32), .inr none, .inl (2, 3), .inl (2, 3), .inl (2, 2)], some (.inl (0, 1)), [], [(21, 0)], 2, 0, [(22, [(0, .inr (some 32)), (1, .inr none), (3, .inl (2, 3)), (4, .inl (3, 3)), (5, .inl (2, 2)), (6, .inl (2, 64))], [], [], 128, [((6, none), -2)], [])], [], [])
set_option maxRecDepth 100000 in
theorem cok_203 {KO : List Nat} (hK : KOK KO) : cOk KD0 KO G0 ctr_203 := chk_ok (G0_xOK hK.1) (chkS_ok (show chkS sgl0 [ctr_87] ctr_203 = true by decide +kernel) hK.2) (fm_c (cok_87 hK) fm_n) (show chk KD0 G0 (aX KD0) nX 2000 128 [ctr_87] ctr_203 = true by decide +kernel)
-- X0_pick
set_option maxRecDepth 100000 in
def ctr_204 : CTR := (7, [.inr (some 32), .inr none, .inl (2, 4), .inl (2, 3), .inl (2, 2)], some (.inl (0, 1)), [], [(21, 0)], 2, 0, [(22, [(0, .inr (some 32)), (1, .inr none), (3, .inl (2, 4)), (4, .inl (3, 3)), (5, .inl (2, 2)), (6, .inl (2, 64))], [], [], 128, [((6, none), -2)], [])], [], [])
set_option maxRecDepth 100000 in
theorem cok_204 {KO : List Nat} (hK : KOK KO) : cOk KD0 KO G0 ctr_204 := chk_ok (G0_xOK hK.1) (chkS_ok (show chkS sgl0 [ctr_87] ctr_204 = true by decide +kernel) hK.2) (fm_c (cok_87 hK) fm_n) (show chk KD0 G0 (aX KD0) nX 2000 128 [ctr_87] ctr_204 = true by decide +kernel)
-- X0_pick
set_option maxRecDepth 100000 in
def ctr_205 : CTR := (7, [.inr (some 32), .inr none, .inl (2, 5), .inl (2, 3), .inl (2, 2)], some (.inl (0, 1)), [], [(21, 0)], 2, 0, [(22, [(0, .inr (some 32)), (1, .inr none), (3, .inl (2, 5)), (4, .inl (3, 3)), (5, .inl (2, 2)), (6, .inl (2, 64))], [], [], 128, [((6, none), -2)], [])], [], [])
set_option maxRecDepth 100000 in
theorem cok_205 {KO : List Nat} (hK : KOK KO) : cOk KD0 KO G0 ctr_205 := chk_ok (G0_xOK hK.1) (chkS_ok (show chkS sgl0 [ctr_87] ctr_205 = true by decide +kernel) hK.2) (fm_c (cok_87 hK) fm_n) (show chk KD0 G0 (aX KD0) nX 2000 128 [ctr_87] ctr_205 = true by decide +kernel)
-- X0_pick
set_option maxRecDepth 100000 in
def ctr_206 : CTR := (7, [.inr (some 32), .inr none, .inl (2, 6), .inl (2, 3), .inl (2, 2)], some (.inl (0, 1)), [], [(21, 0)], 2, 0, [(22, [(0, .inr (some 32)), (1, .inr none), (3, .inl (2, 6)), (4, .inl (3, 3)), (5, .inl (2, 2)), (6, .inl (2, 64))], [], [], 128, [((6, none), -2)], [])], [], [])
set_option maxRecDepth 100000 in
theorem cok_206 {KO : List Nat} (hK : KOK KO) : cOk KD0 KO G0 ctr_206 := chk_ok (G0_xOK hK.1) (chkS_ok (show chkS sgl0 [ctr_87] ctr_206 = true by decide +kernel) hK.2) (fm_c (cok_87 hK) fm_n) (show chk KD0 G0 (aX KD0) nX 2000 128 [ctr_87] ctr_206 = true by decide +kernel)
-- X0_pick
set_option maxRecDepth 100000 in
def ctr_207 : CTR := (7, [.inr (some 32), .inr none, .inl (2, 7), .inl (2, 3), .inl (2, 2)], some (.inl (0, 1)), [], [(21, 0)], 2, 0, [(22, [(0, .inr (some 32)), (1, .inr none), (3, .inl (2, 7)), (4, .inl (3, 3)), (5, .inl (2, 2)), (6, .inl (2, 64))], [], [], 128, [((6, none), -2)], [])], [], [])
set_option maxRecDepth 100000 in
theorem cok_207 {KO : List Nat} (hK : KOK KO) : cOk KD0 KO G0 ctr_207 := chk_ok (G0_xOK hK.1) (chkS_ok (show chkS sgl0 [ctr_87] ctr_207 = true by decide +kernel) hK.2) (fm_c (cok_87 hK) fm_n) (show chk KD0 G0 (aX KD0) nX 2000 128 [ctr_87] ctr_207 = true by decide +kernel)
-- X0_pick
set_option maxRecDepth 100000 in
def ctr_208 : CTR := (7, [.inr (some 32), .inr none, .inl (2, 8), .inl (2, 3), .inl (2, 2)], some (.inl (0, 1)), [], [(21, 0)], 2, 0, [(22, [(0, .inr (some 32)), (1, .inr none), (3, .inl (2, 8)), (4, .inl (3, 3)), (5, .inl (2, 2)), (6, .inl (2, 64))], [], [], 128, [((6, none), -2)], [])], [], [])
set_option maxRecDepth 100000 in
theorem cok_208 {KO : List Nat} (hK : KOK KO) : cOk KD0 KO G0 ctr_208 := chk_ok (G0_xOK hK.1) (chkS_ok (show chkS sgl0 [ctr_87] ctr_208 = true by decide +kernel) hK.2) (fm_c (cok_87 hK) fm_n) (show chk KD0 G0 (aX KD0) nX 2000 128 [ctr_87] ctr_208 = true by decide +kernel)
-- X0_pick
set_option maxRecDepth 100000 in
def ctr_209 : CTR := (7, [.inr (some 32), .inr none, .inl (2, 9), .inl (2, 3), .inl (2, 2)], some (.inl (0, 1)), [], [(21, 0)], 2, 0, [(22, [(0, .inr (some 32)), (1, .inr none), (3, .inl (2, 9)), (4, .inl (3, 3)), (5, .inl (2, 2)), (6, .inl (2, 64))], [], [], 128, [((6, none), -2)], [])], [], [])
set_option maxRecDepth 100000 in
theorem cok_209 {KO : List Nat} (hK : KOK KO) : cOk KD0 KO G0 ctr_209 := chk_ok (G0_xOK hK.1) (chkS_ok (show chkS sgl0 [ctr_87] ctr_209 = true by decide +kernel) hK.2) (fm_c (cok_87 hK) fm_n) (show chk KD0 G0 (aX KD0) nX 2000 128 [ctr_87] ctr_209 = true by decide +kernel)
-- X0_pick
set_option maxRecDepth 100000 in
def ctr_210 : CTR := (7, [.inr (some 32), .inr none, .inl (2, 11), .inl (2, 3), .inl (2, 2)], some (.inl (0, 1)), [], [(21, 0)], 2, 0, [(22, [(0, .inr (some 32)), (1, .inr none), (3, .inl (2, 11)), (4, .inl (3, 3)), (5, .inl (2, 2)), (6, .inl (2, 64))], [], [], 128, [((6, none), -2)], [])], [], [])
set_option maxRecDepth 100000 in
theorem cok_210 {KO : List Nat} (hK : KOK KO) : cOk KD0 KO G0 ctr_210 := chk_ok (G0_xOK hK.1) (chkS_ok (show chkS sgl0 [ctr_87] ctr_210 = true by decide +kernel) hK.2) (fm_c (cok_87 hK) fm_n) (show chk KD0 G0 (aX KD0) nX 2000 128 [ctr_87] ctr_210 = true by decide +kernel)
-- X0_pick
set_option maxRecDepth 100000 in
def ctr_211 : CTR := (7, [.inr (some 32), .inr none, .inl (2, 12), .inl (2, 3), .inl (2, 2)], some (.inl (0, 1)), [], [(21, 0)], 2, 0, [(22, [(0, .inr (some 32)), (1, .inr none), (3, .inl (2, 12)), (4, .inl (3, 3)), (5, .inl (2, 2)), (6, .inl (2, 64))], [], [], 128, [((6, none), -2)], [])], [], [])
set_option maxRecDepth 100000 in
theorem cok_211 {KO : List Nat} (hK : KOK KO) : cOk KD0 KO G0 ctr_211 := chk_ok (G0_xOK hK.1) (chkS_ok (show chkS sgl0 [ctr_87] ctr_211 = true by decide +kernel) hK.2) (fm_c (cok_87 hK) fm_n) (show chk KD0 G0 (aX KD0) nX 2000 128 [ctr_87] ctr_211 = true by decide +kernel)
-- X0_pick
set_option maxRecDepth 100000 in
def ctr_212 : CTR := (7, [.inr (some 32), .inr none, .inl (2, 13), .inl (2, 3), .inl (2, 2)], some (.inl (0, 1)), [], [(21, 0)], 2, 0, [(22, [(0, .inr (some 32)), (1, .inr none), (3, .inl (2, 13)), (4, .inl (3, 3)), (5, .inl (2, 2)), (6, .inl (2, 64))], [], [], 128, [((6, none), -2)], [])], [], [])
set_option maxRecDepth 100000 in
theorem cok_212 {KO : List Nat} (hK : KOK KO) : cOk KD0 KO G0 ctr_212 := chk_ok (G0_xOK hK.1) (chkS_ok (show chkS sgl0 [ctr_87] ctr_212 = true by decide +kernel) hK.2) (fm_c (cok_87 hK) fm_n) (show chk KD0 G0 (aX KD0) nX 2000 128 [ctr_87] ctr_212 = true by decide +kernel)
-- X0_pick
set_option maxRecDepth 100000 in
def ctr_213 : CTR := (7, [.inr (some 32), .inr none, .inl (2, 14), .inl (2, 3), .inl (2, 2)], some (.inl (0, 1)), [], [(21, 0)], 2, 0, [(22, [(0, .inr (some 32)), (1, .inr none), (3, .inl (2, 14)), (4, .inl (3, 3)), (5, .inl (2, 2)), (6, .inl (2, 64))], [], [], 128, [((6, none), -2)], [])], [], [])
set_option maxRecDepth 100000 in
theorem cok_213 {KO : List Nat} (hK : KOK KO) : cOk KD0 KO G0 ctr_213 := chk_ok (G0_xOK hK.1) (chkS_ok (show chkS sgl0 [ctr_87] ctr_213 = true by decide +kernel) hK.2) (fm_c (cok_87 hK) fm_n) (show chk KD0 G0 (aX KD0) nX 2000 128 [ctr_87] ctr_213 = true by decide +kernel)
-- X0_pick
set_option maxRecDepth 100000 in
def ctr_214 : CTR := (7, [.inr (some 32), .inr none, .inl (2, 16), .inl (2, 3), .inl (2, 2)], some (.inl (0, 1)), [], [(21, 0)], 2, 0, [(22, [(0, .inr (some 32)), (1, .inr none), (3, .inl (2, 16)), (4, .inl (3, 3)), (5, .inl (2, 2)), (6, .inl (2, 64))], [], [], 128, [((6, none), -2)], [])], [], [])
set_option maxRecDepth 100000 in
theorem cok_214 {KO : List Nat} (hK : KOK KO) : cOk KD0 KO G0 ctr_214 := chk_ok (G0_xOK hK.1) (chkS_ok (show chkS sgl0 [ctr_87] ctr_214 = true by decide +kernel) hK.2) (fm_c (cok_87 hK) fm_n) (show chk KD0 G0 (aX KD0) nX 2000 128 [ctr_87] ctr_214 = true by decide +kernel)
-- X0_pick
set_option maxRecDepth 100000 in
def ctr_215 : CTR := (7, [.inr (some 32), .inr none, .inl (2, 17), .inl (2, 3), .inl (2, 2)], some (.inl (0, 1)), [], [(21, 0)], 2, 0, [(22, [(0, .inr (some 32)), (1, .inr none), (3, .inl (2, 17)), (4, .inl (3, 3)), (5, .inl (2, 2)), (6, .inl (2, 64))], [], [], 128, [((6, none), -2)], [])], [], [])
set_option maxRecDepth 100000 in
theorem cok_215 {KO : List Nat} (hK : KOK KO) : cOk KD0 KO G0 ctr_215 := chk_ok (G0_xOK hK.1) (chkS_ok (show chkS sgl0 [ctr_87] ctr_215 = true by decide +kernel) hK.2) (fm_c (cok_87 hK) fm_n) (show chk KD0 G0 (aX KD0) nX 2000 128 [ctr_87] ctr_215 = true by decide +kernel)
-- X0_pick
set_option maxRecDepth 100000 in
def ctr_216 : CTR := (7, [.inr (some 32), .inr none, .inl (2, 32), .inl (2, 3), .inl (2, 2)], some (.inl (0, 1)), [], [(21, 0)], 2, 0, [(22, [(0, .inr (some 32)), (1, .inr none), (3, .inl (2, 32)), (4, .inl (3, 3)), (5, .inl (2, 2)), (6, .inl (2, 64))], [], [], 128, [((6, none), -2)], [])], [], [])
set_option maxRecDepth 100000 in
theorem cok_216 {KO : List Nat} (hK : KOK KO) : cOk KD0 KO G0 ctr_216 := chk_ok (G0_xOK hK.1) (chkS_ok (show chkS sgl0 [ctr_87] ctr_216 = true by decide +kernel) hK.2) (fm_c (cok_87 hK) fm_n) (show chk KD0 G0 (aX KD0) nX 2000 128 [ctr_87] ctr_216 = true by decide +kernel)
-- X0_pick
set_option maxRecDepth 100000 in
def ctr_217 : CTR := (7, [.inr (some 32), .inr none, .inl (2, 64), .inl (2, 3), .inl (2, 2)], some (.inl (0, 1)), [], [(21, 0)], 2, 0, [(22, [(0, .inr (some 32)), (1, .inr none), (3, .inl (2, 64)), (4, .inl (3, 3)), (5, .inl (2, 2)), (6, .inl (2, 64))], [], [], 128, [((6, none), -2)], [])], [], [])
set_option maxRecDepth 100000 in
theorem cok_217 {KO : List Nat} (hK : KOK KO) : cOk KD0 KO G0 ctr_217 := chk_ok (G0_xOK hK.1) (chkS_ok (show chkS sgl0 [ctr_87] ctr_217 = true by decide +kernel) hK.2) (fm_c (cok_87 hK) fm_n) (show chk KD0 G0 (aX KD0) nX 2000 128 [ctr_87] ctr_217 = true by decide +kernel)
-- X0_pick
set_option maxRecDepth 100000 in
def ctr_218 : CTR := (7, [.inr (some 32), .inr none, .inl (1, 1), .inl (1, 3), .inl (1, 1)], some (.inl (0, 1)), [], [(21, 0)], 3, 0, [(22, [(0, .inr (some 32)), (1, .inr none), (3, .inl (1, 1)), (4, .inl (2, 3)), (5, .inl (1, 1)), (6, .inl (1, 64))], [], [], 128, [((6, none), -2)], [])], [], [])
set_option maxRecDepth 100000 in
theorem cok_218 {KO : List Nat} (hK : KOK KO) : cOk KD0 KO G0 ctr_218 := chk_ok (G0_xOK hK.1) (chkS_ok (show chkS sgl0 [ctr_87, ctr_202, ctr_203, ctr_204, ctr_205, ctr_206, ctr_207, ctr_208, ctr_209, ctr_210, ctr_211, ctr_212, ctr_213, ctr_214, ctr_215, ctr_216, ctr_217] ctr_218 = true by decide +kernel) hK.2) (fm_c (cok_87 hK) (fm_c (cok_202 hK) (fm_c (cok_203 hK) (fm_c (cok_204 hK) (fm_c (cok_205 hK) (fm_c (cok_206 hK) (fm_c (cok_207 hK) (fm_c (cok_208 hK) (fm_c (cok_209 hK) (fm_c (cok_210 hK) (fm_c (cok_211 hK) (fm_c (cok_212 hK) (fm_c (cok_213 hK) (fm_c (cok_214 hK) (fm_c (cok_215 hK) (fm_c (cok_216 hK) (fm_c (cok_217 hK) fm_n))))))))))))))))) (show chk KD0 G0 (aX KD0) nX 2000 130 [ctr_87, ctr_202, ctr_203, ctr_204, ctr_205, ctr_206, ctr_207, ctr_208, ctr_209, ctr_210, ctr_211, ctr_212, ctr_213, ctr_214, ctr_215, ctr_216, ctr_217] ctr_218 = true by decide +kernel)
-- X0_pick
set_option maxRecDepth 100000 in
def ctr_219 : CTR := (7, [.inr (some 32), .inr none, .inl (1, 2), .inl (1, 3), .inl (1, 1)], some (.inl (0, 1)), [], [(21, 0)], 3, 0, [(22, [(0, .inr (some 32)), (1, .inr none), (3, .inl (1, 2)), (4, .inl (2, 3)), (5, .inl (1, 1)), (6, .inl (1, 64))], [], [], 128, [((6, none), -2)], [])], [], [])
set_option maxRecDepth 100000 in
theorem cok_219 {KO : List Nat} (hK : KOK KO) : cOk KD0 KO G0 ctr_219 := chk_ok (G0_xOK hK.1) (chkS_ok (show chkS sgl0 [ctr_87, ctr_203, ctr_204, ctr_205, ctr_206, ctr_207, ctr_208, ctr_209, ctr_210, ctr_211, ctr_212, ctr_213, ctr_214, ctr_215, ctr_216, ctr_217] ctr_219 = true by decide +kernel) hK.2) (fm_c (cok_87 hK) (fm_c (cok_203 hK) (fm_c (cok_204 hK) (fm_c (cok_205 hK) (fm_c (cok_206 hK) (fm_c (cok_207 hK) (fm_c (cok_208 hK) (fm_c (cok_209 hK) (fm_c (cok_210 hK) (fm_c (cok_211 hK) (fm_c (cok_212 hK) (fm_c (cok_213 hK) (fm_c (cok_214 hK) (fm_c (cok_215 hK) (fm_c (cok_216 hK) (fm_c (cok_217 hK) fm_n)))))))))))))))) (show chk KD0 G0 (aX KD0) nX 2000 130 [ctr_87, ctr_203, ctr_204, ctr_205, ctr_206, ctr_207, ctr_208, ctr_209, ctr_210, ctr_211, ctr_212, ctr_213, ctr_214, ctr_215, ctr_216, ctr_217] ctr_219 = true by decide +kernel)
-- X0_pick
set_option maxRecDepth 100000 in
def ctr_220 : CTR := (7, [.inr (some 32), .inr none, .inl (1, 3), .inl (1, 3), .inl (1, 1)], some (.inl (0, 1)), [], [(21, 0)], 3, 0, [(22, [(0, .inr (some 32)), (1, .inr none), (3, .inl (1, 3)), (4, .inl (2, 3)), (5, .inl (1, 1)), (6, .inl (1, 64))], [], [], 128, [((6, none), -2)], [])], [], [])
set_option maxRecDepth 100000 in
theorem cok_220 {KO : List Nat} (hK : KOK KO) : cOk KD0 KO G0 ctr_220 := chk_ok (G0_xOK hK.1) (chkS_ok (show chkS sgl0 [ctr_87, ctr_204, ctr_205, ctr_206, ctr_207, ctr_208, ctr_209, ctr_210, ctr_211, ctr_212, ctr_213, ctr_214, ctr_215, ctr_216, ctr_217] ctr_220 = true by decide +kernel) hK.2) (fm_c (cok_87 hK) (fm_c (cok_204 hK) (fm_c (cok_205 hK) (fm_c (cok_206 hK) (fm_c (cok_207 hK) (fm_c (cok_208 hK) (fm_c (cok_209 hK) (fm_c (cok_210 hK) (fm_c (cok_211 hK) (fm_c (cok_212 hK) (fm_c (cok_213 hK) (fm_c (cok_214 hK) (fm_c (cok_215 hK) (fm_c (cok_216 hK) (fm_c (cok_217 hK) fm_n))))))))))))))) (show chk KD0 G0 (aX KD0) nX 2000 130 [ctr_87, ctr_204, ctr_205, ctr_206, ctr_207, ctr_208, ctr_209, ctr_210, ctr_211, ctr_212, ctr_213, ctr_214, ctr_215, ctr_216, ctr_217] ctr_220 = true by decide +kernel)
-- X0_pick
set_option maxRecDepth 100000 in
def ctr_221 : CTR := (7, [.inr (some 32), .inr none, .inl (1, 4), .inl (1, 3), .inl (1, 1)], some (.inl (0, 1)), [], [(21, 0)], 3, 0, [(22, [(0, .inr (some 32)), (1, .inr none), (3, .inl (1, 4)), (4, .inl (2, 3)), (5, .inl (1, 1)), (6, .inl (1, 64))], [], [], 128, [((6, none), -2)], [])], [], [])
set_option maxRecDepth 100000 in
theorem cok_221 {KO : List Nat} (hK : KOK KO) : cOk KD0 KO G0 ctr_221 := chk_ok (G0_xOK hK.1) (chkS_ok (show chkS sgl0 [ctr_87, ctr_205, ctr_206, ctr_207, ctr_208, ctr_209, ctr_210, ctr_211, ctr_212, ctr_213, ctr_214, ctr_215, ctr_216, ctr_217] ctr_221 = true by decide +kernel) hK.2) (fm_c (cok_87 hK) (fm_c (cok_205 hK) (fm_c (cok_206 hK) (fm_c (cok_207 hK) (fm_c (cok_208 hK) (fm_c (cok_209 hK) (fm_c (cok_210 hK) (fm_c (cok_211 hK) (fm_c (cok_212 hK) (fm_c (cok_213 hK) (fm_c (cok_214 hK) (fm_c (cok_215 hK) (fm_c (cok_216 hK) (fm_c (cok_217 hK) fm_n)))))))))))))) (show chk KD0 G0 (aX KD0) nX 2000 130 [ctr_87, ctr_205, ctr_206, ctr_207, ctr_208, ctr_209, ctr_210, ctr_211, ctr_212, ctr_213, ctr_214, ctr_215, ctr_216, ctr_217] ctr_221 = true by decide +kernel)
-- X0_pick
set_option maxRecDepth 100000 in
def ctr_222 : CTR := (7, [.inr (some 32), .inr none, .inl (1, 5), .inl (1, 3), .inl (1, 1)], some (.inl (0, 1)), [], [(21, 0)], 3, 0, [(22, [(0, .inr (some 32)), (1, .inr none), (3, .inl (1, 5)), (4, .inl (2, 3)), (5, .inl (1, 1)), (6, .inl (1, 64))], [], [], 128, [((6, none), -2)], [])], [], [])
set_option maxRecDepth 100000 in
theorem cok_222 {KO : List Nat} (hK : KOK KO) : cOk KD0 KO G0 ctr_222 := chk_ok (G0_xOK hK.1) (chkS_ok (show chkS sgl0 [ctr_87, ctr_206, ctr_207, ctr_208, ctr_209, ctr_210, ctr_211, ctr_212, ctr_213, ctr_214, ctr_215, ctr_216, ctr_217] ctr_222 = true by decide +kernel) hK.2) (fm_c (cok_87 hK) (fm_c (cok_206 hK) (fm_c (cok_207 hK) (fm_c (cok_208 hK) (fm_c (cok_209 hK) (fm_c (cok_210 hK) (fm_c (cok_211 hK) (fm_c (cok_212 hK) (fm_c (cok_213 hK) (fm_c (cok_214 hK) (fm_c (cok_215 hK) (fm_c (cok_216 hK) (fm_c (cok_217 hK) fm_n))))))))))))) (show chk KD0 G0 (aX KD0) nX 2000 130 [ctr_87, ctr_206, ctr_207, ctr_208, ctr_209, ctr_210, ctr_211, ctr_212, ctr_213, ctr_214, ctr_215, ctr_216, ctr_217] ctr_222 = true by decide +kernel)
-- X0_pick
set_option maxRecDepth 100000 in
def ctr_223 : CTR := (7, [.inr (some 32), .inr none, .inl (1, 6), .inl (1, 3), .inl (1, 1)], some (.inl (0, 1)), [], [(21, 0)], 3, 0, [(22, [(0, .inr (some 32)), (1, .inr none), (3, .inl (1, 6)), (4, .inl (2, 3)), (5, .inl (1, 1)), (6, .inl (1, 64))], [], [], 128, [((6, none), -2)], [])], [], [])
set_option maxRecDepth 100000 in
theorem cok_223 {KO : List Nat} (hK : KOK KO) : cOk KD0 KO G0 ctr_223 := chk_ok (G0_xOK hK.1) (chkS_ok (show chkS sgl0 [ctr_87, ctr_207, ctr_208, ctr_209, ctr_210, ctr_211, ctr_212, ctr_213, ctr_214, ctr_215, ctr_216, ctr_217] ctr_223 = true by decide +kernel) hK.2) (fm_c (cok_87 hK) (fm_c (cok_207 hK) (fm_c (cok_208 hK) (fm_c (cok_209 hK) (fm_c (cok_210 hK) (fm_c (cok_211 hK) (fm_c (cok_212 hK) (fm_c (cok_213 hK) (fm_c (cok_214 hK) (fm_c (cok_215 hK) (fm_c (cok_216 hK) (fm_c (cok_217 hK) fm_n)))))))))))) (show chk KD0 G0 (aX KD0) nX 2000 130 [ctr_87, ctr_207, ctr_208, ctr_209, ctr_210, ctr_211, ctr_212, ctr_213, ctr_214, ctr_215, ctr_216, ctr_217] ctr_223 = true by decide +kernel)
-- X0_pick
set_option maxRecDepth 100000 in
def ctr_224 : CTR := (7, [.inr (some 32), .inr none, .inl (1, 7), .inl (1, 3), .inl (1, 1)], some (.inl (0, 1)), [], [(21, 0)], 3, 0, [(22, [(0, .inr (some 32)), (1, .inr none), (3, .inl (1, 7)), (4, .inl (2, 3)), (5, .inl (1, 1)), (6, .inl (1, 64))], [], [], 128, [((6, none), -2)], [])], [], [])
set_option maxRecDepth 100000 in
theorem cok_224 {KO : List Nat} (hK : KOK KO) : cOk KD0 KO G0 ctr_224 := chk_ok (G0_xOK hK.1) (chkS_ok (show chkS sgl0 [ctr_87, ctr_208, ctr_209, ctr_210, ctr_211, ctr_212, ctr_213, ctr_214, ctr_215, ctr_216, ctr_217] ctr_224 = true by decide +kernel) hK.2) (fm_c (cok_87 hK) (fm_c (cok_208 hK) (fm_c (cok_209 hK) (fm_c (cok_210 hK) (fm_c (cok_211 hK) (fm_c (cok_212 hK) (fm_c (cok_213 hK) (fm_c (cok_214 hK) (fm_c (cok_215 hK) (fm_c (cok_216 hK) (fm_c (cok_217 hK) fm_n))))))))))) (show chk KD0 G0 (aX KD0) nX 2000 130 [ctr_87, ctr_208, ctr_209, ctr_210, ctr_211, ctr_212, ctr_213, ctr_214, ctr_215, ctr_216, ctr_217] ctr_224 = true by decide +kernel)
