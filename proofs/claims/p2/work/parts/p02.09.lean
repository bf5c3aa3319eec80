-- X0_pick
set_option maxRecDepth 100000 in
def ctr_225 : CTR := (7, [.inr (some 32), .inr none, .inl (1, 8), .inl (1, 3), .inl (1, 1)], some (.inl (0, 1)), [], [(21, 0)], 3, 0, [(22, [(0, .inr (some 32)), (1, .inr none), (3, .inl (1, 8)), (4, .inl (2, 3)), (5, .inl (1, 1)), (6, .inl (1, 64))], [], [], 128, [((6, none), -2)], [])], [], [])
set_option maxRecDepth 100000 in
theorem cok_225 {KO : List Nat} (hK : KOK KO) : cOk KD0 KO G0 ctr_225 := chk_ok (G0_xOK hK.1) (chkS_ok (show chkS sgl0 [ctr_87, ctr_209, ctr_210, ctr_211, ctr_212, ctr_213, ctr_214, ctr_215, ctr_216, ctr_217] ctr_225 = true by decide +kernel) hK.2) (fm_c (cok_87 hK) (fm_c (cok_209 hK) (fm_c (cok_210 hK) (fm_c (cok_211 hK) (fm_c (cok_212 hK) (fm_c (cok_213 hK) (fm_c (cok_214 hK) (fm_c (cok_215 hK) (fm_c (cok_216 hK) (fm_c (cok_217 hK) fm_n)))))))))) (show chk KD0 G0 (aX KD0) nX 2000 130 [ctr_87, ctr_209, ctr_210, ctr_211, ctr_212, ctr_213, ctr_214, ctr_215, ctr_216, ctr_217] ctr_225 = true by decide +kernel)
-- X0_pick
set_option maxRecDepth 100000 in
def ctr_226 : CTR := (7, [.inr (some 32), .inr none, .inl (1, 9), .inl (1, 3), .inl (1, 1)], some (.inl (0, 1)), [], [(21, 0)], 3, 0, [(22, [(0, .inr (some 32)), (1, .inr none), (3, .inl (1, 9)), (4, .inl (2, 3)), (5, .inl (1, 1)), (6, .inl (1, 64))], [], [], 128, [((6, none), -2)], [])], [], [])
set_option maxRecDepth 100000 in
theorem cok_226 {KO : List Nat} (hK : KOK KO) : cOk KD0 KO G0 ctr_226 := chk_ok (G0_xOK hK.1) (chkS_ok (show chkS sgl0 [ctr_87, ctr_210, ctr_211, ctr_212, ctr_213, ctr_214, ctr_215, ctr_216, ctr_217] ctr_226 = true by decide +kernel) hK.2) (fm_c (cok_87 hK) (fm_c (cok_210 hK) (fm_c (cok_211 hK) (fm_c (cok_212 hK) (fm_c (cok_213 hK) (fm_c (cok_214 hK) (fm_c (cok_215 hK) (fm_c (cok_216 hK) (fm_c (cok_217 hK) fm_n))))))))) (show chk KD0 G0 (aX KD0) nX 2000 130 [ctr_87, ctr_210, ctr_211, ctr_212, ctr_213, ctr_214, ctr_215, ctr_216, ctr_217] ctr_226 = true by decide +kernel)
-- X0_pick
set_option maxRecDepth 100000 in
def ctr_227 : CTR := (7, [.inr (some 32), .inr none, .inl (1, 11), .inl (1, 3), .inl (1, 1)], some (.inl (0, 1)), [], [(21, 0)], 3, 0, [(22, [(0, .inr (some 32)), (1, .inr none), (3, .inl (1, 11)), (4, .inl (2, 3)), (5, .inl (1, 1)), (6, .inl (1, 64))], [], [], 128, [((6, none), -2)], [])], [], [])
set_option maxRecDepth 100000 in
theorem cok_227 {KO : List Nat} (hK : KOK KO) : cOk KD0 KO G0 ctr_227 := chk_ok (G0_xOK hK.1) (chkS_ok (show chkS sgl0 [ctr_87, ctr_211, ctr_212, ctr_213, ctr_214, ctr_215, ctr_216, ctr_217] ctr_227 = true by decide +kernel) hK.2) (fm_c (cok_87 hK) (fm_c (cok_211 hK) (fm_c (cok_212 hK) (fm_c (cok_213 hK) (fm_c (cok_214 hK) (fm_c (cok_215 hK) (fm_c (cok_216 hK) (fm_c (cok_217 hK) fm_n)))))))) (show chk KD0 G0 (aX KD0) nX 2000 130 [ctr_87, ctr_211, ctr_212, ctr_213, ctr_214, ctr_215, ctr_216, ctr_217] ctr_227 = true by decide +kernel)
-- X0_pick
set_option maxRecDepth 100000 in
def ctr_228 : CTR := (7, [.inr (some 32), .inr none, .inl (1, 12), .inl (1, 3), .inl (1, 1)], some (.inl (0, 1)), [], [(21, 0)], 3, 0, [(22, [(0, .inr (some 32)), (1, .inr none), (3, .inl (1, 12)), (4, .inl (2, 3)), (5, .inl (1, 1)), (6, .inl (1, 64))], [], [], 128, [((6, none), -2)], [])], [], [])
set_option maxRecDepth 100000 in
theorem cok_228 {KO : List Nat} (hK : KOK KO) : cOk KD0 KO G0 ctr_228 := chk_ok (G0_xOK hK.1) (chkS_ok (show chkS sgl0 [ctr_87, ctr_212, ctr_213, ctr_214, ctr_215, ctr_216, ctr_217] ctr_228 = true by decide +kernel) hK.2) (fm_c (cok_87 hK) (fm_c (cok_212 hK) (fm_c (cok_213 hK) (fm_c (cok_214 hK) (fm_c (cok_215 hK) (fm_c (cok_216 hK) (fm_c (cok_217 hK) fm_n))))))) (show chk KD0 G0 (aX KD0) nX 2000 130 [ctr_87, ctr_212, ctr_213, ctr_214, ctr_215, ctr_216, ctr_217] ctr_228 = true by decide +kernel)
-- X0_pick
set_option maxRecDepth 100000 in
def ctr_229 : CTR := (7, [.inr (some 32), .inr none, .inl (1, 13), .inl (1, 3), .inl (1, 1)], some (.inl (0, 1)), [], [(21, 0)], 3, 0, [(22, [(0, .inr (some 32)), (1, .inr none), (3, .inl (1, 13)), (4, .inl (2, 3)), (5, .inl (1, 1)), (6, .inl (1, 64))], [], [], 128, [((6, none), -2)], [])], [], [])
set_option maxRecDepth 100000 in
theorem cok_229 {KO : List Nat} (hK : KOK KO) : cOk KD0 KO G0 ctr_229 := chk_ok (G0_xOK hK.1) (chkS_ok (show chkS sgl0 [ctr_87, ctr_213, ctr_214, ctr_215, ctr_216, ctr_217] ctr_229 = true by decide +kernel) hK.2) (fm_c (cok_87 hK) (fm_c (cok_213 hK) (fm_c (cok_214 hK) (fm_c (cok_215 hK) (fm_c (cok_216 hK) (fm_c (cok_217 hK) fm_n)))))) (show chk KD0 G0 (aX KD0) nX 2000 130 [ctr_87, ctr_213, ctr_214, ctr_215, ctr_216, ctr_217] ctr_229 = true by decide +kernel)
-- X0_pick
set_option maxRecDepth 100000 in
def ctr_230 : CTR := (7, [.inr (some 32), .inr none, .inl (1, 14), .inl (1, 3), .inl (1, 1)], some (.inl (0, 1)), [], [(21, 0)], 3, 0, [(22, [(0, .inr (some 32)), (1, .inr none), (3, .inl (1, 14)), (4, .inl (2, 3)), (5, .inl (1, 1)), (6, .inl (1, 64))], [], [], 128, [((6, none), -2)], [])], [], [])
set_option maxRecDepth 100000 in
theorem cok_230 {KO : List Nat} (hK : KOK KO) : cOk KD0 KO G0 ctr_230 := chk_ok (G0_xOK hK.1) (chkS_ok (show chkS sgl0 [ctr_87, ctr_214, ctr_215, ctr_216, ctr_217] ctr_230 = true by decide +kernel) hK.2) (fm_c (cok_87 hK) (fm_c (cok_214 hK) (fm_c (cok_215 hK) (fm_c (cok_216 hK) (fm_c (cok_217 hK) fm_n))))) (show chk KD0 G0 (aX KD0) nX 2000 130 [ctr_87, ctr_214, ctr_215, ctr_216, ctr_217] ctr_230 = true by decide +kernel)
-- X0_pick
set_option maxRecDepth 100000 in
def ctr_231 : CTR := (7, [.inr (some 32), .inr none, .inl (1, 16), .inl (1, 3), .inl (1, 1)], some (.inl (0, 1)), [], [(21, 0)], 3, 0, [(22, [(0, .inr (some 32)), (1, .inr none), (3, .inl (1, 16)), (4, .inl (2, 3)), (5, .inl (1, 1)), (6, .inl (1, 64))], [], [], 128, [((6, none), -2)], [])], [], [])
set_option maxRecDepth 100000 in
theorem cok_231 {KO : List Nat} (hK : KOK KO) : cOk KD0 KO G0 ctr_231 := chk_ok (G0_xOK hK.1) (chkS_ok (show chkS sgl0 [ctr_87, ctr_215, ctr_216, ctr_217] ctr_231 = true by decide +kernel) hK.2) (fm_c (cok_87 hK) (fm_c (cok_215 hK) (fm_c (cok_216 hK) (fm_c (cok_217 hK) fm_n)))) (show chk KD0 G0 (aX KD0) nX 2000 130 [ctr_87, ctr_215, ctr_216, ctr_217] ctr_231 = true by decide +kernel)
-- X0_pick
set_option maxRecDepth 100000 in
def ctr_232 : CTR := (7, [.inr (some 32), .inr none, .inl (1, 17), .inl (1, 3), .inl (1, 1)], some (.inl (0, 1)), [], [(21, 0)], 3, 0, [(22, [(0, .inr (some 32)), (1, .inr none), (3, .inl (1, 17)), (4, .inl (2, 3)), (5, .inl (1, 1)), (6, .inl (1, 64))], [], [], 128, [((6, none), -2)], [])], [], [])
set_option maxRecDepth 100000 in
theorem cok_232 {KO : List Nat} (hK : KOK KO) : cOk KD0 KO G0 ctr_232 := chk_ok (G0_xOK hK.1) (chkS_ok (show chkS sgl0 [ctr_87, ctr_216, ctr_217] ctr_232 = true by decide +kernel) hK.2) (fm_c (cok_87 hK) (fm_c (cok_216 hK) (fm_c (cok_217 hK) fm_n))) (show chk KD0 G0 (aX KD0) nX 2000 130 [ctr_87, ctr_216, ctr_217] ctr_232 = true by decide +kernel)
-- X0_pick
set_option maxRecDepth 100000 in
def ctr_233 : CTR := (7, [.inr (some 32), .inr none, .inl (1, 32), .inl (1, 3), .inl (1, 1)], some (.inl (0, 1)), [], [(21, 0)], 3, 0, [(22, [(0, .inr (some 32)), (1, .inr none), (3, .inl (1, 32)), (4, .inl (2, 3)), (5, .inl (1, 1)), (6, .inl (1, 64))], [], [], 128, [((6, none), -2)], [])], [], [])
set_option maxRecDepth 100000 in
theorem cok_233 {KO : List Nat} (hK : KOK KO) : cOk KD0 KO G0 ctr_233 := chk_ok (G0_xOK hK.1) (chkS_ok (show chkS sgl0 [ctr_87, ctr_217] ctr_233 = true by decide +kernel) hK.2) (fm_c (cok_87 hK) (fm_c (cok_217 hK) fm_n)) (show chk KD0 G0 (aX KD0) nX 2000 130 [ctr_87, ctr_217] ctr_233 = true by decide +kernel)
-- X0_pick
set_option maxRecDepth 100000 in
def ctr_234 : CTR := (7, [.inr (some 32), .inr none, .inl (1, 64), .inl (1, 3), .inl (1, 1)], some (.inl (0, 1)), [], [(21, 0)], 3, 0, [(22, [(0, .inr (some 32)), (1, .inr none), (3, .inl (1, 64)), (4, .inl (2, 3)), (5, .inl (1, 1)), (6, .inl (1, 64))], [], [], 128, [((6, none), -2)], [])], [], [])
set_option maxRecDepth 100000 in
theorem cok_234 {KO : List Nat} (hK : KOK KO) : cOk KD0 KO G0 ctr_234 := chk_ok (G0_xOK hK.1) (chkS_ok (show chkS sgl0 [ctr_87, ctr_217] ctr_234 = true by decide +kernel) hK.2) (fm_c (cok_87 hK) (fm_c (cok_217 hK) fm_n)) (show chk KD0 G0 (aX KD0) nX 2000 130 [ctr_87, ctr_217] ctr_234 = true by decide +kernel)
-- X0_pick
set_option maxRecDepth 100000 in
def ctr_235 : CTR := (7, [.inr (some 32), .inr none, .inl (0, 0), .inl (1, 3), .inl (0, 0)], some (.inl (0, 1)), [], [(21, 0)], 4, 0, [(22, [(0, .inr (some 32)), (1, .inr none), (3, .inl (0, 0)), (4, .inl (1, 3)), (5, .inl (0, 0)), (6, .inl (0, 64))], [], [], 128, [((6, none), -2)], [])], [], [])
set_option maxRecDepth 100000 in
theorem cok_235 {KO : List Nat} (hK : KOK KO) : cOk KD0 KO G0 ctr_235 := chk_ok (G0_xOK hK.1) (chkS_ok (show chkS sgl0 [ctr_87, ctr_218, ctr_219, ctr_220, ctr_221, ctr_222, ctr_223, ctr_224, ctr_225, ctr_226, ctr_227, ctr_228, ctr_229, ctr_230, ctr_231, ctr_232, ctr_233, ctr_234] ctr_235 = true by decide +kernel) hK.2) (fm_c (cok_87 hK) (fm_c (cok_218 hK) (fm_c (cok_219 hK) (fm_c (cok_220 hK) (fm_c (cok_221 hK) (fm_c (cok_222 hK) (fm_c (cok_223 hK) (fm_c (cok_224 hK) (fm_c (cok_225 hK) (fm_c (cok_226 hK) (fm_c (cok_227 hK) (fm_c (cok_228 hK) (fm_c (cok_229 hK) (fm_c (cok_230 hK) (fm_c (cok_231 hK) (fm_c (cok_232 hK) (fm_c (cok_233 hK) (fm_c (cok_234 hK) fm_n)))))))))))))))))) (show chk KD0 G0 (aX KD0) nX 2000 132 [ctr_87, ctr_218, ctr_219, ctr_220, ctr_221, ctr_222, ctr_223, ctr_224, ctr_225, ctr_226, ctr_227, ctr_228, ctr_229, ctr_230, ctr_231, ctr_232, ctr_233, ctr_234] ctr_235 = true by decide +kernel)
-- X0_pick
set_option maxRecDepth 100000 in
def ctr_236 : CTR := (7, [.inr (some 32), .inr none, .inl (3, 3), .inl (3, 4), .inl (3, 3)], some (.inl (0, 1)), [], [(21, 0)], 2, 0, [(22, [(0, .inr (some 32)), (1, .inr none), (3, .inl (3, 3)), (4, .inl (4, 4)), (5, .inl (3, 3)), (6, .inl (3, 64))], [], [], 128, [((6, none), -2)], [])], [], [])
set_option maxRecDepth 100000 in
theorem cok_236 {KO : List Nat} (hK : KOK KO) : cOk KD0 KO G0 ctr_236 := chk_ok (G0_xOK hK.1) (chkS_ok (show chkS sgl0 [ctr_87] ctr_236 = true by decide +kernel) hK.2) (fm_c (cok_87 hK) fm_n) (show chk KD0 G0 (aX KD0) nX 2000 126 [ctr_87] ctr_236 = true by decide +kernel)
-- X0_pick
set_option maxRecDepth 100000 in
def ctr_237 : CTR := (7, [.inr (some 32), .inr none, .inl (3, 4), .inl (3, 4), .inl (3, 3)], some (.inl (0, 1)), [], [(21, 0)], 2, 0, [(22, [(0, .inr (some 32)), (1, .inr none), (3, .inl (3, 4)), (4, .inl (4, 4)), (5, .inl (3, 3)), (6, .inl (3, 64))], [], [], 128, [((6, none), -2)], [])], [], [])
set_option maxRecDepth 100000 in
theorem cok_237 {KO : List Nat} (hK : KOK KO) : cOk KD0 KO G0 ctr_237 := chk_ok (G0_xOK hK.1) (chkS_ok (show chkS sgl0 [ctr_87] ctr_237 = true by decide +kernel) hK.2) (fm_c (cok_87 hK) fm_n) (show chk KD0 G0 (aX KD0) nX 2000 126 [ctr_87] ctr_237 = true by decide +kernel)
-- X0_pick
set_option maxRecDepth 100000 in
def ctr_238 : CTR := (7, [.inr (some 32), .inr none, .inl (3, 5), .inl (3, 4), .inl (3, 3)], some (.inl (0, 1)), [], [(21, 0)], 2, 0, [(22, [(0, .inr (some 32)), (1, .inr none), (3, .inl (3, 5)), (4, .inl (4, 4)), (5, .inl (3, 3)), (6, .inl (3, 64))], [], [], 128, [((6, none), -2)], [])], [], [])
set_option maxRecDepth 100000 in
theorem cok_238 {KO : List Nat} (hK : KOK KO) : cOk KD0 KO G0 ctr_238 := chk_ok (G0_xOK hK.1) (chkS_ok (show chkS sgl0 [ctr_87] ctr_238 = true by decide +kernel) hK.2) (fm_c (cok_87 hK) fm_n) (show chk KD0 G0 (aX KD0) nX 2000 126 [ctr_87] ctr_238 = true by decide +kernel)
-- X0_pick
set_option maxRecDepth 100000 in
def ctr_239 : CTR := (7, [.inr (some 32), .inr none, .inl (3, 6), .inl (3, 4), .inl (3, 3)], some (.inl (0, 1)), [], [(21, 0)], 2, 0, [(22, [(0, .inr (some 32)), (1, .inr none), (3, .inl (3, 6)), (4, .inl (4, 4)), (5, .inl (3, 3)), (6, .inl (3, 64))], [], [], 128, [((6, none), -2)], [])], [], [])
set_option maxRecDepth 100000 in
theorem cok_239 {KO : List Nat} (hK : KOK KO) : cOk KD0 KO G0 ctr_239 := chk_ok (G0_xOK hK.1) (chkS_ok (show chkS sgl0 [ctr_87] ctr_239 = true by decide +kernel) hK.2) (fm_c (cok_87 hK) fm_n) (show chk KD0 G0 (aX KD0) nX 2000 126 [ctr_87] ctr_239 = true by decide +kernel)
-- X0_pick
set_option maxRecDepth 100000 in
def ctr_240 : CTR := (7, [.inr (some 32), .inr none, .inl (3, 7), .inl (3, 4), .inl (3, 3)], some (.inl (0, 1)), [], [(21, 0)], 2, 0, [(22, [(0, .inr (some 32)), (1, .inr none), (3, .inl (3, 7)), (4, .inl (4, 4)), (5, .inl (3, 3)), (6, .inl (3, 64))], [], [], 128, [((6, none), -2)], [])], [], [])
set_option maxRecDepth 100000 in
theorem cok_240 {KO : List Nat} (hK : KOK KO) : cOk KD0 KO G0 ctr_240 := chk_ok (G0_xOK hK.1) (chkS_ok (show chkS sgl0 [ctr_87] ctr_240 = true by decide +kernel) hK.2) (fm_c (cok_87 hK) fm_n) (show chk KD0 G0 (aX KD0) nX 2000 126 [ctr_87] ctr_240 = true by decide +kernel)
-- X0_pick
set_option maxRecDepth 100000 in
def ctr_241 : CTR := (7, [.inr (some 32), .inr none, .inl (3, 8), .inl (3, 4), .inl (3, 3)], some (.inl (0, 1)), [], [(21, 0)], 2, 0, [(22, [(0, .inr (some 32)), (1, .inr none), (3, .inl (3, 8)), (4, .inl (4, 4)), (5, .inl (3, 3)), (6, .inl (3, 64))], [], [], 128, [((6, none), -2)], [])], [], [])
set_option maxRecDepth 100000 in
theorem cok_241 {KO : List Nat} (hK : KOK KO) : cOk KD0 KO G0 ctr_241 := chk_ok (G0_xOK hK.1) (chkS_ok (show chkS sgl0 [ctr_87] ctr_241 = true by decide +kernel) hK.2) (fm_c (cok_87 hK) fm_n) (show chk KD0 G0 (aX KD0) nX 2000 126 [ctr_87] ctr_241 = true by decide +kernel)
-- X0_pick
set_option maxRecDepth 100000 in
def ctr_242 : CTR := (7, [.inr (some 32), .inr none, .inl (3, 9), .inl (3, 4), .inl (3, 3)], some (.inl (0, 1)), [], [(21, 0)], 2, 0, [(22, [(0, .inr (some 32)), (1, .inr none), (3, .inl (3, 9)), (4, .inl (4, 4)), (5, .inl (3, 3)), (6, .inl (3, 64))], [], [], 128, [((6, none), -2)], [])], [], [])
set_option maxRecDepth 100000 in
theorem cok_242 {KO : List Nat} (hK : KOK KO) : cOk KD0 KO G0 ctr_242 := chk_ok (G0_xOK hK.1) (chkS_ok (show chkS sgl0 [ctr_87] ctr_242 = true by decide +kernel) hK.2) (fm_c (cok_87 hK) fm_n) (show chk KD0 G0 (aX KD0) nX 2000 126 [ctr_87] ctr_242 = true by decide +kernel)
-- X0_pick
set_option maxRecDepth 100000 in
def ctr_243 : CTR := (7, [.inr (some 32), .inr none, .inl (3, 11), .inl (3, 4), .inl (3, 3)], some (.inl (0, 1)), [], [(21, 0)], 2, 0, [(22, [(0, .inr (some 32)), (1, .inr none), (3, .inl (3, 11)), (4, .inl (4, 4)), (5, .inl (3, 3)), (6, .inl (3, 64))], [], [], 128, [((6, none), -2)], [])], [], [])
set_option maxRecDepth 100000 in
theorem cok_243 {KO : List Nat} (hK : KOK KO) : cOk KD0 KO G0 ctr_243 := chk_ok (G0_xOK hK.1) (chkS_ok (show chkS sgl0 [ctr_87] ctr_243 = true by decide +kernel) hK.2) (fm_c (cok_87 hK) fm_n) (show chk KD0 G0 (aX KD0) nX 2000 126 [ctr_87] ctr_243 = true by decide +kernel)
-- X0_pick
set_option maxRecDepth 100000 in
def ctr_244 : CTR := (7, [.inr (some 32), .inr none, .inl (3, 12), .inl (3, 4), .inl (3, 3)], some (.inl (0, 1)), [], [(21, 0)], 2, 0, [(22, [(0, .inr (some 32)), (1, .inr none), (3, .inl (3, 12)), (4, .inl (4, 4)), (5, .inl (3, 3)), (6, .inl (3, 64))], [], [], 128, [((6, none), -2)], [])], [], [])
set_option maxRecDepth 100000 in
theorem cok_244 {KO : List Nat} (hK : KOK KO) : cOk KD0 KO G0 ctr_244 := chk_ok (G0_xOK hK.1) (chkS_ok (show chkS sgl0 [ctr_87] ctr_244 = true by decide +kernel) hK.2) (fm_c (cok_87 hK) fm_n) (show chk KD0 G0 (aX KD0) nX 2000 126 [ctr_87] ctr_244 = true by decide +kernel)
-- X0_pick
set_option maxRecDepth 100000 in
def ctr_245 : CTR := (7, [.inr (some 32), .inr none, .inl (3, 13), .inl (3, 4), .inl (3, 3)], some (.inl (0, 1)), [], [(21, 0)], 2, 0, [(22, [(0, .inr (some 32)), (1, .inr none), (3, .inl (3, 13)), (4, .inl (4, 4)), (5, .inl (3, 3)), (6, .inl (3, 64))], [], [], 128, [((6, none), -2)], [])], [], [])
set_option maxRecDepth 100000 in
theorem cok_245 {KO : List Nat} (hK : KOK KO) : cOk KD0 KO G0 ctr_245 := chk_ok (G0_xOK hK.1) (chkS_ok (show chkS sgl0 [ctr_87] ctr_245 = true by decide +kernel) hK.2) (fm_c (cok_87 hK) fm_n) (show chk KD0 G0 (aX KD0) nX 2000 126 [ctr_87] ctr_245 = true by decide +kernel)
-- X0_pick
set_option maxRecDepth 100000 in
def ctr_246 : CTR := (7, [.inr (some 32), .inr none, .inl (3, 14), .inl (3, 4), .inl (3, 3)], some (.inl (0, 1)), [], [(21, 0)], 2, 0, [(22, [(0, .inr (some 32)), (1, .inr none), (3, .inl (3, 14)), (4, .inl (4, 4)), (5, .inl (3, 3)), (6, .inl (3, 64))], [], [], 128, [((6, none), -2)], [])], [], [])
set_option maxRecDepth 100000 in
theorem cok_246 {KO : List Nat} (hK : KOK KO) : cOk KD0 KO G0 ctr_246 := chk_ok (G0_xOK hK.1) (chkS_ok (show chkS sgl0 [ctr_87] ctr_246 = true by decide +kernel) hK.2) (fm_c (cok_87 hK) fm_n) (show chk KD0 G0 (aX KD0) nX 2000 126 [ctr_87] ctr_246 = true by decide +kernel)
-- X0_pick
set_option maxRecDepth 100000 in
def ctr_247 : CTR := (7, [.inr (some 32), .inr none, .inl (3, 16), .inl (3, 4), .inl (3, 3)], some (.inl (0, 1)), [], [(21, 0)], 2, 0, [(22, [(0, .inr (some 32)), (1, .inr none), (3, .inl (3, 16)), (4, .inl (4, 4)), (5, .inl (3, 3)), (6, .inl (3, 64))], [], [], 128, [((6, none), -2)], [])], [], [])
set_option maxRecDepth 100000 in
theorem cok_247 {KO : List Nat} (hK : KOK KO) : cOk KD0 KO G0 ctr_247 := chk_ok (G0_xOK hK.1) (chkS_ok (show chkS sgl0 [ctr_87] ctr_247 = true by decide +kernel) hK.2) (fm_c (cok_87 hK) fm_n) (show chk KD0 G0 (aX KD0) nX 2000 126 [ctr_87] ctr_247 = true by decide +kernel)
-- X0_pick
set_option maxRecDepth 100000 in
def ctr_248 : CTR := (7, [.inr (some 32), .inr none, .inl (3, 17), .inl (3, 4), .inl (3, 3)], some (.inl (0, 1)), [], [(21, 0)], 2, 0, [(22, [(0, .inr (some 32)), (1, .inr none), (3, .inl (3, 17)), (4, .inl (4, 4)), (5, .inl (3, 3)), (6, .inl (3, 64))], [], [], 128, [((6, none), -2)], [])], [], [])
set_option maxRecDepth 100000 in
theorem cok_248 {KO : List Nat} (hK : KOK KO) : cOk KD0 KO G0 ctr_248 := chk_ok (G0_xOK hK.1) (chkS_ok (show chkS sgl0 [ctr_87] ctr_248 = true by decide +kernel) hK.2) (fm_c (cok_87 hK) fm_n) (show chk KD0 G0 (aX KD0) nX 2000 126 [ctr_87] ctr_248 = true by decide +kernel)
-- X0_pick
set_option maxRecDepth 100000 in
def ctr_249 : CTR := (7, [.inr (some 32), .inr none, .inl (3, 32), .inl (3, 4), .inl (3, 3)], some (.inl (0, 1)), [], [(21, 0)], 2, 0, [(22, [(0, .inr (some 32)), (1, .inr none), (3, .inl (3, 32)), (4, .inl (4, 4)), (5, .inl (3, 3)), (6, .inl (3, 64))], [], [], 128, [((6, none), -2)], [])], [], [])
set_option maxRecDepth 100000 in
theorem cok_249 {KO : List Nat} (hK : KOK KO) : cOk KD0 KO G0 ctr_249 := chk_ok (G0_xOK hK.1) (chkS_ok (show chkS sgl0 [ctr_87] ctr_249 = true by decide +kernel) hK.2) (fm_c (cok_87 hK) fm_n) (show chk KD0 G0 (aX KD0) nX 2000 126 [ctr_87] ctr_249 = true by decide +kernel)
