-- X0_pick
set_option maxRecDepth 100000 in
def ctr_250 : CTR := (7, [.inr (some 32), .inr none, .inl (3, 64), .inl (3, 4), .inl (3, 3)], some (.inl (0, 1)), [], [(21, 0)], 2, 0, [(22, [(0, .inr (some 32)), (1, .inr none), (3, .inl (3, 64)), (4, .inl (4, 4)), (5, .inl (3, 3)), (6, .inl (3, 64))], [], [], 128, [((6, none), -2)], [])], [], [])
set_option maxRecDepth 100000 in
theorem cok_250 {KO : List Nat} (hK : KOK KO) : cOk KD0 KO G0 ctr_250 := chk_ok (G0_xOK hK.1) (chkS_ok (show chkS sgl0 [ctr_87] ctr_250 = true by decide +kernel) hK.2) (fm_c (cok_87 hK) fm_n) (show chk KD0 G0 (aX KD0) nX 2000 126 [ctr_87] ctr_250 = true by decide +kernel)
-- X0_pick
set_option maxRecDepth 100000 in
def ctr_251 : CTR := (7, [.inr (some 32), .inr none, .inl (2, 2), .inl (2, 4), .inl (2, 2)], some (.inl (0, 1)), [], [(21, 0)], 3, 0, [(22, [(0, .inr (some 32)), (1, .inr none), (3, .inl (2, 2)), (4, .inl (3, 4)), (5, .inl (2, 2)), (6, .inl (2, 64))], [], [], 128, [((6, none), -2)], [])], [], [])
set_option maxRecDepth 100000 in
theorem cok_251 {KO : List Nat} (hK : KOK KO) : cOk KD0 KO G0 ctr_251 := chk_ok (G0_xOK hK.1) (chkS_ok (show chkS sgl0 [ctr_87, ctr_236, ctr_237, ctr_238, ctr_239, ctr_240, ctr_241, ctr_242, ctr_243, ctr_244, ctr_245, ctr_246, ctr_247, ctr_248, ctr_249, ctr_250] ctr_251 = true by decide +kernel) hK.2) (fm_c (cok_87 hK) (fm_c (cok_236 hK) (fm_c (cok_237 hK) (fm_c (cok_238 hK) (fm_c (cok_239 hK) (fm_c (cok_240 hK) (fm_c (cok_241 hK) (fm_c (cok_242 hK) (fm_c (cok_243 hK) (fm_c (cok_244 hK) (fm_c (cok_245 hK) (fm_c (cok_246 hK) (fm_c (cok_247 hK) (fm_c (cok_248 hK) (fm_c (cok_249 hK) (fm_c (cok_250 hK) fm_n)))))))))))))))) (show chk KD0 G0 (aX KD0) nX 2000 128 [ctr_87, ctr_236, ctr_237, ctr_238, ctr_239, ctr_240, ctr_241, ctr_242, ctr_243, ctr_244, ctr_245, ctr_246, ctr_247, ctr_248, ctr_249, ctr_250] ctr_251 = true by decide +kernel)
-- X0_pick
set_option maxRecDepth 100000 in
def ctr_252 : CTR := (7, [.inr (some 32), .inr none, .inl (2, 3), .inl (2, 4), .inl (2, 2)], some (.inl (0, 1)), [], [(21, 0)], 3, 0, [(22, [(0, .inr (some 32)), (1, .inr none), (3, .inl (2, 3)), (4, .inl (3, 4)), (5, .inl (2, 2)), (6, .inl (2, 64))], [], [], 128, [((6, none), -2)], [])], [], [])
set_option maxRecDepth 100000 in
theorem cok_252 {KO : List Nat} (hK : KOK KO) : cOk KD0 KO G0 ctr_252 := chk_ok (G0_xOK hK.1) (chkS_ok (show chkS sgl0 [ctr_87, ctr_237, ctr_238, ctr_239, ctr_240, ctr_241, ctr_242, ctr_243, ctr_244, ctr_245, ctr_246, ctr_247, ctr_248, ctr_249, ctr_250] ctr_252 = true by decide +kernel) hK.2) (fm_c (cok_87 hK) (fm_c (cok_237 hK) (fm_c (cok_238 hK) (fm_c (cok_239 hK) (fm_c (cok_240 hK) (fm_c (cok_241 hK) (fm_c (cok_242 hK) (fm_c (cok_243 hK) (fm_c (cok_244 hK) (fm_c (cok_245 hK) (fm_c (cok_246 hK) (fm_c (cok_247 hK) (fm_c (cok_248 hK) (fm_c (cok_249 hK) (fm_c (cok_250 hK) fm_n))))))))))))))) (show chk KD0 G0 (aX KD0) nX 2000 128 [ctr_87, ctr_237, ctr_238, ctr_239, ctr_240, ctr_241, ctr_242, ctr_243, ctr_244, ctr_245, ctr_246, ctr_247, ctr_248, ctr_249, ctr_250] ctr_252 = true by decide +kernel)
-- X0_pick
set_option maxRecDepth 100000 in
def ctr_253 : CTR := (7, [.inr (some 32), .inr none, .inl (2, 4), .inl (2, 4), .inl (2, 2)], some (.inl (0, 1)), [], [(21, 0)], 3, 0, [(22, [(0, .inr (some 32)), (1, .inr none), (3, .inl (2, 4)), (4, .inl (3, 4)), (5, .inl (2, 2)), (6, .inl (2, 64))], [], [], 128, [((6, none), -2)], [])], [], [])
set_option maxRecDepth 100000 in
theorem cok_253 {KO : List Nat} (hK : KOK KO) : cOk KD0 KO G0 ctr_253 := chk_ok (G0_xOK hK.1) (chkS_ok (show chkS sgl0 [ctr_87, ctr_238, ctr_239, ctr_240, ctr_241, ctr_242, ctr_243, ctr_244, ctr_245, ctr_246, ctr_247, ctr_248, ctr_249, ctr_250] ctr_253 = true by decide +kernel) hK.2) (fm_c (cok_87 hK) (fm_c (cok_238 hK) (fm_c (cok_239 hK) (fm_c (cok_240 hK) (fm_c (cok_241 hK) (fm_c (cok_242 hK) (fm_c (cok_243 hK) (fm_c (cok_244 hK) (fm_c (cok_245 hK) (fm_c (cok_246 hK) (fm_c (cok_247 hK) (fm_c (cok_248 hK) (fm_c (cok_249 hK) (fm_c (cok_250 hK) fm_n)))))))))))))) (show chk KD0 G0 (aX KD0) nX 2000 128 [ctr_87, ctr_238, ctr_239, ctr_240, ctr_241, ctr_242, ctr_243, ctr_244, ctr_245, ctr_246, ctr_247, ctr_248, ctr_249, ctr_250] ctr_253 = true by decide +kernel)
-- X0_pick
set_option maxRecDepth 100000 in
def ctr_254 : CTR := (7, [.inr (some 32), .inr none, .inl (2, 5), .inl (2, 4), .inl (2, 2)], some (.inl (0, 1)), [], [(21, 0)], 3, 0, [(22, [(0, .inr (some 32)), (1, .inr none), (3, .inl (2, 5)), (4, .inl (3, 4)), (5, .inl (2, 2)), (6, .inl (2, 64))], [], [], 128, [((6, none), -2)], [])], [], [])
set_option maxRecDepth 100000 in
theorem cok_254 {KO : List Nat} (hK : KOK KO) : cOk KD0 KO G0 ctr_254 := chk_ok (G0_xOK hK.1) (chkS_ok (show chkS sgl0 [ctr_87, ctr_239, ctr_240, ctr_241, ctr_242, ctr_243, ctr_244, ctr_245, ctr_246, ctr_247, ctr_248, ctr_249, ctr_250] ctr_254 = true by decide +kernel) hK.2) (fm_c (cok_87 hK) (fm_c (cok_239 hK) (fm_c (cok_240 hK) (fm_c (cok_241 hK) (fm_c (cok_242 hK) (fm_c (cok_243 hK) (fm_c (cok_244 hK) (fm_c (cok_245 hK) (fm_c (cok_246 hK) (fm_c (cok_247 hK) (fm_c (cok_248 hK) (fm_c (cok_249 hK) (fm_c (cok_250 hK) fm_n))))))))))))) (show chk KD0 G0 (aX KD0) nX 2000 128 [ctr_87, ctr_239, ctr_240, ctr_241, ctr_242, ctr_243, ctr_244, ctr_245, ctr_246, ctr_247, ctr_248, ctr_249, ctr_250] ctr_254 = true by decide +kernel)
-- X0_pick
set_option maxRecDepth 100000 in
def ctr_255 : CTR := (7, [.inr (some 32), .inr none, .inl (2, 6), .inl (2, 4), .inl (2, 2)], some (.inl (0, 1)), [], [(21, 0)], 3, 0, [(22, [(0, .inr (some 32)), (1, .inr none), (3, .inl (2, 6)), (4, .inl (3, 4)), (5, .inl (2, 2)), (6, .inl (2, 64))], [], [], 128, [((6, none), -2)], [])], [], [])
set_option maxRecDepth 100000 in
theorem cok_255 {KO : List Nat} (hK : KOK KO) : cOk KD0 KO G0 ctr_255 := chk_ok (G0_xOK hK.1) (chkS_ok (show chkS sgl0 [ctr_87, ctr_240, ctr_241, ctr_242, ctr_243, ctr_244, ctr_245, ctr_246, ctr_247, ctr_248, ctr_249, ctr_250] ctr_255 = true by decide +kernel) hK.2) (fm_c (cok_87 hK) (fm_c (cok_240 hK) (fm_c (cok_241 hK) (fm_c (cok_242 hK) (fm_c (cok_243 hK) (fm_c (cok_244 hK) (fm_c (cok_245 hK) (fm_c (cok_246 hK) (fm_c (cok_247 hK) (fm_c (cok_248 hK) (fm_c (cok_249 hK) (fm_c (cok_250 hK) fm_n)))))))))))) (show chk KD0 G0 (aX KD0) nX 2000 128 [ctr_87, ctr_240, ctr_241, ctr_242, ctr_243, ctr_244, ctr_245, ctr_246, ctr_247, ctr_248, ctr_249, ctr_250] ctr_255 = true by decide +kernel)
-- X0_pick
set_option maxRecDepth 100000 in
def ctr_256 : CTR := (7, [.inr (some 32), .inr none, .inl (2, 7), .inl (2, 4), .inl (2, 2)], some (.inl (0, 1)), [], [(21, 0)], 3, 0, [(22, [(0, .inr (some 32)), (1, .inr none), (3, .inl (2, 7)), (4, .inl (3, 4)), (5, .inl (2, 2)), (6, .inl (2, 64))], [], [], 128, [((6, none), -2)], [])], [], [])
set_option maxRecDepth 100000 in
theorem cok_256 {KO : List Nat} (hK : KOK KO) : cOk KD0 KO G0 ctr_256 := chk_ok (G0_xOK hK.1) (chkS_ok (show chkS sgl0 [ctr_87, ctr_241, ctr_242, ctr_243, ctr_244, ctr_245, ctr_246, ctr_247, ctr_248, ctr_249, ctr_250] ctr_256 = true by decide +kernel) hK.2) (fm_c (cok_87 hK) (fm_c (cok_241 hK) (fm_c (cok_242 hK) (fm_c (cok_243 hK) (fm_c (cok_244 hK) (fm_c (cok_245 hK) (fm_c (cok_246 hK) (fm_c (cok_247 hK) (fm_c (cok_248 hK) (fm_c (cok_249 hK) (fm_c (cok_250 hK) fm_n))))))))))) (show chk KD0 G0 (aX KD0) nX 2000 128 [ctr_87, ctr_241, ctr_242, ctr_243, ctr_244, ctr_245, ctr_246, ctr_247, ctr_248, ctr_249, ctr_250] ctr_256 = true by decide +kernel)
-- X0_pick
set_option maxRecDepth 100000 in
def ctr_257 : CTR := (7, [.inr (some 32), .inr none, .inl (2, 8), .inl (2, 4), .inl (2, 2)], some (.inl (0, 1)), [], [(21, 0)], 3, 0, [(22, [(0, .inr (some 32)), (1, .inr none), (3, .inl (2, 8)), (4, .inl (3, 4)), (5, .inl (2, 2)), (6, .inl (2, 64))], [], [], 128, [((6, none), -2)], [])], [], [])
set_option maxRecDepth 100000 in
theorem cok_257 {KO : List Nat} (hK : KOK KO) : cOk KD0 KO G0 ctr_257 := chk_ok (G0_xOK hK.1) (chkS_ok (show chkS sgl0 [ctr_87, ctr_242, ctr_243, ctr_244, ctr_245, ctr_246, ctr_247, ctr_248, ctr_249, ctr_250] ctr_257 = true by decide +kernel) hK.2) (fm_c (cok_87 hK) (fm_c (cok_242 hK) (fm_c (cok_243 hK) (fm_c (cok_244 hK) (fm_c (cok_245 hK) (fm_c (cok_246 hK) (fm_c (cok_247 hK) (fm_c (cok_248 hK) (fm_c (cok_249 hK) (fm_c (cok_250 hK) fm_n)))))))))) (show chk KD0 G0 (aX KD0) nX 2000 128 [ctr_87, ctr_242, ctr_243, ctr_244, ctr_245, ctr_246, ctr_247, ctr_248, ctr_249, ctr_250] ctr_257 = true by decide +kernel)
-- X0_pick
set_option maxRecDepth 100000 in
def ctr_258 : CTR := (7, [.inr (some 32), .inr none, .inl (2, 9), .inl (2, 4), .inl (2, 2)], some (.inl (0, 1)), [], [(21, 0)], 3, 0, [(22, [(0, .inr (some 32)), (1, .inr none), (3, .inl (2, 9)), (4, .inl (3, 4)), (5, .inl (2, 2)), (6, .inl (2, 64))], [], [], 128, [((6, none), -2)], [])], [], [])
set_option maxRecDepth 100000 in
theorem cok_258 {KO : List Nat} (hK : KOK KO) : cOk KD0 KO G0 ctr_258 := chk_ok (G0_xOK hK.1) (chkS_ok (show chkS sgl0 [ctr_87, ctr_243, ctr_244, ctr_245, ctr_246, ctr_247, ctr_248, ctr_249, ctr_250] ctr_258 = true by decide +kernel) hK.2) (fm_c (cok_87 hK) (fm_c (cok_243 hK) (fm_c (cok_244 hK) (fm_c (cok_245 hK) (fm_c (cok_246 hK) (fm_c (cok_247 hK) (fm_c (cok_248 hK) (fm_c (cok_249 hK) (fm_c (cok_250 hK) fm_n))))))))) (show chk KD0 G0 (aX KD0) nX 2000 128 [ctr_87, ctr_243, ctr_244, ctr_245, ctr_246, ctr_247, ctr_248, ctr_249, ctr_250] ctr_258 = true by decide +kernel)
-- X0_pick
set_option maxRecDepth 100000 in
def ctr_259 : CTR := (7, [.inr (some 32), .inr none, .inl (2, 11), .inl (2, 4), .inl (2, 2)], some (.inl (0, 1)), [], [(21, 0)], 3, 0, [(22, [(0, .inr (some 32)), (1, .inr none), (3, .inl (2, 11)), (4, .inl (3, 4)), (5, .inl (2, 2)), (6, .inl (2, 64))], [], [], 128, [((6, none), -2)], [])], [], [])
set_option maxRecDepth 100000 in
theorem cok_259 {KO : List Nat} (hK : KOK KO) : cOk KD0 KO G0 ctr_259 := chk_ok (G0_xOK hK.1) (chkS_ok (show chkS sgl0 [ctr_87, ctr_244, ctr_245, ctr_246, ctr_247, ctr_248, ctr_249, ctr_250] ctr_259 = true by decide +kernel) hK.2) (fm_c (cok_87 hK) (fm_c (cok_244 hK) (fm_c (cok_245 hK) (fm_c (cok_246 hK) (fm_c (cok_247 hK) (fm_c (cok_248 hK) (fm_c (cok_249 hK) (fm_c (cok_250 hK) fm_n)))))))) (show chk KD0 G0 (aX KD0) nX 2000 128 [ctr_87, ctr_244, ctr_245, ctr_246, ctr_247, ctr_248, ctr_249, ctr_250] ctr_259 = true by decide +kernel)
-- X0_pick
set_option maxRecDepth 100000 in
def ctr_260 : CTR := (7, [.inr (some 32), .inr none, .inl (2, 12), .inl (2, 4), .inl (2, 2)], some (.inl (0, 1)), [], [(21, 0)], 3, 0, [(22, [(0, .inr (some 32)), (1, .inr none), (3, .inl (2, 12)), (4, .inl (3, 4)), (5, .inl (2, 2)), (6, .inl (2, 64))], [], [], 128, [((6, none), -2)], [])], [], [])
set_option maxRecDepth 100000 in
theorem cok_260 {KO : List Nat} (hK : KOK KO) : cOk KD0 KO G0 ctr_260 := chk_ok (G0_xOK hK.1) (chkS_ok (show chkS sgl0 [ctr_87, ctr_245, ctr_246, ctr_247, ctr_248, ctr_249, ctr_250] ctr_260 = true by decide +kernel) hK.2) (fm_c (cok_87 hK) (fm_c (cok_245 hK) (fm_c (cok_246 hK) (fm_c (cok_247 hK) (fm_c (cok_248 hK) (fm_c (cok_249 hK) (fm_c (cok_250 hK) fm_n))))))) (show chk KD0 G0 (aX KD0) nX 2000 128 [ctr_87, ctr_245, ctr_246, ctr_247, ctr_248, ctr_249, ctr_250] ctr_260 = true by decide +kernel)
-- X0_pick
set_option maxRecDepth 100000 in
def ctr_261 : CTR := (7, [.inr (some 32), .inr none, .inl (2, 13), .inl (2, 4), .inl (2, 2)], some (.inl (0, 1)), [], [(21, 0)], 3, 0, [(22, [(0, .inr (some 32)), (1, .inr none), (3, .inl (2, 13)), (4, .inl (3, 4)), (5, .inl (2, 2)), (6, .inl (2, 64))], [], [], 128, [((6, none), -2)], [])], [], [])
set_option maxRecDepth 100000 in
theorem cok_261 {KO : List Nat} (hK : KOK KO) : cOk KD0 KO G0 ctr_261 := chk_ok (G0_xOK hK.1) (chkS_ok (show chkS sgl0 [ctr_87, ctr_246, ctr_247, ctr_248, ctr_249, ctr_250] ctr_261 = true by decide +kernel) hK.2) (fm_c (cok_87 hK) (fm_c (cok_246 hK) (fm_c (cok_247 hK) (fm_c (cok_248 hK) (fm_c (cok_249 hK) (fm_c (cok_250 hK) fm_n)))))) (show chk KD0 G0 (aX KD0) nX 2000 128 [ctr_87, ctr_246, ctr_247, ctr_248, ctr_249, ctr_250] ctr_261 = true by decide +kernel)
-- X0_pick
set_option maxRecDepth 100000 in
def ctr_262 : CTR := (7, [.inr (some 32), .inr none, .inl (2, 14), .inl (2, 4), .inl (2, 2)], some (.inl (0, 1)), [], [(21, 0)], 3, 0, [(22, [(0, .inr (some 32)), (1, .inr none), (3, .inl (2, 14)), (4, .inl (3, 4)), (5, .inl (2, 2)), (6, .inl (2, 64))], [], [], 128, [((6, none), -2)], [])], [], [])
set_option maxRecDepth 100000 in
theorem cok_262 {KO : List Nat} (hK : KOK KO) : cOk KD0 KO G0 ctr_262 := chk_ok (G0_xOK hK.1) (chkS_ok (show chkS sgl0 [ctr_87, ctr_247, ctr_248, ctr_249, ctr_250] ctr_262 = true by decide +kernel) hK.2) (fm_c (cok_87 hK) (fm_c (cok_247 hK) (fm_c (cok_248 hK) (fm_c (cok_249 hK) (fm_c (cok_250 hK) fm_n))))) (show chk KD0 G0 (aX KD0) nX 2000 128 [ctr_87, ctr_247, ctr_248, ctr_249, ctr_250] ctr_262 = true by decide +kernel)
-- X0_pick
set_option maxRecDepth 100000 in
def ctr_263 : CTR := (7, [.inr (some 32), .inr none, .inl (2, 16), .inl (2, 4), .inl (2, 2)], some (.inl (0, 1)), [], [(21, 0)], 3, 0, [(22, [(0, .inr (some 32)), (1, .inr none), (3, .inl (2, 16)), (4, .inl (3, 4)), (5, .inl (2, 2)), (6, .inl (2, 64))], [], [], 128, [((6, none), -2)], [])], [], [])
set_option maxRecDepth 100000 in
theorem cok_263 {KO : List Nat} (hK : KOK KO) : cOk KD0 KO G0 ctr_263 := chk_ok (G0_xOK hK.1) (chkS_ok (show chkS sgl0 [ctr_87, ctr_248, ctr_249, ctr_250] ctr_263 = true by decide +kernel) hK.2) (fm_c (cok_87 hK) (fm_c (cok_248 hK) (fm_c (cok_249 hK) (fm_c (cok_250 hK) fm_n)))) (show chk KD0 G0 (aX KD0) nX 2000 128 [ctr_87, ctr_248, ctr_249, ctr_250] ctr_263 = true by decide +kernel)
-- X0_pick
set_option maxRecDepth 100000 in
def ctr_264 : CTR := (7, [.inr (some 32), .inr none, .inl (2, 17), .inl (2, 4), .inl (2, 2)], some (.inl (0, 1)), [], [(21, 0)], 3, 0, [(22, [(0, .inr (some 32)), (1, .inr none), (3, .inl (2, 17)), (4, .inl (3, 4)), (5, .inl (2, 2)), (6, .inl (2, 64))], [], [], 128, [((6, none), -2)], [])], [], [])
set_option maxRecDepth 100000 in
theorem cok_264 {KO : List Nat} (hK : KOK KO) : cOk KD0 KO G0 ctr_264 := chk_ok (G0_xOK hK.1) (chkS_ok (show chkS sgl0 [ctr_87, ctr_249, ctr_250] ctr_264 = true by decide +kernel) hK.2) (fm_c (cok_87 hK) (fm_c (cok_249 hK) (fm_c (cok_250 hK) fm_n))) (show chk KD0 G0 (aX KD0) nX 2000 128 [ctr_87, ctr_249, ctr_250] ctr_264 = true by decide +kernel)
-- X0_pick
set_option maxRecDepth 100000 in
def ctr_265 : CTR := (7, [.inr (some 32), .inr none, .inl (2, 32), .inl (2, 4), .inl (2, 2)], some (.inl (0, 1)), [], [(21, 0)], 3, 0, [(22, [(0, .inr (some 32)), (1, .inr none), (3, .inl (2, 32)), (4, .inl (3, 4)), (5, .inl (2, 2)), (6, .inl (2, 64))], [], [], 128, [((6, none), -2)], [])], [], [])
set_option maxRecDepth 100000 in
theorem cok_265 {KO : List Nat} (hK : KOK KO) : cOk KD0 KO G0 ctr_265 := chk_ok (G0_xOK hK.1) (chkS_ok (show chkS sgl0 [ctr_87, ctr_250] ctr_265 = true by decide +kernel) hK.2) (fm_c (cok_87 hK) (fm_c (cok_250 hK) fm_n)) (show chk KD0 G0 (aX KD0) nX 2000 128 [ctr_87, ctr_250] ctr_265 = true by decide +kernel)
-- X0_pick
set_option maxRecDepth 100000 in
def ctr_266 : CTR := (7, [.inr (some 32), .inr none, .inl (2, 64), .inl (2, 4), .inl (2, 2)], some (.inl (0, 1)), [], [(21, 0)], 3, 0, [(22, [(0, .inr (some 32)), (1, .inr none), (3, .inl (2, 64)), (4, .inl (3, 4)), (5, .inl (2, 2)), (6, .inl (2, 64))], [], [], 128, [((6, none), -2)], [])], [], [])
set_option maxRecDepth 100000 in
theorem cok_266 {KO : List Nat} (hK : KOK KO) : cOk KD0 KO G0 ctr_266 := chk_ok (G0_xOK hK.1) (chkS_ok (show chkS sgl0 [ctr_87, ctr_250] ctr_266 = true by decide +kernel) hK.2) (fm_c (cok_87 hK) (fm_c (cok_250 hK) fm_n)) (show chk KD0 G0 (aX KD0) nX 2000 128 [ctr_87, ctr_250] ctr_266 = true by decide +kernel)
-- X0_pick
set_option maxRecDepth 100000 in
def ctr_267 : CTR := (7, [.inr (some 32), .inr none, .inl (1, 1), .inl (1, 4), .inl (1, 1)], some (.inl (0, 1)), [], [(21, 0)], 4, 0, [(22, [(0, .inr (some 32)), (1, .inr none), (3, .inl (1, 1)), (4, .inl (2, 4)), (5, .inl (1, 1)), (6, .inl (1, 64))], [], [], 128, [((6, none), -2)], [])], [], [])
set_option maxRecDepth 100000 in
theorem cok_267 {KO : List Nat} (hK : KOK KO) : cOk KD0 KO G0 ctr_267 := chk_ok (G0_xOK hK.1) (chkS_ok (show chkS sgl0 [ctr_87, ctr_251, ctr_252, ctr_253, ctr_254, ctr_255, ctr_256, ctr_257, ctr_258, ctr_259, ctr_260, ctr_261, ctr_262, ctr_263, ctr_264, ctr_265, ctr_266] ctr_267 = true by decide +kernel) hK.2) (fm_c (cok_87 hK) (fm_c (cok_251 hK) (fm_c (cok_252 hK) (fm_c (cok_253 hK) (fm_c (cok_254 hK) (fm_c (cok_255 hK) (fm_c (cok_256 hK) (fm_c (cok_257 hK) (fm_c (cok_258 hK) (fm_c (cok_259 hK) (fm_c (cok_260 hK) (fm_c (cok_261 hK) (fm_c (cok_262 hK) (fm_c (cok_263 hK) (fm_c (cok_264 hK) (fm_c (cok_265 hK) (fm_c (cok_266 hK) fm_n))))))))))))))))) (show chk KD0 G0 (aX KD0) nX 2000 130 [ctr_87, ctr_251, ctr_252, ctr_253, ctr_254, ctr_255, ctr_256, ctr_257, ctr_258, ctr_259, ctr_260, ctr_261, ctr_262, ctr_263, ctr_264, ctr_265, ctr_266] ctr_267 = true by decide +kernel)
-- X0_pick
set_option maxRecDepth 100000 in
def ctr_268 : CTR := (7, [.inr (some 32), .inr none, .inl (1, 2), .inl (1, 4), .inl (1, 1)], some (.inl (0, 1)), [], [(21, 0)], 4, 0, [(22, [(0, .inr (some 32)), (1, .inr none), (3, .inl (1, 2)), (4, .inl (2, 4)), (5, .inl (1, 1)), (6, .inl (1, 64))], [], [], 128, [((6, none), -2)], [])], [], [])
set_option maxRecDepth 100000 in
theorem cok_268 {KO : List Nat} (hK : KOK KO) : cOk KD0 KO G0 ctr_268 := chk_ok (G0_xOK hK.1) (chkS_ok (show chkS sgl0 [ctr_87, ctr_252, ctr_253, ctr_254, ctr_255, ctr_256, ctr_257, ctr_258, ctr_259, ctr_260, ctr_261, ctr_262, ctr_263, ctr_264, ctr_265, ctr_266] ctr_268 = true by decide +kernel) hK.2) (fm_c (cok_87 hK) (fm_c (cok_252 hK) (fm_c (cok_253 hK) (fm_c (cok_254 hK) (fm_c (cok_255 hK) (fm_c (cok_256 hK) (fm_c (cok_257 hK) (fm_c (cok_258 hK) (fm_c (cok_259 hK) (fm_c (cok_260 hK) (fm_c (cok_261 hK) (fm_c (cok_262 hK) (fm_c (cok_263 hK) (fm_c (cok_264 hK) (fm_c (cok_265 hK) (fm_c (cok_266 hK) fm_n)))))))))))))))) (show chk KD0 G0 (aX KD0) nX 2000 130 [ctr_87, ctr_252, ctr_253, ctr_254, ctr_255, ctr_256, ctr_257, ctr_258, ctr_259, ctr_260, ctr_261, ctr_262, ctr_263, ctr_264, ctr_265, ctr_266] ctr_268 = true by decide +kernel)
-- X0_pick
set_option maxRecDepth 100000 in
def ctr_269 : CTR := (7, [.inr (some 32), .inr none, .inl (1, 3), .inl (1, 4), .inl (1, 1)], some (.inl (0, 1)), [], [(21, 0)], 4, 0, [(22, [(0, .inr (some 32)), (1, .inr none), (3, .inl (1, 3)), (4, .inl (2, 4)), (5, .inl (1, 1)), (6, .inl (1, 64))], [], [], 128, [((6, none), -2)], [])], [], [])
set_option maxRecDepth 100000 in
theorem cok_269 {KO : List Nat} (hK : KOK KO) : cOk KD0 KO G0 ctr_269 := chk_ok (G0_xOK hK.1) (chkS_ok (show chkS sgl0 [ctr_87, ctr_253, ctr_254, ctr_255, ctr_256, ctr_257, ctr_258, ctr_259, ctr_260, ctr_261, ctr_262, ctr_263, ctr_264, ctr_265, ctr_266] ctr_269 = true by decide +kernel) hK.2) (fm_c (cok_87 hK) (fm_c (cok_253 hK) (fm_c (cok_254 hK) (fm_c (cok_255 hK) (fm_c (cok_256 hK) (fm_c (cok_257 hK) (fm_c (cok_258 hK) (fm_c (cok_259 hK) (fm_c (cok_260 hK) (fm_c (cok_261 hK) (fm_c (cok_262 hK) (fm_c (cok_263 hK) (fm_c (cok_264 hK) (fm_c (cok_265 hK) (fm_c (cok_266 hK) fm_n))))))))))))))) (show chk KD0 G0 (aX KD0) nX 2000 130 [ctr_87, ctr_253, ctr_254, ctr_255, ctr_256, ctr_257, ctr_258, ctr_259, ctr_260, ctr_261, ctr_262, ctr_263, ctr_264, ctr_265, ctr_266] ctr_269 = true by decide +kernel)
-- X0_pick
set_option maxRecDepth 100000 in
def ctr_270 : CTR := (7, [.inr (some 32), .inr none, .inl (1, 4), .inl (1, 4), .inl (1, 1)], some (.inl (0, 1)), [], [(21, 0)], 4, 0, [(22, [(0, .inr (some 32)), (1, .inr none), (3, .inl (1, 4)), (4, .inl (2, 4)), (5, .inl (1, 1)), (6, .inl (1, 64))], [], [], 128, [((6, none), -2)], [])], [], [])
set_option maxRecDepth 100000 in
theorem cok_270 {KO : List Nat} (hK : KOK KO) : cOk KD0 KO G0 ctr_270 := chk_ok (G0_xOK hK.1) (chkS_ok (show chkS sgl0 [ctr_87, ctr_254, ctr_255, ctr_256, ctr_257, ctr_258, ctr_259, ctr_260, ctr_261, ctr_262, ctr_263, ctr_264, ctr_265, ctr_266] ctr_270 = true by decide +kernel) hK.2) (fm_c (cok_87 hK) (fm_c (cok_254 hK) (fm_c (cok_255 hK) (fm_c (cok_256 hK) (fm_c (cok_257 hK) (fm_c (cok_258 hK) (fm_c (cok_259 hK) (fm_c (cok_260 hK) (fm_c (cok_261 hK) (fm_c (cok_262 hK) (fm_c (cok_263 hK) (fm_c (cok_264 hK) (fm_c (cok_265 hK) (fm_c (cok_266 hK) fm_n)))))))))))))) (show chk KD0 G0 (aX KD0) nX 2000 130 [ctr_87, ctr_254, ctr_255, ctr_256, ctr_257, ctr_258, ctr_259, ctr_260, ctr_261, ctr_262, ctr_263, ctr_264, ctr_265, ctr_266] ctr_270 = true by decide +kernel)
-- X0_pick
set_option maxRecDepth 100000 in
def ctr_271 : CTR := (7, [.inr (some 32), .inr none, .inl (1, 5), .inl (1, 4), .inl (1, 1)], some (.inl (0, 1)), [], [(21, 0)], 4, 0, [(22, [(0, .inr (some 32)), (1, .inr none), (3, .inl (1, 5)), (4, .inl (2, 4)), (5, .inl (1, 1)), (6, .inl (1, 64))], [], [], 128, [((6, none), -2)], [])], [], [])
set_option maxRecDepth 100000 in
theorem cok_271 {KO : List Nat} (hK : KOK KO) : cOk KD0 KO G0 ctr_271 := chk_ok (G0_xOK hK.1) (chkS_ok (show chkS sgl0 [ctr_87, ctr_255, ctr_256, ctr_257, ctr_258, ctr_259, ctr_260, ctr_261, ctr_262, ctr_263, ctr_264, ctr_265, ctr_266] ctr_271 = true by decide +kernel) hK.2) (fm_c (cok_87 hK) (fm_c (cok_255 hK) (fm_c (cok_256 hK) (fm_c (cok_257 hK) (fm_c (cok_258 hK) (fm_c (cok_259 hK) (fm_c (cok_260 hK) (fm_c (cok_261 hK) (fm_c (cok_262 hK) (fm_c (cok_263 hK) (fm_c (cok_264 hK) (fm_c (cok_265 hK) (fm_c (cok_266 hK) fm_n))))))))))))) (show chk KD0 G0 (aX KD0) nX 2000 130 [ctr_87, ctr_255, ctr_256, ctr_257, ctr_258, ctr_259, ctr_260, ctr_261, ctr_262, ctr_263, ctr_264, ctr_265, ctr_266] ctr_271 = true by decide +kernel)
-- X0_pick
set_option maxRecDepth 100000 in
def ctr_272 : CTR := (7, [.inr (some 32), .inr none, .inl (1, 6), .inl (1, 4), .inl (1, 1)], some (.inl (0, 1)), [], [(21, 0)], 4, 0, [(22, [(0, .inr (some 32)), (1, .inr none), (3, .inl (1, 6)), (4, .inl (2, 4)), (5, .inl (1, 1)), (6, .inl (1, 64))], [], [], 128, [((6, none), -2)], [])], [], [])
set_option maxRecDepth 100000 in
theorem cok_272 {KO : List Nat} (hK : KOK KO) : cOk KD0 KO G0 ctr_272 := chk_ok (G0_xOK hK.1) (chkS_ok (show chkS sgl0 [ctr_87, ctr_256, ctr_257, ctr_258, ctr_259, ctr_260, ctr_261, ctr_262, ctr_263, ctr_264, ctr_265, ctr_266] ctr_272 = true by decide +kernel) hK.2) (fm_c (cok_87 hK) (fm_c (cok_256 hK) (fm_c (cok_257 hK) (fm_c (cok_258 hK) (fm_c (cok_259 hK) (fm_c (cok_260 hK) (fm_c (cok_261 hK) (fm_c (cok_262 hK) (fm_c (cok_263 hK) (fm_c (cok_264 hK) (fm_c (cok_265 hK) (fm_c (cok_266 hK) fm_n)))))))))))) (show chk KD0 G0 (aX KD0) nX 2000 130 [ctr_87, ctr_256, ctr_257, ctr_258, ctr_259, ctr_260, ctr_261, ctr_262, ctr_263, ctr_264, ctr_265, ctr_266] ctr_272 = true by decide +kernel)
-- X0_pick
set_option maxRecDepth 100000 in
def ctr_273 : CTR := (7, [.inr (some 32), .inr none, .inl (1, 7), .inl (1, 4), .inl (1, 1)], some (.inl (0, 1)), [], [(21, 0)], 4, 0, [(22, [(0, .inr (some 32)), (1, .inr none), (3, .inl (1, 7)), (4, .inl (2, 4)), (5, .inl (1, 1)), (6, .inl (1, 64))], [], [], 128, [((6, none), -2)], [])], [], [])
set_option maxRecDepth 100000 in
theorem cok_273 {KO : List Nat} (hK : KOK KO) : cOk KD0 KO G0 ctr_273 := chk_ok (G0_xOK hK.1) (chkS_ok (show chkS sgl0 [ctr_87, ctr_257, ctr_258, ctr_259, ctr_260, ctr_261, ctr_262, ctr_263, ctr_264, ctr_265, ctr_266] ctr_273 = true by decide +kernel) hK.2) (fm_c (cok_87 hK) (fm_c (cok_257 hK) (fm_c (cok_258 hK) (fm_c (cok_259 hK) (fm_c (cok_260 hK) (fm_c (cok_261 hK) (fm_c (cok_262 hK) (fm_c (cok_263 hK) (fm_c (cok_264 hK) (fm_c (cok_265 hK) (fm_c (cok_266 hK) fm_n))))))))))) (show chk KD0 G0 (aX KD0) nX 2000 130 [ctr_87, ctr_257, ctr_258, ctr_259, ctr_260, ctr_261, ctr_262, ctr_263, ctr_264, ctr_265, ctr_266] ctr_273 = true by decide +kernel)
-- X0_pick
set_option maxRecDepth 100000 in
def ctr_274 : CTR := (7, [.inr (some 32), .inr none, .inl (1, 8), .inl (1, 4), .inl (1, 1)], some (.inl (0, 1)), [], [(21, 0)], 4, 0, [(22, [(0, .inr (some 32)), (1, .inr none), (3, .inl (1, 8)), (4, .inl (2, 4)), (5, .inl (1, 1)), (6, .inl (1, 64))], [], [], 128, [((6, none), -2)], [])], [], [])
set_option maxRecDepth 100000 in
theorem cok_274 {KO : List Nat} (hK : KOK KO) : cOk KD0 KO G0 ctr_274 := chk_ok (G0_xOK hK.1) (chkS_ok (show chkS sgl0 [ctr_87, ctr_258, ctr_259, ctr_260, ctr_261, ctr_262, ctr_263, ctr_264, ctr_265, ctr_266] ctr_274 = true by decide +kernel) hK.2) (fm_c (cok_87 hK) (fm_c (cok_258 hK) (fm_c (cok_259 hK) (fm_c (cok_260 hK) (fm_c (cok_261 hK) (fm_c (cok_262 hK) (fm_c (cok_263 hK) (fm_c (cok_264 hK) (fm_c (cok_265 hK) (fm_c (cok_266 hK) fm_n)))))))))) (show chk KD0 G0 (aX KD0) nX 2000 130 [ctr_87, ctr_258, ctr_259, ctr_260, ctr_261, ctr_262, ctr_263, ctr_264, ctr_265, ctr_266] ctr_274 = true by decide +kernel)
