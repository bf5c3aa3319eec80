-- X0_pick
set_option maxRecDepth 100000 in
def ctr_275 : CTR := (7, [.inr (some 32), .inr none, .inl (1, 9), .inl (1, 4), .inl (1, 1)], some (.inl (0, 1)), [], [(21, 0)], 4, 0, [(22, [(0, .inr (some 32)), (1, .inr none), (3, .inl (1, 9)), (4, .inl (2, 4)), (5, .inl (1, 1)), (6, .inl (1, 64))], [], [], 128, [((6, none), -2)], [])], [], [])
set_option maxRecDepth 100000 in
theorem cok_275 {KO : List Nat} (hK : KOK KO) : cOk KD0 KO G0 ctr_275 := chk_ok (G0_xOK hK.1) (chkS_ok (show chkS sgl0 [ctr_87, ctr_259, ctr_260, ctr_261, ctr_262, ctr_263, ctr_264, ctr_265, ctr_266] ctr_275 = true by decide +kernel) hK.2) (fm_c (cok_87 hK) (fm_c (cok_259 hK) (fm_c (cok_260 hK) (fm_c (cok_261 hK) (fm_c (cok_262 hK) (fm_c (cok_263 hK) (fm_c (cok_264 hK) (fm_c (cok_265 hK) (fm_c (cok_266 hK) fm_n))))))))) (show chk KD0 G0 (aX KD0) nX 2000 130 [ctr_87, ctr_259, ctr_260, ctr_261, ctr_262, ctr_263, ctr_264, ctr_265, ctr_266] ctr_275 = true by decide +kernel)
-- X0_pick
set_option maxRecDepth 100000 in
def ctr_276 : CTR := (7, [.inr (some 32), .inr none, .inl (1, 11), .inl (1, 4), .inl (1, 1)], some (.inl (0, 1)), [], [(21, 0)], 4, 0, [(22, [(0, .inr (some 32)), (1, .inr none), (3, .inl (1, 11)), (4, .inl (2, 4)), (5, .inl (1, 1)), (6, .inl (1, 64))], [], [], 128, [((6, none), -2)], [])], [], [])
set_option maxRecDepth 100000 in
theorem cok_276 {KO : List Nat} (hK : KOK KO) : cOk KD0 KO G0 ctr_276 := chk_ok (G0_xOK hK.1) (chkS_ok (show chkS sgl0 [ctr_87, ctr_260, ctr_261, ctr_262, ctr_263, ctr_264, ctr_265, ctr_266] ctr_276 = true by decide +kernel) hK.2) (fm_c (cok_87 hK) (fm_c (cok_260 hK) (fm_c (cok_261 hK) (fm_c (cok_262 hK) (fm_c (cok_263 hK) (fm_c (cok_264 hK) (fm_c (cok_265 hK) (fm_c (cok_266 hK) fm_n)))))))) (show chk KD0 G0 (aX KD0) nX 2000 130 [ctr_87, ctr_260, ctr_261, ctr_262, ctr_263, ctr_264, ctr_265, ctr_266] ctr_276 = true by decide +kernel)
-- X0_pick
set_option maxRecDepth 100000 in
def ctr_277 : CTR := (7, [.inr (some 32), .inr none, .inl (1, 12), .inl (1, 4), .inl (1, 1)], some (.inl (0, 1)), [], [(21, 0)], 4, 0, [(22, [(0, .inr (some 32)), (1, .inr none), (3, .inl (1, 12)), (4, .inl (2, 4)), (5, .inl (1, 1)), (6, .inl (1, 64))], [], [], 128, [((6, none), -2)], [])], [], [])
set_option maxRecDepth 100000 in
theorem cok_277 {KO : List Nat} (hK : KOK KO) : cOk KD0 KO G0 ctr_277 := chk_ok (G0_xOK hK.1) (chkS_ok (show chkS sgl0 [ctr_87, ctr_261, ctr_262, ctr_263, ctr_264, ctr_265, ctr_266] ctr_277 = true by decide +kernel) hK.2) (fm_c (cok_87 hK) (fm_c (cok_261 hK) (fm_c (cok_262 hK) (fm_c (cok_263 hK) (fm_c (cok_264 hK) (fm_c (cok_265 hK) (fm_c (cok_266 hK) fm_n))))))) (show chk KD0 G0 (aX KD0) nX 2000 130 [ctr_87, ctr_261, ctr_262, ctr_263, ctr_264, ctr_265, ctr_266] ctr_277 = true by decide +kernel)
-- X0_pick
set_option maxRecDepth 100000 in
def ctr_278 : CTR := (7, [.inr (some 32), .inr none, .inl (1, 13), .inl (1, 4), .inl (1, 1)], some (.inl (0, 1)), [], [(21, 0)], 4, 0, [(22, [(0, .inr (some 32)), (1, .inr none), (3, .inl (1, 13)), (4, .inl (2, 4)), (5, .inl (1, 1)), (6, .inl (1, 64))], [], [], 128, [((6, none), -2)], [])], [], [])
set_option maxRecDepth 100000 in
theorem cok_278 {KO : List Nat} (hK : KOK KO) : cOk KD0 KO G0 ctr_278 := chk_ok (G0_xOK hK.1) (chkS_ok (show chkS sgl0 [ctr_87, ctr_262, ctr_263, ctr_264, ctr_265, ctr_266] ctr_278 = true by decide +kernel) hK.2) (fm_c (cok_87 hK) (fm_c (cok_262 hK) (fm_c (cok_263 hK) (fm_c (cok_264 hK) (fm_c (cok_265 hK) (fm_c (cok_266 hK) fm_n)))))) (show chk KD0 G0 (aX KD0) nX 2000 130 [ctr_87, ctr_262, ctr_263, ctr_264, ctr_265, ctr_266] ctr_278 = true by decide +kernel)
-- X0_pick
set_option maxRecDepth 100000 in
def ctr_279 : CTR := (7, [.inr (some 32), .inr none, .inl (1, 14), .inl (1, 4), .inl (1, 1)], some (.inl (0, 1)), [], [(21, 0)], 4, 0, [(22, [(0, .inr (some 32)), (1, .inr none), (3, .inl (1, 14)), (4, .inl (2, 4)), (5, .inl (1, 1)), (6, .inl (1, 64))], [], [], 128, [((6, none), -2)], [])], [], [])
set_option maxRecDepth 100000 in
theorem cok_279 {KO : List Nat} (hK : KOK KO) : cOk KD0 KO G0 ctr_279 := chk_ok (G0_xOK hK.1) (chkS_ok (show chkS sgl0 [ctr_87, ctr_263, ctr_264, ctr_265, ctr_266] ctr_279 = true by decide +kernel) hK.2) (fm_c (cok_87 hK) (fm_c (cok_263 hK) (fm_c (cok_264 hK) (fm_c (cok_265 hK) (fm_c (cok_266 hK) fm_n))))) (show chk KD0 G0 (aX KD0) nX 2000 130 [ctr_87, ctr_263, ctr_264, ctr_265, ctr_266] ctr_279 = true by decide +kernel)
-- X0_pick
set_option maxRecDepth 100000 in
def ctr_280 : CTR := (7, [.inr (some 32), .inr none, .inl (1, 16), .inl (1, 4), .inl (1, 1)], some (.inl (0, 1)), [], [(21, 0)], 4, 0, [(22, [(0, .inr (some 32)), (1, .inr none), (3, .inl (1, 16)), (4, .inl (2, 4)), (5, .inl (1, 1)), (6, .inl (1, 64))], [], [], 128, [((6, none), -2)], [])], [], [])
set_option maxRecDepth 100000 in
theorem cok_280 {KO : List Nat} (hK : KOK KO) : cOk KD0 KO G0 ctr_280 := chk_ok (G0_xOK hK.1) (chkS_ok (show chkS sgl0 [ctr_87, ctr_264, ctr_265, ctr_266] ctr_280 = true by decide +kernel) hK.2) (fm_c (cok_87 hK) (fm_c (cok_264 hK) (fm_c (cok_265 hK) (fm_c (cok_266 hK) fm_n)))) (show chk KD0 G0 (aX KD0) nX 2000 130 [ctr_87, ctr_264, ctr_265, ctr_266] ctr_280 = true by decide +kernel)
-- X0_pick
set_option maxRecDepth 100000 in
def ctr_281 : CTR := (7, [.inr (some 32), .inr none, .inl (1, 17), .inl (1, 4), .inl (1, 1)], some (.inl (0, 1)), [], [(21, 0)], 4, 0, [(22, [(0, .inr (some 32)), (1, .inr none), (3, .inl (1, 17)), (4, .inl (2, 4)), (5, .inl (1, 1)), (6, .inl (1, 64))], [], [], 128, [((6, none), -2)], [])], [], [])
set_option maxRecDepth 100000 in
theorem cok_281 {KO : List Nat} (hK : KOK KO) : cOk KD0 KO G0 ctr_281 := chk_ok (G0_xOK hK.1) (chkS_ok (show chkS sgl0 [ctr_87, ctr_265, ctr_266] ctr_281 = true by decide +kernel) hK.2) (fm_c (cok_87 hK) (fm_c (cok_265 hK) (fm_c (cok_266 hK) fm_n))) (show chk KD0 G0 (aX KD0) nX 2000 130 [ctr_87, ctr_265, ctr_266] ctr_281 = true by decide +kernel)
-- X0_pick
set_option maxRecDepth 100000 in
def ctr_282 : CTR := (7, [.inr (some 32), .inr none, .inl (1, 32), .inl (1, 4), .inl (1, 1)], some (.inl (0, 1)), [], [(21, 0)], 4, 0, [(22, [(0, .inr (some 32)), (1, .inr none), (3, .inl (1, 32)), (4, .inl (2, 4)), (5, .inl (1, 1)), (6, .inl (1, 64))], [], [], 128, [((6, none), -2)], [])], [], [])
set_option maxRecDepth 100000 in
theorem cok_282 {KO : List Nat} (hK : KOK KO) : cOk KD0 KO G0 ctr_282 := chk_ok (G0_xOK hK.1) (chkS_ok (show chkS sgl0 [ctr_87, ctr_266] ctr_282 = true by decide +kernel) hK.2) (fm_c (cok_87 hK) (fm_c (cok_266 hK) fm_n)) (show chk KD0 G0 (aX KD0) nX 2000 130 [ctr_87, ctr_266] ctr_282 = true by decide +kernel)
-- X0_pick
set_option maxRecDepth 100000 in
def ctr_283 : CTR := (7, [.inr (some 32), .inr none, .inl (1, 64), .inl (1, 4), .inl (1, 1)], some (.inl (0, 1)), [], [(21, 0)], 4, 0, [(22, [(0, .inr (some 32)), (1, .inr none), (3, .inl (1, 64)), (4, .inl (2, 4)), (5, .inl (1, 1)), (6, .inl (1, 64))], [], [], 128, [((6, none), -2)], [])], [], [])
set_option maxRecDepth 100000 in
theorem cok_283 {KO : List Nat} (hK : KOK KO) : cOk KD0 KO G0 ctr_283 := chk_ok (G0_xOK hK.1) (chkS_ok (show chkS sgl0 [ctr_87, ctr_266] ctr_283 = true by decide +kernel) hK.2) (fm_c (cok_87 hK) (fm_c (cok_266 hK) fm_n)) (show chk KD0 G0 (aX KD0) nX 2000 130 [ctr_87, ctr_266] ctr_283 = true by decide +kernel)
-- X0_pick
set_option maxRecDepth 100000 in
def ctr_284 : CTR := (7, [.inr (some 32), .inr none, .inl (0, 0), .inl (1, 4), .inl (0, 0)], some (.inl (0, 1)), [], [(21, 0)], 5, 0, [(22, [(0, .inr (some 32)), (1, .inr none), (3, .inl (0, 0)), (4, .inl (1, 4)), (5, .inl (0, 0)), (6, .inl (0, 64))], [], [], 128, [((6, none), -2)], [])], [], [])
set_option maxRecDepth 100000 in
theorem cok_284 {KO : List Nat} (hK : KOK KO) : cOk KD0 KO G0 ctr_284 := chk_ok (G0_xOK hK.1) (chkS_ok (show chkS sgl0 [ctr_87, ctr_267, ctr_268, ctr_269, ctr_270, ctr_271, ctr_272, ctr_273, ctr_274, ctr_275, ctr_276, ctr_277, ctr_278, ctr_279, ctr_280, ctr_281, ctr_282, ctr_283] ctr_284 = true by decide +kernel) hK.2) (fm_c (cok_87 hK) (fm_c (cok_267 hK) (fm_c (cok_268 hK) (fm_c (cok_269 hK) (fm_c (cok_270 hK) (fm_c (cok_271 hK) (fm_c (cok_272 hK) (fm_c (cok_273 hK) (fm_c (cok_274 hK) (fm_c (cok_275 hK) (fm_c (cok_276 hK) (fm_c (cok_277 hK) (fm_c (cok_278 hK) (fm_c (cok_279 hK) (fm_c (cok_280 hK) (fm_c (cok_281 hK) (fm_c (cok_282 hK) (fm_c (cok_283 hK) fm_n)))))))))))))))))) (show chk KD0 G0 (aX KD0) nX 2000 132 [ctr_87, ctr_267, ctr_268, ctr_269, ctr_270, ctr_271, ctr_272, ctr_273, ctr_274, ctr_275, ctr_276, ctr_277, ctr_278, ctr_279, ctr_280, ctr_281, ctr_282, ctr_283] ctr_284 = true by decide +kernel)
-- X0_pointsNeeded
set_option maxRecDepth 100000 in
def ctr_285 : CTR := (5, [.inr (some 32)], some (.inl (-2147483648, 2147483647)), [], [(20, 0), (21, 0), (32, 8)], 6, 0, [(23, [(0, .inr (some 32)), (1, .inl (-1, 63))], [], [(0, 8, (0, 0))], 12, [((1, none), 2)], []), (58, [(0, .inr (some 32)), (1, .inl (1, 5))], [], [(0, 8, (0, 4))], 10, [((1, none), -2)], [])], [], [])
set_option maxRecDepth 100000 in
theorem cok_285 {KO : List Nat} (hK : KOK KO) : cOk KD0 KO G0 ctr_285 := chk_ok (G0_xOK hK.1) (chkS_ok (show chkS sgl0 [ctr_87, ctr_91, ctr_183, ctr_201, ctr_235, ctr_284] ctr_285 = true by decide +kernel) hK.2) (fm_c (cok_87 hK) (fm_c (cok_91 hK) (fm_c (cok_183 hK) (fm_c (cok_201 hK) (fm_c (cok_235 hK) (fm_c (cok_284 hK) fm_n)))))) (show chk KD0 G0 (aX KD0) nX 2000 142 [ctr_87, ctr_91, ctr_183, ctr_201, ctr_235, ctr_284] ctr_285 = true by decide +kernel)
-- X11_guardNumber
set_option maxRecDepth 100000 in
def ctr_286 : CTR := (143, [.inr (some 36)], some (.inl (-2147483648, 2147483647)), ["java/lang/IllegalStateException"], [(12, 0), (20, 0), (21, 0), (30, 3), (32, 8)], 7, 0, [], [], [])
set_option maxRecDepth 100000 in
theorem cok_286 {KO : List Nat} (hK : KOK KO) : cOk KD0 KO G0 ctr_286 := chk_ok (G0_xOK hK.1) (chkS_ok (show chkS sgl0 [ctr_46, ctr_86, ctr_285] ctr_286 = true by decide +kernel) hK.2) (fm_c (cok_46 hK) (fm_c (cok_86 hK) (fm_c (cok_285 hK) fm_n))) (show chk KD0 G0 (aX KD0) nX 2000 2 [ctr_46, ctr_86, ctr_285] ctr_286 = true by decide +kernel)
-- X0_pickedPoint
set_option maxRecDepth 100000 in
def ctr_287 : CTR := (6, [.inr (some 32), .inl (-2147483648, 2147483647)], some (.inl (-2147483648, 2147483647)), [], [], 1, 0, [], [], [])
set_option maxRecDepth 100000 in
theorem cok_287 {KO : List Nat} (hK : KOK KO) : cOk KD0 KO G0 ctr_287 := chk_ok (G0_xOK hK.1) (chkS_ok (show chkS sgl0 [] ctr_287 = true by decide +kernel) hK.2) fm_n (show chk KD0 G0 (aX KD0) nX 2000 2 [] ctr_287 = true by decide +kernel)
-- X11_guardPoint
set_option maxRecDepth 100000 in
def ctr_288 : CTR := (144, [.inr (some 36), .inl (-2147483648, 2147483647)], some (.inl (-2147483648, 2147483647)), ["java/lang/IllegalStateException", "java/lang/IndexOutOfBoundsException"], [(12, 0), (20, 0), (21, 0), (30, 3), (32, 8)], 7, 0, [], [], [])
set_option maxRecDepth 100000 in
theorem cok_288 {KO : List Nat} (hK : KOK KO) : cOk KD0 KO G0 ctr_288 := chk_ok (G0_xOK hK.1) (chkS_ok (show chkS sgl0 [ctr_46, ctr_86, ctr_285, ctr_287] ctr_288 = true by decide +kernel) hK.2) (fm_c (cok_46 hK) (fm_c (cok_86 hK) (fm_c (cok_285 hK) (fm_c (cok_287 hK) fm_n)))) (show chk KD0 G0 (aX KD0) nX 2000 2 [ctr_46, ctr_86, ctr_285, ctr_287] ctr_288 = true by decide +kernel)
-- J13_bitCount_95d88
set_option maxRecDepth 100000 in
def ctr_289 : CTR := (366, [.inr none], some (.inl (-2147483648, 2147483647)), [], [], 1, 0, [], [], [])
set_option maxRecDepth 100000 in
theorem cok_289 {KO : List Nat} (hK : KOK KO) : cOk KD0 KO G0 ctr_289 := chk_ok (G0_xOK hK.1) (chkS_ok (show chkS sgl0 [] ctr_289 = true by decide +kernel) hK.2) fm_n (show chk KD0 G0 (aX KD0) nX 2000 2 [] ctr_289 = true by decide +kernel)
-- X8_pick
set_option maxRecDepth 100000 in
def ctr_290 : CTR := (83, [.inr (some 33), .inr none, .inl (4, 4), .inl (3, 3)], some (.inl (0, 1)), [], [(23, 0)], 2, 0, [(20, [(0, .inr (some 33)), (1, .inr none), (3, .inl (4, 4)), (4, .inl (3, 3)), (5, .inr none), (7, .inl (0, 64))], [], [], 128, [((7, none), -2)], [])], [], [])
set_option maxRecDepth 100000 in
theorem cok_290 {KO : List Nat} (hK : KOK KO) : cOk KD0 KO G0 ctr_290 := chk_ok (G0_xOK hK.1) (chkS_ok (show chkS sgl0 [ctr_63, ctr_289] ctr_290 = true by decide +kernel) hK.2) (fm_c (cok_63 hK) (fm_c (cok_289 hK) fm_n)) (show chk KD0 G0 (aX KD0) nX 2000 132 [ctr_63, ctr_289] ctr_290 = true by decide +kernel)
-- X8_pick
set_option maxRecDepth 100000 in
def ctr_291 : CTR := (83, [.inr (some 33), .inr none, .inl (4, 4), .inl (2, 2)], some (.inl (0, 1)), [], [(23, 0)], 3, 0, [(20, [(0, .inr (some 33)), (1, .inr none), (3, .inl (4, 4)), (4, .inl (2, 2)), (5, .inr none), (7, .inl (0, 64))], [], [], 128, [((7, none), -2)], [])], [], [])
set_option maxRecDepth 100000 in
theorem cok_291 {KO : List Nat} (hK : KOK KO) : cOk KD0 KO G0 ctr_291 := chk_ok (G0_xOK hK.1) (chkS_ok (show chkS sgl0 [ctr_63, ctr_289, ctr_290] ctr_291 = true by decide +kernel) hK.2) (fm_c (cok_63 hK) (fm_c (cok_289 hK) (fm_c (cok_290 hK) fm_n))) (show chk KD0 G0 (aX KD0) nX 2000 132 [ctr_63, ctr_289, ctr_290] ctr_291 = true by decide +kernel)
-- X8_pick
set_option maxRecDepth 100000 in
def ctr_292 : CTR := (83, [.inr (some 33), .inr none, .inl (4, 4), .inl (1, 1)], some (.inl (0, 1)), [], [(23, 0)], 4, 0, [(20, [(0, .inr (some 33)), (1, .inr none), (3, .inl (4, 4)), (4, .inl (1, 1)), (5, .inr none), (7, .inl (0, 64))], [], [], 128, [((7, none), -2)], [])], [], [])
set_option maxRecDepth 100000 in
theorem cok_292 {KO : List Nat} (hK : KOK KO) : cOk KD0 KO G0 ctr_292 := chk_ok (G0_xOK hK.1) (chkS_ok (show chkS sgl0 [ctr_63, ctr_289, ctr_291] ctr_292 = true by decide +kernel) hK.2) (fm_c (cok_63 hK) (fm_c (cok_289 hK) (fm_c (cok_291 hK) fm_n))) (show chk KD0 G0 (aX KD0) nX 2000 132 [ctr_63, ctr_289, ctr_291] ctr_292 = true by decide +kernel)
-- X8_pick
set_option maxRecDepth 100000 in
def ctr_293 : CTR := (83, [.inr (some 33), .inr none, .inl (4, 4), .inl (0, 0)], some (.inl (0, 1)), [], [(23, 0)], 5, 0, [(20, [(0, .inr (some 33)), (1, .inr none), (3, .inl (4, 4)), (4, .inl (0, 0)), (5, .inr none), (7, .inl (0, 64))], [], [], 128, [((7, none), -2)], [])], [], [])
set_option maxRecDepth 100000 in
theorem cok_293 {KO : List Nat} (hK : KOK KO) : cOk KD0 KO G0 ctr_293 := chk_ok (G0_xOK hK.1) (chkS_ok (show chkS sgl0 [ctr_63, ctr_289, ctr_292] ctr_293 = true by decide +kernel) hK.2) (fm_c (cok_63 hK) (fm_c (cok_289 hK) (fm_c (cok_292 hK) fm_n))) (show chk KD0 G0 (aX KD0) nX 2000 132 [ctr_63, ctr_289, ctr_292] ctr_293 = true by decide +kernel)
-- X8_pick
set_option maxRecDepth 100000 in
def ctr_294 : CTR := (83, [.inr (some 33), .inr none, .inl (3, 4), .inl (3, 3)], some (.inl (0, 1)), [], [(23, 0)], 2, 0, [(20, [(0, .inr (some 33)), (1, .inr none), (3, .inl (4, 4)), (4, .inl (3, 3)), (5, .inr none), (7, .inl (0, 64))], [], [], 128, [((7, none), -2)], [])], [], [])
set_option maxRecDepth 100000 in
theorem cok_294 {KO : List Nat} (hK : KOK KO) : cOk KD0 KO G0 ctr_294 := chk_ok (G0_xOK hK.1) (chkS_ok (show chkS sgl0 [ctr_63, ctr_289] ctr_294 = true by decide +kernel) hK.2) (fm_c (cok_63 hK) (fm_c (cok_289 hK) fm_n)) (show chk KD0 G0 (aX KD0) nX 2000 132 [ctr_63, ctr_289] ctr_294 = true by decide +kernel)
-- X8_pick
set_option maxRecDepth 100000 in
def ctr_295 : CTR := (83, [.inr (some 33), .inr none, .inl (3, 4), .inl (2, 2)], some (.inl (0, 1)), [], [(23, 0)], 3, 0, [(20, [(0, .inr (some 33)), (1, .inr none), (3, .inl (3, 4)), (4, .inl (2, 2)), (5, .inr none), (7, .inl (0, 64))], [], [], 128, [((7, none), -2)], [])], [], [])
set_option maxRecDepth 100000 in
theorem cok_295 {KO : List Nat} (hK : KOK KO) : cOk KD0 KO G0 ctr_295 := chk_ok (G0_xOK hK.1) (chkS_ok (show chkS sgl0 [ctr_63, ctr_289, ctr_294] ctr_295 = true by decide +kernel) hK.2) (fm_c (cok_63 hK) (fm_c (cok_289 hK) (fm_c (cok_294 hK) fm_n))) (show chk KD0 G0 (aX KD0) nX 2000 132 [ctr_63, ctr_289, ctr_294] ctr_295 = true by decide +kernel)
-- X8_pick
set_option maxRecDepth 100000 in
def ctr_296 : CTR := (83, [.inr (some 33), .inr none, .inl (3, 4), .inl (1, 1)], some (.inl (0, 1)), [], [(23, 0)], 4, 0, [(20, [(0, .inr (some 33)), (1, .inr none), (3, .inl (3, 4)), (4, .inl (1, 1)), (5, .inr none), (7, .inl (0, 64))], [], [], 128, [((7, none), -2)], [])], [], [])
set_option maxRecDepth 100000 in
theorem cok_296 {KO : List Nat} (hK : KOK KO) : cOk KD0 KO G0 ctr_296 := chk_ok (G0_xOK hK.1) (chkS_ok (show chkS sgl0 [ctr_63, ctr_289, ctr_295] ctr_296 = true by decide +kernel) hK.2) (fm_c (cok_63 hK) (fm_c (cok_289 hK) (fm_c (cok_295 hK) fm_n))) (show chk KD0 G0 (aX KD0) nX 2000 132 [ctr_63, ctr_289, ctr_295] ctr_296 = true by decide +kernel)
-- X8_pick
set_option maxRecDepth 100000 in
def ctr_297 : CTR := (83, [.inr (some 33), .inr none, .inl (3, 4), .inl (0, 0)], some (.inl (0, 1)), [], [(23, 0)], 5, 0, [(20, [(0, .inr (some 33)), (1, .inr none), (3, .inl (3, 4)), (4, .inl (0, 0)), (5, .inr none), (7, .inl (0, 64))], [], [], 128, [((7, none), -2)], [])], [], [])
set_option maxRecDepth 100000 in
theorem cok_297 {KO : List Nat} (hK : KOK KO) : cOk KD0 KO G0 ctr_297 := chk_ok (G0_xOK hK.1) (chkS_ok (show chkS sgl0 [ctr_63, ctr_289, ctr_296] ctr_297 = true by decide +kernel) hK.2) (fm_c (cok_63 hK) (fm_c (cok_289 hK) (fm_c (cok_296 hK) fm_n))) (show chk KD0 G0 (aX KD0) nX 2000 132 [ctr_63, ctr_289, ctr_296] ctr_297 = true by decide +kernel)
-- X8_pick
set_option maxRecDepth 100000 in
def ctr_298 : CTR := (83, [.inr (some 33), .inr none, .inl (2, 4), .inl (2, 2)], some (.inl (0, 1)), [], [(23, 0)], 3, 0, [(20, [(0, .inr (some 33)), (1, .inr none), (3, .inl (3, 4)), (4, .inl (2, 2)), (5, .inr none), (7, .inl (0, 64))], [], [], 128, [((7, none), -2)], [])], [], [])
set_option maxRecDepth 100000 in
theorem cok_298 {KO : List Nat} (hK : KOK KO) : cOk KD0 KO G0 ctr_298 := chk_ok (G0_xOK hK.1) (chkS_ok (show chkS sgl0 [ctr_63, ctr_289, ctr_294] ctr_298 = true by decide +kernel) hK.2) (fm_c (cok_63 hK) (fm_c (cok_289 hK) (fm_c (cok_294 hK) fm_n))) (show chk KD0 G0 (aX KD0) nX 2000 132 [ctr_63, ctr_289, ctr_294] ctr_298 = true by decide +kernel)
-- X8_pick
set_option maxRecDepth 100000 in
def ctr_299 : CTR := (83, [.inr (some 33), .inr none, .inl (2, 4), .inl (1, 1)], some (.inl (0, 1)), [], [(23, 0)], 4, 0, [(20, [(0, .inr (some 33)), (1, .inr none), (3, .inl (2, 4)), (4, .inl (1, 1)), (5, .inr none), (7, .inl (0, 64))], [], [], 128, [((7, none), -2)], [])], [], [])
set_option maxRecDepth 100000 in
theorem cok_299 {KO : List Nat} (hK : KOK KO) : cOk KD0 KO G0 ctr_299 := chk_ok (G0_xOK hK.1) (chkS_ok (show chkS sgl0 [ctr_63, ctr_289, ctr_298] ctr_299 = true by decide +kernel) hK.2) (fm_c (cok_63 hK) (fm_c (cok_289 hK) (fm_c (cok_298 hK) fm_n))) (show chk KD0 G0 (aX KD0) nX 2000 132 [ctr_63, ctr_289, ctr_298] ctr_299 = true by decide +kernel)
