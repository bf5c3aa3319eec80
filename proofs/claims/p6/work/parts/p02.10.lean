-- X8_largestHidden
set_option maxRecDepth 100000 in
def ctr_250 : CTR := (85, [.inr (some 33), .inr none, .inl (7, 7)], some (.inl (0, 5)), [], [], 8, 0, [(45, [(0, .inr (some 33)), (1, .inr none), (3, .inl (7, 7)), (4, .inr none), (6, .inr none), (8, .inl (0, 5)), (9, .inl (0, 64))], [], [], 128, [(9, -2)])])
set_option maxRecDepth 100000 in
theorem cok_250 {KO : List Nat} (hK : KOS KO) : cOk KD0 KO G0 ctr_250 := chk_ok (G0_xOK hK) (fm_c (cok_63 hK) (fm_c (cok_87 hK) (fm_c (cok_243 hK) (fm_c (cok_244 hK) (fm_c (cok_249 hK) fm_n))))) (show chk KD0 G0 (aX KD0) nX 2000 132 [ctr_63, ctr_87, ctr_243, ctr_244, ctr_249] ctr_250 = true by decide +kernel)
-- X8_largestHidden
set_option maxRecDepth 100000 in
def ctr_251 : CTR := (85, [.inr (some 33), .inr none, .inl (6, 6)], some (.inl (0, 6)), [], [], 9, 0, [(45, [(0, .inr (some 33)), (1, .inr none), (3, .inl (6, 6)), (4, .inr none), (6, .inr none), (8, .inl (0, 6)), (9, .inl (0, 64))], [], [], 128, [(9, -2)])])
set_option maxRecDepth 100000 in
theorem cok_251 {KO : List Nat} (hK : KOS KO) : cOk KD0 KO G0 ctr_251 := chk_ok (G0_xOK hK) (fm_c (cok_63 hK) (fm_c (cok_87 hK) (fm_c (cok_243 hK) (fm_c (cok_244 hK) (fm_c (cok_250 hK) fm_n))))) (show chk KD0 G0 (aX KD0) nX 2000 132 [ctr_63, ctr_87, ctr_243, ctr_244, ctr_250] ctr_251 = true by decide +kernel)
-- X8_largestHidden
set_option maxRecDepth 100000 in
def ctr_252 : CTR := (85, [.inr (some 33), .inr none, .inl (5, 5)], some (.inl (0, 7)), [], [], 10, 0, [(45, [(0, .inr (some 33)), (1, .inr none), (3, .inl (5, 5)), (4, .inr none), (6, .inr none), (8, .inl (0, 7)), (9, .inl (0, 64))], [], [], 128, [(9, -2)])])
set_option maxRecDepth 100000 in
theorem cok_252 {KO : List Nat} (hK : KOS KO) : cOk KD0 KO G0 ctr_252 := chk_ok (G0_xOK hK) (fm_c (cok_63 hK) (fm_c (cok_87 hK) (fm_c (cok_243 hK) (fm_c (cok_244 hK) (fm_c (cok_251 hK) fm_n))))) (show chk KD0 G0 (aX KD0) nX 2000 132 [ctr_63, ctr_87, ctr_243, ctr_244, ctr_251] ctr_252 = true by decide +kernel)
-- X8_largestHidden
set_option maxRecDepth 100000 in
def ctr_253 : CTR := (85, [.inr (some 33), .inr none, .inl (4, 4)], some (.inl (0, 8)), [], [], 11, 0, [(45, [(0, .inr (some 33)), (1, .inr none), (3, .inl (4, 4)), (4, .inr none), (6, .inr none), (8, .inl (0, 8)), (9, .inl (0, 64))], [], [], 128, [(9, -2)])])
set_option maxRecDepth 100000 in
theorem cok_253 {KO : List Nat} (hK : KOS KO) : cOk KD0 KO G0 ctr_253 := chk_ok (G0_xOK hK) (fm_c (cok_63 hK) (fm_c (cok_87 hK) (fm_c (cok_243 hK) (fm_c (cok_244 hK) (fm_c (cok_252 hK) fm_n))))) (show chk KD0 G0 (aX KD0) nX 2000 132 [ctr_63, ctr_87, ctr_243, ctr_244, ctr_252] ctr_253 = true by decide +kernel)
-- X8_largestHidden
set_option maxRecDepth 100000 in
def ctr_254 : CTR := (85, [.inr (some 33), .inr none, .inl (3, 3)], some (.inl (0, 9)), [], [], 12, 0, [(45, [(0, .inr (some 33)), (1, .inr none), (3, .inl (3, 3)), (4, .inr none), (6, .inr none), (8, .inl (0, 9)), (9, .inl (0, 64))], [], [], 128, [(9, -2)])])
set_option maxRecDepth 100000 in
theorem cok_254 {KO : List Nat} (hK : KOS KO) : cOk KD0 KO G0 ctr_254 := chk_ok (G0_xOK hK) (fm_c (cok_63 hK) (fm_c (cok_87 hK) (fm_c (cok_243 hK) (fm_c (cok_244 hK) (fm_c (cok_253 hK) fm_n))))) (show chk KD0 G0 (aX KD0) nX 2000 132 [ctr_63, ctr_87, ctr_243, ctr_244, ctr_253] ctr_254 = true by decide +kernel)
-- X8_largestHidden
set_option maxRecDepth 100000 in
def ctr_255 : CTR := (85, [.inr (some 33), .inr none, .inl (2, 2)], some (.inl (0, 10)), [], [], 13, 0, [(45, [(0, .inr (some 33)), (1, .inr none), (3, .inl (2, 2)), (4, .inr none), (6, .inr none), (8, .inl (0, 10)), (9, .inl (0, 64))], [], [], 128, [(9, -2)])])
set_option maxRecDepth 100000 in
theorem cok_255 {KO : List Nat} (hK : KOS KO) : cOk KD0 KO G0 ctr_255 := chk_ok (G0_xOK hK) (fm_c (cok_63 hK) (fm_c (cok_87 hK) (fm_c (cok_243 hK) (fm_c (cok_244 hK) (fm_c (cok_254 hK) fm_n))))) (show chk KD0 G0 (aX KD0) nX 2000 132 [ctr_63, ctr_87, ctr_243, ctr_244, ctr_254] ctr_255 = true by decide +kernel)
-- X8_largestHidden
set_option maxRecDepth 100000 in
def ctr_256 : CTR := (85, [.inr (some 33), .inr none, .inl (1, 1)], some (.inl (0, 11)), [], [], 14, 0, [(45, [(0, .inr (some 33)), (1, .inr none), (3, .inl (1, 1)), (4, .inr none), (6, .inr none), (8, .inl (0, 11)), (9, .inl (0, 64))], [], [], 128, [(9, -2)])])
set_option maxRecDepth 100000 in
theorem cok_256 {KO : List Nat} (hK : KOS KO) : cOk KD0 KO G0 ctr_256 := chk_ok (G0_xOK hK) (fm_c (cok_63 hK) (fm_c (cok_87 hK) (fm_c (cok_243 hK) (fm_c (cok_244 hK) (fm_c (cok_255 hK) fm_n))))) (show chk KD0 G0 (aX KD0) nX 2000 132 [ctr_63, ctr_87, ctr_243, ctr_244, ctr_255] ctr_256 = true by decide +kernel)
-- X8_largestHidden
set_option maxRecDepth 100000 in
def ctr_257 : CTR := (85, [.inr (some 33), .inr none, .inl (0, 0)], some (.inl (0, 12)), [], [], 15, 0, [(45, [(0, .inr (some 33)), (1, .inr none), (3, .inl (0, 0)), (4, .inr none), (6, .inr none), (8, .inl (0, 12)), (9, .inl (0, 64))], [], [], 128, [(9, -2)])])
set_option maxRecDepth 100000 in
theorem cok_257 {KO : List Nat} (hK : KOS KO) : cOk KD0 KO G0 ctr_257 := chk_ok (G0_xOK hK) (fm_c (cok_63 hK) (fm_c (cok_87 hK) (fm_c (cok_243 hK) (fm_c (cok_244 hK) (fm_c (cok_256 hK) fm_n))))) (show chk KD0 G0 (aX KD0) nX 2000 132 [ctr_63, ctr_87, ctr_243, ctr_244, ctr_256] ctr_257 = true by decide +kernel)
-- X8_mostHidden
set_option maxRecDepth 100000 in
def ctr_258 : CTR := (84, [.inr (some 33)], some (.inl (-2147483648, 2147483647)), [], [(33, 4)], 16, 0, [])
set_option maxRecDepth 100000 in
theorem cok_258 {KO : List Nat} (hK : KOS KO) : cOk KD0 KO G0 ctr_258 := chk_ok (G0_xOK hK) (fm_c (cok_92 hK) (fm_c (cok_257 hK) fm_n)) (show chk KD0 G0 (aX KD0) nX 2000 2 [ctr_92, ctr_257] ctr_258 = true by decide +kernel)
-- X11_hiddenNumber
set_option maxRecDepth 100000 in
def ctr_259 : CTR := (147, [.inr (some 36)], some (.inl (-2147483648, 2147483647)), ["java/lang/IllegalStateException"], [(12, 0), (30, 3), (33, 4)], 17, 0, [])
set_option maxRecDepth 100000 in
theorem cok_259 {KO : List Nat} (hK : KOS KO) : cOk KD0 KO G0 ctr_259 := chk_ok (G0_xOK hK) (fm_c (cok_46 hK) (fm_c (cok_86 hK) (fm_c (cok_258 hK) fm_n))) (show chk KD0 G0 (aX KD0) nX 2000 2 [ctr_46, ctr_86, ctr_258] ctr_259 = true by decide +kernel)
-- X11_guards
set_option maxRecDepth 100000 in
def ctr_260 : CTR := (148, [.inr (some 36)], some (.inl (0, 6)), [], [], 1, 0, [])
set_option maxRecDepth 100000 in
theorem cok_260 {KO : List Nat} (hK : KOS KO) : cOk KD0 KO G0 ctr_260 := chk_ok (G0_xOK hK) fm_n (show chk KD0 G0 (aX KD0) nX 2000 2 [] ctr_260 = true by decide +kernel)
-- X6_guardX
set_option maxRecDepth 100000 in
def ctr_261 : CTR := (52, [.inr (some 25), .inl (-2147483648, 2147483647)], some (.inl (-2147483648, 2147483647)), [], [], 1, 0, [])
set_option maxRecDepth 100000 in
theorem cok_261 {KO : List Nat} (hK : KOS KO) : cOk KD0 KO G0 ctr_261 := chk_ok (G0_xOK hK) fm_n (show chk KD0 G0 (aX KD0) nX 2000 2 [] ctr_261 = true by decide +kernel)
-- X6_guardY
set_option maxRecDepth 100000 in
def ctr_262 : CTR := (53, [.inr (some 25), .inl (-2147483648, 2147483647)], some (.inl (-2147483648, 2147483647)), [], [], 1, 0, [])
set_option maxRecDepth 100000 in
theorem cok_262 {KO : List Nat} (hK : KOS KO) : cOk KD0 KO G0 ctr_262 := chk_ok (G0_xOK hK) fm_n (show chk KD0 G0 (aX KD0) nX 2000 2 [] ctr_262 = true by decide +kernel)
-- X10_postOf
set_option maxRecDepth 100000 in
def ctr_263 : CTR := (104, [.inr (some 34), .inl (-2147483648, 2147483647)], some (.inl (-2147483648, 2147483647)), [], [], 2, 0, [])
set_option maxRecDepth 100000 in
theorem cok_263 {KO : List Nat} (hK : KOS KO) : cOk KD0 KO G0 ctr_263 := chk_ok (G0_xOK hK) (fm_c (cok_9 hK) (fm_c (cok_261 hK) (fm_c (cok_262 hK) fm_n))) (show chk KD0 G0 (aX KD0) nX 2000 2 [ctr_9, ctr_261, ctr_262] ctr_263 = true by decide +kernel)
-- X11_guardAt
set_option maxRecDepth 100000 in
def ctr_264 : CTR := (149, [.inr (some 36), .inl (-2147483648, 2147483647)], some (.inl (-2147483648, 2147483647)), ["java/lang/IllegalStateException", "java/lang/IndexOutOfBoundsException"], [], 3, 0, [])
set_option maxRecDepth 100000 in
theorem cok_264 {KO : List Nat} (hK : KOS KO) : cOk KD0 KO G0 ctr_264 := chk_ok (G0_xOK hK) (fm_c (cok_46 hK) (fm_c (cok_263 hK) fm_n)) (show chk KD0 G0 (aX KD0) nX 2000 2 [ctr_46, ctr_263] ctr_264 = true by decide +kernel)
-- X6_reachOf
set_option maxRecDepth 100000 in
def ctr_265 : CTR := (54, [.inr (some 25), .inl (-2147483648, 2147483647)], some (.inl (-2147483648, 2147483647)), [], [], 1, 0, [])
set_option maxRecDepth 100000 in
theorem cok_265 {KO : List Nat} (hK : KOS KO) : cOk KD0 KO G0 ctr_265 := chk_ok (G0_xOK hK) fm_n (show chk KD0 G0 (aX KD0) nX 2000 2 [] ctr_265 = true by decide +kernel)
-- X11_guardRange
set_option maxRecDepth 100000 in
def ctr_266 : CTR := (150, [.inr (some 36), .inl (-2147483648, 2147483647)], some (.inl (-2147483648, 2147483647)), ["java/lang/IllegalStateException", "java/lang/IndexOutOfBoundsException"], [], 2, 0, [])
set_option maxRecDepth 100000 in
theorem cok_266 {KO : List Nat} (hK : KOS KO) : cOk KD0 KO G0 ctr_266 := chk_ok (G0_xOK hK) (fm_c (cok_46 hK) (fm_c (cok_265 hK) fm_n)) (show chk KD0 G0 (aX KD0) nX 2000 2 [ctr_46, ctr_265] ctr_266 = true by decide +kernel)
-- X10_within
set_option maxRecDepth 100000 in
def ctr_267 : CTR := (106, [.inr (some 34), .inl (-2147483648, 2147483647), .inl (-2147483648, 2147483647)], some (.inr none), [], [], 2, 0, [(15, [(0, .inr (some 34)), (1, .inl (-2147483648, 2147483647)), (2, .inl (-2147483648, 2147483647)), (3, .inr none), (5, .inr none), (7, .inl (0, 64))], [], [], 128, [(7, -2)])])
set_option maxRecDepth 100000 in
theorem cok_267 {KO : List Nat} (hK : KOS KO) : cOk KD0 KO G0 ctr_267 := chk_ok (G0_xOK hK) (fm_c (cok_56 hK) (fm_c (cok_58 hK) (fm_c (cok_63 hK) (fm_c (cok_87 hK) fm_n)))) (show chk KD0 G0 (aX KD0) nX 2000 132 [ctr_56, ctr_58, ctr_63, ctr_87] ctr_267 = true by decide +kernel)
-- X10_byGuard
set_option maxRecDepth 100000 in
def ctr_268 : CTR := (107, [.inr (some 34), .inl (-2147483648, 2147483647)], some (.inr none), [], [], 3, 0, [])
set_option maxRecDepth 100000 in
theorem cok_268 {KO : List Nat} (hK : KOS KO) : cOk KD0 KO G0 ctr_268 := chk_ok (G0_xOK hK) (fm_c (cok_263 hK) (fm_c (cok_265 hK) (fm_c (cok_267 hK) fm_n))) (show chk KD0 G0 (aX KD0) nX 2000 2 [ctr_263, ctr_265, ctr_267] ctr_268 = true by decide +kernel)
-- X11_watched
set_option maxRecDepth 100000 in
def ctr_269 : CTR := (151, [.inr (some 36), .inl (-2147483648, 2147483647)], some (.inr none), ["java/lang/IllegalStateException", "java/lang/IndexOutOfBoundsException"], [(12, 0), (30, 3)], 7, 0, [])
set_option maxRecDepth 100000 in
theorem cok_269 {KO : List Nat} (hK : KOS KO) : cOk KD0 KO G0 ctr_269 := chk_ok (G0_xOK hK) (fm_c (cok_46 hK) (fm_c (cok_86 hK) (fm_c (cok_268 hK) fm_n))) (show chk KD0 G0 (aX KD0) nX 2000 2 [ctr_46, ctr_86, ctr_268] ctr_269 = true by decide +kernel)
-- X10_byAllBut
set_option maxRecDepth 100000 in
def ctr_270 : CTR := (108, [.inr (some 34), .inl (-2147483648, 2147483647)], some (.inr none), [], [], 4, 0, [(5, [(0, .inr (some 34)), (1, .inl (-2147483648, 2147483647)), (2, .inr none), (4, .inl (0, 6))], [], [], 12, [(4, -2)])])
set_option maxRecDepth 100000 in
theorem cok_270 {KO : List Nat} (hK : KOS KO) : cOk KD0 KO G0 ctr_270 := chk_ok (G0_xOK hK) (fm_c (cok_268 hK) fm_n) (show chk KD0 G0 (aX KD0) nX 2000 16 [ctr_268] ctr_270 = true by decide +kernel)
-- X11_unwatched
set_option maxRecDepth 100000 in
def ctr_271 : CTR := (152, [.inr (some 36)], some (.inr none), ["java/lang/IllegalStateException"], [(12, 0), (30, 3)], 7, 0, [])
set_option maxRecDepth 100000 in
theorem cok_271 {KO : List Nat} (hK : KOS KO) : cOk KD0 KO G0 ctr_271 := chk_ok (G0_xOK hK) (fm_c (cok_46 hK) (fm_c (cok_86 hK) (fm_c (cok_91 hK) (fm_c (cok_270 hK) fm_n)))) (show chk KD0 G0 (aX KD0) nX 2000 2 [ctr_46, ctr_86, ctr_91, ctr_270] ctr_271 = true by decide +kernel)
-- X10_guardsOn
set_option maxRecDepth 100000 in
def ctr_272 : CTR := (109, [.inr (some 34), .inl (-2147483648, 2147483647)], some (.inl (-2147483648, 2147483647)), [], [], 4, 0, [(4, [(0, .inr (some 34)), (1, .inl (-2147483648, 2147483647)), (2, .inl (-2147483648, 2147483647)), (3, .inl (0, 6))], [], [], 12, [(3, -2)])])
set_option maxRecDepth 100000 in
theorem cok_272 {KO : List Nat} (hK : KOS KO) : cOk KD0 KO G0 ctr_272 := chk_ok (G0_xOK hK) (fm_c (cok_63 hK) (fm_c (cok_268 hK) fm_n)) (show chk KD0 G0 (aX KD0) nX 2000 16 [ctr_63, ctr_268] ctr_272 = true by decide +kernel)
-- X11_watchers
set_option maxRecDepth 100000 in
def ctr_273 : CTR := (153, [.inr (some 36), .inl (-2147483648, 2147483647)], some (.inl (-2147483648, 2147483647)), ["java/lang/IllegalStateException", "java/lang/IndexOutOfBoundsException"], [(12, 0), (30, 3)], 7, 0, [])
set_option maxRecDepth 100000 in
theorem cok_273 {KO : List Nat} (hK : KOS KO) : cOk KD0 KO G0 ctr_273 := chk_ok (G0_xOK hK) (fm_c (cok_46 hK) (fm_c (cok_86 hK) (fm_c (cok_272 hK) fm_n))) (show chk KD0 G0 (aX KD0) nX 2000 2 [ctr_46, ctr_86, ctr_272] ctr_273 = true by decide +kernel)
-- X10_spareGuards
set_option maxRecDepth 100000 in
def ctr_274 : CTR := (110, [.inr (some 34)], some (.inl (-2147483648, 2147483647)), [], [], 5, 0, [(11, [(0, .inr (some 34)), (1, .inr none), (3, .inl (-2147483648, 2147483647)), (4, .inl (0, 6))], [], [], 12, [(4, -2)])])
set_option maxRecDepth 100000 in
theorem cok_274 {KO : List Nat} (hK : KOS KO) : cOk KD0 KO G0 ctr_274 := chk_ok (G0_xOK hK) (fm_c (cok_270 hK) fm_n) (show chk KD0 G0 (aX KD0) nX 2000 16 [ctr_270] ctr_274 = true by decide +kernel)
