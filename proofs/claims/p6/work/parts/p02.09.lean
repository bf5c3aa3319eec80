-- X8_pick
set_option maxRecDepth 100000 in
def ctr_225 : CTR := (83, [.inr (some 33), .inr none, .inl (4, 4), .inl (3, 3)], some (.inl (0, 1)), [], [(23, 0)], 2, 0, [(20, [(0, .inr (some 33)), (1, .inr none), (3, .inl (4, 4)), (4, .inl (3, 3)), (5, .inr none), (7, .inl (0, 64))], [], [], 128, [(7, -2)])])
set_option maxRecDepth 100000 in
theorem cok_225 {KO : List Nat} (hK : KOS KO) : cOk KD0 KO G0 ctr_225 := chk_ok (G0_xOK hK) (fm_c (cok_63 hK) (fm_c (cok_224 hK) fm_n)) (show chk KD0 G0 (aX KD0) nX 2000 132 [ctr_63, ctr_224] ctr_225 = true by decide +kernel)
-- X8_pick
set_option maxRecDepth 100000 in
def ctr_226 : CTR := (83, [.inr (some 33), .inr none, .inl (4, 4), .inl (2, 2)], some (.inl (0, 1)), [], [(23, 0)], 3, 0, [(20, [(0, .inr (some 33)), (1, .inr none), (3, .inl (4, 4)), (4, .inl (2, 2)), (5, .inr none), (7, .inl (0, 64))], [], [], 128, [(7, -2)])])
set_option maxRecDepth 100000 in
theorem cok_226 {KO : List Nat} (hK : KOS KO) : cOk KD0 KO G0 ctr_226 := chk_ok (G0_xOK hK) (fm_c (cok_63 hK) (fm_c (cok_224 hK) (fm_c (cok_225 hK) fm_n))) (show chk KD0 G0 (aX KD0) nX 2000 132 [ctr_63, ctr_224, ctr_225] ctr_226 = true by decide +kernel)
-- X8_pick
set_option maxRecDepth 100000 in
def ctr_227 : CTR := (83, [.inr (some 33), .inr none, .inl (4, 4), .inl (1, 1)], some (.inl (0, 1)), [], [(23, 0)], 4, 0, [(20, [(0, .inr (some 33)), (1, .inr none), (3, .inl (4, 4)), (4, .inl (1, 1)), (5, .inr none), (7, .inl (0, 64))], [], [], 128, [(7, -2)])])
set_option maxRecDepth 100000 in
theorem cok_227 {KO : List Nat} (hK : KOS KO) : cOk KD0 KO G0 ctr_227 := chk_ok (G0_xOK hK) (fm_c (cok_63 hK) (fm_c (cok_224 hK) (fm_c (cok_226 hK) fm_n))) (show chk KD0 G0 (aX KD0) nX 2000 132 [ctr_63, ctr_224, ctr_226] ctr_227 = true by decide +kernel)
-- X8_pick
set_option maxRecDepth 100000 in
def ctr_228 : CTR := (83, [.inr (some 33), .inr none, .inl (4, 4), .inl (0, 0)], some (.inl (0, 1)), [], [(23, 0)], 5, 0, [(20, [(0, .inr (some 33)), (1, .inr none), (3, .inl (4, 4)), (4, .inl (0, 0)), (5, .inr none), (7, .inl (0, 64))], [], [], 128, [(7, -2)])])
set_option maxRecDepth 100000 in
theorem cok_228 {KO : List Nat} (hK : KOS KO) : cOk KD0 KO G0 ctr_228 := chk_ok (G0_xOK hK) (fm_c (cok_63 hK) (fm_c (cok_224 hK) (fm_c (cok_227 hK) fm_n))) (show chk KD0 G0 (aX KD0) nX 2000 132 [ctr_63, ctr_224, ctr_227] ctr_228 = true by decide +kernel)
-- X8_pick
set_option maxRecDepth 100000 in
def ctr_229 : CTR := (83, [.inr (some 33), .inr none, .inl (3, 4), .inl (3, 3)], some (.inl (0, 1)), [], [(23, 0)], 2, 0, [(20, [(0, .inr (some 33)), (1, .inr none), (3, .inl (4, 4)), (4, .inl (3, 3)), (5, .inr none), (7, .inl (0, 64))], [], [], 128, [(7, -2)])])
set_option maxRecDepth 100000 in
theorem cok_229 {KO : List Nat} (hK : KOS KO) : cOk KD0 KO G0 ctr_229 := chk_ok (G0_xOK hK) (fm_c (cok_63 hK) (fm_c (cok_224 hK) fm_n)) (show chk KD0 G0 (aX KD0) nX 2000 132 [ctr_63, ctr_224] ctr_229 = true by decide +kernel)
-- X8_pick
set_option maxRecDepth 100000 in
def ctr_230 : CTR := (83, [.inr (some 33), .inr none, .inl (3, 4), .inl (2, 2)], some (.inl (0, 1)), [], [(23, 0)], 3, 0, [(20, [(0, .inr (some 33)), (1, .inr none), (3, .inl (3, 4)), (4, .inl (2, 2)), (5, .inr none), (7, .inl (0, 64))], [], [], 128, [(7, -2)])])
set_option maxRecDepth 100000 in
theorem cok_230 {KO : List Nat} (hK : KOS KO) : cOk KD0 KO G0 ctr_230 := chk_ok (G0_xOK hK) (fm_c (cok_63 hK) (fm_c (cok_224 hK) (fm_c (cok_229 hK) fm_n))) (show chk KD0 G0 (aX KD0) nX 2000 132 [ctr_63, ctr_224, ctr_229] ctr_230 = true by decide +kernel)
-- X8_pick
set_option maxRecDepth 100000 in
def ctr_231 : CTR := (83, [.inr (some 33), .inr none, .inl (3, 4), .inl (1, 1)], some (.inl (0, 1)), [], [(23, 0)], 4, 0, [(20, [(0, .inr (some 33)), (1, .inr none), (3, .inl (3, 4)), (4, .inl (1, 1)), (5, .inr none), (7, .inl (0, 64))], [], [], 128, [(7, -2)])])
set_option maxRecDepth 100000 in
theorem cok_231 {KO : List Nat} (hK : KOS KO) : cOk KD0 KO G0 ctr_231 := chk_ok (G0_xOK hK) (fm_c (cok_63 hK) (fm_c (cok_224 hK) (fm_c (cok_230 hK) fm_n))) (show chk KD0 G0 (aX KD0) nX 2000 132 [ctr_63, ctr_224, ctr_230] ctr_231 = true by decide +kernel)
-- X8_pick
set_option maxRecDepth 100000 in
def ctr_232 : CTR := (83, [.inr (some 33), .inr none, .inl (3, 4), .inl (0, 0)], some (.inl (0, 1)), [], [(23, 0)], 5, 0, [(20, [(0, .inr (some 33)), (1, .inr none), (3, .inl (3, 4)), (4, .inl (0, 0)), (5, .inr none), (7, .inl (0, 64))], [], [], 128, [(7, -2)])])
set_option maxRecDepth 100000 in
theorem cok_232 {KO : List Nat} (hK : KOS KO) : cOk KD0 KO G0 ctr_232 := chk_ok (G0_xOK hK) (fm_c (cok_63 hK) (fm_c (cok_224 hK) (fm_c (cok_231 hK) fm_n))) (show chk KD0 G0 (aX KD0) nX 2000 132 [ctr_63, ctr_224, ctr_231] ctr_232 = true by decide +kernel)
-- X8_pick
set_option maxRecDepth 100000 in
def ctr_233 : CTR := (83, [.inr (some 33), .inr none, .inl (2, 4), .inl (2, 2)], some (.inl (0, 1)), [], [(23, 0)], 3, 0, [(20, [(0, .inr (some 33)), (1, .inr none), (3, .inl (3, 4)), (4, .inl (2, 2)), (5, .inr none), (7, .inl (0, 64))], [], [], 128, [(7, -2)])])
set_option maxRecDepth 100000 in
theorem cok_233 {KO : List Nat} (hK : KOS KO) : cOk KD0 KO G0 ctr_233 := chk_ok (G0_xOK hK) (fm_c (cok_63 hK) (fm_c (cok_224 hK) (fm_c (cok_229 hK) fm_n))) (show chk KD0 G0 (aX KD0) nX 2000 132 [ctr_63, ctr_224, ctr_229] ctr_233 = true by decide +kernel)
-- X8_pick
set_option maxRecDepth 100000 in
def ctr_234 : CTR := (83, [.inr (some 33), .inr none, .inl (2, 4), .inl (1, 1)], some (.inl (0, 1)), [], [(23, 0)], 4, 0, [(20, [(0, .inr (some 33)), (1, .inr none), (3, .inl (2, 4)), (4, .inl (1, 1)), (5, .inr none), (7, .inl (0, 64))], [], [], 128, [(7, -2)])])
set_option maxRecDepth 100000 in
theorem cok_234 {KO : List Nat} (hK : KOS KO) : cOk KD0 KO G0 ctr_234 := chk_ok (G0_xOK hK) (fm_c (cok_63 hK) (fm_c (cok_224 hK) (fm_c (cok_233 hK) fm_n))) (show chk KD0 G0 (aX KD0) nX 2000 132 [ctr_63, ctr_224, ctr_233] ctr_234 = true by decide +kernel)
-- X8_pick
set_option maxRecDepth 100000 in
def ctr_235 : CTR := (83, [.inr (some 33), .inr none, .inl (2, 4), .inl (0, 0)], some (.inl (0, 1)), [], [(23, 0)], 5, 0, [(20, [(0, .inr (some 33)), (1, .inr none), (3, .inl (2, 4)), (4, .inl (0, 0)), (5, .inr none), (7, .inl (0, 64))], [], [], 128, [(7, -2)])])
set_option maxRecDepth 100000 in
theorem cok_235 {KO : List Nat} (hK : KOS KO) : cOk KD0 KO G0 ctr_235 := chk_ok (G0_xOK hK) (fm_c (cok_63 hK) (fm_c (cok_224 hK) (fm_c (cok_234 hK) fm_n))) (show chk KD0 G0 (aX KD0) nX 2000 132 [ctr_63, ctr_224, ctr_234] ctr_235 = true by decide +kernel)
-- X8_pick
set_option maxRecDepth 100000 in
def ctr_236 : CTR := (83, [.inr (some 33), .inr none, .inl (1, 4), .inl (1, 1)], some (.inl (0, 1)), [], [(23, 0)], 4, 0, [(20, [(0, .inr (some 33)), (1, .inr none), (3, .inl (2, 4)), (4, .inl (1, 1)), (5, .inr none), (7, .inl (0, 64))], [], [], 128, [(7, -2)])])
set_option maxRecDepth 100000 in
theorem cok_236 {KO : List Nat} (hK : KOS KO) : cOk KD0 KO G0 ctr_236 := chk_ok (G0_xOK hK) (fm_c (cok_63 hK) (fm_c (cok_224 hK) (fm_c (cok_233 hK) fm_n))) (show chk KD0 G0 (aX KD0) nX 2000 132 [ctr_63, ctr_224, ctr_233] ctr_236 = true by decide +kernel)
-- X8_pick
set_option maxRecDepth 100000 in
def ctr_237 : CTR := (83, [.inr (some 33), .inr none, .inl (1, 4), .inl (0, 0)], some (.inl (0, 1)), [], [(23, 0)], 5, 0, [(20, [(0, .inr (some 33)), (1, .inr none), (3, .inl (1, 4)), (4, .inl (0, 0)), (5, .inr none), (7, .inl (0, 64))], [], [], 128, [(7, -2)])])
set_option maxRecDepth 100000 in
theorem cok_237 {KO : List Nat} (hK : KOS KO) : cOk KD0 KO G0 ctr_237 := chk_ok (G0_xOK hK) (fm_c (cok_63 hK) (fm_c (cok_224 hK) (fm_c (cok_236 hK) fm_n))) (show chk KD0 G0 (aX KD0) nX 2000 132 [ctr_63, ctr_224, ctr_236] ctr_237 = true by decide +kernel)
-- X8_mostWitnesses
set_option maxRecDepth 100000 in
def ctr_238 : CTR := (81, [.inr (some 33)], some (.inl (-2147483648, 2147483647)), [], [(22, 0), (23, 0), (33, 3)], 6, 0, [(14, [(0, .inr (some 33)), (1, .inl (0, 64))], [], [(0, 3, (0, 0))], 138, [(1, -2)]), (49, [(0, .inr (some 33)), (1, .inl (0, 4))], [], [(0, 3, (0, 4))], 0, [(1, 2)])])
set_option maxRecDepth 100000 in
theorem cok_238 {KO : List Nat} (hK : KOS KO) : cOk KD0 KO G0 ctr_238 := chk_ok (G0_xOK hK) (fm_c (cok_87 hK) (fm_c (cok_92 hK) (fm_c (cok_95 hK) (fm_c (cok_228 hK) (fm_c (cok_232 hK) (fm_c (cok_235 hK) (fm_c (cok_237 hK) fm_n))))))) (show chk KD0 G0 (aX KD0) nX 2000 142 [ctr_87, ctr_92, ctr_95, ctr_228, ctr_232, ctr_235, ctr_237] ctr_238 = true by decide +kernel)
-- X11_witnessNumber
set_option maxRecDepth 100000 in
def ctr_239 : CTR := (145, [.inr (some 36)], some (.inl (-2147483648, 2147483647)), ["java/lang/IllegalStateException"], [(12, 0), (22, 0), (23, 0), (30, 3), (33, 3)], 7, 0, [])
set_option maxRecDepth 100000 in
theorem cok_239 {KO : List Nat} (hK : KOS KO) : cOk KD0 KO G0 ctr_239 := chk_ok (G0_xOK hK) (fm_c (cok_46 hK) (fm_c (cok_86 hK) (fm_c (cok_238 hK) fm_n))) (show chk KD0 G0 (aX KD0) nX 2000 2 [ctr_46, ctr_86, ctr_238] ctr_239 = true by decide +kernel)
-- X8_pickedWitness
set_option maxRecDepth 100000 in
def ctr_240 : CTR := (82, [.inr (some 33), .inl (-2147483648, 2147483647)], some (.inl (-2147483648, 2147483647)), [], [], 1, 0, [])
set_option maxRecDepth 100000 in
theorem cok_240 {KO : List Nat} (hK : KOS KO) : cOk KD0 KO G0 ctr_240 := chk_ok (G0_xOK hK) fm_n (show chk KD0 G0 (aX KD0) nX 2000 2 [] ctr_240 = true by decide +kernel)
-- X11_witness
set_option maxRecDepth 100000 in
def ctr_241 : CTR := (146, [.inr (some 36), .inl (-2147483648, 2147483647)], some (.inl (-2147483648, 2147483647)), ["java/lang/IllegalStateException", "java/lang/IndexOutOfBoundsException"], [(12, 0), (22, 0), (23, 0), (30, 3), (33, 3)], 7, 0, [])
set_option maxRecDepth 100000 in
theorem cok_241 {KO : List Nat} (hK : KOS KO) : cOk KD0 KO G0 ctr_241 := chk_ok (G0_xOK hK) (fm_c (cok_46 hK) (fm_c (cok_86 hK) (fm_c (cok_238 hK) (fm_c (cok_240 hK) fm_n)))) (show chk KD0 G0 (aX KD0) nX 2000 2 [ctr_46, ctr_86, ctr_238, ctr_240] ctr_241 = true by decide +kernel)
-- X8_isDominated
set_option maxRecDepth 100000 in
def ctr_242 : CTR := (87, [.inr (some 33), .inl (-2147483648, 2147483647), .inr none], some (.inl (0, 1)), [], [], 2, 0, [(3, [(0, .inr (some 33)), (1, .inl (-2147483648, 2147483647)), (2, .inr none), (4, .inl (0, 64))], [], [], 128, [(4, -2)])])
set_option maxRecDepth 100000 in
theorem cok_242 {KO : List Nat} (hK : KOS KO) : cOk KD0 KO G0 ctr_242 := chk_ok (G0_xOK hK) (fm_c (cok_63 hK) (fm_c (cok_87 hK) fm_n)) (show chk KD0 G0 (aX KD0) nX 2000 132 [ctr_63, ctr_87] ctr_242 = true by decide +kernel)
-- X8_withoutDominated
set_option maxRecDepth 100000 in
def ctr_243 : CTR := (86, [.inr (some 33), .inr none], some (.inr none), [], [], 3, 0, [(5, [(0, .inr (some 33)), (1, .inr none), (3, .inr none), (5, .inl (0, 64))], [], [], 128, [(5, -2)])])
set_option maxRecDepth 100000 in
theorem cok_243 {KO : List Nat} (hK : KOS KO) : cOk KD0 KO G0 ctr_243 := chk_ok (G0_xOK hK) (fm_c (cok_63 hK) (fm_c (cok_242 hK) fm_n)) (show chk KD0 G0 (aX KD0) nX 2000 132 [ctr_63, ctr_242] ctr_243 = true by decide +kernel)
-- X8_leastSeeing
set_option maxRecDepth 100000 in
def ctr_244 : CTR := (88, [.inr (some 33), .inr none], some (.inl (-1, 63)), [], [], 2, 0, [(9, [(0, .inr (some 33)), (1, .inr none), (3, .inl (-1, 63)), (4, .inl (-2147483648, 2147483647)), (5, .inl (0, 64))], [], [], 128, [(5, -2)])])
set_option maxRecDepth 100000 in
theorem cok_244 {KO : List Nat} (hK : KOS KO) : cOk KD0 KO G0 ctr_244 := chk_ok (G0_xOK hK) (fm_c (cok_63 hK) (fm_c (cok_87 hK) (fm_c (cok_224 hK) fm_n))) (show chk KD0 G0 (aX KD0) nX 2000 132 [ctr_63, ctr_87, ctr_224] ctr_244 = true by decide +kernel)
-- X8_largestHidden
set_option maxRecDepth 100000 in
def ctr_245 : CTR := (85, [.inr (some 33), .inr none, .inl (12, 12)], some (.inl (0, 0)), [], [], 1, 0, [])
set_option maxRecDepth 100000 in
theorem cok_245 {KO : List Nat} (hK : KOS KO) : cOk KD0 KO G0 ctr_245 := chk_ok (G0_xOK hK) fm_n (show chk KD0 G0 (aX KD0) nX 2000 2 [] ctr_245 = true by decide +kernel)
-- X8_largestHidden
set_option maxRecDepth 100000 in
def ctr_246 : CTR := (85, [.inr (some 33), .inr none, .inl (11, 11)], some (.inl (0, 1)), [], [], 4, 0, [(45, [(0, .inr (some 33)), (1, .inr none), (3, .inl (11, 11)), (4, .inr none), (6, .inr none), (8, .inl (0, 1)), (9, .inl (0, 64))], [], [], 128, [(9, -2)])])
set_option maxRecDepth 100000 in
theorem cok_246 {KO : List Nat} (hK : KOS KO) : cOk KD0 KO G0 ctr_246 := chk_ok (G0_xOK hK) (fm_c (cok_63 hK) (fm_c (cok_87 hK) (fm_c (cok_243 hK) (fm_c (cok_244 hK) (fm_c (cok_245 hK) fm_n))))) (show chk KD0 G0 (aX KD0) nX 2000 132 [ctr_63, ctr_87, ctr_243, ctr_244, ctr_245] ctr_246 = true by decide +kernel)
-- X8_largestHidden
set_option maxRecDepth 100000 in
def ctr_247 : CTR := (85, [.inr (some 33), .inr none, .inl (10, 10)], some (.inl (0, 2)), [], [], 5, 0, [(45, [(0, .inr (some 33)), (1, .inr none), (3, .inl (10, 10)), (4, .inr none), (6, .inr none), (8, .inl (0, 2)), (9, .inl (0, 64))], [], [], 128, [(9, -2)])])
set_option maxRecDepth 100000 in
theorem cok_247 {KO : List Nat} (hK : KOS KO) : cOk KD0 KO G0 ctr_247 := chk_ok (G0_xOK hK) (fm_c (cok_63 hK) (fm_c (cok_87 hK) (fm_c (cok_243 hK) (fm_c (cok_244 hK) (fm_c (cok_246 hK) fm_n))))) (show chk KD0 G0 (aX KD0) nX 2000 132 [ctr_63, ctr_87, ctr_243, ctr_244, ctr_246] ctr_247 = true by decide +kernel)
-- X8_largestHidden
set_option maxRecDepth 100000 in
def ctr_248 : CTR := (85, [.inr (some 33), .inr none, .inl (9, 9)], some (.inl (0, 3)), [], [], 6, 0, [(45, [(0, .inr (some 33)), (1, .inr none), (3, .inl (9, 9)), (4, .inr none), (6, .inr none), (8, .inl (0, 3)), (9, .inl (0, 64))], [], [], 128, [(9, -2)])])
set_option maxRecDepth 100000 in
theorem cok_248 {KO : List Nat} (hK : KOS KO) : cOk KD0 KO G0 ctr_248 := chk_ok (G0_xOK hK) (fm_c (cok_63 hK) (fm_c (cok_87 hK) (fm_c (cok_243 hK) (fm_c (cok_244 hK) (fm_c (cok_247 hK) fm_n))))) (show chk KD0 G0 (aX KD0) nX 2000 132 [ctr_63, ctr_87, ctr_243, ctr_244, ctr_247] ctr_248 = true by decide +kernel)
-- X8_largestHidden
set_option maxRecDepth 100000 in
def ctr_249 : CTR := (85, [.inr (some 33), .inr none, .inl (8, 8)], some (.inl (0, 4)), [], [], 7, 0, [(45, [(0, .inr (some 33)), (1, .inr none), (3, .inl (8, 8)), (4, .inr none), (6, .inr none), (8, .inl (0, 4)), (9, .inl (0, 64))], [], [], 128, [(9, -2)])])
set_option maxRecDepth 100000 in
theorem cok_249 {KO : List Nat} (hK : KOS KO) : cOk KD0 KO G0 ctr_249 := chk_ok (G0_xOK hK) (fm_c (cok_63 hK) (fm_c (cok_87 hK) (fm_c (cok_243 hK) (fm_c (cok_244 hK) (fm_c (cok_248 hK) fm_n))))) (show chk KD0 G0 (aX KD0) nX 2000 132 [ctr_63, ctr_87, ctr_243, ctr_244, ctr_248] ctr_249 = true by decide +kernel)
