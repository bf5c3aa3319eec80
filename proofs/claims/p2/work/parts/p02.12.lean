-- X8_pick
set_option maxRecDepth 100000 in
def ctr_300 : CTR := (83, [.inr (some 33), .inr none, .inl (2, 4), .inl (0, 0)], some (.inl (0, 1)), [], [(23, 0)], 5, 0, [(20, [(0, .inr (some 33)), (1, .inr none), (3, .inl (2, 4)), (4, .inl (0, 0)), (5, .inr none), (7, .inl (0, 64))], [], [], 128, [((7, none), -2)], [])], [], [])
set_option maxRecDepth 100000 in
theorem cok_300 {KO : List Nat} (hK : KOK KO) : cOk KD0 KO G0 ctr_300 := chk_ok (G0_xOK hK.1) (chkS_ok (show chkS sgl0 [ctr_63, ctr_289, ctr_299] ctr_300 = true by decide +kernel) hK.2) (fm_c (cok_63 hK) (fm_c (cok_289 hK) (fm_c (cok_299 hK) fm_n))) (show chk KD0 G0 (aX KD0) nX 2000 132 [ctr_63, ctr_289, ctr_299] ctr_300 = true by decide +kernel)
-- X8_pick
set_option maxRecDepth 100000 in
def ctr_301 : CTR := (83, [.inr (some 33), .inr none, .inl (1, 4), .inl (1, 1)], some (.inl (0, 1)), [], [(23, 0)], 4, 0, [(20, [(0, .inr (some 33)), (1, .inr none), (3, .inl (2, 4)), (4, .inl (1, 1)), (5, .inr none), (7, .inl (0, 64))], [], [], 128, [((7, none), -2)], [])], [], [])
set_option maxRecDepth 100000 in
theorem cok_301 {KO : List Nat} (hK : KOK KO) : cOk KD0 KO G0 ctr_301 := chk_ok (G0_xOK hK.1) (chkS_ok (show chkS sgl0 [ctr_63, ctr_289, ctr_298] ctr_301 = true by decide +kernel) hK.2) (fm_c (cok_63 hK) (fm_c (cok_289 hK) (fm_c (cok_298 hK) fm_n))) (show chk KD0 G0 (aX KD0) nX 2000 132 [ctr_63, ctr_289, ctr_298] ctr_301 = true by decide +kernel)
-- X8_pick
set_option maxRecDepth 100000 in
def ctr_302 : CTR := (83, [.inr (some 33), .inr none, .inl (1, 4), .inl (0, 0)], some (.inl (0, 1)), [], [(23, 0)], 5, 0, [(20, [(0, .inr (some 33)), (1, .inr none), (3, .inl (1, 4)), (4, .inl (0, 0)), (5, .inr none), (7, .inl (0, 64))], [], [], 128, [((7, none), -2)], [])], [], [])
set_option maxRecDepth 100000 in
theorem cok_302 {KO : List Nat} (hK : KOK KO) : cOk KD0 KO G0 ctr_302 := chk_ok (G0_xOK hK.1) (chkS_ok (show chkS sgl0 [ctr_63, ctr_289, ctr_301] ctr_302 = true by decide +kernel) hK.2) (fm_c (cok_63 hK) (fm_c (cok_289 hK) (fm_c (cok_301 hK) fm_n))) (show chk KD0 G0 (aX KD0) nX 2000 132 [ctr_63, ctr_289, ctr_301] ctr_302 = true by decide +kernel)
-- X8_mostWitnesses
set_option maxRecDepth 100000 in
def ctr_303 : CTR := (81, [.inr (some 33)], some (.inl (-2147483648, 2147483647)), [], [(22, 0), (23, 0), (33, 3)], 6, 0, [(14, [(0, .inr (some 33)), (1, .inl (0, 64))], [], [(0, 3, (0, 0))], 138, [((1, none), -2)], []), (49, [(0, .inr (some 33)), (1, .inl (0, 4))], [], [(0, 3, (0, 4))], 0, [((1, none), 2)], [])], [], [])
set_option maxRecDepth 100000 in
theorem cok_303 {KO : List Nat} (hK : KOK KO) : cOk KD0 KO G0 ctr_303 := chk_ok (G0_xOK hK.1) (chkS_ok (show chkS sgl0 [ctr_87, ctr_92, ctr_95, ctr_293, ctr_297, ctr_300, ctr_302] ctr_303 = true by decide +kernel) hK.2) (fm_c (cok_87 hK) (fm_c (cok_92 hK) (fm_c (cok_95 hK) (fm_c (cok_293 hK) (fm_c (cok_297 hK) (fm_c (cok_300 hK) (fm_c (cok_302 hK) fm_n))))))) (show chk KD0 G0 (aX KD0) nX 2000 142 [ctr_87, ctr_92, ctr_95, ctr_293, ctr_297, ctr_300, ctr_302] ctr_303 = true by decide +kernel)
-- X11_witnessNumber
set_option maxRecDepth 100000 in
def ctr_304 : CTR := (145, [.inr (some 36)], some (.inl (-2147483648, 2147483647)), ["java/lang/IllegalStateException"], [(12, 0), (22, 0), (23, 0), (30, 3), (33, 3)], 7, 0, [], [], [])
set_option maxRecDepth 100000 in
theorem cok_304 {KO : List Nat} (hK : KOK KO) : cOk KD0 KO G0 ctr_304 := chk_ok (G0_xOK hK.1) (chkS_ok (show chkS sgl0 [ctr_46, ctr_86, ctr_303] ctr_304 = true by decide +kernel) hK.2) (fm_c (cok_46 hK) (fm_c (cok_86 hK) (fm_c (cok_303 hK) fm_n))) (show chk KD0 G0 (aX KD0) nX 2000 2 [ctr_46, ctr_86, ctr_303] ctr_304 = true by decide +kernel)
-- X8_pickedWitness
set_option maxRecDepth 100000 in
def ctr_305 : CTR := (82, [.inr (some 33), .inl (-2147483648, 2147483647)], some (.inl (-2147483648, 2147483647)), [], [], 1, 0, [], [], [])
set_option maxRecDepth 100000 in
theorem cok_305 {KO : List Nat} (hK : KOK KO) : cOk KD0 KO G0 ctr_305 := chk_ok (G0_xOK hK.1) (chkS_ok (show chkS sgl0 [] ctr_305 = true by decide +kernel) hK.2) fm_n (show chk KD0 G0 (aX KD0) nX 2000 2 [] ctr_305 = true by decide +kernel)
-- X11_witness
set_option maxRecDepth 100000 in
def ctr_306 : CTR := (146, [.inr (some 36), .inl (-2147483648, 2147483647)], some (.inl (-2147483648, 2147483647)), ["java/lang/IllegalStateException", "java/lang/IndexOutOfBoundsException"], [(12, 0), (22, 0), (23, 0), (30, 3), (33, 3)], 7, 0, [], [], [])
set_option maxRecDepth 100000 in
theorem cok_306 {KO : List Nat} (hK : KOK KO) : cOk KD0 KO G0 ctr_306 := chk_ok (G0_xOK hK.1) (chkS_ok (show chkS sgl0 [ctr_46, ctr_86, ctr_303, ctr_305] ctr_306 = true by decide +kernel) hK.2) (fm_c (cok_46 hK) (fm_c (cok_86 hK) (fm_c (cok_303 hK) (fm_c (cok_305 hK) fm_n)))) (show chk KD0 G0 (aX KD0) nX 2000 2 [ctr_46, ctr_86, ctr_303, ctr_305] ctr_306 = true by decide +kernel)
-- X8_isDominated
set_option maxRecDepth 100000 in
def ctr_307 : CTR := (87, [.inr (some 33), .inl (-2147483648, 2147483647), .inr none], some (.inl (0, 1)), [], [], 2, 0, [(3, [(0, .inr (some 33)), (1, .inl (-2147483648, 2147483647)), (2, .inr none), (4, .inl (0, 64))], [], [], 128, [((4, none), -2)], [])], [], [])
set_option maxRecDepth 100000 in
theorem cok_307 {KO : List Nat} (hK : KOK KO) : cOk KD0 KO G0 ctr_307 := chk_ok (G0_xOK hK.1) (chkS_ok (show chkS sgl0 [ctr_63, ctr_87] ctr_307 = true by decide +kernel) hK.2) (fm_c (cok_63 hK) (fm_c (cok_87 hK) fm_n)) (show chk KD0 G0 (aX KD0) nX 2000 132 [ctr_63, ctr_87] ctr_307 = true by decide +kernel)
-- X8_withoutDominated
set_option maxRecDepth 100000 in
def ctr_308 : CTR := (86, [.inr (some 33), .inr none], some (.inr none), [], [], 3, 0, [(5, [(0, .inr (some 33)), (1, .inr none), (3, .inr none), (5, .inl (0, 64))], [], [], 128, [((5, none), -2)], [])], [], [])
set_option maxRecDepth 100000 in
theorem cok_308 {KO : List Nat} (hK : KOK KO) : cOk KD0 KO G0 ctr_308 := chk_ok (G0_xOK hK.1) (chkS_ok (show chkS sgl0 [ctr_63, ctr_307] ctr_308 = true by decide +kernel) hK.2) (fm_c (cok_63 hK) (fm_c (cok_307 hK) fm_n)) (show chk KD0 G0 (aX KD0) nX 2000 132 [ctr_63, ctr_307] ctr_308 = true by decide +kernel)
-- X8_leastSeeing
set_option maxRecDepth 100000 in
def ctr_309 : CTR := (88, [.inr (some 33), .inr none], some (.inl (-1, 63)), [], [], 2, 0, [(9, [(0, .inr (some 33)), (1, .inr none), (3, .inl (-1, 63)), (4, .inl (-2147483648, 2147483647)), (5, .inl (0, 64))], [], [], 128, [((5, none), -2)], [])], [], [])
set_option maxRecDepth 100000 in
theorem cok_309 {KO : List Nat} (hK : KOK KO) : cOk KD0 KO G0 ctr_309 := chk_ok (G0_xOK hK.1) (chkS_ok (show chkS sgl0 [ctr_63, ctr_87, ctr_289] ctr_309 = true by decide +kernel) hK.2) (fm_c (cok_63 hK) (fm_c (cok_87 hK) (fm_c (cok_289 hK) fm_n))) (show chk KD0 G0 (aX KD0) nX 2000 132 [ctr_63, ctr_87, ctr_289] ctr_309 = true by decide +kernel)
-- X8_largestHidden
set_option maxRecDepth 100000 in
def ctr_310 : CTR := (85, [.inr (some 33), .inr none, .inl (12, 12)], some (.inl (0, 0)), [], [], 1, 0, [], [], [])
set_option maxRecDepth 100000 in
theorem cok_310 {KO : List Nat} (hK : KOK KO) : cOk KD0 KO G0 ctr_310 := chk_ok (G0_xOK hK.1) (chkS_ok (show chkS sgl0 [] ctr_310 = true by decide +kernel) hK.2) fm_n (show chk KD0 G0 (aX KD0) nX 2000 2 [] ctr_310 = true by decide +kernel)
-- X8_largestHidden
set_option maxRecDepth 100000 in
def ctr_311 : CTR := (85, [.inr (some 33), .inr none, .inl (11, 11)], some (.inl (0, 1)), [], [], 4, 0, [(45, [(0, .inr (some 33)), (1, .inr none), (3, .inl (11, 11)), (4, .inr none), (6, .inr none), (8, .inl (0, 1)), (9, .inl (0, 64))], [], [], 128, [((9, none), -2)], [])], [], [])
set_option maxRecDepth 100000 in
theorem cok_311 {KO : List Nat} (hK : KOK KO) : cOk KD0 KO G0 ctr_311 := chk_ok (G0_xOK hK.1) (chkS_ok (show chkS sgl0 [ctr_63, ctr_87, ctr_308, ctr_309, ctr_310] ctr_311 = true by decide +kernel) hK.2) (fm_c (cok_63 hK) (fm_c (cok_87 hK) (fm_c (cok_308 hK) (fm_c (cok_309 hK) (fm_c (cok_310 hK) fm_n))))) (show chk KD0 G0 (aX KD0) nX 2000 132 [ctr_63, ctr_87, ctr_308, ctr_309, ctr_310] ctr_311 = true by decide +kernel)
-- X8_largestHidden
set_option maxRecDepth 100000 in
def ctr_312 : CTR := (85, [.inr (some 33), .inr none, .inl (10, 10)], some (.inl (0, 2)), [], [], 5, 0, [(45, [(0, .inr (some 33)), (1, .inr none), (3, .inl (10, 10)), (4, .inr none), (6, .inr none), (8, .inl (0, 2)), (9, .inl (0, 64))], [], [], 128, [((9, none), -2)], [])], [], [])
set_option maxRecDepth 100000 in
theorem cok_312 {KO : List Nat} (hK : KOK KO) : cOk KD0 KO G0 ctr_312 := chk_ok (G0_xOK hK.1) (chkS_ok (show chkS sgl0 [ctr_63, ctr_87, ctr_308, ctr_309, ctr_311] ctr_312 = true by decide +kernel) hK.2) (fm_c (cok_63 hK) (fm_c (cok_87 hK) (fm_c (cok_308 hK) (fm_c (cok_309 hK) (fm_c (cok_311 hK) fm_n))))) (show chk KD0 G0 (aX KD0) nX 2000 132 [ctr_63, ctr_87, ctr_308, ctr_309, ctr_311] ctr_312 = true by decide +kernel)
-- X8_largestHidden
set_option maxRecDepth 100000 in
def ctr_313 : CTR := (85, [.inr (some 33), .inr none, .inl (9, 9)], some (.inl (0, 3)), [], [], 6, 0, [(45, [(0, .inr (some 33)), (1, .inr none), (3, .inl (9, 9)), (4, .inr none), (6, .inr none), (8, .inl (0, 3)), (9, .inl (0, 64))], [], [], 128, [((9, none), -2)], [])], [], [])
set_option maxRecDepth 100000 in
theorem cok_313 {KO : List Nat} (hK : KOK KO) : cOk KD0 KO G0 ctr_313 := chk_ok (G0_xOK hK.1) (chkS_ok (show chkS sgl0 [ctr_63, ctr_87, ctr_308, ctr_309, ctr_312] ctr_313 = true by decide +kernel) hK.2) (fm_c (cok_63 hK) (fm_c (cok_87 hK) (fm_c (cok_308 hK) (fm_c (cok_309 hK) (fm_c (cok_312 hK) fm_n))))) (show chk KD0 G0 (aX KD0) nX 2000 132 [ctr_63, ctr_87, ctr_308, ctr_309, ctr_312] ctr_313 = true by decide +kernel)
-- X8_largestHidden
set_option maxRecDepth 100000 in
def ctr_314 : CTR := (85, [.inr (some 33), .inr none, .inl (8, 8)], some (.inl (0, 4)), [], [], 7, 0, [(45, [(0, .inr (some 33)), (1, .inr none), (3, .inl (8, 8)), (4, .inr none), (6, .inr none), (8, .inl (0, 4)), (9, .inl (0, 64))], [], [], 128, [((9, none), -2)], [])], [], [])
set_option maxRecDepth 100000 in
theorem cok_314 {KO : List Nat} (hK : KOK KO) : cOk KD0 KO G0 ctr_314 := chk_ok (G0_xOK hK.1) (chkS_ok (show chkS sgl0 [ctr_63, ctr_87, ctr_308, ctr_309, ctr_313] ctr_314 = true by decide +kernel) hK.2) (fm_c (cok_63 hK) (fm_c (cok_87 hK) (fm_c (cok_308 hK) (fm_c (cok_309 hK) (fm_c (cok_313 hK) fm_n))))) (show chk KD0 G0 (aX KD0) nX 2000 132 [ctr_63, ctr_87, ctr_308, ctr_309, ctr_313] ctr_314 = true by decide +kernel)
-- X8_largestHidden
set_option maxRecDepth 100000 in
def ctr_315 : CTR := (85, [.inr (some 33), .inr none, .inl (7, 7)], some (.inl (0, 5)), [], [], 8, 0, [(45, [(0, .inr (some 33)), (1, .inr none), (3, .inl (7, 7)), (4, .inr none), (6, .inr none), (8, .inl (0, 5)), (9, .inl (0, 64))], [], [], 128, [((9, none), -2)], [])], [], [])
set_option maxRecDepth 100000 in
theorem cok_315 {KO : List Nat} (hK : KOK KO) : cOk KD0 KO G0 ctr_315 := chk_ok (G0_xOK hK.1) (chkS_ok (show chkS sgl0 [ctr_63, ctr_87, ctr_308, ctr_309, ctr_314] ctr_315 = true by decide +kernel) hK.2) (fm_c (cok_63 hK) (fm_c (cok_87 hK) (fm_c (cok_308 hK) (fm_c (cok_309 hK) (fm_c (cok_314 hK) fm_n))))) (show chk KD0 G0 (aX KD0) nX 2000 132 [ctr_63, ctr_87, ctr_308, ctr_309, ctr_314] ctr_315 = true by decide +kernel)
-- X8_largestHidden
set_option maxRecDepth 100000 in
def ctr_316 : CTR := (85, [.inr (some 33), .inr none, .inl (6, 6)], some (.inl (0, 6)), [], [], 9, 0, [(45, [(0, .inr (some 33)), (1, .inr none), (3, .inl (6, 6)), (4, .inr none), (6, .inr none), (8, .inl (0, 6)), (9, .inl (0, 64))], [], [], 128, [((9, none), -2)], [])], [], [])
set_option maxRecDepth 100000 in
theorem cok_316 {KO : List Nat} (hK : KOK KO) : cOk KD0 KO G0 ctr_316 := chk_ok (G0_xOK hK.1) (chkS_ok (show chkS sgl0 [ctr_63, ctr_87, ctr_308, ctr_309, ctr_315] ctr_316 = true by decide +kernel) hK.2) (fm_c (cok_63 hK) (fm_c (cok_87 hK) (fm_c (cok_308 hK) (fm_c (cok_309 hK) (fm_c (cok_315 hK) fm_n))))) (show chk KD0 G0 (aX KD0) nX 2000 132 [ctr_63, ctr_87, ctr_308, ctr_309, ctr_315] ctr_316 = true by decide +kernel)
-- X8_largestHidden
set_option maxRecDepth 100000 in
def ctr_317 : CTR := (85, [.inr (some 33), .inr none, .inl (5, 5)], some (.inl (0, 7)), [], [], 10, 0, [(45, [(0, .inr (some 33)), (1, .inr none), (3, .inl (5, 5)), (4, .inr none), (6, .inr none), (8, .inl (0, 7)), (9, .inl (0, 64))], [], [], 128, [((9, none), -2)], [])], [], [])
set_option maxRecDepth 100000 in
theorem cok_317 {KO : List Nat} (hK : KOK KO) : cOk KD0 KO G0 ctr_317 := chk_ok (G0_xOK hK.1) (chkS_ok (show chkS sgl0 [ctr_63, ctr_87, ctr_308, ctr_309, ctr_316] ctr_317 = true by decide +kernel) hK.2) (fm_c (cok_63 hK) (fm_c (cok_87 hK) (fm_c (cok_308 hK) (fm_c (cok_309 hK) (fm_c (cok_316 hK) fm_n))))) (show chk KD0 G0 (aX KD0) nX 2000 132 [ctr_63, ctr_87, ctr_308, ctr_309, ctr_316] ctr_317 = true by decide +kernel)
-- X8_largestHidden
set_option maxRecDepth 100000 in
def ctr_318 : CTR := (85, [.inr (some 33), .inr none, .inl (4, 4)], some (.inl (0, 8)), [], [], 11, 0, [(45, [(0, .inr (some 33)), (1, .inr none), (3, .inl (4, 4)), (4, .inr none), (6, .inr none), (8, .inl (0, 8)), (9, .inl (0, 64))], [], [], 128, [((9, none), -2)], [])], [], [])
set_option maxRecDepth 100000 in
theorem cok_318 {KO : List Nat} (hK : KOK KO) : cOk KD0 KO G0 ctr_318 := chk_ok (G0_xOK hK.1) (chkS_ok (show chkS sgl0 [ctr_63, ctr_87, ctr_308, ctr_309, ctr_317] ctr_318 = true by decide +kernel) hK.2) (fm_c (cok_63 hK) (fm_c (cok_87 hK) (fm_c (cok_308 hK) (fm_c (cok_309 hK) (fm_c (cok_317 hK) fm_n))))) (show chk KD0 G0 (aX KD0) nX 2000 132 [ctr_63, ctr_87, ctr_308, ctr_309, ctr_317] ctr_318 = true by decide +kernel)
-- X8_largestHidden
set_option maxRecDepth 100000 in
def ctr_319 : CTR := (85, [.inr (some 33), .inr none, .inl (3, 3)], some (.inl (0, 9)), [], [], 12, 0, [(45, [(0, .inr (some 33)), (1, .inr none), (3, .inl (3, 3)), (4, .inr none), (6, .inr none), (8, .inl (0, 9)), (9, .inl (0, 64))], [], [], 128, [((9, none), -2)], [])], [], [])
set_option maxRecDepth 100000 in
theorem cok_319 {KO : List Nat} (hK : KOK KO) : cOk KD0 KO G0 ctr_319 := chk_ok (G0_xOK hK.1) (chkS_ok (show chkS sgl0 [ctr_63, ctr_87, ctr_308, ctr_309, ctr_318] ctr_319 = true by decide +kernel) hK.2) (fm_c (cok_63 hK) (fm_c (cok_87 hK) (fm_c (cok_308 hK) (fm_c (cok_309 hK) (fm_c (cok_318 hK) fm_n))))) (show chk KD0 G0 (aX KD0) nX 2000 132 [ctr_63, ctr_87, ctr_308, ctr_309, ctr_318] ctr_319 = true by decide +kernel)
-- X8_largestHidden
set_option maxRecDepth 100000 in
def ctr_320 : CTR := (85, [.inr (some 33), .inr none, .inl (2, 2)], some (.inl (0, 10)), [], [], 13, 0, [(45, [(0, .inr (some 33)), (1, .inr none), (3, .inl (2, 2)), (4, .inr none), (6, .inr none), (8, .inl (0, 10)), (9, .inl (0, 64))], [], [], 128, [((9, none), -2)], [])], [], [])
set_option maxRecDepth 100000 in
theorem cok_320 {KO : List Nat} (hK : KOK KO) : cOk KD0 KO G0 ctr_320 := chk_ok (G0_xOK hK.1) (chkS_ok (show chkS sgl0 [ctr_63, ctr_87, ctr_308, ctr_309, ctr_319] ctr_320 = true by decide +kernel) hK.2) (fm_c (cok_63 hK) (fm_c (cok_87 hK) (fm_c (cok_308 hK) (fm_c (cok_309 hK) (fm_c (cok_319 hK) fm_n))))) (show chk KD0 G0 (aX KD0) nX 2000 132 [ctr_63, ctr_87, ctr_308, ctr_309, ctr_319] ctr_320 = true by decide +kernel)
-- X8_largestHidden
set_option maxRecDepth 100000 in
def ctr_321 : CTR := (85, [.inr (some 33), .inr none, .inl (1, 1)], some (.inl (0, 11)), [], [], 14, 0, [(45, [(0, .inr (some 33)), (1, .inr none), (3, .inl (1, 1)), (4, .inr none), (6, .inr none), (8, .inl (0, 11)), (9, .inl (0, 64))], [], [], 128, [((9, none), -2)], [])], [], [])
set_option maxRecDepth 100000 in
theorem cok_321 {KO : List Nat} (hK : KOK KO) : cOk KD0 KO G0 ctr_321 := chk_ok (G0_xOK hK.1) (chkS_ok (show chkS sgl0 [ctr_63, ctr_87, ctr_308, ctr_309, ctr_320] ctr_321 = true by decide +kernel) hK.2) (fm_c (cok_63 hK) (fm_c (cok_87 hK) (fm_c (cok_308 hK) (fm_c (cok_309 hK) (fm_c (cok_320 hK) fm_n))))) (show chk KD0 G0 (aX KD0) nX 2000 132 [ctr_63, ctr_87, ctr_308, ctr_309, ctr_320] ctr_321 = true by decide +kernel)
-- X8_largestHidden
set_option maxRecDepth 100000 in
def ctr_322 : CTR := (85, [.inr (some 33), .inr none, .inl (0, 0)], some (.inl (0, 12)), [], [], 15, 0, [(45, [(0, .inr (some 33)), (1, .inr none), (3, .inl (0, 0)), (4, .inr none), (6, .inr none), (8, .inl (0, 12)), (9, .inl (0, 64))], [], [], 128, [((9, none), -2)], [])], [], [])
set_option maxRecDepth 100000 in
theorem cok_322 {KO : List Nat} (hK : KOK KO) : cOk KD0 KO G0 ctr_322 := chk_ok (G0_xOK hK.1) (chkS_ok (show chkS sgl0 [ctr_63, ctr_87, ctr_308, ctr_309, ctr_321] ctr_322 = true by decide +kernel) hK.2) (fm_c (cok_63 hK) (fm_c (cok_87 hK) (fm_c (cok_308 hK) (fm_c (cok_309 hK) (fm_c (cok_321 hK) fm_n))))) (show chk KD0 G0 (aX KD0) nX 2000 132 [ctr_63, ctr_87, ctr_308, ctr_309, ctr_321] ctr_322 = true by decide +kernel)
-- X8_mostHidden
set_option maxRecDepth 100000 in
def ctr_323 : CTR := (84, [.inr (some 33)], some (.inl (-2147483648, 2147483647)), [], [(33, 4)], 16, 0, [], [], [])
set_option maxRecDepth 100000 in
theorem cok_323 {KO : List Nat} (hK : KOK KO) : cOk KD0 KO G0 ctr_323 := chk_ok (G0_xOK hK.1) (chkS_ok (show chkS sgl0 [ctr_92, ctr_322] ctr_323 = true by decide +kernel) hK.2) (fm_c (cok_92 hK) (fm_c (cok_322 hK) fm_n)) (show chk KD0 G0 (aX KD0) nX 2000 2 [ctr_92, ctr_322] ctr_323 = true by decide +kernel)
-- X11_hiddenNumber
set_option maxRecDepth 100000 in
def ctr_324 : CTR := (147, [.inr (some 36)], some (.inl (-2147483648, 2147483647)), ["java/lang/IllegalStateException"], [(12, 0), (30, 3), (33, 4)], 17, 0, [], [], [])
set_option maxRecDepth 100000 in
theorem cok_324 {KO : List Nat} (hK : KOK KO) : cOk KD0 KO G0 ctr_324 := chk_ok (G0_xOK hK.1) (chkS_ok (show chkS sgl0 [ctr_46, ctr_86, ctr_323] ctr_324 = true by decide +kernel) hK.2) (fm_c (cok_46 hK) (fm_c (cok_86 hK) (fm_c (cok_323 hK) fm_n))) (show chk KD0 G0 (aX KD0) nX 2000 2 [ctr_46, ctr_86, ctr_323] ctr_324 = true by decide +kernel)
