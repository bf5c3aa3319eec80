-- X6_postGuard
set_option maxRecDepth 100000 in
def ctr_300 : CTR := (56, [.inr (some 25), .inl (-2147483648, 2147483647), .inl (-2147483648, 2147483647), .inl (-2147483648, 2147483647)], none, [], [(6, 0), (7, 0)], 1, 0, [])
set_option maxRecDepth 100000 in
theorem cok_300 {KO : List Nat} (hK : KOS KO) : cOk KD0 KO G0 ctr_300 := chk_ok (G0_xOK hK) fm_n (show chk KD0 G0 (aX KD0) nX 2000 2 [] ctr_300 = true by decide +kernel)
-- X11_moveGuard
set_option maxRecDepth 100000 in
def ctr_301 : CTR := (165, [.inr (some 36), .inl (-2147483648, 2147483647), .inl (-2147483648, 2147483647)], some (.inl (-2147483648, 2147483647)), ["java/lang/IllegalStateException", "java/lang/IndexOutOfBoundsException"], [(4, 0), (5, 0), (6, 0), (7, 0), (8, 0), (9, 0), (10, 0), (11, 0), (25, 0), (25, 1), (25, 2), (35, 0), (35, 1)], 3, 0, [])
set_option maxRecDepth 100000 in
theorem cok_301 {KO : List Nat} (hK : KOS KO) : cOk KD0 KO G0 ctr_301 := chk_ok (G0_xOK hK) (fm_c (cok_46 hK) (fm_c (cok_56 hK) (fm_c (cok_58 hK) (fm_c (cok_263 hK) (fm_c (cok_296 hK) (fm_c (cok_300 hK) fm_n)))))) (show chk KD0 G0 (aX KD0) nX 2000 2 [ctr_46, ctr_56, ctr_58, ctr_263, ctr_296, ctr_300] ctr_301 = true by decide +kernel)
-- X6_giveReach
set_option maxRecDepth 100000 in
def ctr_302 : CTR := (57, [.inr (some 25), .inl (-2147483648, 2147483647), .inl (-2147483648, 2147483647)], none, [], [(8, 0)], 1, 0, [])
set_option maxRecDepth 100000 in
theorem cok_302 {KO : List Nat} (hK : KOS KO) : cOk KD0 KO G0 ctr_302 := chk_ok (G0_xOK hK) fm_n (show chk KD0 G0 (aX KD0) nX 2000 2 [] ctr_302 = true by decide +kernel)
-- X11_setRange
set_option maxRecDepth 100000 in
def ctr_303 : CTR := (166, [.inr (some 36), .inl (-2147483648, 2147483647), .inl (-2147483648, 2147483647)], some (.inl (-2147483648, 2147483647)), ["java/lang/IllegalArgumentException", "java/lang/IllegalStateException", "java/lang/IndexOutOfBoundsException"], [(4, 0), (5, 0), (6, 0), (7, 0), (8, 0), (9, 0), (10, 0), (11, 0), (25, 0), (25, 1), (25, 2), (35, 0), (35, 1)], 3, 0, [])
set_option maxRecDepth 100000 in
theorem cok_303 {KO : List Nat} (hK : KOS KO) : cOk KD0 KO G0 ctr_303 := chk_ok (G0_xOK hK) (fm_c (cok_46 hK) (fm_c (cok_106 hK) (fm_c (cok_265 hK) (fm_c (cok_296 hK) (fm_c (cok_302 hK) fm_n))))) (show chk KD0 G0 (aX KD0) nX 2000 2 [ctr_46, ctr_106, ctr_265, ctr_296, ctr_302] ctr_303 = true by decide +kernel)
-- X6_shiftCorner
set_option maxRecDepth 100000 in
def ctr_304 : CTR := (49, [.inr (some 25), .inl (-2147483648, 2147483647), .inl (-2147483648, 2147483647), .inl (-2147483648, 2147483647)], none, [], [(4, 0), (5, 0)], 1, 0, [])
set_option maxRecDepth 100000 in
theorem cok_304 {KO : List Nat} (hK : KOS KO) : cOk KD0 KO G0 ctr_304 := chk_ok (G0_xOK hK) fm_n (show chk KD0 G0 (aX KD0) nX 2000 2 [] ctr_304 = true by decide +kernel)
-- X3_holdsAllOf
set_option maxRecDepth 100000 in
def ctr_305 : CTR := (22, [.inr (some 28), .inr (some 25)], some (.inl (0, 1)), [], [], 2, 0, [(2, [(0, .inr (some 28)), (1, .inr (some 25)), (2, .inl (0, 6))], [], [], 26, [(2, -2)]), (38, [(0, .inr (some 28)), (1, .inr (some 25)), (2, .inl (0, 6))], [], [(1, 1, (0, 6))], 12, [(2, -2)])])
set_option maxRecDepth 100000 in
theorem cok_305 {KO : List Nat} (hK : KOS KO) : cOk KD0 KO G0 ctr_305 := chk_ok (G0_xOK hK) (fm_c (cok_9 hK) (fm_c (cok_261 hK) (fm_c (cok_262 hK) (fm_c (cok_281 hK) (fm_c (cok_282 hK) fm_n))))) (show chk KD0 G0 (aX KD0) nX 2000 30 [ctr_9, ctr_261, ctr_262, ctr_281, ctr_282] ctr_305 = true by decide +kernel)
-- X11_adoptDraft
set_option maxRecDepth 100000 in
def ctr_306 : CTR := (179, [.inr (some 36)], some (.inl (0, 64)), ["java/lang/IllegalArgumentException"], [(1, 0), (2, 0), (3, 0), (4, 0), (5, 0), (6, 0), (7, 0), (8, 0), (9, 0), (10, 0), (11, 0), (25, 0), (25, 1), (25, 2), (28, 0), (28, 1), (30, 3), (31, 8), (32, 6), (32, 7), (32, 8), (33, 3), (33, 4), (35, 0), (35, 1)], 6, 0, [])
set_option maxRecDepth 100000 in
theorem cok_306 {KO : List Nat} (hK : KOS KO) : cOk KD0 KO G0 ctr_306 := chk_ok (G0_xOK hK) (fm_c (cok_21 hK) (fm_c (cok_24 hK) (fm_c (cok_40 hK) (fm_c (cok_296 hK) (fm_c (cok_305 hK) fm_n))))) (show chk KD0 G0 (aX KD0) nX 2000 2 [ctr_21, ctr_24, ctr_40, ctr_296, ctr_305] ctr_306 = true by decide +kernel)
-- X11_moveVertex
set_option maxRecDepth 100000 in
def ctr_307 : CTR := (167, [.inr (some 36), .inl (-2147483648, 2147483647), .inl (-2147483648, 2147483647), .inl (-2147483648, 2147483647)], some (.inl (0, 64)), ["java/lang/IllegalArgumentException", "java/lang/IllegalStateException", "java/lang/IndexOutOfBoundsException"], [(1, 0), (2, 0), (3, 0), (4, 0), (5, 0), (6, 0), (7, 0), (8, 0), (9, 0), (10, 0), (11, 0), (25, 0), (25, 1), (25, 2), (28, 0), (28, 1), (30, 3), (31, 8), (32, 6), (32, 7), (32, 8), (33, 3), (33, 4), (35, 0), (35, 1)], 7, 0, [])
set_option maxRecDepth 100000 in
theorem cok_307 {KO : List Nat} (hK : KOS KO) : cOk KD0 KO G0 ctr_307 := chk_ok (G0_xOK hK) (fm_c (cok_35 hK) (fm_c (cok_46 hK) (fm_c (cok_106 hK) (fm_c (cok_304 hK) (fm_c (cok_306 hK) fm_n))))) (show chk KD0 G0 (aX KD0) nX 2000 2 [ctr_35, ctr_46, ctr_106, ctr_304, ctr_306] ctr_307 = true by decide +kernel)
-- X11_insertVertex
set_option maxRecDepth 100000 in
def ctr_308 : CTR := (168, [.inr (some 36), .inl (-2147483648, 2147483647), .inl (-2147483648, 2147483647), .inl (-2147483648, 2147483647)], some (.inl (0, 64)), ["java/lang/IllegalArgumentException", "java/lang/IllegalStateException", "java/lang/IndexOutOfBoundsException"], [(1, 0), (2, 0), (3, 0), (4, 0), (5, 0), (6, 0), (7, 0), (8, 0), (9, 0), (10, 0), (11, 0), (25, 0), (25, 1), (25, 2), (28, 0), (28, 1), (30, 3), (31, 8), (32, 6), (32, 7), (32, 8), (33, 3), (33, 4), (35, 0), (35, 1)], 7, 0, [])
set_option maxRecDepth 100000 in
theorem cok_308 {KO : List Nat} (hK : KOS KO) : cOk KD0 KO G0 ctr_308 := chk_ok (G0_xOK hK) (fm_c (cok_11 hK) (fm_c (cok_35 hK) (fm_c (cok_46 hK) (fm_c (cok_106 hK) (fm_c (cok_306 hK) fm_n))))) (show chk KD0 G0 (aX KD0) nX 2000 2 [ctr_11, ctr_35, ctr_46, ctr_106, ctr_306] ctr_308 = true by decide +kernel)
-- X6_dropCorner
set_option maxRecDepth 100000 in
def ctr_309 : CTR := (50, [.inr (some 25), .inl (-2147483648, 2147483647)], none, [], [(4, 0), (5, 0), (25, 0)], 1, 0, [(15, [(0, .inr (some 25)), (1, .inl (0, 11)), (2, .inl (0, 11))], [], [(0, 0, (1, 12))], 22, [(2, -2)])])
set_option maxRecDepth 100000 in
theorem cok_309 {KO : List Nat} (hK : KOS KO) : cOk KD0 KO G0 ctr_309 := chk_ok (G0_xOK hK) fm_n (show chk KD0 G0 (aX KD0) nX 2000 26 [] ctr_309 = true by decide +kernel)
-- X11_deleteVertex
set_option maxRecDepth 100000 in
def ctr_310 : CTR := (169, [.inr (some 36), .inl (-2147483648, 2147483647)], some (.inl (0, 64)), ["java/lang/IllegalArgumentException", "java/lang/IllegalStateException", "java/lang/IndexOutOfBoundsException"], [(1, 0), (2, 0), (3, 0), (4, 0), (5, 0), (6, 0), (7, 0), (8, 0), (9, 0), (10, 0), (11, 0), (25, 0), (25, 1), (25, 2), (28, 0), (28, 1), (30, 3), (31, 8), (32, 6), (32, 7), (32, 8), (33, 3), (33, 4), (35, 0), (35, 1)], 7, 0, [])
set_option maxRecDepth 100000 in
theorem cok_310 {KO : List Nat} (hK : KOS KO) : cOk KD0 KO G0 ctr_310 := chk_ok (G0_xOK hK) (fm_c (cok_35 hK) (fm_c (cok_46 hK) (fm_c (cok_306 hK) (fm_c (cok_309 hK) fm_n)))) (show chk KD0 G0 (aX KD0) nX 2000 2 [ctr_35, ctr_46, ctr_306, ctr_309] ctr_310 = true by decide +kernel)
-- X1_takeInto
set_option maxRecDepth 100000 in
def ctr_311 : CTR := (10, [.inr (some 35), .inr (some 25)], none, [], [(4, 0), (5, 0), (6, 0), (7, 0), (8, 0), (9, 0), (10, 0), (11, 0), (25, 0), (25, 1), (25, 2), (35, 0)], 2, 0, [])
set_option maxRecDepth 100000 in
theorem cok_311 {KO : List Nat} (hK : KOS KO) : cOk KD0 KO G0 ctr_311 := chk_ok (G0_xOK hK) (fm_c (cok_35 hK) fm_n) (show chk KD0 G0 (aX KD0) nX 2000 2 [ctr_35] ctr_311 = true by decide +kernel)
-- X11_undo
set_option maxRecDepth 100000 in
def ctr_312 : CTR := (170, [.inr (some 36)], some (.inl (0, 8)), ["java/lang/IllegalStateException"], [(1, 0), (2, 0), (3, 0), (4, 0), (5, 0), (6, 0), (7, 0), (8, 0), (9, 0), (10, 0), (11, 0), (25, 0), (25, 1), (25, 2), (28, 0), (28, 1), (30, 3), (31, 8), (32, 6), (32, 7), (32, 8), (33, 3), (33, 4), (35, 0)], 6, 0, [])
set_option maxRecDepth 100000 in
theorem cok_312 {KO : List Nat} (hK : KOS KO) : cOk KD0 KO G0 ctr_312 := chk_ok (G0_xOK hK) (fm_c (cok_40 hK) (fm_c (cok_311 hK) fm_n)) (show chk KD0 G0 (aX KD0) nX 2000 2 [ctr_40, ctr_311] ctr_312 = true by decide +kernel)
-- X11_undoable
set_option maxRecDepth 100000 in
def ctr_313 : CTR := (171, [.inr (some 36)], some (.inl (0, 8)), [], [], 1, 0, [])
set_option maxRecDepth 100000 in
theorem cok_313 {KO : List Nat} (hK : KOS KO) : cOk KD0 KO G0 ctr_313 := chk_ok (G0_xOK hK) fm_n (show chk KD0 G0 (aX KD0) nX 2000 2 [] ctr_313 = true by decide +kernel)
-- X11_savedIn
set_option maxRecDepth 100000 in
def ctr_314 : CTR := (178, [.inr (some 36), .inl (-2147483648, 2147483647)], some (.inr (some 25)), [], [], 1, 0, [])
set_option maxRecDepth 100000 in
theorem cok_314 {KO : List Nat} (hK : KOS KO) : cOk KD0 KO G0 ctr_314 := chk_ok (G0_xOK hK) fm_n (show chk KD0 G0 (aX KD0) nX 2000 2 [] ctr_314 = true by decide +kernel)
-- X11_save
set_option maxRecDepth 100000 in
def ctr_315 : CTR := (172, [.inr (some 36), .inl (-2147483648, 2147483647)], some (.inl (0, 64)), ["java/lang/IllegalStateException", "java/lang/IndexOutOfBoundsException"], [(4, 0), (5, 0), (6, 0), (7, 0), (8, 0), (9, 0), (10, 0), (11, 0), (25, 0), (25, 1), (25, 2)], 2, 0, [])
set_option maxRecDepth 100000 in
theorem cok_315 {KO : List Nat} (hK : KOS KO) : cOk KD0 KO G0 ctr_315 := chk_ok (G0_xOK hK) (fm_c (cok_35 hK) (fm_c (cok_46 hK) (fm_c (cok_314 hK) fm_n))) (show chk KD0 G0 (aX KD0) nX 2000 2 [ctr_35, ctr_46, ctr_314] ctr_315 = true by decide +kernel)
-- X11_restore
set_option maxRecDepth 100000 in
def ctr_316 : CTR := (173, [.inr (some 36), .inl (-2147483648, 2147483647)], some (.inl (0, 64)), ["java/lang/IllegalStateException", "java/lang/IndexOutOfBoundsException"], [(1, 0), (2, 0), (3, 0), (4, 0), (5, 0), (6, 0), (7, 0), (8, 0), (9, 0), (10, 0), (11, 0), (25, 0), (25, 1), (25, 2), (28, 0), (28, 1), (30, 3), (31, 8), (32, 6), (32, 7), (32, 8), (33, 3), (33, 4), (35, 0)], 6, 0, [])
set_option maxRecDepth 100000 in
theorem cok_316 {KO : List Nat} (hK : KOS KO) : cOk KD0 KO G0 ctr_316 := chk_ok (G0_xOK hK) (fm_c (cok_34 hK) (fm_c (cok_40 hK) (fm_c (cok_314 hK) fm_n))) (show chk KD0 G0 (aX KD0) nX 2000 2 [ctr_34, ctr_40, ctr_314] ctr_316 = true by decide +kernel)
-- X11_needIndex
set_option maxRecDepth 100000 in
def ctr_317 : CTR := (175, [.inl (-2147483648, 2147483647), .inl (-2147483648, 2147483647)], none, ["java/lang/IndexOutOfBoundsException"], [], 1, 0, [])
set_option maxRecDepth 100000 in
theorem cok_317 {KO : List Nat} (hK : KOS KO) : cOk KD0 KO G0 ctr_317 := chk_ok (G0_xOK hK) fm_n (show chk KD0 G0 (aX KD0) nX 2000 2 [] ctr_317 = true by decide +kernel)
