-- X11_deleteVertex
set_option maxRecDepth 100000 in
def ctr_375 : CTR := (169, [.inr (some 36), .inl (-2147483648, 2147483647)], some (.inl (0, 64)), ["java/lang/IllegalArgumentException", "java/lang/IllegalStateException", "java/lang/IndexOutOfBoundsException"], [(1, 0), (2, 0), (3, 0), (4, 0), (5, 0), (6, 0), (7, 0), (8, 0), (9, 0), (10, 0), (11, 0), (25, 0), (25, 1), (25, 2), (28, 0), (28, 1), (30, 3), (31, 8), (32, 6), (32, 7), (32, 8), (33, 3), (33, 4), (35, 0), (35, 1)], 7, 0, [], [], [])
set_option maxRecDepth 100000 in
theorem cok_375 {KO : List Nat} (hK : KOK KO) : cOk KD0 KO G0 ctr_375 := chk_ok (G0_xOK hK.1) (chkS_ok (show chkS sgl0 [ctr_35, ctr_46, ctr_371, ctr_374] ctr_375 = true by decide +kernel) hK.2) (fm_c (cok_35 hK) (fm_c (cok_46 hK) (fm_c (cok_371 hK) (fm_c (cok_374 hK) fm_n)))) (show chk KD0 G0 (aX KD0) nX 2000 2 [ctr_35, ctr_46, ctr_371, ctr_374] ctr_375 = true by decide +kernel)
-- X1_takeInto
set_option maxRecDepth 100000 in
def ctr_376 : CTR := (10, [.inr (some 35), .inr (some 25)], none, [], [(4, 0), (5, 0), (6, 0), (7, 0), (8, 0), (9, 0), (10, 0), (11, 0), (25, 0), (25, 1), (25, 2), (35, 0)], 2, 0, [], [], [])
set_option maxRecDepth 100000 in
theorem cok_376 {KO : List Nat} (hK : KOK KO) : cOk KD0 KO G0 ctr_376 := chk_ok (G0_xOK hK.1) (chkS_ok (show chkS sgl0 [ctr_35] ctr_376 = true by decide +kernel) hK.2) (fm_c (cok_35 hK) fm_n) (show chk KD0 G0 (aX KD0) nX 2000 2 [ctr_35] ctr_376 = true by decide +kernel)
-- X11_undo
set_option maxRecDepth 100000 in
def ctr_377 : CTR := (170, [.inr (some 36)], some (.inl (0, 8)), ["java/lang/IllegalStateException"], [(1, 0), (2, 0), (3, 0), (4, 0), (5, 0), (6, 0), (7, 0), (8, 0), (9, 0), (10, 0), (11, 0), (25, 0), (25, 1), (25, 2), (28, 0), (28, 1), (30, 3), (31, 8), (32, 6), (32, 7), (32, 8), (33, 3), (33, 4), (35, 0)], 6, 0, [], [], [])
set_option maxRecDepth 100000 in
theorem cok_377 {KO : List Nat} (hK : KOK KO) : cOk KD0 KO G0 ctr_377 := chk_ok (G0_xOK hK.1) (chkS_ok (show chkS sgl0 [ctr_40, ctr_376] ctr_377 = true by decide +kernel) hK.2) (fm_c (cok_40 hK) (fm_c (cok_376 hK) fm_n)) (show chk KD0 G0 (aX KD0) nX 2000 2 [ctr_40, ctr_376] ctr_377 = true by decide +kernel)
-- X11_undoable
set_option maxRecDepth 100000 in
def ctr_378 : CTR := (171, [.inr (some 36)], some (.inl (0, 8)), [], [], 1, 0, [], [], [])
set_option maxRecDepth 100000 in
theorem cok_378 {KO : List Nat} (hK : KOK KO) : cOk KD0 KO G0 ctr_378 := chk_ok (G0_xOK hK.1) (chkS_ok (show chkS sgl0 [] ctr_378 = true by decide +kernel) hK.2) fm_n (show chk KD0 G0 (aX KD0) nX 2000 2 [] ctr_378 = true by decide +kernel)
-- X11_savedIn
set_option maxRecDepth 100000 in
def ctr_379 : CTR := (178, [.inr (some 36), .inl (-2147483648, 2147483647)], some (.inr (some 25)), [], [], 1, 0, [], [], [])
set_option maxRecDepth 100000 in
theorem cok_379 {KO : List Nat} (hK : KOK KO) : cOk KD0 KO G0 ctr_379 := chk_ok (G0_xOK hK.1) (chkS_ok (show chkS sgl0 [] ctr_379 = true by decide +kernel) hK.2) fm_n (show chk KD0 G0 (aX KD0) nX 2000 2 [] ctr_379 = true by decide +kernel)
-- X11_save
set_option maxRecDepth 100000 in
def ctr_380 : CTR := (172, [.inr (some 36), .inl (-2147483648, 2147483647)], some (.inl (0, 64)), ["java/lang/IllegalStateException", "java/lang/IndexOutOfBoundsException"], [(4, 0), (5, 0), (6, 0), (7, 0), (8, 0), (9, 0), (10, 0), (11, 0), (25, 0), (25, 1), (25, 2)], 2, 0, [], [], [])
set_option maxRecDepth 100000 in
theorem cok_380 {KO : List Nat} (hK : KOK KO) : cOk KD0 KO G0 ctr_380 := chk_ok (G0_xOK hK.1) (chkS_ok (show chkS sgl0 [ctr_35, ctr_46, ctr_379] ctr_380 = true by decide +kernel) hK.2) (fm_c (cok_35 hK) (fm_c (cok_46 hK) (fm_c (cok_379 hK) fm_n))) (show chk KD0 G0 (aX KD0) nX 2000 2 [ctr_35, ctr_46, ctr_379] ctr_380 = true by decide +kernel)
-- X11_restore
set_option maxRecDepth 100000 in
def ctr_381 : CTR := (173, [.inr (some 36), .inl (-2147483648, 2147483647)], some (.inl (0, 64)), ["java/lang/IllegalStateException", "java/lang/IndexOutOfBoundsException"], [(1, 0), (2, 0), (3, 0), (4, 0), (5, 0), (6, 0), (7, 0), (8, 0), (9, 0), (10, 0), (11, 0), (25, 0), (25, 1), (25, 2), (28, 0), (28, 1), (30, 3), (31, 8), (32, 6), (32, 7), (32, 8), (33, 3), (33, 4), (35, 0)], 6, 0, [], [], [])
set_option maxRecDepth 100000 in
theorem cok_381 {KO : List Nat} (hK : KOK KO) : cOk KD0 KO G0 ctr_381 := chk_ok (G0_xOK hK.1) (chkS_ok (show chkS sgl0 [ctr_34, ctr_40, ctr_379] ctr_381 = true by decide +kernel) hK.2) (fm_c (cok_34 hK) (fm_c (cok_40 hK) (fm_c (cok_379 hK) fm_n))) (show chk KD0 G0 (aX KD0) nX 2000 2 [ctr_34, ctr_40, ctr_379] ctr_381 = true by decide +kernel)
-- X11_needIndex
set_option maxRecDepth 100000 in
def ctr_382 : CTR := (175, [.inl (-2147483648, 2147483647), .inl (-2147483648, 2147483647)], none, ["java/lang/IndexOutOfBoundsException"], [], 1, 0, [], [], [])
set_option maxRecDepth 100000 in
theorem cok_382 {KO : List Nat} (hK : KOK KO) : cOk KD0 KO G0 ctr_382 := chk_ok (G0_xOK hK.1) (chkS_ok (show chkS sgl0 [] ctr_382 = true by decide +kernel) hK.2) fm_n (show chk KD0 G0 (aX KD0) nX 2000 2 [] ctr_382 = true by decide +kernel)
-- L_load
set_option maxRecDepth 100000 in
def ctr_383 : CTR := (313, [.inr (some 36), .inl (-2147483648, 2147483647), .inr (some 57)], some (.inl (0, 2)), [], [(1, 0), (2, 0), (3, 0), (4, 0), (5, 0), (6, 0), (7, 0), (8, 0), (9, 0), (10, 0), (11, 0), (25, 0), (25, 1), (25, 2), (27, 0), (27, 1), (27, 2), (27, 3), (27, 4), (27, 5), (28, 0), (28, 1), (29, 3), (29, 4), (30, 3), (31, 8), (32, 6), (32, 7), (32, 8), (33, 3), (33, 4), (35, 0), (36, 16), (36, 17), (57, 0)], 8, 1, [], [], [])
set_option maxRecDepth 100000 in
theorem cok_383 {KO : List Nat} (hK : KOK KO) : cOk KD0 KO G0 ctr_383 := chk_ok (G0_xOK hK.1) (chkS_ok (show chkS sgl0 [ctr_41] ctr_383 = true by decide +kernel) hK.2) (fm_c (cok_41 hK) fm_n) (show chk KD0 G0 (aX KD0) nX 2000 2 [ctr_41] ctr_383 = true by decide +kernel)
-- L_vertexX
set_option maxRecDepth 100000 in
def ctr_384 : CTR := (314, [.inr (some 36), .inl (-2147483648, 2147483647), .inr (some 57)], some (.inl (0, 2)), [], [(57, 0)], 3, 1, [], [], [])
set_option maxRecDepth 100000 in
theorem cok_384 {KO : List Nat} (hK : KOK KO) : cOk KD0 KO G0 ctr_384 := chk_ok (G0_xOK hK.1) (chkS_ok (show chkS sgl0 [ctr_47] ctr_384 = true by decide +kernel) hK.2) (fm_c (cok_47 hK) fm_n) (show chk KD0 G0 (aX KD0) nX 2000 2 [ctr_47] ctr_384 = true by decide +kernel)
-- L_vertexY
set_option maxRecDepth 100000 in
def ctr_385 : CTR := (315, [.inr (some 36), .inl (-2147483648, 2147483647), .inr (some 57)], some (.inl (0, 2)), [], [(57, 0)], 3, 1, [], [], [])
set_option maxRecDepth 100000 in
theorem cok_385 {KO : List Nat} (hK : KOK KO) : cOk KD0 KO G0 ctr_385 := chk_ok (G0_xOK hK.1) (chkS_ok (show chkS sgl0 [ctr_48] ctr_385 = true by decide +kernel) hK.2) (fm_c (cok_48 hK) fm_n) (show chk KD0 G0 (aX KD0) nX 2000 2 [ctr_48] ctr_385 = true by decide +kernel)
-- L_doubleArea
set_option maxRecDepth 100000 in
def ctr_386 : CTR := (316, [.inr (some 36), .inr (some 57)], some (.inl (0, 1)), [], [(57, 0)], 4, 1, [], [], [])
set_option maxRecDepth 100000 in
theorem cok_386 {KO : List Nat} (hK : KOK KO) : cOk KD0 KO G0 ctr_386 := chk_ok (G0_xOK hK.1) (chkS_ok (show chkS sgl0 [ctr_50] ctr_386 = true by decide +kernel) hK.2) (fm_c (cok_50 hK) fm_n) (show chk KD0 G0 (aX KD0) nX 2000 2 [ctr_50] ctr_386 = true by decide +kernel)
-- L_reflexVertices
set_option maxRecDepth 100000 in
def ctr_387 : CTR := (317, [.inr (some 36), .inr (some 57)], some (.inl (0, 1)), [], [(57, 0)], 5, 1, [], [], [])
set_option maxRecDepth 100000 in
theorem cok_387 {KO : List Nat} (hK : KOK KO) : cOk KD0 KO G0 ctr_387 := chk_ok (G0_xOK hK.1) (chkS_ok (show chkS sgl0 [ctr_54] ctr_387 = true by decide +kernel) hK.2) (fm_c (cok_54 hK) fm_n) (show chk KD0 G0 (aX KD0) nX 2000 2 [ctr_54] ctr_387 = true by decide +kernel)
-- L_pointX
set_option maxRecDepth 100000 in
def ctr_388 : CTR := (318, [.inr (some 36), .inl (-2147483648, 2147483647), .inr (some 57)], some (.inl (0, 2)), [], [(57, 0)], 3, 1, [], [], [])
set_option maxRecDepth 100000 in
theorem cok_388 {KO : List Nat} (hK : KOK KO) : cOk KD0 KO G0 ctr_388 := chk_ok (G0_xOK hK.1) (chkS_ok (show chkS sgl0 [ctr_57] ctr_388 = true by decide +kernel) hK.2) (fm_c (cok_57 hK) fm_n) (show chk KD0 G0 (aX KD0) nX 2000 2 [ctr_57] ctr_388 = true by decide +kernel)
-- L_pointY
set_option maxRecDepth 100000 in
def ctr_389 : CTR := (319, [.inr (some 36), .inl (-2147483648, 2147483647), .inr (some 57)], some (.inl (0, 2)), [], [(57, 0)], 3, 1, [], [], [])
set_option maxRecDepth 100000 in
theorem cok_389 {KO : List Nat} (hK : KOK KO) : cOk KD0 KO G0 ctr_389 := chk_ok (G0_xOK hK.1) (chkS_ok (show chkS sgl0 [ctr_59] ctr_389 = true by decide +kernel) hK.2) (fm_c (cok_59 hK) fm_n) (show chk KD0 G0 (aX KD0) nX 2000 2 [ctr_59] ctr_389 = true by decide +kernel)
-- L_pointAt
set_option maxRecDepth 100000 in
def ctr_390 : CTR := (320, [.inr (some 36), .inl (-2147483648, 2147483647), .inl (-2147483648, 2147483647), .inr (some 57)], some (.inl (0, 1)), [], [(57, 0)], 3, 1, [], [], [])
set_option maxRecDepth 100000 in
theorem cok_390 {KO : List Nat} (hK : KOK KO) : cOk KD0 KO G0 ctr_390 := chk_ok (G0_xOK hK.1) (chkS_ok (show chkS sgl0 [ctr_60] ctr_390 = true by decide +kernel) hK.2) (fm_c (cok_60 hK) fm_n) (show chk KD0 G0 (aX KD0) nX 2000 2 [ctr_60] ctr_390 = true by decide +kernel)
-- L_boundary
set_option maxRecDepth 100000 in
def ctr_391 : CTR := (321, [.inr (some 36), .inr (some 57)], some (.inl (0, 1)), [], [(57, 0)], 3, 1, [], [], [])
set_option maxRecDepth 100000 in
theorem cok_391 {KO : List Nat} (hK : KOK KO) : cOk KD0 KO G0 ctr_391 := chk_ok (G0_xOK hK.1) (chkS_ok (show chkS sgl0 [ctr_61] ctr_391 = true by decide +kernel) hK.2) (fm_c (cok_61 hK) fm_n) (show chk KD0 G0 (aX KD0) nX 2000 2 [ctr_61] ctr_391 = true by decide +kernel)
-- L_sees
set_option maxRecDepth 100000 in
def ctr_392 : CTR := (322, [.inr (some 36), .inl (-2147483648, 2147483647), .inl (-2147483648, 2147483647), .inr (some 57)], some (.inl (0, 2)), [], [(12, 0), (30, 3), (57, 0)], 8, 1, [], [], [])
set_option maxRecDepth 100000 in
theorem cok_392 {KO : List Nat} (hK : KOK KO) : cOk KD0 KO G0 ctr_392 := chk_ok (G0_xOK hK.1) (chkS_ok (show chkS sgl0 [ctr_88] ctr_392 = true by decide +kernel) hK.2) (fm_c (cok_88 hK) fm_n) (show chk KD0 G0 (aX KD0) nX 2000 2 [ctr_88] ctr_392 = true by decide +kernel)
-- L_visible
set_option maxRecDepth 100000 in
def ctr_393 : CTR := (323, [.inr (some 36), .inl (-2147483648, 2147483647), .inr (some 57)], some (.inl (0, 2)), [], [(12, 0), (30, 3), (57, 0)], 8, 1, [], [], [])
set_option maxRecDepth 100000 in
theorem cok_393 {KO : List Nat} (hK : KOK KO) : cOk KD0 KO G0 ctr_393 := chk_ok (G0_xOK hK.1) (chkS_ok (show chkS sgl0 [ctr_89] ctr_393 = true by decide +kernel) hK.2) (fm_c (cok_89 hK) fm_n) (show chk KD0 G0 (aX KD0) nX 2000 2 [ctr_89] ctr_393 = true by decide +kernel)
-- L_kernel
set_option maxRecDepth 100000 in
def ctr_394 : CTR := (324, [.inr (some 36), .inr (some 57)], some (.inl (0, 1)), [], [(12, 0), (30, 3), (57, 0)], 8, 1, [], [], [])
set_option maxRecDepth 100000 in
theorem cok_394 {KO : List Nat} (hK : KOK KO) : cOk KD0 KO G0 ctr_394 := chk_ok (G0_xOK hK.1) (chkS_ok (show chkS sgl0 [ctr_94] ctr_394 = true by decide +kernel) hK.2) (fm_c (cok_94 hK) fm_n) (show chk KD0 G0 (aX KD0) nX 2000 2 [ctr_94] ctr_394 = true by decide +kernel)
-- L_linkDistance
set_option maxRecDepth 100000 in
def ctr_395 : CTR := (325, [.inr (some 36), .inl (-2147483648, 2147483647), .inl (-2147483648, 2147483647), .inr (some 57)], some (.inl (0, 2)), [], [(12, 0), (30, 3), (57, 0)], 8, 1, [], [], [])
set_option maxRecDepth 100000 in
theorem cok_395 {KO : List Nat} (hK : KOK KO) : cOk KD0 KO G0 ctr_395 := chk_ok (G0_xOK hK.1) (chkS_ok (show chkS sgl0 [ctr_97] ctr_395 = true by decide +kernel) hK.2) (fm_c (cok_97 hK) fm_n) (show chk KD0 G0 (aX KD0) nX 2000 2 [ctr_97] ctr_395 = true by decide +kernel)
-- L_diameter
set_option maxRecDepth 100000 in
def ctr_396 : CTR := (326, [.inr (some 36), .inr (some 57)], some (.inl (0, 1)), [], [(12, 0), (30, 3), (57, 0)], 8, 1, [], [], [])
set_option maxRecDepth 100000 in
theorem cok_396 {KO : List Nat} (hK : KOK KO) : cOk KD0 KO G0 ctr_396 := chk_ok (G0_xOK hK.1) (chkS_ok (show chkS sgl0 [ctr_102] ctr_396 = true by decide +kernel) hK.2) (fm_c (cok_102 hK) fm_n) (show chk KD0 G0 (aX KD0) nX 2000 2 [ctr_102] ctr_396 = true by decide +kernel)
-- L_farthest
set_option maxRecDepth 100000 in
def ctr_397 : CTR := (327, [.inr (some 36), .inl (-2147483648, 2147483647), .inr (some 57)], some (.inl (0, 2)), [], [(12, 0), (30, 3), (57, 0)], 8, 1, [], [], [])
set_option maxRecDepth 100000 in
theorem cok_397 {KO : List Nat} (hK : KOK KO) : cOk KD0 KO G0 ctr_397 := chk_ok (G0_xOK hK.1) (chkS_ok (show chkS sgl0 [ctr_103] ctr_397 = true by decide +kernel) hK.2) (fm_c (cok_103 hK) fm_n) (show chk KD0 G0 (aX KD0) nX 2000 2 [ctr_103] ctr_397 = true by decide +kernel)
-- L_seenFromEdge
set_option maxRecDepth 100000 in
def ctr_398 : CTR := (328, [.inr (some 36), .inl (-2147483648, 2147483647), .inr (some 57)], some (.inl (0, 2)), [], [(12, 0), (30, 3), (57, 0)], 8, 1, [], [], [])
set_option maxRecDepth 100000 in
theorem cok_398 {KO : List Nat} (hK : KOK KO) : cOk KD0 KO G0 ctr_398 := chk_ok (G0_xOK hK.1) (chkS_ok (show chkS sgl0 [ctr_105] ctr_398 = true by decide +kernel) hK.2) (fm_c (cok_105 hK) fm_n) (show chk KD0 G0 (aX KD0) nX 2000 2 [ctr_105] ctr_398 = true by decide +kernel)
-- L_triangleVertex
set_option maxRecDepth 100000 in
def ctr_399 : CTR := (329, [.inr (some 36), .inl (-2147483648, 2147483647), .inl (-2147483648, 2147483647), .inr (some 57)], some (.inl (0, 3)), [], [(13, 0), (14, 0), (15, 0), (16, 0), (17, 0), (18, 0), (31, 7), (31, 8), (57, 0)], 8, 1, [], [], [])
set_option maxRecDepth 100000 in
theorem cok_399 {KO : List Nat} (hK : KOK KO) : cOk KD0 KO G0 ctr_399 := chk_ok (G0_xOK hK.1) (chkS_ok (show chkS sgl0 [ctr_168] ctr_399 = true by decide +kernel) hK.2) (fm_c (cok_168 hK) fm_n) (show chk KD0 G0 (aX KD0) nX 2000 2 [ctr_168] ctr_399 = true by decide +kernel)
