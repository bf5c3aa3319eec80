-- X11_deleteVertex
set_option maxRecDepth 100000 in
def ctr_375 : CTR := (169, [.inr (some 36), .inl (-2147483648, 2147483647)], some (.inl (0, 64)), ["java/lang/IllegalArgumentException", "java/lang/IllegalStateException", "java/lang/IndexOutOfBoundsException"], [(1, 0), (2, 0), (3, 0), (4, 0), (5, 0), (6, 0), (7, 0), (8, 0), (9, 0), (10, 0), (11, 0), (25, 0), (25, 1), (25, 2), (28, 0), (28, 1), (30, 3), (31, 8), (32, 6), (32, 7), (32, 8), (33, 3), (33, 4), (35, 0), (35, 1)], 7, 0, [], [], [])
set_option maxRecDepth 100000 in
theorem cok_375 {KO : List Nat} (hK : KOK KO) : cOk KD0 KO G0 ctr_375 := chk_ok (G0_xOK hK.1) (chkS_ok (show chkS sgl0 [ctr_35, ctr_46, ctr_371, ctr_374] ctr_375 = true by decide +kernel) hK.2) (fm_c (cok_35 hK) (fm_c (cok_46 hK) (fm_c (cok_371 hK) (fm_c (cok_374 hK) fm_n)))) (show chk KD0 G0 (aX KD0) nX 2000 2 [ctr_35, ctr_46, ctr_371, ctr_374] ctr_375 = true by decide +kernel)
-- X1_takeInto
set_option maxRecDepth 100000 in
def ctr_376 : CTR := (10, [.inr (some 35), .inr (some 25)], none, [], [(4, 0), (5, 0), (6, 0), (7, 0), (8, 0), (9, 0), (10, 0), (11, 0), (25, 0), (25, 1), (25, 2), (35, 0)], 2, 0, [], [], [])
set_option maxRecDepth 100000 in
theorem cok_376 {KO : List Nat} (hK : KOK KO) : cOk KD0 KO G0 ctr_376 := chk_ok (G0_xOK hK.1) (chkS_ok (show chkS sgl0 [ctr_35] ctr_376 = true by decide +kernel) hK.2) (fm_c (cok_35 hK) fm_n) (show chk KD0 G0 (aX KD0) nX 2000 2 [ctr_35] ctr_376 = true by decide +kernel)
-- X11_undo
set_option maxRecDepth 100000 in
def ctr_377 : CTR := (170, [.inr (some 36)], some (.inl (0, 8)), ["java/lang/IllegalStateException"], [(1, 0), (2, 0), (3, 0), (4, 0), (5, 0), (6, 0), (7, 0), (8, 0), (9, 0), (10, 0), (11, 0), (25, 0), (25, 1), (25, 2), (28, 0), (28, 1), (30, 3), (31, 8), (32, 6), (32, 7), (32, 8), (33, 3), (33, 4), (35, 0)], 6, 0, [], [], [])
set_option maxRecDepth 100000 in
theorem cok_377 {KO : List Nat} (hK : KOK KO) : cOk KD0 KO G0 ctr_377 := chk_ok (G0_xOK hK.1) (chkS_ok (show chkS sgl0 [ctr_40, ctr_376] ctr_377 = true by decide +kernel) hK.2) (fm_c (cok_40 hK) (fm_c (cok_376 hK) fm_n)) (show chk KD0 G0 (aX KD0) nX 2000 2 [ctr_40, ctr_376] ctr_377 = true by decide +kernel)
-- X11_undoable
set_option maxRecDepth 100000 in
def ctr_378 : CTR := (171, [.inr (some 36)], some (.inl (0, 8)), [], [], 1, 0, [], [], [])
set_option maxRecDepth 100000 in
theorem cok_378 {KO : List Nat} (hK : KOK KO) : cOk KD0 KO G0 ctr_378 := chk_ok (G0_xOK hK.1) (chkS_ok (show chkS sgl0 [] ctr_378 = true by decide +kernel) hK.2) fm_n (show chk KD0 G0 (aX KD0) nX 2000 2 [] ctr_378 = true by decide +kernel)
-- X11_savedIn
set_option maxRecDepth 100000 in
def ctr_379 : CTR := (178, [.inr (some 36), .inl (-2147483648, 2147483647)], some (.inr (some 25)), [], [], 1, 0, [], [], [])
set_option maxRecDepth 100000 in
theorem cok_379 {KO : List Nat} (hK : KOK KO) : cOk KD0 KO G0 ctr_379 := chk_ok (G0_xOK hK.1) (chkS_ok (show chkS sgl0 [] ctr_379 = true by decide +kernel) hK.2) fm_n (show chk KD0 G0 (aX KD0) nX 2000 2 [] ctr_379 = true by decide +kernel)
-- X11_save
set_option maxRecDepth 100000 in
def ctr_380 : CTR := (172, [.inr (some 36), .inl (-2147483648, 2147483647)], some (.inl (0, 64)), ["java/lang/IllegalStateException", "java/lang/IndexOutOfBoundsException"], [(4, 0), (5, 0), (6, 0), (7, 0), (8, 0), (9, 0), (10, 0), (11, 0), (25, 0), (25, 1), (25, 2)], 2, 0, [], [], [])
set_option maxRecDepth 100000 in
theorem cok_380 {KO : List Nat} (hK : KOK KO) : cOk KD0 KO G0 ctr_380 := chk_ok (G0_xOK hK.1) (chkS_ok (show chkS sgl0 [ctr_35, ctr_46, ctr_379] ctr_380 = true by decide +kernel) hK.2) (fm_c (cok_35 hK) (fm_c (cok_46 hK) (fm_c (cok_379 hK) fm_n))) (show chk KD0 G0 (aX KD0) nX 2000 2 [ctr_35, ctr_46, ctr_379] ctr_380 = true by decide +kernel)
-- X11_restore
set_option maxRecDepth 100000 in
def ctr_381 : CTR := (173, [.inr (some 36), .inl (-2147483648, 2147483647)], some (.inl (0, 64)), ["java/lang/IllegalStateException", "java/lang/IndexOutOfBoundsException"], [(1, 0), (2, 0), (3, 0), (4, 0), (5, 0), (6, 0), (7, 0), (8, 0), (9, 0), (10, 0), (11, 0), (25, 0), (25, 1), (25, 2), (28, 0), (28, 1), (30, 3), (31, 8), (32, 6), (32, 7), (32, 8), (33, 3), (33, 4), (35, 0)], 6, 0, [], [], [])
set_option maxRecDepth 100000 in
theorem cok_381 {KO : List Nat} (hK : KOK KO) : cOk KD0 KO G0 ctr_381 := chk_ok (G0_xOK hK.1) (chkS_ok (show chkS sgl0 [ctr_34, ctr_40, ctr_379] ctr_381 = true by decide +kernel) hK.2) (fm_c (cok_34 hK) (fm_c (cok_40 hK) (fm_c (cok_379 hK) fm_n))) (show chk KD0 G0 (aX KD0) nX 2000 2 [ctr_34, ctr_40, ctr_379] ctr_381 = true by decide +kernel)
-- X11_needIndex
set_option maxRecDepth 100000 in
def ctr_382 : CTR := (175, [.inl (-2147483648, 2147483647), .inl (-2147483648, 2147483647)], none, ["java/lang/IndexOutOfBoundsException"], [], 1, 0, [], [], [])
set_option maxRecDepth 100000 in
theorem cok_382 {KO : List Nat} (hK : KOK KO) : cOk KD0 KO G0 ctr_382 := chk_ok (G0_xOK hK.1) (chkS_ok (show chkS sgl0 [] ctr_382 = true by decide +kernel) hK.2) fm_n (show chk KD0 G0 (aX KD0) nX 2000 2 [] ctr_382 = true by decide +kernel)
