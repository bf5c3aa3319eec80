-- L_moveGuard
set_option maxRecDepth 100000 in
def ctr_425 : CTR := (355, [.inr (some 36), .inl (-2147483648, 2147483647), .inl (-2147483648, 2147483647), .inr (some 57)], some (.inl (0, 2)), [], [(4, 0), (5, 0), (6, 0), (7, 0), (8, 0), (9, 0), (10, 0), (11, 0), (25, 0), (25, 1), (25, 2), (35, 0), (35, 1), (57, 0)], 4, 1, [], [], [])
set_option maxRecDepth 100000 in
theorem cok_425 {KO : List Nat} (hK : KOK KO) : cOk KD0 KO G0 ctr_425 := chk_ok (G0_xOK hK.1) (chkS_ok (show chkS sgl0 [ctr_366] ctr_425 = true by decide +kernel) hK.2) (fm_c (cok_366 hK) fm_n) (show chk KD0 G0 (aX KD0) nX 2000 2 [ctr_366] ctr_425 = true by decide +kernel)
-- L_setRange
set_option maxRecDepth 100000 in
def ctr_426 : CTR := (356, [.inr (some 36), .inl (-2147483648, 2147483647), .inl (-2147483648, 2147483647), .inr (some 57)], some (.inl (0, 3)), [], [(4, 0), (5, 0), (6, 0), (7, 0), (8, 0), (9, 0), (10, 0), (11, 0), (25, 0), (25, 1), (25, 2), (35, 0), (35, 1), (57, 0)], 4, 1, [], [], [])
set_option maxRecDepth 100000 in
theorem cok_426 {KO : List Nat} (hK : KOK KO) : cOk KD0 KO G0 ctr_426 := chk_ok (G0_xOK hK.1) (chkS_ok (show chkS sgl0 [ctr_368] ctr_426 = true by decide +kernel) hK.2) (fm_c (cok_368 hK) fm_n) (show chk KD0 G0 (aX KD0) nX 2000 2 [ctr_368] ctr_426 = true by decide +kernel)
-- L_moveVertex
set_option maxRecDepth 100000 in
def ctr_427 : CTR := (357, [.inr (some 36), .inl (-2147483648, 2147483647), .inl (-2147483648, 2147483647), .inl (-2147483648, 2147483647), .inr (some 57)], some (.inl (0, 3)), [], [(1, 0), (2, 0), (3, 0), (4, 0), (5, 0), (6, 0), (7, 0), (8, 0), (9, 0), (10, 0), (11, 0), (25, 0), (25, 1), (25, 2), (28, 0), (28, 1), (30, 3), (31, 8), (32, 6), (32, 7), (32, 8), (33, 3), (33, 4), (35, 0), (35, 1), (57, 0)], 8, 1, [], [], [])
set_option maxRecDepth 100000 in
theorem cok_427 {KO : List Nat} (hK : KOK KO) : cOk KD0 KO G0 ctr_427 := chk_ok (G0_xOK hK.1) (chkS_ok (show chkS sgl0 [ctr_372] ctr_427 = true by decide +kernel) hK.2) (fm_c (cok_372 hK) fm_n) (show chk KD0 G0 (aX KD0) nX 2000 2 [ctr_372] ctr_427 = true by decide +kernel)
-- L_insertVertex
set_option maxRecDepth 100000 in
def ctr_428 : CTR := (358, [.inr (some 36), .inl (-2147483648, 2147483647), .inl (-2147483648, 2147483647), .inl (-2147483648, 2147483647), .inr (some 57)], some (.inl (0, 3)), [], [(1, 0), (2, 0), (3, 0), (4, 0), (5, 0), (6, 0), (7, 0), (8, 0), (9, 0), (10, 0), (11, 0), (25, 0), (25, 1), (25, 2), (28, 0), (28, 1), (30, 3), (31, 8), (32, 6), (32, 7), (32, 8), (33, 3), (33, 4), (35, 0), (35, 1), (57, 0)], 8, 1, [], [], [])
set_option maxRecDepth 100000 in
theorem cok_428 {KO : List Nat} (hK : KOK KO) : cOk KD0 KO G0 ctr_428 := chk_ok (G0_xOK hK.1) (chkS_ok (show chkS sgl0 [ctr_373] ctr_428 = true by decide +kernel) hK.2) (fm_c (cok_373 hK) fm_n) (show chk KD0 G0 (aX KD0) nX 2000 2 [ctr_373] ctr_428 = true by decide +kernel)
-- L_deleteVertex
set_option maxRecDepth 100000 in
def ctr_429 : CTR := (359, [.inr (some 36), .inl (-2147483648, 2147483647), .inr (some 57)], some (.inl (0, 3)), [], [(1, 0), (2, 0), (3, 0), (4, 0), (5, 0), (6, 0), (7, 0), (8, 0), (9, 0), (10, 0), (11, 0), (25, 0), (25, 1), (25, 2), (28, 0), (28, 1), (30, 3), (31, 8), (32, 6), (32, 7), (32, 8), (33, 3), (33, 4), (35, 0), (35, 1), (57, 0)], 8, 1, [], [], [])
set_option maxRecDepth 100000 in
theorem cok_429 {KO : List Nat} (hK : KOK KO) : cOk KD0 KO G0 ctr_429 := chk_ok (G0_xOK hK.1) (chkS_ok (show chkS sgl0 [ctr_375] ctr_429 = true by decide +kernel) hK.2) (fm_c (cok_375 hK) fm_n) (show chk KD0 G0 (aX KD0) nX 2000 2 [ctr_375] ctr_429 = true by decide +kernel)
-- L_undo
set_option maxRecDepth 100000 in
def ctr_430 : CTR := (360, [.inr (some 36), .inr (some 57)], some (.inl (0, 1)), [], [(1, 0), (2, 0), (3, 0), (4, 0), (5, 0), (6, 0), (7, 0), (8, 0), (9, 0), (10, 0), (11, 0), (25, 0), (25, 1), (25, 2), (28, 0), (28, 1), (30, 3), (31, 8), (32, 6), (32, 7), (32, 8), (33, 3), (33, 4), (35, 0), (57, 0)], 7, 1, [], [], [])
set_option maxRecDepth 100000 in
theorem cok_430 {KO : List Nat} (hK : KOK KO) : cOk KD0 KO G0 ctr_430 := chk_ok (G0_xOK hK.1) (chkS_ok (show chkS sgl0 [ctr_377] ctr_430 = true by decide +kernel) hK.2) (fm_c (cok_377 hK) fm_n) (show chk KD0 G0 (aX KD0) nX 2000 2 [ctr_377] ctr_430 = true by decide +kernel)
-- L_save
set_option maxRecDepth 100000 in
def ctr_431 : CTR := (361, [.inr (some 36), .inl (-2147483648, 2147483647), .inr (some 57)], some (.inl (0, 2)), [], [(4, 0), (5, 0), (6, 0), (7, 0), (8, 0), (9, 0), (10, 0), (11, 0), (25, 0), (25, 1), (25, 2), (57, 0)], 3, 1, [], [], [])
set_option maxRecDepth 100000 in
theorem cok_431 {KO : List Nat} (hK : KOK KO) : cOk KD0 KO G0 ctr_431 := chk_ok (G0_xOK hK.1) (chkS_ok (show chkS sgl0 [ctr_380] ctr_431 = true by decide +kernel) hK.2) (fm_c (cok_380 hK) fm_n) (show chk KD0 G0 (aX KD0) nX 2000 2 [ctr_380] ctr_431 = true by decide +kernel)
-- L_restore
set_option maxRecDepth 100000 in
def ctr_432 : CTR := (362, [.inr (some 36), .inl (-2147483648, 2147483647), .inr (some 57)], some (.inl (0, 2)), [], [(1, 0), (2, 0), (3, 0), (4, 0), (5, 0), (6, 0), (7, 0), (8, 0), (9, 0), (10, 0), (11, 0), (25, 0), (25, 1), (25, 2), (28, 0), (28, 1), (30, 3), (31, 8), (32, 6), (32, 7), (32, 8), (33, 3), (33, 4), (35, 0), (57, 0)], 7, 1, [], [], [])
set_option maxRecDepth 100000 in
theorem cok_432 {KO : List Nat} (hK : KOK KO) : cOk KD0 KO G0 ctr_432 := chk_ok (G0_xOK hK.1) (chkS_ok (show chkS sgl0 [ctr_381] ctr_432 = true by decide +kernel) hK.2) (fm_c (cok_381 hK) fm_n) (show chk KD0 G0 (aX KD0) nX 2000 2 [ctr_381] ctr_432 = true by decide +kernel)
