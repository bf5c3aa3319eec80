-- X0_pick
set_option maxRecDepth 100000 in
def ctr_200 : CTR := (7, [.inr (some 32), .inr none, .inl (2, 32), .inl (2, 4), .inl (2, 2)], some (.inl (0, 1)), [], [(21, 0)], 3, 0, [(22, [(0, .inr (some 32)), (1, .inr none), (3, .inl (2, 32)), (4, .inl (3, 4)), (5, .inl (2, 2)), (6, .inl (2, 64))], [], [], 128, [(6, -2)])])
set_option maxRecDepth 100000 in
theorem cok_200 {KO : List Nat} (hK : KOS KO) : cOk KD0 KO G0 ctr_200 := chk_ok (G0_xOK hK) (fm_c (cok_87 hK) (fm_c (cok_185 hK) fm_n)) (show chk KD0 G0 (aX KD0) nX 2000 128 [ctr_87, ctr_185] ctr_200 = true by decide +kernel)
-- X0_pick
set_option maxRecDepth 100000 in
def ctr_201 : CTR := (7, [.inr (some 32), .inr none, .inl (2, 64), .inl (2, 4), .inl (2, 2)], some (.inl (0, 1)), [], [(21, 0)], 3, 0, [(22, [(0, .inr (some 32)), (1, .inr none), (3, .inl (2, 64)), (4, .inl (3, 4)), (5, .inl (2, 2)), (6, .inl (2, 64))], [], [], 128, [(6, -2)])])
set_option maxRecDepth 100000 in
theorem cok_201 {KO : List Nat} (hK : KOS KO) : cOk KD0 KO G0 ctr_201 := chk_ok (G0_xOK hK) (fm_c (cok_87 hK) (fm_c (cok_185 hK) fm_n)) (show chk KD0 G0 (aX KD0) nX 2000 128 [ctr_87, ctr_185] ctr_201 = true by decide +kernel)
-- X0_pick
set_option maxRecDepth 100000 in
def ctr_202 : CTR := (7, [.inr (some 32), .inr none, .inl (1, 1), .inl (1, 4), .inl (1, 1)], some (.inl (0, 1)), [], [(21, 0)], 4, 0, [(22, [(0, .inr (some 32)), (1, .inr none), (3, .inl (1, 1)), (4, .inl (2, 4)), (5, .inl (1, 1)), (6, .inl (1, 64))], [], [], 128, [(6, -2)])])
set_option maxRecDepth 100000 in
theorem cok_202 {KO : List Nat} (hK : KOS KO) : cOk KD0 KO G0 ctr_202 := chk_ok (G0_xOK hK) (fm_c (cok_87 hK) (fm_c (cok_186 hK) (fm_c (cok_187 hK) (fm_c (cok_188 hK) (fm_c (cok_189 hK) (fm_c (cok_190 hK) (fm_c (cok_191 hK) (fm_c (cok_192 hK) (fm_c (cok_193 hK) (fm_c (cok_194 hK) (fm_c (cok_195 hK) (fm_c (cok_196 hK) (fm_c (cok_197 hK) (fm_c (cok_198 hK) (fm_c (cok_199 hK) (fm_c (cok_200 hK) (fm_c (cok_201 hK) fm_n))))))))))))))))) (show chk KD0 G0 (aX KD0) nX 2000 130 [ctr_87, ctr_186, ctr_187, ctr_188, ctr_189, ctr_190, ctr_191, ctr_192, ctr_193, ctr_194, ctr_195, ctr_196, ctr_197, ctr_198, ctr_199, ctr_200, ctr_201] ctr_202 = true by decide +kernel)
-- X0_pick
set_option maxRecDepth 100000 in
def ctr_203 : CTR := (7, [.inr (some 32), .inr none, .inl (1, 2), .inl (1, 4), .inl (1, 1)], some (.inl (0, 1)), [], [(21, 0)], 4, 0, [(22, [(0, .inr (some 32)), (1, .inr none), (3, .inl (1, 2)), (4, .inl (2, 4)), (5, .inl (1, 1)), (6, .inl (1, 64))], [], [], 128, [(6, -2)])])
set_option maxRecDepth 100000 in
theorem cok_203 {KO : List Nat} (hK : KOS KO) : cOk KD0 KO G0 ctr_203 := chk_ok (G0_xOK hK) (fm_c (cok_87 hK) (fm_c (cok_187 hK) (fm_c (cok_188 hK) (fm_c (cok_189 hK) (fm_c (cok_190 hK) (fm_c (cok_191 hK) (fm_c (cok_192 hK) (fm_c (cok_193 hK) (fm_c (cok_194 hK) (fm_c (cok_195 hK) (fm_c (cok_196 hK) (fm_c (cok_197 hK) (fm_c (cok_198 hK) (fm_c (cok_199 hK) (fm_c (cok_200 hK) (fm_c (cok_201 hK) fm_n)))))))))))))))) (show chk KD0 G0 (aX KD0) nX 2000 130 [ctr_87, ctr_187, ctr_188, ctr_189, ctr_190, ctr_191, ctr_192, ctr_193, ctr_194, ctr_195, ctr_196, ctr_197, ctr_198, ctr_199, ctr_200, ctr_201] ctr_203 = true by decide +kernel)
-- X0_pick
set_option maxRecDepth 100000 in
def ctr_204 : CTR := (7, [.inr (some 32), .inr none, .inl (1, 3), .inl (1, 4), .inl (1, 1)], some (.inl (0, 1)), [], [(21, 0)], 4, 0, [(22, [(0, .inr (some 32)), (1, .inr none), (3, .inl (1, 3)), (4, .inl (2, 4)), (5, .inl (1, 1)), (6, .inl (1, 64))], [], [], 128, [(6, -2)])])
set_option maxRecDepth 100000 in
theorem cok_204 {KO : List Nat} (hK : KOS KO) : cOk KD0 KO G0 ctr_204 := chk_ok (G0_xOK hK) (fm_c (cok_87 hK) (fm_c (cok_188 hK) (fm_c (cok_189 hK) (fm_c (cok_190 hK) (fm_c (cok_191 hK) (fm_c (cok_192 hK) (fm_c (cok_193 hK) (fm_c (cok_194 hK) (fm_c (cok_195 hK) (fm_c (cok_196 hK) (fm_c (cok_197 hK) (fm_c (cok_198 hK) (fm_c (cok_199 hK) (fm_c (cok_200 hK) (fm_c (cok_201 hK) fm_n))))))))))))))) (show chk KD0 G0 (aX KD0) nX 2000 130 [ctr_87, ctr_188, ctr_189, ctr_190, ctr_191, ctr_192, ctr_193, ctr_194, ctr_195, ctr_196, ctr_197, ctr_198, ctr_199, ctr_200, ctr_201] ctr_204 = true by decide +kernel)
-- X0_pick
set_option maxRecDepth 100000 in
def ctr_205 : CTR := (7, [.inr (some 32), .inr none, .inl (1, 4), .inl (1, 4), .inl (1, 1)], some (.inl (0, 1)), [], [(21, 0)], 4, 0, [(22, [(0, .inr (some 32)), (1, .inr none), (3, .inl (1, 4)), (4, .inl (2, 4)), (5, .inl (1, 1)), (6, .inl (1, 64))], [], [], 128, [(6, -2)])])
set_option maxRecDepth 100000 in
theorem cok_205 {KO : List Nat} (hK : KOS KO) : cOk KD0 KO G0 ctr_205 := chk_ok (G0_xOK hK) (fm_c (cok_87 hK) (fm_c (cok_189 hK) (fm_c (cok_190 hK) (fm_c (cok_191 hK) (fm_c (cok_192 hK) (fm_c (cok_193 hK) (fm_c (cok_194 hK) (fm_c (cok_195 hK) (fm_c (cok_196 hK) (fm_c (cok_197 hK) (fm_c (cok_198 hK) (fm_c (cok_199 hK) (fm_c (cok_200 hK) (fm_c (cok_201 hK) fm_n)))))))))))))) (show chk KD0 G0 (aX KD0) nX 2000 130 [ctr_87, ctr_189, ctr_190, ctr_191, ctr_192, ctr_193, ctr_194, ctr_195, ctr_196, ctr_197, ctr_198, ctr_199, ctr_200, ctr_201] ctr_205 = true by decide +kernel)
-- X0_pick
set_option maxRecDepth 100000 in
def ctr_206 : CTR := (7, [.inr (some 32), .inr none, .inl (1, 5), .inl (1, 4), .inl (1, 1)], some (.inl (0, 1)), [], [(21, 0)], 4, 0, [(22, [(0, .inr (some 32)), (1, .inr none), (3, .inl (1, 5)), (4, .inl (2, 4)), (5, .inl (1, 1)), (6, .inl (1, 64))], [], [], 128, [(6, -2)])])
set_option maxRecDepth 100000 in
theorem cok_206 {KO : List Nat} (hK : KOS KO) : cOk KD0 KO G0 ctr_206 := chk_ok (G0_xOK hK) (fm_c (cok_87 hK) (fm_c (cok_190 hK) (fm_c (cok_191 hK) (fm_c (cok_192 hK) (fm_c (cok_193 hK) (fm_c (cok_194 hK) (fm_c (cok_195 hK) (fm_c (cok_196 hK) (fm_c (cok_197 hK) (fm_c (cok_198 hK) (fm_c (cok_199 hK) (fm_c (cok_200 hK) (fm_c (cok_201 hK) fm_n))))))))))))) (show chk KD0 G0 (aX KD0) nX 2000 130 [ctr_87, ctr_190, ctr_191, ctr_192, ctr_193, ctr_194, ctr_195, ctr_196, ctr_197, ctr_198, ctr_199, ctr_200, ctr_201] ctr_206 = true by decide +kernel)
-- X0_pick
set_option maxRecDepth 100000 in
def ctr_207 : CTR := (7, [.inr (some 32), .inr none, .inl (1, 6), .inl (1, 4), .inl (1, 1)], some (.inl (0, 1)), [], [(21, 0)], 4, 0, [(22, [(0, .inr (some 32)), (1, .inr none), (3, .inl (1, 6)), (4, .inl (2, 4)), (5, .inl (1, 1)), (6, .inl (1, 64))], [], [], 128, [(6, -2)])])
set_option maxRecDepth 100000 in
theorem cok_207 {KO : List Nat} (hK : KOS KO) : cOk KD0 KO G0 ctr_207 := chk_ok (G0_xOK hK) (fm_c (cok_87 hK) (fm_c (cok_191 hK) (fm_c (cok_192 hK) (fm_c (cok_193 hK) (fm_c (cok_194 hK) (fm_c (cok_195 hK) (fm_c (cok_196 hK) (fm_c (cok_197 hK) (fm_c (cok_198 hK) (fm_c (cok_199 hK) (fm_c (cok_200 hK) (fm_c (cok_201 hK) fm_n)))))))))))) (show chk KD0 G0 (aX KD0) nX 2000 130 [ctr_87, ctr_191, ctr_192, ctr_193, ctr_194, ctr_195, ctr_196, ctr_197, ctr_198, ctr_199, ctr_200, ctr_201] ctr_207 = true by decide +kernel)
-- X0_pick
set_option maxRecDepth 100000 in
def ctr_208 : CTR := (7, [.inr (some 32), .inr none, .inl (1, 7), .inl (1, 4), .inl (1, 1)], some (.inl (0, 1)), [], [(21, 0)], 4, 0, [(22, [(0, .inr (some 32)), (1, .inr none), (3, .inl (1, 7)), (4, .inl (2, 4)), (5, .inl (1, 1)), (6, .inl (1, 64))], [], [], 128, [(6, -2)])])
set_option maxRecDepth 100000 in
theorem cok_208 {KO : List Nat} (hK : KOS KO) : cOk KD0 KO G0 ctr_208 := chk_ok (G0_xOK hK) (fm_c (cok_87 hK) (fm_c (cok_192 hK) (fm_c (cok_193 hK) (fm_c (cok_194 hK) (fm_c (cok_195 hK) (fm_c (cok_196 hK) (fm_c (cok_197 hK) (fm_c (cok_198 hK) (fm_c (cok_199 hK) (fm_c (cok_200 hK) (fm_c (cok_201 hK) fm_n))))))))))) (show chk KD0 G0 (aX KD0) nX 2000 130 [ctr_87, ctr_192, ctr_193, ctr_194, ctr_195, ctr_196, ctr_197, ctr_198, ctr_199, ctr_200, ctr_201] ctr_208 = true by decide +kernel)
-- X0_pick
set_option maxRecDepth 100000 in
def ctr_209 : CTR := (7, [.inr (some 32), .inr none, .inl (1, 8), .inl (1, 4), .inl (1, 1)], some (.inl (0, 1)), [], [(21, 0)], 4, 0, [(22, [(0, .inr (some 32)), (1, .inr none), (3, .inl (1, 8)), (4, .inl (2, 4)), (5, .inl (1, 1)), (6, .inl (1, 64))], [], [], 128, [(6, -2)])])
set_option maxRecDepth 100000 in
theorem cok_209 {KO : List Nat} (hK : KOS KO) : cOk KD0 KO G0 ctr_209 := chk_ok (G0_xOK hK) (fm_c (cok_87 hK) (fm_c (cok_193 hK) (fm_c (cok_194 hK) (fm_c (cok_195 hK) (fm_c (cok_196 hK) (fm_c (cok_197 hK) (fm_c (cok_198 hK) (fm_c (cok_199 hK) (fm_c (cok_200 hK) (fm_c (cok_201 hK) fm_n)))))))))) (show chk KD0 G0 (aX KD0) nX 2000 130 [ctr_87, ctr_193, ctr_194, ctr_195, ctr_196, ctr_197, ctr_198, ctr_199, ctr_200, ctr_201] ctr_209 = true by decide +kernel)
-- X0_pick
set_option maxRecDepth 100000 in
def ctr_210 : CTR := (7, [.inr (some 32), .inr none, .inl (1, 9), .inl (1, 4), .inl (1, 1)], some (.inl (0, 1)), [], [(21, 0)], 4, 0, [(22, [(0, .inr (some 32)), (1, .inr none), (3, .inl (1, 9)), (4, .inl (2, 4)), (5, .inl (1, 1)), (6, .inl (1, 64))], [], [], 128, [(6, -2)])])
set_option maxRecDepth 100000 in
theorem cok_210 {KO : List Nat} (hK : KOS KO) : cOk KD0 KO G0 ctr_210 := chk_ok (G0_xOK hK) (fm_c (cok_87 hK) (fm_c (cok_194 hK) (fm_c (cok_195 hK) (fm_c (cok_196 hK) (fm_c (cok_197 hK) (fm_c (cok_198 hK) (fm_c (cok_199 hK) (fm_c (cok_200 hK) (fm_c (cok_201 hK) fm_n))))))))) (show chk KD0 G0 (aX KD0) nX 2000 130 [ctr_87, ctr_194, ctr_195, ctr_196, ctr_197, ctr_198, ctr_199, ctr_200, ctr_201] ctr_210 = true by decide +kernel)
-- X0_pick
set_option maxRecDepth 100000 in
def ctr_211 : CTR := (7, [.inr (some 32), .inr none, .inl (1, 11), .inl (1, 4), .inl (1, 1)], some (.inl (0, 1)), [], [(21, 0)], 4, 0, [(22, [(0, .inr (some 32)), (1, .inr none), (3, .inl (1, 11)), (4, .inl (2, 4)), (5, .inl (1, 1)), (6, .inl (1, 64))], [], [], 128, [(6, -2)])])
set_option maxRecDepth 100000 in
theorem cok_211 {KO : List Nat} (hK : KOS KO) : cOk KD0 KO G0 ctr_211 := chk_ok (G0_xOK hK) (fm_c (cok_87 hK) (fm_c (cok_195 hK) (fm_c (cok_196 hK) (fm_c (cok_197 hK) (fm_c (cok_198 hK) (fm_c (cok_199 hK) (fm_c (cok_200 hK) (fm_c (cok_201 hK) fm_n)))))))) (show chk KD0 G0 (aX KD0) nX 2000 130 [ctr_87, ctr_195, ctr_196, ctr_197, ctr_198, ctr_199, ctr_200, ctr_201] ctr_211 = true by decide +kernel)
-- X0_pick
set_option maxRecDepth 100000 in
def ctr_212 : CTR := (7, [.inr (some 32), .inr none, .inl (1, 12), .inl (1, 4), .inl (1, 1)], some (.inl (0, 1)), [], [(21, 0)], 4, 0, [(22, [(0, .inr (some 32)), (1, .inr none), (3, .inl (1, 12)), (4, .inl (2, 4)), (5, .inl (1, 1)), (6, .inl (1, 64))], [], [], 128, [(6, -2)])])
set_option maxRecDepth 100000 in
theorem cok_212 {KO : List Nat} (hK : KOS KO) : cOk KD0 KO G0 ctr_212 := chk_ok (G0_xOK hK) (fm_c (cok_87 hK) (fm_c (cok_196 hK) (fm_c (cok_197 hK) (fm_c (cok_198 hK) (fm_c (cok_199 hK) (fm_c (cok_200 hK) (fm_c (cok_201 hK) fm_n))))))) (show chk KD0 G0 (aX KD0) nX 2000 130 [ctr_87, ctr_196, ctr_197, ctr_198, ctr_199, ctr_200, ctr_201] ctr_212 = true by decide +kernel)
-- X0_pick
set_option maxRecDepth 100000 in
def ctr_213 : CTR := (7, [.inr (some 32), .inr none, .inl (1, 13), .inl (1, 4), .inl (1, 1)], some (.inl (0, 1)), [], [(21, 0)], 4, 0, [(22, [(0, .inr (some 32)), (1, .inr none), (3, .inl (1, 13)), (4, .inl (2, 4)), (5, .inl (1, 1)), (6, .inl (1, 64))], [], [], 128, [(6, -2)])])
set_option maxRecDepth 100000 in
theorem cok_213 {KO : List Nat} (hK : KOS KO) : cOk KD0 KO G0 ctr_213 := chk_ok (G0_xOK hK) (fm_c (cok_87 hK) (fm_c (cok_197 hK) (fm_c (cok_198 hK) (fm_c (cok_199 hK) (fm_c (cok_200 hK) (fm_c (cok_201 hK) fm_n)))))) (show chk KD0 G0 (aX KD0) nX 2000 130 [ctr_87, ctr_197, ctr_198, ctr_199, ctr_200, ctr_201] ctr_213 = true by decide +kernel)
-- X0_pick
set_option maxRecDepth 100000 in
def ctr_214 : CTR := (7, [.inr (some 32), .inr none, .inl (1, 14), .inl (1, 4), .inl (1, 1)], some (.inl (0, 1)), [], [(21, 0)], 4, 0, [(22, [(0, .inr (some 32)), (1, .inr none), (3, .inl (1, 14)), (4, .inl (2, 4)), (5, .inl (1, 1)), (6, .inl (1, 64))], [], [], 128, [(6, -2)])])
set_option maxRecDepth 100000 in
theorem cok_214 {KO : List Nat} (hK : KOS KO) : cOk KD0 KO G0 ctr_214 := chk_ok (G0_xOK hK) (fm_c (cok_87 hK) (fm_c (cok_198 hK) (fm_c (cok_199 hK) (fm_c (cok_200 hK) (fm_c (cok_201 hK) fm_n))))) (show chk KD0 G0 (aX KD0) nX 2000 130 [ctr_87, ctr_198, ctr_199, ctr_200, ctr_201] ctr_214 = true by decide +kernel)
-- X0_pick
set_option maxRecDepth 100000 in
def ctr_215 : CTR := (7, [.inr (some 32), .inr none, .inl (1, 16), .inl (1, 4), .inl (1, 1)], some (.inl (0, 1)), [], [(21, 0)], 4, 0, [(22, [(0, .inr (some 32)), (1, .inr none), (3, .inl (1, 16)), (4, .inl (2, 4)), (5, .inl (1, 1)), (6, .inl (1, 64))], [], [], 128, [(6, -2)])])
set_option maxRecDepth 100000 in
theorem cok_215 {KO : List Nat} (hK : KOS KO) : cOk KD0 KO G0 ctr_215 := chk_ok (G0_xOK hK) (fm_c (cok_87 hK) (fm_c (cok_199 hK) (fm_c (cok_200 hK) (fm_c (cok_201 hK) fm_n)))) (show chk KD0 G0 (aX KD0) nX 2000 130 [ctr_87, ctr_199, ctr_200, ctr_201] ctr_215 = true by decide +kernel)
-- X0_pick
set_option maxRecDepth 100000 in
def ctr_216 : CTR := (7, [.inr (some 32), .inr none, .inl (1, 17), .inl (1, 4), .inl (1, 1)], some (.inl (0, 1)), [], [(21, 0)], 4, 0, [(22, [(0, .inr (some 32)), (1, .inr none), (3, .inl (1, 17)), (4, .inl (2, 4)), (5, .inl (1, 1)), (6, .inl (1, 64))], [], [], 128, [(6, -2)])])
set_option maxRecDepth 100000 in
theorem cok_216 {KO : List Nat} (hK : KOS KO) : cOk KD0 KO G0 ctr_216 := chk_ok (G0_xOK hK) (fm_c (cok_87 hK) (fm_c (cok_200 hK) (fm_c (cok_201 hK) fm_n))) (show chk KD0 G0 (aX KD0) nX 2000 130 [ctr_87, ctr_200, ctr_201] ctr_216 = true by decide +kernel)
-- X0_pick
set_option maxRecDepth 100000 in
def ctr_217 : CTR := (7, [.inr (some 32), .inr none, .inl (1, 32), .inl (1, 4), .inl (1, 1)], some (.inl (0, 1)), [], [(21, 0)], 4, 0, [(22, [(0, .inr (some 32)), (1, .inr none), (3, .inl (1, 32)), (4, .inl (2, 4)), (5, .inl (1, 1)), (6, .inl (1, 64))], [], [], 128, [(6, -2)])])
set_option maxRecDepth 100000 in
theorem cok_217 {KO : List Nat} (hK : KOS KO) : cOk KD0 KO G0 ctr_217 := chk_ok (G0_xOK hK) (fm_c (cok_87 hK) (fm_c (cok_201 hK) fm_n)) (show chk KD0 G0 (aX KD0) nX 2000 130 [ctr_87, ctr_201] ctr_217 = true by decide +kernel)
-- X0_pick
set_option maxRecDepth 100000 in
def ctr_218 : CTR := (7, [.inr (some 32), .inr none, .inl (1, 64), .inl (1, 4), .inl (1, 1)], some (.inl (0, 1)), [], [(21, 0)], 4, 0, [(22, [(0, .inr (some 32)), (1, .inr none), (3, .inl (1, 64)), (4, .inl (2, 4)), (5, .inl (1, 1)), (6, .inl (1, 64))], [], [], 128, [(6, -2)])])
set_option maxRecDepth 100000 in
theorem cok_218 {KO : List Nat} (hK : KOS KO) : cOk KD0 KO G0 ctr_218 := chk_ok (G0_xOK hK) (fm_c (cok_87 hK) (fm_c (cok_201 hK) fm_n)) (show chk KD0 G0 (aX KD0) nX 2000 130 [ctr_87, ctr_201] ctr_218 = true by decide +kernel)
-- X0_pick
set_option maxRecDepth 100000 in
def ctr_219 : CTR := (7, [.inr (some 32), .inr none, .inl (0, 0), .inl (1, 4), .inl (0, 0)], some (.inl (0, 1)), [], [(21, 0)], 5, 0, [(22, [(0, .inr (some 32)), (1, .inr none), (3, .inl (0, 0)), (4, .inl (1, 4)), (5, .inl (0, 0)), (6, .inl (0, 64))], [], [], 128, [(6, -2)])])
set_option maxRecDepth 100000 in
theorem cok_219 {KO : List Nat} (hK : KOS KO) : cOk KD0 KO G0 ctr_219 := chk_ok (G0_xOK hK) (fm_c (cok_87 hK) (fm_c (cok_202 hK) (fm_c (cok_203 hK) (fm_c (cok_204 hK) (fm_c (cok_205 hK) (fm_c (cok_206 hK) (fm_c (cok_207 hK) (fm_c (cok_208 hK) (fm_c (cok_209 hK) (fm_c (cok_210 hK) (fm_c (cok_211 hK) (fm_c (cok_212 hK) (fm_c (cok_213 hK) (fm_c (cok_214 hK) (fm_c (cok_215 hK) (fm_c (cok_216 hK) (fm_c (cok_217 hK) (fm_c (cok_218 hK) fm_n)))))))))))))))))) (show chk KD0 G0 (aX KD0) nX 2000 132 [ctr_87, ctr_202, ctr_203, ctr_204, ctr_205, ctr_206, ctr_207, ctr_208, ctr_209, ctr_210, ctr_211, ctr_212, ctr_213, ctr_214, ctr_215, ctr_216, ctr_217, ctr_218] ctr_219 = true by decide +kernel)
-- X0_pointsNeeded
set_option maxRecDepth 100000 in
def ctr_220 : CTR := (5, [.inr (some 32)], some (.inl (-2147483648, 2147483647)), [], [(20, 0), (21, 0), (32, 8)], 6, 0, [(23, [(0, .inr (some 32)), (1, .inl (-1, 63))], [], [(0, 8, (0, 0))], 12, [(1, 2)]), (58, [(0, .inr (some 32)), (1, .inl (1, 5))], [], [(0, 8, (0, 4))], 10, [(1, -2)])])
set_option maxRecDepth 100000 in
theorem cok_220 {KO : List Nat} (hK : KOS KO) : cOk KD0 KO G0 ctr_220 := chk_ok (G0_xOK hK) (fm_c (cok_87 hK) (fm_c (cok_91 hK) (fm_c (cok_118 hK) (fm_c (cok_136 hK) (fm_c (cok_170 hK) (fm_c (cok_219 hK) fm_n)))))) (show chk KD0 G0 (aX KD0) nX 2000 142 [ctr_87, ctr_91, ctr_118, ctr_136, ctr_170, ctr_219] ctr_220 = true by decide +kernel)
-- X11_guardNumber
set_option maxRecDepth 100000 in
def ctr_221 : CTR := (143, [.inr (some 36)], some (.inl (-2147483648, 2147483647)), ["java/lang/IllegalStateException"], [(12, 0), (20, 0), (21, 0), (30, 3), (32, 8)], 7, 0, [])
set_option maxRecDepth 100000 in
theorem cok_221 {KO : List Nat} (hK : KOS KO) : cOk KD0 KO G0 ctr_221 := chk_ok (G0_xOK hK) (fm_c (cok_46 hK) (fm_c (cok_86 hK) (fm_c (cok_220 hK) fm_n))) (show chk KD0 G0 (aX KD0) nX 2000 2 [ctr_46, ctr_86, ctr_220] ctr_221 = true by decide +kernel)
-- X0_pickedPoint
set_option maxRecDepth 100000 in
def ctr_222 : CTR := (6, [.inr (some 32), .inl (-2147483648, 2147483647)], some (.inl (-2147483648, 2147483647)), [], [], 1, 0, [])
set_option maxRecDepth 100000 in
theorem cok_222 {KO : List Nat} (hK : KOS KO) : cOk KD0 KO G0 ctr_222 := chk_ok (G0_xOK hK) fm_n (show chk KD0 G0 (aX KD0) nX 2000 2 [] ctr_222 = true by decide +kernel)
-- X11_guardPoint
set_option maxRecDepth 100000 in
def ctr_223 : CTR := (144, [.inr (some 36), .inl (-2147483648, 2147483647)], some (.inl (-2147483648, 2147483647)), ["java/lang/IllegalStateException", "java/lang/IndexOutOfBoundsException"], [(12, 0), (20, 0), (21, 0), (30, 3), (32, 8)], 7, 0, [])
set_option maxRecDepth 100000 in
theorem cok_223 {KO : List Nat} (hK : KOS KO) : cOk KD0 KO G0 ctr_223 := chk_ok (G0_xOK hK) (fm_c (cok_46 hK) (fm_c (cok_86 hK) (fm_c (cok_220 hK) (fm_c (cok_222 hK) fm_n)))) (show chk KD0 G0 (aX KD0) nX 2000 2 [ctr_46, ctr_86, ctr_220, ctr_222] ctr_223 = true by decide +kernel)
-- J13_bitCount_95d88
set_option maxRecDepth 100000 in
def ctr_224 : CTR := (366, [.inr none], some (.inl (-2147483648, 2147483647)), [], [], 1, 0, [])
set_option maxRecDepth 100000 in
theorem cok_224 {KO : List Nat} (hK : KOS KO) : cOk KD0 KO G0 ctr_224 := chk_ok (G0_xOK hK) fm_n (show chk KD0 G0 (aX KD0) nX 2000 2 [] ctr_224 = true by decide +kernel)
