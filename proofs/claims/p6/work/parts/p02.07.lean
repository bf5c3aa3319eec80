-- X0_pick
set_option maxRecDepth 100000 in
def ctr_175 : CTR := (7, [.inr (some 32), .inr none, .inl (3, 7), .inl (3, 4), .inl (3, 3)], some (.inl (0, 1)), [], [(21, 0)], 2, 0, [(22, [(0, .inr (some 32)), (1, .inr none), (3, .inl (3, 7)), (4, .inl (4, 4)), (5, .inl (3, 3)), (6, .inl (3, 64))], [], [], 128, [(6, -2)])])
set_option maxRecDepth 100000 in
theorem cok_175 {KO : List Nat} (hK : KOS KO) : cOk KD0 KO G0 ctr_175 := chk_ok (G0_xOK hK) (fm_c (cok_87 hK) fm_n) (show chk KD0 G0 (aX KD0) nX 2000 126 [ctr_87] ctr_175 = true by decide +kernel)
-- X0_pick
set_option maxRecDepth 100000 in
def ctr_176 : CTR := (7, [.inr (some 32), .inr none, .inl (3, 8), .inl (3, 4), .inl (3, 3)], some (.inl (0, 1)), [], [(21, 0)], 2, 0, [(22, [(0, .inr (some 32)), (1, .inr none), (3, .inl (3, 8)), (4, .inl (4, 4)), (5, .inl (3, 3)), (6, .inl (3, 64))], [], [], 128, [(6, -2)])])
set_option maxRecDepth 100000 in
theorem cok_176 {KO : List Nat} (hK : KOS KO) : cOk KD0 KO G0 ctr_176 := chk_ok (G0_xOK hK) (fm_c (cok_87 hK) fm_n) (show chk KD0 G0 (aX KD0) nX 2000 126 [ctr_87] ctr_176 = true by decide +kernel)
-- X0_pick
set_option maxRecDepth 100000 in
def ctr_177 : CTR := (7, [.inr (some 32), .inr none, .inl (3, 9), .inl (3, 4), .inl (3, 3)], some (.inl (0, 1)), [], [(21, 0)], 2, 0, [(22, [(0, .inr (some 32)), (1, .inr none), (3, .inl (3, 9)), (4, .inl (4, 4)), (5, .inl (3, 3)), (6, .inl (3, 64))], [], [], 128, [(6, -2)])])
set_option maxRecDepth 100000 in
theorem cok_177 {KO : List Nat} (hK : KOS KO) : cOk KD0 KO G0 ctr_177 := chk_ok (G0_xOK hK) (fm_c (cok_87 hK) fm_n) (show chk KD0 G0 (aX KD0) nX 2000 126 [ctr_87] ctr_177 = true by decide +kernel)
-- X0_pick
set_option maxRecDepth 100000 in
def ctr_178 : CTR := (7, [.inr (some 32), .inr none, .inl (3, 11), .inl (3, 4), .inl (3, 3)], some (.inl (0, 1)), [], [(21, 0)], 2, 0, [(22, [(0, .inr (some 32)), (1, .inr none), (3, .inl (3, 11)), (4, .inl (4, 4)), (5, .inl (3, 3)), (6, .inl (3, 64))], [], [], 128, [(6, -2)])])
set_option maxRecDepth 100000 in
theorem cok_178 {KO : List Nat} (hK : KOS KO) : cOk KD0 KO G0 ctr_178 := chk_ok (G0_xOK hK) (fm_c (cok_87 hK) fm_n) (show chk KD0 G0 (aX KD0) nX 2000 126 [ctr_87] ctr_178 = true by decide +kernel)
-- X0_pick
set_option maxRecDepth 100000 in
def ctr_179 : CTR := (7, [.inr (some 32), .inr none, .inl (3, 12), .inl (3, 4), .inl (3, 3)], some (.inl (0, 1)), [], [(21, 0)], 2, 0, [(22, [(0, .inr (some 32)), (1, .inr none), (3, .inl (3, 12)), (4, .inl (4, 4)), (5, .inl (3, 3)), (6, .inl (3, 64))], [], [], 128, [(6, -2)])])
set_option maxRecDepth 100000 in
theorem cok_179 {KO : List Nat} (hK : KOS KO) : cOk KD0 KO G0 ctr_179 := chk_ok (G0_xOK hK) (fm_c (cok_87 hK) fm_n) (show chk KD0 G0 (aX KD0) nX 2000 126 [ctr_87] ctr_179 = true by decide +kernel)
-- X0_pick
set_option maxRecDepth 100000 in
def ctr_180 : CTR := (7, [.inr (some 32), .inr none, .inl (3, 13), .inl (3, 4), .inl (3, 3)], some (.inl (0, 1)), [], [(21, 0)], 2, 0, [(22, [(0, .inr (some 32)), (1, .inr none), (3, .inl (3, 13)), (4, .inl (4, 4)), (5, .inl (3, 3)), (6, .inl (3, 64))], [], [], 128, [(6, -2)])])
set_option maxRecDepth 100000 in
theorem cok_180 {KO : List Nat} (hK : KOS KO) : cOk KD0 KO G0 ctr_180 := chk_ok (G0_xOK hK) (fm_c (cok_87 hK) fm_n) (show chk KD0 G0 (aX KD0) nX 2000 126 [ctr_87] ctr_180 = true by decide +kernel)
-- X0_pick
set_option maxRecDepth 100000 in
def ctr_181 : CTR := (7, [.inr (some 32), .inr none, .inl (3, 14), .inl (3, 4), .inl (3, 3)], some (.inl (0, 1)), [], [(21, 0)], 2, 0, [(22, [(0, .inr (some 32)), (1, .inr none), (3, .inl (3, 14)), (4, .inl (4, 4)), (5, .inl (3, 3)), (6, .inl (3, 64))], [], [], 128, [(6, -2)])])
set_option maxRecDepth 100000 in
theorem cok_181 {KO : List Nat} (hK : KOS KO) : cOk KD0 KO G0 ctr_181 := chk_ok (G0_xOK hK) (fm_c (cok_87 hK) fm_n) (show chk KD0 G0 (aX KD0) nX 2000 126 [ctr_87] ctr_181 = true by decide +kernel)
-- X0_pick
set_option maxRecDepth 100000 in
def ctr_182 : CTR := (7, [.inr (some 32), .inr none, .inl (3, 16), .inl (3, 4), .inl (3, 3)], some (.inl (0, 1)), [], [(21, 0)], 2, 0, [(22, [(0, .inr (some 32)), (1, .inr none), (3, .inl (3, 16)), (4, .inl (4, 4)), (5, .inl (3, 3)), (6, .inl (3, 64))], [], [], 128, [(6, -2)])])
set_option maxRecDepth 100000 in
theorem cok_182 {KO : List Nat} (hK : KOS KO) : cOk KD0 KO G0 ctr_182 := chk_ok (G0_xOK hK) (fm_c (cok_87 hK) fm_n) (show chk KD0 G0 (aX KD0) nX 2000 126 [ctr_87] ctr_182 = true by decide +kernel)
-- X0_pick
set_option maxRecDepth 100000 in
def ctr_183 : CTR := (7, [.inr (some 32), .inr none, .inl (3, 17), .inl (3, 4), .inl (3, 3)], some (.inl (0, 1)), [], [(21, 0)], 2, 0, [(22, [(0, .inr (some 32)), (1, .inr none), (3, .inl (3, 17)), (4, .inl (4, 4)), (5, .inl (3, 3)), (6, .inl (3, 64))], [], [], 128, [(6, -2)])])
set_option maxRecDepth 100000 in
theorem cok_183 {KO : List Nat} (hK : KOS KO) : cOk KD0 KO G0 ctr_183 := chk_ok (G0_xOK hK) (fm_c (cok_87 hK) fm_n) (show chk KD0 G0 (aX KD0) nX 2000 126 [ctr_87] ctr_183 = true by decide +kernel)
-- X0_pick
set_option maxRecDepth 100000 in
def ctr_184 : CTR := (7, [.inr (some 32), .inr none, .inl (3, 32), .inl (3, 4), .inl (3, 3)], some (.inl (0, 1)), [], [(21, 0)], 2, 0, [(22, [(0, .inr (some 32)), (1, .inr none), (3, .inl (3, 32)), (4, .inl (4, 4)), (5, .inl (3, 3)), (6, .inl (3, 64))], [], [], 128, [(6, -2)])])
set_option maxRecDepth 100000 in
theorem cok_184 {KO : List Nat} (hK : KOS KO) : cOk KD0 KO G0 ctr_184 := chk_ok (G0_xOK hK) (fm_c (cok_87 hK) fm_n) (show chk KD0 G0 (aX KD0) nX 2000 126 [ctr_87] ctr_184 = true by decide +kernel)
-- X0_pick
set_option maxRecDepth 100000 in
def ctr_185 : CTR := (7, [.inr (some 32), .inr none, .inl (3, 64), .inl (3, 4), .inl (3, 3)], some (.inl (0, 1)), [], [(21, 0)], 2, 0, [(22, [(0, .inr (some 32)), (1, .inr none), (3, .inl (3, 64)), (4, .inl (4, 4)), (5, .inl (3, 3)), (6, .inl (3, 64))], [], [], 128, [(6, -2)])])
set_option maxRecDepth 100000 in
theorem cok_185 {KO : List Nat} (hK : KOS KO) : cOk KD0 KO G0 ctr_185 := chk_ok (G0_xOK hK) (fm_c (cok_87 hK) fm_n) (show chk KD0 G0 (aX KD0) nX 2000 126 [ctr_87] ctr_185 = true by decide +kernel)
-- X0_pick
set_option maxRecDepth 100000 in
def ctr_186 : CTR := (7, [.inr (some 32), .inr none, .inl (2, 2), .inl (2, 4), .inl (2, 2)], some (.inl (0, 1)), [], [(21, 0)], 3, 0, [(22, [(0, .inr (some 32)), (1, .inr none), (3, .inl (2, 2)), (4, .inl (3, 4)), (5, .inl (2, 2)), (6, .inl (2, 64))], [], [], 128, [(6, -2)])])
set_option maxRecDepth 100000 in
theorem cok_186 {KO : List Nat} (hK : KOS KO) : cOk KD0 KO G0 ctr_186 := chk_ok (G0_xOK hK) (fm_c (cok_87 hK) (fm_c (cok_171 hK) (fm_c (cok_172 hK) (fm_c (cok_173 hK) (fm_c (cok_174 hK) (fm_c (cok_175 hK) (fm_c (cok_176 hK) (fm_c (cok_177 hK) (fm_c (cok_178 hK) (fm_c (cok_179 hK) (fm_c (cok_180 hK) (fm_c (cok_181 hK) (fm_c (cok_182 hK) (fm_c (cok_183 hK) (fm_c (cok_184 hK) (fm_c (cok_185 hK) fm_n)))))))))))))))) (show chk KD0 G0 (aX KD0) nX 2000 128 [ctr_87, ctr_171, ctr_172, ctr_173, ctr_174, ctr_175, ctr_176, ctr_177, ctr_178, ctr_179, ctr_180, ctr_181, ctr_182, ctr_183, ctr_184, ctr_185] ctr_186 = true by decide +kernel)
-- X0_pick
set_option maxRecDepth 100000 in
def ctr_187 : CTR := (7, [.inr (some 32), .inr none, .inl (2, 3), .inl (2, 4), .inl (2, 2)], some (.inl (0, 1)), [], [(21, 0)], 3, 0, [(22, [(0, .inr (some 32)), (1, .inr none), (3, .inl (2, 3)), (4, .inl (3, 4)), (5, .inl (2, 2)), (6, .inl (2, 64))], [], [], 128, [(6, -2)])])
set_option maxRecDepth 100000 in
theorem cok_187 {KO : List Nat} (hK : KOS KO) : cOk KD0 KO G0 ctr_187 := chk_ok (G0_xOK hK) (fm_c (cok_87 hK) (fm_c (cok_172 hK) (fm_c (cok_173 hK) (fm_c (cok_174 hK) (fm_c (cok_175 hK) (fm_c (cok_176 hK) (fm_c (cok_177 hK) (fm_c (cok_178 hK) (fm_c (cok_179 hK) (fm_c (cok_180 hK) (fm_c (cok_181 hK) (fm_c (cok_182 hK) (fm_c (cok_183 hK) (fm_c (cok_184 hK) (fm_c (cok_185 hK) fm_n))))))))))))))) (show chk KD0 G0 (aX KD0) nX 2000 128 [ctr_87, ctr_172, ctr_173, ctr_174, ctr_175, ctr_176, ctr_177, ctr_178, ctr_179, ctr_180, ctr_181, ctr_182, ctr_183, ctr_184, ctr_185] ctr_187 = true by decide +kernel)
-- X0_pick
set_option maxRecDepth 100000 in
def ctr_188 : CTR := (7, [.inr (some 32), .inr none, .inl (2, 4), .inl (2, 4), .inl (2, 2)], some (.inl (0, 1)), [], [(21, 0)], 3, 0, [(22, [(0, .inr (some 32)), (1, .inr none), (3, .inl (2, 4)), (4, .inl (3, 4)), (5, .inl (2, 2)), (6, .inl (2, 64))], [], [], 128, [(6, -2)])])
set_option maxRecDepth 100000 in
theorem cok_188 {KO : List Nat} (hK : KOS KO) : cOk KD0 KO G0 ctr_188 := chk_ok (G0_xOK hK) (fm_c (cok_87 hK) (fm_c (cok_173 hK) (fm_c (cok_174 hK) (fm_c (cok_175 hK) (fm_c (cok_176 hK) (fm_c (cok_177 hK) (fm_c (cok_178 hK) (fm_c (cok_179 hK) (fm_c (cok_180 hK) (fm_c (cok_181 hK) (fm_c (cok_182 hK) (fm_c (cok_183 hK) (fm_c (cok_184 hK) (fm_c (cok_185 hK) fm_n)))))))))))))) (show chk KD0 G0 (aX KD0) nX 2000 128 [ctr_87, ctr_173, ctr_174, ctr_175, ctr_176, ctr_177, ctr_178, ctr_179, ctr_180, ctr_181, ctr_182, ctr_183, ctr_184, ctr_185] ctr_188 = true by decide +kernel)
-- X0_pick
set_option maxRecDepth 100000 in
def ctr_189 : CTR := (7, [.inr (some 32), .inr none, .inl (2, 5), .inl (2, 4), .inl (2, 2)], some (.inl (0, 1)), [], [(21, 0)], 3, 0, [(22, [(0, .inr (some 32)), (1, .inr none), (3, .inl (2, 5)), (4, .inl (3, 4)), (5, .inl (2, 2)), (6, .inl (2, 64))], [], [], 128, [(6, -2)])])
set_option maxRecDepth 100000 in
theorem cok_189 {KO : List Nat} (hK : KOS KO) : cOk KD0 KO G0 ctr_189 := chk_ok (G0_xOK hK) (fm_c (cok_87 hK) (fm_c (cok_174 hK) (fm_c (cok_175 hK) (fm_c (cok_176 hK) (fm_c (cok_177 hK) (fm_c (cok_178 hK) (fm_c (cok_179 hK) (fm_c (cok_180 hK) (fm_c (cok_181 hK) (fm_c (cok_182 hK) (fm_c (cok_183 hK) (fm_c (cok_184 hK) (fm_c (cok_185 hK) fm_n))))))))))))) (show chk KD0 G0 (aX KD0) nX 2000 128 [ctr_87, ctr_174, ctr_175, ctr_176, ctr_177, ctr_178, ctr_179, ctr_180, ctr_181, ctr_182, ctr_183, ctr_184, ctr_185] ctr_189 = true by decide +kernel)
-- X0_pick
set_option maxRecDepth 100000 in
def ctr_190 : CTR := (7, [.inr (some 32), .inr none, .inl (2, 6), .inl (2, 4), .inl (2, 2)], some (.inl (0, 1)), [], [(21, 0)], 3, 0, [(22, [(0, .inr (some 32)), (1, .inr none), (3, .inl (2, 6)), (4, .inl (3, 4)), (5, .inl (2, 2)), (6, .inl (2, 64))], [], [], 128, [(6, -2)])])
set_option maxRecDepth 100000 in
theorem cok_190 {KO : List Nat} (hK : KOS KO) : cOk KD0 KO G0 ctr_190 := chk_ok (G0_xOK hK) (fm_c (cok_87 hK) (fm_c (cok_175 hK) (fm_c (cok_176 hK) (fm_c (cok_177 hK) (fm_c (cok_178 hK) (fm_c (cok_179 hK) (fm_c (cok_180 hK) (fm_c (cok_181 hK) (fm_c (cok_182 hK) (fm_c (cok_183 hK) (fm_c (cok_184 hK) (fm_c (cok_185 hK) fm_n)))))))))))) (show chk KD0 G0 (aX KD0) nX 2000 128 [ctr_87, ctr_175, ctr_176, ctr_177, ctr_178, ctr_179, ctr_180, ctr_181, ctr_182, ctr_183, ctr_184, ctr_185] ctr_190 = true by decide +kernel)
-- X0_pick
set_option maxRecDepth 100000 in
def ctr_191 : CTR := (7, [.inr (some 32), .inr none, .inl (2, 7), .inl (2, 4), .inl (2, 2)], some (.inl (0, 1)), [], [(21, 0)], 3, 0, [(22, [(0, .inr (some 32)), (1, .inr none), (3, .inl (2, 7)), (4, .inl (3, 4)), (5, .inl (2, 2)), (6, .inl (2, 64))], [], [], 128, [(6, -2)])])
set_option maxRecDepth 100000 in
theorem cok_191 {KO : List Nat} (hK : KOS KO) : cOk KD0 KO G0 ctr_191 := chk_ok (G0_xOK hK) (fm_c (cok_87 hK) (fm_c (cok_176 hK) (fm_c (cok_177 hK) (fm_c (cok_178 hK) (fm_c (cok_179 hK) (fm_c (cok_180 hK) (fm_c (cok_181 hK) (fm_c (cok_182 hK) (fm_c (cok_183 hK) (fm_c (cok_184 hK) (fm_c (cok_185 hK) fm_n))))))))))) (show chk KD0 G0 (aX KD0) nX 2000 128 [ctr_87, ctr_176, ctr_177, ctr_178, ctr_179, ctr_180, ctr_181, ctr_182, ctr_183, ctr_184, ctr_185] ctr_191 = true by decide +kernel)
-- X0_pick
set_option maxRecDepth 100000 in
def ctr_192 : CTR := (7, [.inr (some 32), .inr none, .inl (2, 8), .inl (2, 4), .inl (2, 2)], some (.inl (0, 1)), [], [(21, 0)], 3, 0, [(22, [(0, .inr (some 32)), (1, .inr none), (3, .inl (2, 8)), (4, .inl (3, 4)), (5, .inl (2, 2)), (6, .inl (2, 64))], [], [], 128, [(6, -2)])])
set_option maxRecDepth 100000 in
theorem cok_192 {KO : List Nat} (hK : KOS KO) : cOk KD0 KO G0 ctr_192 := chk_ok (G0_xOK hK) (fm_c (cok_87 hK) (fm_c (cok_177 hK) (fm_c (cok_178 hK) (fm_c (cok_179 hK) (fm_c (cok_180 hK) (fm_c (cok_181 hK) (fm_c (cok_182 hK) (fm_c (cok_183 hK) (fm_c (cok_184 hK) (fm_c (cok_185 hK) fm_n)))))))))) (show chk KD0 G0 (aX KD0) nX 2000 128 [ctr_87, ctr_177, ctr_178, ctr_179, ctr_180, ctr_181, ctr_182, ctr_183, ctr_184, ctr_185] ctr_192 = true by decide +kernel)
-- X0_pick
set_option maxRecDepth 100000 in
def ctr_193 : CTR := (7, [.inr (some 32), .inr none, .inl (2, 9), .inl (2, 4), .inl (2, 2)], some (.inl (0, 1)), [], [(21, 0)], 3, 0, [(22, [(0, .inr (some 32)), (1, .inr none), (3, .inl (2, 9)), (4, .inl (3, 4)), (5, .inl (2, 2)), (6, .inl (2, 64))], [], [], 128, [(6, -2)])])
set_option maxRecDepth 100000 in
theorem cok_193 {KO : List Nat} (hK : KOS KO) : cOk KD0 KO G0 ctr_193 := chk_ok (G0_xOK hK) (fm_c (cok_87 hK) (fm_c (cok_178 hK) (fm_c (cok_179 hK) (fm_c (cok_180 hK) (fm_c (cok_181 hK) (fm_c (cok_182 hK) (fm_c (cok_183 hK) (fm_c (cok_184 hK) (fm_c (cok_185 hK) fm_n))))))))) (show chk KD0 G0 (aX KD0) nX 2000 128 [ctr_87, ctr_178, ctr_179, ctr_180, ctr_181, ctr_182, ctr_183, ctr_184, ctr_185] ctr_193 = true by decide +kernel)
-- X0_pick
set_option maxRecDepth 100000 in
def ctr_194 : CTR := (7, [.inr (some 32), .inr none, .inl (2, 11), .inl (2, 4), .inl (2, 2)], some (.inl (0, 1)), [], [(21, 0)], 3, 0, [(22, [(0, .inr (some 32)), (1, .inr none), (3, .inl (2, 11)), (4, .inl (3, 4)), (5, .inl (2, 2)), (6, .inl (2, 64))], [], [], 128, [(6, -2)])])
set_option maxRecDepth 100000 in
theorem cok_194 {KO : List Nat} (hK : KOS KO) : cOk KD0 KO G0 ctr_194 := chk_ok (G0_xOK hK) (fm_c (cok_87 hK) (fm_c (cok_179 hK) (fm_c (cok_180 hK) (fm_c (cok_181 hK) (fm_c (cok_182 hK) (fm_c (cok_183 hK) (fm_c (cok_184 hK) (fm_c (cok_185 hK) fm_n)))))))) (show chk KD0 G0 (aX KD0) nX 2000 128 [ctr_87, ctr_179, ctr_180, ctr_181, ctr_182, ctr_183, ctr_184, ctr_185] ctr_194 = true by decide +kernel)
-- X0_pick
set_option maxRecDepth 100000 in
def ctr_195 : CTR := (7, [.inr (some 32), .inr none, .inl (2, 12), .inl (2, 4), .inl (2, 2)], some (.inl (0, 1)), [], [(21, 0)], 3, 0, [(22, [(0, .inr (some 32)), (1, .inr none), (3, .inl (2, 12)), (4, .inl (3, 4)), (5, .inl (2, 2)), (6, .inl (2, 64))], [], [], 128, [(6, -2)])])
set_option maxRecDepth 100000 in
theorem cok_195 {KO : List Nat} (hK : KOS KO) : cOk KD0 KO G0 ctr_195 := chk_ok (G0_xOK hK) (fm_c (cok_87 hK) (fm_c (cok_180 hK) (fm_c (cok_181 hK) (fm_c (cok_182 hK) (fm_c (cok_183 hK) (fm_c (cok_184 hK) (fm_c (cok_185 hK) fm_n))))))) (show chk KD0 G0 (aX KD0) nX 2000 128 [ctr_87, ctr_180, ctr_181, ctr_182, ctr_183, ctr_184, ctr_185] ctr_195 = true by decide +kernel)
-- X0_pick
set_option maxRecDepth 100000 in
def ctr_196 : CTR := (7, [.inr (some 32), .inr none, .inl (2, 13), .inl (2, 4), .inl (2, 2)], some (.inl (0, 1)), [], [(21, 0)], 3, 0, [(22, [(0, .inr (some 32)), (1, .inr none), (3, .inl (2, 13)), (4, .inl (3, 4)), (5, .inl (2, 2)), (6, .inl (2, 64))], [], [], 128, [(6, -2)])])
set_option maxRecDepth 100000 in
theorem cok_196 {KO : List Nat} (hK : KOS KO) : cOk KD0 KO G0 ctr_196 := chk_ok (G0_xOK hK) (fm_c (cok_87 hK) (fm_c (cok_181 hK) (fm_c (cok_182 hK) (fm_c (cok_183 hK) (fm_c (cok_184 hK) (fm_c (cok_185 hK) fm_n)))))) (show chk KD0 G0 (aX KD0) nX 2000 128 [ctr_87, ctr_181, ctr_182, ctr_183, ctr_184, ctr_185] ctr_196 = true by decide +kernel)
-- X0_pick
set_option maxRecDepth 100000 in
def ctr_197 : CTR := (7, [.inr (some 32), .inr none, .inl (2, 14), .inl (2, 4), .inl (2, 2)], some (.inl (0, 1)), [], [(21, 0)], 3, 0, [(22, [(0, .inr (some 32)), (1, .inr none), (3, .inl (2, 14)), (4, .inl (3, 4)), (5, .inl (2, 2)), (6, .inl (2, 64))], [], [], 128, [(6, -2)])])
set_option maxRecDepth 100000 in
theorem cok_197 {KO : List Nat} (hK : KOS KO) : cOk KD0 KO G0 ctr_197 := chk_ok (G0_xOK hK) (fm_c (cok_87 hK) (fm_c (cok_182 hK) (fm_c (cok_183 hK) (fm_c (cok_184 hK) (fm_c (cok_185 hK) fm_n))))) (show chk KD0 G0 (aX KD0) nX 2000 128 [ctr_87, ctr_182, ctr_183, ctr_184, ctr_185] ctr_197 = true by decide +kernel)
-- X0_pick
set_option maxRecDepth 100000 in
def ctr_198 : CTR := (7, [.inr (some 32), .inr none, .inl (2, 16), .inl (2, 4), .inl (2, 2)], some (.inl (0, 1)), [], [(21, 0)], 3, 0, [(22, [(0, .inr (some 32)), (1, .inr none), (3, .inl (2, 16)), (4, .inl (3, 4)), (5, .inl (2, 2)), (6, .inl (2, 64))], [], [], 128, [(6, -2)])])
set_option maxRecDepth 100000 in
theorem cok_198 {KO : List Nat} (hK : KOS KO) : cOk KD0 KO G0 ctr_198 := chk_ok (G0_xOK hK) (fm_c (cok_87 hK) (fm_c (cok_183 hK) (fm_c (cok_184 hK) (fm_c (cok_185 hK) fm_n)))) (show chk KD0 G0 (aX KD0) nX 2000 128 [ctr_87, ctr_183, ctr_184, ctr_185] ctr_198 = true by decide +kernel)
-- X0_pick
set_option maxRecDepth 100000 in
def ctr_199 : CTR := (7, [.inr (some 32), .inr none, .inl (2, 17), .inl (2, 4), .inl (2, 2)], some (.inl (0, 1)), [], [(21, 0)], 3, 0, [(22, [(0, .inr (some 32)), (1, .inr none), (3, .inl (2, 17)), (4, .inl (3, 4)), (5, .inl (2, 2)), (6, .inl (2, 64))], [], [], 128, [(6, -2)])])
set_option maxRecDepth 100000 in
theorem cok_199 {KO : List Nat} (hK : KOS KO) : cOk KD0 KO G0 ctr_199 := chk_ok (G0_xOK hK) (fm_c (cok_87 hK) (fm_c (cok_184 hK) (fm_c (cok_185 hK) fm_n))) (show chk KD0 G0 (aX KD0) nX 2000 128 [ctr_87, ctr_184, ctr_185] ctr_199 = true by decide +kernel)
