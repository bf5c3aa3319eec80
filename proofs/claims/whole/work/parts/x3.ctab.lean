theorem wc_429 : Cond.arrayClass .int ∈ Big := big_t 68 (by decide +kernel) rfl
theorem wc_430 : Cond.arrayClass .boolean ∈ Big := big_t 1629 (by decide +kernel) rfl
theorem wc_431 : Cond.arrayClass .long ∈ Big := big_t 190 (by decide +kernel) rfl
theorem wc_432 : Cond.instanceMethod objectInit ∈ Big := big_t 34 (by decide +kernel) rfl
theorem wc_433 : Cond.code objectInit ⟨#[0xb1]⟩ 1 none ∈ Big := big_t 35 (by decide +kernel) rfl
theorem wc_434 : Cond.methodLink RX11 3 objectInit ∈ Big := big_t 33 (by decide +kernel) rfl
theorem wc_442 : Cond.classLink RX11 9 RX2 ∈ Big := big_t 36 (by decide +kernel) rfl
theorem wc_443 : Cond.instantiable RX2 7 ∈ Big := big_t 37 (by decide +kernel) rfl
theorem wc_445 : Cond.instanceMethod yX2_init ∈ Big := big_t 39 (by decide +kernel) rfl
theorem wc_446 : Cond.code yX2_init cX2_init 1 none ∈ Big := big_t 40 (by decide +kernel) rfl
theorem wc_477 : Cond.classLink RX11 16 RX6 ∈ Big := big_t 69 (by decide +kernel) rfl
theorem wc_478 : Cond.instantiable RX6 11 ∈ Big := big_t 70 (by decide +kernel) rfl
theorem wc_480 : Cond.instanceMethod yX6_init ∈ Big := big_t 72 (by decide +kernel) rfl
theorem wc_481 : Cond.code yX6_init cX6_init 1 none ∈ Big := big_t 73 (by decide +kernel) rfl
theorem wc_489 : Cond.classLink RX11 26 RX3 ∈ Big := big_t 122 (by decide +kernel) rfl
theorem wc_490 : Cond.instantiable RX3 5 ∈ Big := big_t 123 (by decide +kernel) rfl
theorem wc_492 : Cond.instanceMethod yX3_init ∈ Big := big_t 125 (by decide +kernel) rfl
theorem wc_493 : Cond.code yX3_init cX3_init 1 none ∈ Big := big_t 126 (by decide +kernel) rfl
theorem wc_501 : Cond.classLink RX11 36 RX5 ∈ Big := big_t 149 (by decide +kernel) rfl
theorem wc_502 : Cond.instantiable RX5 5 ∈ Big := big_t 150 (by decide +kernel) rfl
theorem wc_504 : Cond.methodLink RX11 38 yX5_init ∈ Big := big_t 151 (by decide +kernel) rfl
theorem wc_505 : Cond.instanceMethod yX5_init ∈ Big := big_t 152 (by decide +kernel) rfl
theorem wc_506 : Cond.code yX5_init cX5_init 4 none ∈ Big := big_t 153 (by decide +kernel) rfl
theorem wc_512 : Cond.classLink RX11 45 RX7 ∈ Big := big_t 171 (by decide +kernel) rfl
theorem wc_513 : Cond.instantiable RX7 4 ∈ Big := big_t 172 (by decide +kernel) rfl
theorem wc_515 : Cond.methodLink RX11 47 yX7_init ∈ Big := big_t 173 (by decide +kernel) rfl
theorem wc_516 : Cond.instanceMethod yX7_init ∈ Big := big_t 174 (by decide +kernel) rfl
theorem wc_517 : Cond.code yX7_init cX7_init 3 none ∈ Big := big_t 175 (by decide +kernel) rfl
theorem wc_528 : Cond.classLink RX11 54 RX9 ∈ Big := big_t 191 (by decide +kernel) rfl
theorem wc_529 : Cond.instantiable RX9 9 ∈ Big := big_t 192 (by decide +kernel) rfl
theorem wc_531 : Cond.methodLink RX11 56 yX9_init ∈ Big := big_t 193 (by decide +kernel) rfl
theorem wc_532 : Cond.instanceMethod yX9_init ∈ Big := big_t 194 (by decide +kernel) rfl
theorem wc_533 : Cond.code yX9_init cX9_init 2 none ∈ Big := big_t 195 (by decide +kernel) rfl
theorem wc_544 : Cond.classLink RX11 63 RX0 ∈ Big := big_t 225 (by decide +kernel) rfl
theorem wc_545 : Cond.instantiable RX0 9 ∈ Big := big_t 226 (by decide +kernel) rfl
theorem wc_547 : Cond.methodLink RX11 65 yX0_init ∈ Big := big_t 227 (by decide +kernel) rfl
theorem wc_548 : Cond.instanceMethod yX0_init ∈ Big := big_t 228 (by decide +kernel) rfl
theorem wc_549 : Cond.code yX0_init cX0_init 4 none ∈ Big := big_t 229 (by decide +kernel) rfl
theorem wc_556 : Cond.classLink RX11 72 RX8 ∈ Big := big_t 259 (by decide +kernel) rfl
theorem wc_557 : Cond.instantiable RX8 5 ∈ Big := big_t 260 (by decide +kernel) rfl
theorem wc_559 : Cond.methodLink RX11 74 yX8_init ∈ Big := big_t 261 (by decide +kernel) rfl
theorem wc_560 : Cond.instanceMethod yX8_init ∈ Big := big_t 262 (by decide +kernel) rfl
theorem wc_561 : Cond.code yX8_init cX8_init 2 none ∈ Big := big_t 263 (by decide +kernel) rfl
theorem wc_566 : Cond.classLink RX11 81 RX10 ∈ Big := big_t 281 (by decide +kernel) rfl
theorem wc_567 : Cond.instantiable RX10 3 ∈ Big := big_t 282 (by decide +kernel) rfl
theorem wc_569 : Cond.methodLink RX11 83 yX10_init ∈ Big := big_t 283 (by decide +kernel) rfl
theorem wc_570 : Cond.instanceMethod yX10_init ∈ Big := big_t 284 (by decide +kernel) rfl
theorem wc_571 : Cond.code yX10_init cX10_init 4 none ∈ Big := big_t 285 (by decide +kernel) rfl
theorem wc_576 : Cond.classLink RX11 88 RX1 ∈ Big := big_t 297 (by decide +kernel) rfl
theorem wc_577 : Cond.instantiable RX1 3 ∈ Big := big_t 298 (by decide +kernel) rfl
theorem wc_579 : Cond.methodLink RX11 90 yX1_init ∈ Big := big_t 299 (by decide +kernel) rfl
theorem wc_580 : Cond.instanceMethod yX1_init ∈ Big := big_t 300 (by decide +kernel) rfl
theorem wc_581 : Cond.code yX1_init cX1_init 2 none ∈ Big := big_t 301 (by decide +kernel) rfl
theorem wc_589 : Cond.methodLink RX2 3 objectInit ∈ Big := big_t 41 (by decide +kernel) rfl
theorem wc_597 : Cond.methodLink RX6 3 objectInit ∈ Big := big_t 74 (by decide +kernel) rfl
theorem wc_609 : Cond.methodLink RX3 3 objectInit ∈ Big := big_t 127 (by decide +kernel) rfl
theorem wc_615 : Cond.methodLink RX5 3 objectInit ∈ Big := big_t 154 (by decide +kernel) rfl
theorem wc_621 : Cond.methodLink RX7 3 objectInit ∈ Big := big_t 176 (by decide +kernel) rfl
theorem wc_626 : Cond.methodLink RX9 3 objectInit ∈ Big := big_t 196 (by decide +kernel) rfl
theorem wc_636 : Cond.methodLink RX0 3 objectInit ∈ Big := big_t 230 (by decide +kernel) rfl
theorem wc_646 : Cond.methodLink RX8 3 objectInit ∈ Big := big_t 264 (by decide +kernel) rfl
theorem wc_652 : Cond.methodLink RX10 3 objectInit ∈ Big := big_t 286 (by decide +kernel) rfl
theorem wc_656 : Cond.methodLink RX1 3 objectInit ∈ Big := big_t 302 (by decide +kernel) rfl
theorem wc_659 : Cond.classLink RX1 18 RX6 ∈ Big := big_t 303 (by decide +kernel) rfl
theorem wc_661 : Cond.methodLink RX12 1 objectInit ∈ Big := big_t 1504 (by decide +kernel) rfl
theorem wc_725 : Cond.classLink RL 8 RX11 ∈ Big := big_t 28 (by decide +kernel) rfl
theorem wc_726 : Cond.instantiable RX11 18 ∈ Big := big_t 29 (by decide +kernel) rfl
theorem wc_727 : Cond.classLink RL 173 RX12 ∈ Big := big_t 1499 (by decide +kernel) rfl
theorem wc_728 : Cond.instantiable RX12 41 ∈ Big := big_t 1500 (by decide +kernel) rfl
theorem wc_729 : Cond.methodLink RL 172 yX11_init ∈ Big := big_t 30 (by decide +kernel) rfl
theorem wc_730 : Cond.instanceMethod yX11_init ∈ Big := big_t 31 (by decide +kernel) rfl
theorem wc_731 : Cond.code yX11_init cX11_init 1 none ∈ Big := big_t 32 (by decide +kernel) rfl
theorem wc_732 : Cond.methodLink RL 175 yX12_init ∈ Big := big_t 1501 (by decide +kernel) rfl
theorem wc_733 : Cond.instanceMethod yX12_init ∈ Big := big_t 1502 (by decide +kernel) rfl
theorem wc_734 : Cond.code yX12_init cX12_init 1 none ∈ Big := big_t 1503 (by decide +kernel) rfl
theorem nw_X11_9 : Nw RX11 9 2 7 [.int 0, .int 0, .int 0, .int 0, .int 0, .int 0, .null] := ⟨_, _, _, kc_X2, wc_442, wc_443, w_688, (lt_s (lt_s (lt_s (lt_s (lt_s (lt_s (lt_s lt_0 rfl) rfl) rfl) rfl) rfl) rfl) rfl)⟩
theorem cdl_yX2_init : Cd yX2_init 0 := ⟨by decide +kernel, by decide +kernel, by decide +kernel⟩
theorem cI_X11_11 : CIN RX11 11 yX2_init cX2_init 1 0 := ⟨by decide, wc_445, w_688, wc_446, rfl, cdl_yX2_init⟩
theorem nw_X11_16 : Nw RX11 16 5 11 [.int 0, .int 0, .int 0, .null, .null, .null, .null, .null, .null, .null, .null] := ⟨_, _, _, kc_X6, wc_477, wc_478, w_649, (lt_s (lt_s (lt_s (lt_s (lt_s (lt_s (lt_s (lt_s (lt_s (lt_s (lt_s lt_0 rfl) rfl) rfl) rfl) rfl) rfl) rfl) rfl) rfl) rfl) rfl)⟩
theorem cdl_yX6_init : Cd yX6_init 0 := ⟨by decide +kernel, by decide +kernel, by decide +kernel⟩
theorem cI_X11_18 : CIN RX11 18 yX6_init cX6_init 1 0 := ⟨by decide, wc_480, w_649, wc_481, rfl, cdl_yX6_init⟩
theorem nw_X11_26 : Nw RX11 26 3 5 [.int 0, .long 0, .null, .null, .null] := ⟨_, _, _, kc_X3, wc_489, wc_490, w_656, (lt_s (lt_s (lt_s (lt_s (lt_s lt_0 rfl) rfl) rfl) rfl) rfl)⟩
theorem cdl_yX3_init : Cd yX3_init 0 := ⟨by decide +kernel, by decide +kernel, by decide +kernel⟩
theorem cI_X11_28 : CIN RX11 28 yX3_init cX3_init 1 0 := ⟨by decide, wc_492, w_656, wc_493, rfl, cdl_yX3_init⟩
theorem nw_X11_36 : Nw RX11 36 4 5 [.null, .null, .null, .int 0, .int 0] := ⟨_, _, _, kc_X5, wc_501, wc_502, w_750, (lt_s (lt_s (lt_s (lt_s (lt_s lt_0 rfl) rfl) rfl) rfl) rfl)⟩
theorem cdl_yX5_init : Cd yX5_init 3 := ⟨by decide +kernel, by decide +kernel, by decide +kernel⟩
theorem cI_X11_38 : CI RX11 38 yX5_init cX5_init 4 3 := ⟨wc_504, wc_505, w_750, wc_506, rfl, cdl_yX5_init⟩
theorem nw_X11_45 : Nw RX11 45 6 4 [.null, .null, .null, .int 0] := ⟨_, _, _, kc_X7, wc_512, wc_513, w_660, (lt_s (lt_s (lt_s (lt_s lt_0 rfl) rfl) rfl) rfl)⟩
theorem cdl_yX7_init : Cd yX7_init 2 := ⟨by decide +kernel, by decide +kernel, by decide +kernel⟩
theorem cI_X11_47 : CI RX11 47 yX7_init cX7_init 3 2 := ⟨wc_515, wc_516, w_660, wc_517, rfl, cdl_yX7_init⟩
theorem nw_X11_54 : Nw RX11 54 8 9 [.null, .null, .null, .null, .null, .null, .null, .int 0, .int 0] := ⟨_, _, _, kc_X9, wc_528, wc_529, w_846, (lt_s (lt_s (lt_s (lt_s (lt_s (lt_s (lt_s (lt_s (lt_s lt_0 rfl) rfl) rfl) rfl) rfl) rfl) rfl) rfl) rfl)⟩
theorem cdl_yX9_init : Cd yX9_init 1 := ⟨by decide +kernel, by decide +kernel, by decide +kernel⟩
theorem cI_X11_56 : CI RX11 56 yX9_init cX9_init 2 1 := ⟨wc_531, wc_532, w_846, wc_533, rfl, cdl_yX9_init⟩
theorem nw_X11_63 : Nw RX11 63 0 9 [.null, .null, .null, .null, .null, .null, .int 0, .int 0, .int 0] := ⟨_, _, _, kc_X0, wc_544, wc_545, w_664, (lt_s (lt_s (lt_s (lt_s (lt_s (lt_s (lt_s (lt_s (lt_s lt_0 rfl) rfl) rfl) rfl) rfl) rfl) rfl) rfl) rfl)⟩
theorem cdl_yX0_init : Cd yX0_init 3 := ⟨by decide +kernel, by decide +kernel, by decide +kernel⟩
theorem cI_X11_65 : CI RX11 65 yX0_init cX0_init 4 3 := ⟨wc_547, wc_548, w_664, wc_549, rfl, cdl_yX0_init⟩
theorem nw_X11_72 : Nw RX11 72 7 5 [.null, .null, .null, .int 0, .int 0] := ⟨_, _, _, kc_X8, wc_556, wc_557, w_828, (lt_s (lt_s (lt_s (lt_s (lt_s lt_0 rfl) rfl) rfl) rfl) rfl)⟩
theorem cdl_yX8_init : Cd yX8_init 1 := ⟨by decide +kernel, by decide +kernel, by decide +kernel⟩
theorem cI_X11_74 : CI RX11 74 yX8_init cX8_init 2 1 := ⟨wc_559, wc_560, w_828, wc_561, rfl, cdl_yX8_init⟩
theorem nw_X11_81 : Nw RX11 81 9 3 [.null, .null, .null] := ⟨_, _, _, kc_X10, wc_566, wc_567, w_891, (lt_s (lt_s (lt_s lt_0 rfl) rfl) rfl)⟩
theorem cdl_yX10_init : Cd yX10_init 3 := ⟨by decide +kernel, by decide +kernel, by decide +kernel⟩
theorem cI_X11_83 : CI RX11 83 yX10_init cX10_init 4 3 := ⟨wc_569, wc_570, w_891, wc_571, rfl, cdl_yX10_init⟩
theorem nw_X11_88 : Nw RX11 88 1 3 [.int 0, .int 0, .null] := ⟨_, _, _, kc_X1, wc_576, wc_577, w_927, (lt_s (lt_s (lt_s lt_0 rfl) rfl) rfl)⟩
theorem cdl_yX1_init : Cd yX1_init 0 := ⟨by decide +kernel, by decide +kernel, by decide +kernel⟩
theorem cI_X11_90 : CI RX11 90 yX1_init cX1_init 2 0 := ⟨wc_579, wc_580, w_927, wc_581, rfl, cdl_yX1_init⟩
theorem nw_X1_18 : Nw RX1 18 5 11 [.int 0, .int 0, .int 0, .null, .null, .null, .null, .null, .null, .null, .null] := ⟨_, _, _, kc_X6, wc_659, wc_478, w_649, (lt_s (lt_s (lt_s (lt_s (lt_s (lt_s (lt_s (lt_s (lt_s (lt_s (lt_s lt_0 rfl) rfl) rfl) rfl) rfl) rfl) rfl) rfl) rfl) rfl) rfl)⟩
theorem cI_X1_24 : CIN RX1 24 yX6_init cX6_init 1 0 := ⟨by decide, wc_480, w_649, wc_481, rfl, cdl_yX6_init⟩
theorem nw_L_8 : Nw RL 8 10 18 [.null, .null, .null, .null, .null, .null, .null, .null, .null, .null, .null, .null, .null, .null, .null, .int 0, .int 0, .int 0] := ⟨_, _, _, kc_X11, wc_725, wc_726, w_678, (lt_s (lt_s (lt_s (lt_s (lt_s (lt_s (lt_s (lt_s (lt_s (lt_s (lt_s (lt_s (lt_s (lt_s (lt_s (lt_s (lt_s (lt_s lt_0 rfl) rfl) rfl) rfl) rfl) rfl) rfl) rfl) rfl) rfl) rfl) rfl) rfl) rfl) rfl) rfl) rfl) rfl)⟩
theorem nw_L_173 : Nw RL 173 11 41 [.int 0, .int 0, .null, .null, .int 0, .null, .null, .int 0, .int 0, .int 0, .int 0, .int 0, .int 0, .int 0, .null, .int 0, .int 0, .int 0, .int 0, .null, .int 0, .null, .null, .null, .null, .null, .null, .int 0, .null, .null, .null, .null, .null, .null, .int 0, .null, .int 0, .null, .int 0, .null, .int 0] := ⟨_, _, _, kc_X12, wc_727, wc_728, w_1075, (lt_s (lt_s (lt_s (lt_s (lt_s (lt_s (lt_s (lt_s (lt_s (lt_s (lt_s (lt_s (lt_s (lt_s (lt_s (lt_s (lt_s (lt_s (lt_s (lt_s (lt_s (lt_s (lt_s (lt_s (lt_s (lt_s (lt_s (lt_s (lt_s (lt_s (lt_s (lt_s (lt_s (lt_s (lt_s (lt_s (lt_s (lt_s (lt_s (lt_s (lt_s lt_0 rfl) rfl) rfl) rfl) rfl) rfl) rfl) rfl) rfl) rfl) rfl) rfl) rfl) rfl) rfl) rfl) rfl) rfl) rfl) rfl) rfl) rfl) rfl) rfl) rfl) rfl) rfl) rfl) rfl) rfl) rfl) rfl) rfl) rfl) rfl) rfl) rfl) rfl) rfl) rfl) rfl)⟩
theorem cdl_yX11_init : Cd yX11_init 0 := ⟨by decide +kernel, by decide +kernel, by decide +kernel⟩
theorem cI_L_172 : CI RL 172 yX11_init cX11_init 1 0 := ⟨wc_729, wc_730, w_678, wc_731, rfl, cdl_yX11_init⟩
theorem cdl_yX12_init : Cd yX12_init 0 := ⟨by decide +kernel, by decide +kernel, by decide +kernel⟩
theorem cI_L_175 : CI RL 175 yX12_init cX12_init 1 0 := ⟨wc_732, wc_733, w_1075, wc_734, rfl, cdl_yX12_init⟩
/-! the constructors: their tables -/
def ilc : Instr → Nat
  | .newarray _ => 2
  | .anewarray _ => 3
  | i => ilen i
def dOC (cc : ByteArray) (t : List (Nat × Instr)) : Prop := t.all (fun q => decide (decode cc q.1 = .ok (q.2, ilc q.2))) = true
theorem dOC_lk {cc : ByteArray} {t : List (Nat × Instr)} {pc : Nat} {i : Instr} (h : dOC cc t) (hi : lkp t pc = some i) : decode cc pc = .ok (i, ilc i) := by
  have h1 := lkp_mem hi
  have h2 := List.all_eq_true.mp h _ h1
  exact of_decide_eq_true h2
/-- a constructor: head, code, fields (place, class, number, type, final), what it makes (place, class, size, start), rows of plans, constructors that it calls (place, number, of a nest mate, arguments), Object's own -/
abbrev CTb : Type := MI × List (Nat × Instr) × List (Nat × Nat × Nat × FieldType × Bool) × List (Nat × Nat × Nat × List Value) × List Nat × List (Nat × Nat × Bool × Nat) × List Nat
def mic_0 : MI := (yX11_init, cX11_init, 1, none, [])
def fcc_0 : List (Nat × Instr) := [(0, .aload_n 0), (1, .invokespecial 3), (4, .aload_n 0), (5, .new 9), (8, .dup), (9, .invokespecial 11), (12, .putfield 12), (15, .aload_n 0), (16, .new 16), (19, .dup), (20, .invokespecial 18), (23, .putfield 19), (26, .aload_n 0), (27, .new 16), (30, .dup), (31, .invokespecial 18), (34, .putfield 23), (37, .aload_n 0), (38, .new 26), (41, .dup), (42, .invokespecial 28), (45, .putfield 29), (48, .aload_n 0), (49, .new 26), (52, .dup), (53, .invokespecial 28), (56, .putfield 33), (59, .aload_n 0), (60, .new 36), (63, .dup), (64, .aload_n 0), (65, .getfield 12), (68, .aload_n 0), (69, .getfield 23), (72, .aload_n 0), (73, .getfield 33), (76, .invokespecial 38), (79, .putfield 41), (82, .aload_n 0), (83, .new 45), (86, .dup), (87, .aload_n 0), (88, .getfield 19), (91, .aload_n 0), (92, .getfield 29), (95, .invokespecial 47), (98, .putfield 50), (101, .aload_n 0), (102, .new 54), (105, .dup), (106, .aload_n 0), (107, .getfield 19), (110, .invokespecial 56), (113, .putfield 59), (116, .aload_n 0), (117, .new 63), (120, .dup), (121, .aload_n 0), (122, .getfield 19), (125, .aload_n 0), (126, .getfield 29), (129, .aload_n 0), (130, .getfield 50), (133, .invokespecial 65), (136, .putfield 68), (139, .aload_n 0), (140, .new 72), (143, .dup), (144, .aload_n 0), (145, .getfield 50), (148, .invokespecial 74), (151, .putfield 77), (154, .aload_n 0), (155, .new 81), (158, .dup), (159, .aload_n 0), (160, .getfield 19), (163, .aload_n 0), (164, .getfield 29), (167, .aload_n 0), (168, .getfield 50), (171, .invokespecial 83), (174, .putfield 84), (177, .aload_n 0), (178, .new 88), (181, .dup), (182, .invokespecial 90), (185, .putfield 91), (188, .aload_n 0), (189, .new 16), (192, .dup), (193, .invokespecial 18), (196, .putfield 95), (199, .aload_n 0), (200, .new 16), (203, .dup), (204, .invokespecial 18), (207, .putfield 98), (210, .aload_n 0), (211, .bipush 16), (213, .newarray .int), (215, .putfield 101), (218, .aload_n 0), (219, .iconst 0), (220, .putfield 105), (223, .aload_n 0), (224, .iconst 0), (225, .putfield 109), (228, .aload_n 0), (229, .iconst (-1)), (230, .putfield 113), (233, .return_)]
theorem dcc_0 : dOC cX11_init fcc_0 := by unfold dOC; decide +kernel
def mic_1 : MI := (yX2_init, cX2_init, 1, none, [])
def fcc_1 : List (Nat × Instr) := [(0, .aload_n 0), (1, .invokespecial 3), (4, .aload_n 0), (5, .iconst 0), (6, .putfield 9), (9, .aload_n 0), (10, .iconst 0), (11, .putfield 15), (14, .aload_n 0), (15, .iconst 0), (16, .putfield 18), (19, .aload_n 0), (20, .iconst 0), (21, .putfield 21), (24, .aload_n 0), (25, .iconst 0), (26, .putfield 24), (29, .aload_n 0), (30, .iconst 0), (31, .putfield 27), (34, .aload_n 0), (35, .sipush 600), (38, .newarray .int), (40, .putfield 30), (43, .return_)]
theorem dcc_1 : dOC cX2_init fcc_1 := by unfold dOC; decide +kernel
def mic_2 : MI := (yX6_init, cX6_init, 1, none, [])
def fcc_2 : List (Nat × Instr) := [(0, .aload_n 0), (1, .invokespecial 3), (4, .aload_n 0), (5, .iconst 0), (6, .putfield 9), (9, .aload_n 0), (10, .iconst 0), (11, .putfield 15), (14, .aload_n 0), (15, .iconst 0), (16, .putfield 18), (19, .aload_n 0), (20, .bipush 12), (22, .newarray .int), (24, .putfield 21), (27, .aload_n 0), (28, .bipush 12), (30, .newarray .int), (32, .putfield 25), (35, .aload_n 0), (36, .bipush 6), (38, .newarray .int), (40, .putfield 28), (43, .aload_n 0), (44, .bipush 6), (46, .newarray .int), (48, .putfield 31), (51, .aload_n 0), (52, .bipush 6), (54, .newarray .int), (56, .putfield 34), (59, .aload_n 0), (60, .bipush 6), (62, .newarray .int), (64, .putfield 37), (67, .aload_n 0), (68, .bipush 6), (70, .newarray .int), (72, .putfield 40), (75, .aload_n 0), (76, .bipush 6), (78, .newarray .int), (80, .putfield 43), (83, .return_)]
theorem dcc_2 : dOC cX6_init fcc_2 := by unfold dOC; decide +kernel
def mic_3 : MI := (yX3_init, cX3_init, 1, none, [])
def fcc_3 : List (Nat × Instr) := [(0, .aload_n 0), (1, .invokespecial 3), (4, .aload_n 0), (5, .iconst 0), (6, .putfield 9), (9, .aload_n 0), (10, .lconst 0), (11, .putfield 15), (14, .aload_n 0), (15, .bipush 64), (17, .newarray .int), (19, .putfield 19), (22, .aload_n 0), (23, .bipush 64), (25, .newarray .int), (27, .putfield 23), (30, .aload_n 0), (31, .sipush 256), (34, .newarray .int), (36, .putfield 26), (39, .return_)]
theorem dcc_3 : dOC cX3_init fcc_3 := by unfold dOC; decide +kernel
def mic_4 : MI := (yX5_init, cX5_init, 4, none, [])
def fcc_4 : List (Nat × Instr) := [(0, .aload_n 0), (1, .invokespecial 3), (4, .aload_n 0), (5, .iconst 0), (6, .putfield 9), (9, .aload_n 0), (10, .iconst 0), (11, .putfield 15), (14, .aload_n 0), (15, .aload_n 1), (16, .putfield 18), (19, .aload_n 0), (20, .aload_n 2), (21, .putfield 22), (24, .aload_n 0), (25, .aload_n 3), (26, .putfield 26), (29, .return_)]
theorem dcc_4 : dOC cX5_init fcc_4 := by unfold dOC; decide +kernel
def mic_5 : MI := (yX7_init, cX7_init, 3, none, [])
def fcc_5 : List (Nat × Instr) := [(0, .aload_n 0), (1, .invokespecial 3), (4, .aload_n 0), (5, .bipush 64), (7, .newarray .long), (9, .putfield 9), (12, .aload_n 0), (13, .iconst 0), (14, .putfield 15), (17, .aload_n 0), (18, .aload_n 1), (19, .putfield 19), (22, .aload_n 0), (23, .aload_n 2), (24, .putfield 23), (27, .return_)]
theorem dcc_5 : dOC cX7_init fcc_5 := by unfold dOC; decide +kernel
def mic_6 : MI := (yX9_init, cX9_init, 2, none, [])
def fcc_6 : List (Nat × Instr) := [(0, .aload_n 0), (1, .invokespecial 3), (4, .aload_n 0), (5, .bipush 10), (7, .newarray .int), (9, .putfield 9), (12, .aload_n 0), (13, .bipush 10), (15, .newarray .int), (17, .putfield 15), (20, .aload_n 0), (21, .bipush 10), (23, .newarray .int), (25, .putfield 18), (28, .aload_n 0), (29, .bipush 10), (31, .newarray .int), (33, .putfield 21), (36, .aload_n 0), (37, .bipush 12), (39, .newarray .int), (41, .putfield 24), (44, .aload_n 0), (45, .bipush 12), (47, .newarray .int), (49, .putfield 27), (52, .aload_n 0), (53, .iconst 0), (54, .putfield 30), (57, .aload_n 0), (58, .iconst 0), (59, .putfield 34), (62, .aload_n 0), (63, .aload_n 1), (64, .putfield 38), (67, .return_)]
theorem dcc_6 : dOC cX9_init fcc_6 := by unfold dOC; decide +kernel
def mic_7 : MI := (yX0_init, cX0_init, 4, none, [])
def fcc_7 : List (Nat × Instr) := [(0, .aload_n 0), (1, .invokespecial 3), (4, .aload_n 0), (5, .bipush 12), (7, .newarray .long), (9, .putfield 9), (12, .aload_n 0), (13, .bipush 65), (15, .newarray .long), (17, .putfield 15), (20, .aload_n 0), (21, .iconst 4), (22, .newarray .int), (24, .putfield 18), (27, .aload_n 0), (28, .iconst 0), (29, .putfield 22), (32, .aload_n 0), (33, .iconst 0), (34, .putfield 26), (37, .aload_n 0), (38, .iconst 0), (39, .putfield 29), (42, .aload_n 0), (43, .aload_n 1), (44, .putfield 32), (47, .aload_n 0), (48, .aload_n 2), (49, .putfield 36), (52, .aload_n 0), (53, .aload_n 3), (54, .putfield 40), (57, .return_)]
theorem dcc_7 : dOC cX0_init fcc_7 := by unfold dOC; decide +kernel
def mic_8 : MI := (yX8_init, cX8_init, 2, none, [])
def fcc_8 : List (Nat × Instr) := [(0, .aload_n 0), (1, .invokespecial 3), (4, .aload_n 0), (5, .bipush 64), (7, .newarray .long), (9, .putfield 9), (12, .aload_n 0), (13, .iconst 4), (14, .newarray .int), (16, .putfield 15), (19, .aload_n 0), (20, .iconst 0), (21, .putfield 19), (24, .aload_n 0), (25, .iconst 0), (26, .putfield 23), (29, .aload_n 0), (30, .aload_n 1), (31, .putfield 26), (34, .return_)]
theorem dcc_8 : dOC cX8_init fcc_8 := by unfold dOC; decide +kernel
def mic_9 : MI := (yX10_init, cX10_init, 4, none, [])
def fcc_9 : List (Nat × Instr) := [(0, .aload_n 0), (1, .invokespecial 3), (4, .aload_n 0), (5, .aload_n 1), (6, .putfield 9), (9, .aload_n 0), (10, .aload_n 2), (11, .putfield 15), (14, .aload_n 0), (15, .aload_n 3), (16, .putfield 19), (19, .return_)]
theorem dcc_9 : dOC cX10_init fcc_9 := by unfold dOC; decide +kernel
def mic_10 : MI := (yX1_init, cX1_init, 2, none, [])
def fcc_10 : List (Nat × Instr) := [(0, .aload_n 0), (1, .invokespecial 3), (4, .aload_n 0), (5, .iconst 0), (6, .putfield 9), (9, .aload_n 0), (10, .iconst 0), (11, .putfield 15), (14, .aload_n 0), (15, .bipush 8), (17, .anewarray 18), (20, .putfield 20), (23, .iconst 0), (24, .istore_n 1), (25, .iload_n 1), (26, .bipush 8), (28, .if_icmp .ge 22), (31, .aload_n 0), (32, .getfield 20), (35, .iload_n 1), (36, .new 18), (39, .dup), (40, .invokespecial 24), (43, .aastore), (44, .iinc 1 1), (47, .goto (-22)), (50, .return_)]
theorem dcc_10 : dOC cX1_init fcc_10 := by unfold dOC; decide +kernel
def mic_11 : MI := (yX12_init, cX12_init, 1, none, [])
def fcc_11 : List (Nat × Instr) := [(0, .aload_n 0), (1, .invokespecial 1), (4, .aload_n 0), (5, .bipush 63), (7, .newarray .int), (9, .putfield 7), (12, .aload_n 0), (13, .sipush 693), (16, .newarray .int), (18, .putfield 13), (21, .aload_n 0), (22, .iconst 2), (23, .newarray .boolean), (25, .putfield 16), (28, .aload_n 0), (29, .sipush 600), (32, .newarray .int), (34, .putfield 20), (37, .aload_n 0), (38, .iconst (-1)), (39, .putfield 23), (42, .aload_n 0), (43, .bipush 8), (45, .newarray .int), (47, .putfield 27), (50, .aload_n 0), (51, .bipush 63), (53, .newarray .int), (55, .putfield 30), (58, .aload_n 0), (59, .bipush 64), (61, .newarray .int), (63, .putfield 33), (66, .aload_n 0), (67, .bipush 64), (69, .newarray .int), (71, .putfield 36), (74, .aload_n 0), (75, .sipush 256), (78, .newarray .int), (80, .putfield 39), (83, .aload_n 0), (84, .bipush 14), (86, .newarray .long), (88, .putfield 42), (91, .aload_n 0), (92, .bipush 14), (94, .newarray .long), (96, .putfield 46), (99, .aload_n 0), (100, .bipush 14), (102, .newarray .long), (104, .putfield 49), (107, .aload_n 0), (108, .bipush 64), (110, .newarray .long), (112, .putfield 52), (115, .aload_n 0), (116, .bipush 12), (118, .newarray .long), (120, .putfield 55), (123, .aload_n 0), (124, .bipush 64), (126, .newarray .int), (128, .putfield 58), (131, .aload_n 0), (132, .bipush 12), (134, .newarray .int), (136, .putfield 61), (139, .aload_n 0), (140, .bipush 30), (142, .newarray .int), (144, .putfield 64), (147, .aload_n 0), (148, .bipush 12), (150, .newarray .int), (152, .putfield 67), (155, .aload_n 0), (156, .iconst 4), (157, .newarray .int), (159, .putfield 70), (162, .aload_n 0), (163, .iconst 4), (164, .newarray .int), (166, .putfield 73), (169, .aload_n 0), (170, .bipush 16), (172, .newarray .int), (174, .putfield 76), (177, .return_)]
theorem dcc_11 : dOC cX12_init fcc_11 := by unfold dOC; decide +kernel
def CTL : List CTb := [(mic_0, fcc_0, [(12, 10, 0, .object "GalleryGuards$Input", true), (19, 10, 2, .object "GalleryGuards$Plan", true), (23, 10, 3, .object "GalleryGuards$Plan", true), (29, 10, 4, .object "GalleryGuards$Lattice", true), (33, 10, 5, .object "GalleryGuards$Lattice", true), (41, 10, 1, .object "GalleryGuards$Parse\x72", true), (50, 10, 6, .object "GalleryGuards$Sight", true), (59, 10, 7, .object "GalleryGuards$Triangulation", true), (68, 10, 8, .object "GalleryGuards$CoverSearch", true), (77, 10, 9, .object "GalleryGuards$SpreadSearch", true), (84, 10, 10, .object "GalleryGuards$Watch", true), (91, 10, 11, .object "GalleryGuards$History", true), (95, 10, 12, .object "GalleryGuards$Plan", true), (98, 10, 13, .object "GalleryGuards$Plan", true), (101, 10, 14, .array .int, true), (105, 10, 15, .boolean, false), (109, 10, 16, .int, false), (113, 10, 17, .int, false)], [(9, 2, 7, [.int 0, .int 0, .int 0, .int 0, .int 0, .int 0, .null]), (16, 5, 11, [.int 0, .int 0, .int 0, .null, .null, .null, .null, .null, .null, .null, .null]), (26, 3, 5, [.int 0, .long 0, .null, .null, .null]), (36, 4, 5, [.null, .null, .null, .int 0, .int 0]), (45, 6, 4, [.null, .null, .null, .int 0]), (54, 8, 9, [.null, .null, .null, .null, .null, .null, .null, .int 0, .int 0]), (63, 0, 9, [.null, .null, .null, .null, .null, .null, .int 0, .int 0, .int 0]), (72, 7, 5, [.null, .null, .null, .int 0, .int 0]), (81, 9, 3, [.null, .null, .null]), (88, 1, 3, [.int 0, .int 0, .null])], [], [(11, 1, true, 0), (18, 2, true, 0), (28, 3, true, 0), (38, 4, false, 3), (47, 5, false, 2), (56, 6, false, 1), (65, 7, false, 3), (74, 8, false, 1), (83, 9, false, 3), (90, 10, false, 0)], [3]),
  (mic_1, fcc_1, [(9, 2, 0, .int, false), (15, 2, 1, .int, false), (18, 2, 2, .int, false), (21, 2, 3, .int, false), (24, 2, 4, .int, false), (27, 2, 5, .int, false), (30, 2, 6, .array .int, true)], [], [], [], [3]),
  (mic_2, fcc_2, [(9, 5, 0, .int, false), (15, 5, 1, .int, false), (18, 5, 2, .int, false), (21, 5, 3, .array .int, true), (25, 5, 4, .array .int, true), (28, 5, 5, .array .int, true), (31, 5, 6, .array .int, true), (34, 5, 7, .array .int, true), (37, 5, 8, .array .int, true), (40, 5, 9, .array .int, true), (43, 5, 10, .array .int, true)], [], [], [], [3]),
  (mic_3, fcc_3, [(9, 3, 0, .int, false), (15, 3, 1, .long, false), (19, 3, 2, .array .int, true), (23, 3, 3, .array .int, true), (26, 3, 4, .array .int, true)], [], [], [], [3]),
  (mic_4, fcc_4, [(9, 4, 3, .int, false), (15, 4, 4, .int, false), (18, 4, 0, .object "GalleryGuards$Input", true), (22, 4, 1, .object "GalleryGuards$Plan", true), (26, 4, 2, .object "GalleryGuards$Lattice", true)], [], [], [], [3]),
  (mic_5, fcc_5, [(9, 6, 2, .array .long, true), (15, 6, 3, .boolean, false), (19, 6, 0, .object "GalleryGuards$Plan", true), (23, 6, 1, .object "GalleryGuards$Lattice", true)], [], [], [], [3]),
  (mic_6, fcc_6, [(9, 8, 1, .array .int, true), (15, 8, 2, .array .int, true), (18, 8, 3, .array .int, true), (21, 8, 4, .array .int, true), (24, 8, 5, .array .int, true), (27, 8, 6, .array .int, true), (30, 8, 7, .int, false), (34, 8, 8, .boolean, false), (38, 8, 0, .object "GalleryGuards$Plan", true)], [], [], [], [3]),
  (mic_7, fcc_7, [(9, 0, 3, .array .long, true), (15, 0, 4, .array .long, true), (18, 0, 5, .array .int, true), (22, 0, 6, .int, false), (26, 0, 7, .int, false), (29, 0, 8, .int, false), (32, 0, 0, .object "GalleryGuards$Plan", true), (36, 0, 1, .object "GalleryGuards$Lattice", true), (40, 0, 2, .object "GalleryGuards$Sight", true)], [], [], [], [3]),
  (mic_8, fcc_8, [(9, 7, 1, .array .long, true), (15, 7, 2, .array .int, true), (19, 7, 3, .int, false), (23, 7, 4, .int, false), (26, 7, 0, .object "GalleryGuards$Sight", true)], [], [], [], [3]),
  (mic_9, fcc_9, [(9, 9, 0, .object "GalleryGuards$Plan", true), (15, 9, 1, .object "GalleryGuards$Lattice", true), (19, 9, 2, .object "GalleryGuards$Sight", true)], [], [], [], [3]),
  (mic_10, fcc_10, [(9, 1, 0, .int, false), (15, 1, 1, .int, false), (20, 1, 2, .array (.object "GalleryGuards$Plan"), true)], [(18, 5, 11, [.int 0, .int 0, .int 0, .null, .null, .null, .null, .null, .null, .null, .null])], [18], [(24, 2, true, 0)], [3]),
  (mic_11, fcc_11, [(7, 11, 2, .array .int, true), (13, 11, 3, .array .int, true), (16, 11, 5, .array .boolean, true), (20, 11, 6, .array .int, true), (23, 11, 9, .int, false), (27, 11, 14, .array .int, true), (30, 11, 19, .array .int, true), (33, 11, 21, .array .int, true), (36, 11, 22, .array .int, true), (39, 11, 23, .array .int, true), (42, 11, 24, .array .long, true), (46, 11, 25, .array .long, true), (49, 11, 26, .array .long, true), (52, 11, 28, .array .long, true), (55, 11, 29, .array .long, true), (58, 11, 30, .array .int, true), (61, 11, 31, .array .int, true), (64, 11, 32, .array .int, true), (67, 11, 33, .array .int, true), (70, 11, 35, .array .int, true), (73, 11, 37, .array .int, true), (76, 11, 39, .array .int, true)], [], [], [], [1])]
def ctb (k : Nat) : Option CTb := CTL[k]?
def cE (own : String) (e : Nat × Nat × Bool × Nat) : Prop := ∃ M, (ctb e.2.1).map (fun t => t.1) = some M ∧ (e.2.2.1 = true → CIN own e.1 M.1 M.2.1 M.2.2.1 e.2.2.2) ∧ (e.2.2.1 = false → CI own e.1 M.1 M.2.1 M.2.2.1 e.2.2.2)
/-- what the tables of a constructor say is so -/
def CTok (t : CTb) : Prop := (plainName t.1.1.cls = true ∧ t.1.2.2.1 ≤ 150 ∧ t.1.2.2.2 = (none, []) ∧ t.1.1.name = "<init>") ∧ dOC t.1.2.1 t.2.1 ∧
  (∀ q ∈ t.2.2.1, ∃ dec, (q.2.2.2.2 = true → dec = true) ∧ Fg t.1.1.cls q.1 q.2.1 q.2.2.1 q.2.2.2.1 q.2.2.2.2 dec) ∧
  (∀ q ∈ t.2.2.2.1, Nw t.1.1.cls q.1 q.2.1 q.2.2.1 q.2.2.2) ∧ (∀ q ∈ t.2.2.2.2.1, Cond.classLink t.1.1.cls q RX6 ∈ Big) ∧ (∀ q ∈ t.2.2.2.2.2.1, cE t.1.1.cls q) ∧ ∀ q ∈ t.2.2.2.2.2.2, Cond.methodLink t.1.1.cls q objectInit ∈ Big
theorem cte_0 : ∀ t, ctb 0 = some t → CTok t := by
  intro t h
  cases h
  exact ⟨⟨by decide +kernel, by decide, rfl, rfl⟩, dcc_0, (fm_c ⟨true, fun _ => rfl, fg_X11_12⟩ (fm_c ⟨true, fun _ => rfl, fg_X11_19⟩ (fm_c ⟨true, fun _ => rfl, fg_X11_23⟩ (fm_c ⟨true, fun _ => rfl, fg_X11_29⟩ (fm_c ⟨true, fun _ => rfl, fg_X11_33⟩ (fm_c ⟨true, fun _ => rfl, fg_X11_41⟩ (fm_c ⟨true, fun _ => rfl, fg_X11_50⟩ (fm_c ⟨true, fun _ => rfl, fg_X11_59⟩ (fm_c ⟨true, fun _ => rfl, fg_X11_68⟩ (fm_c ⟨true, fun _ => rfl, fg_X11_77⟩ (fm_c ⟨true, fun _ => rfl, fg_X11_84⟩ (fm_c ⟨true, fun _ => rfl, fg_X11_91⟩ (fm_c ⟨true, fun _ => rfl, fg_X11_95⟩ (fm_c ⟨true, fun _ => rfl, fg_X11_98⟩ (fm_c ⟨true, fun _ => rfl, fg_X11_101⟩ (fm_c ⟨true, fun _ => rfl, fg_X11_105⟩ (fm_c ⟨true, fun _ => rfl, fg_X11_109⟩ (fm_c ⟨true, fun _ => rfl, fg_X11_113⟩ fm_n)))))))))))))))))), (fm_c nw_X11_9 (fm_c nw_X11_16 (fm_c nw_X11_26 (fm_c nw_X11_36 (fm_c nw_X11_45 (fm_c nw_X11_54 (fm_c nw_X11_63 (fm_c nw_X11_72 (fm_c nw_X11_81 (fm_c nw_X11_88 fm_n)))))))))), fm_n, (fm_c ⟨mic_1, rfl, fun _ => cI_X11_11, fun h => absurd h.symm Bool.false_ne_true⟩ (fm_c ⟨mic_2, rfl, fun _ => cI_X11_18, fun h => absurd h.symm Bool.false_ne_true⟩ (fm_c ⟨mic_3, rfl, fun _ => cI_X11_28, fun h => absurd h.symm Bool.false_ne_true⟩ (fm_c ⟨mic_4, rfl, (fun h => absurd h Bool.false_ne_true), fun _ => cI_X11_38⟩ (fm_c ⟨mic_5, rfl, (fun h => absurd h Bool.false_ne_true), fun _ => cI_X11_47⟩ (fm_c ⟨mic_6, rfl, (fun h => absurd h Bool.false_ne_true), fun _ => cI_X11_56⟩ (fm_c ⟨mic_7, rfl, (fun h => absurd h Bool.false_ne_true), fun _ => cI_X11_65⟩ (fm_c ⟨mic_8, rfl, (fun h => absurd h Bool.false_ne_true), fun _ => cI_X11_74⟩ (fm_c ⟨mic_9, rfl, (fun h => absurd h Bool.false_ne_true), fun _ => cI_X11_83⟩ (fm_c ⟨mic_10, rfl, (fun h => absurd h Bool.false_ne_true), fun _ => cI_X11_90⟩ fm_n)))))))))), (fm_c wc_434 fm_n)⟩
theorem cte_1 : ∀ t, ctb 1 = some t → CTok t := by
  intro t h
  cases h
  exact ⟨⟨by decide +kernel, by decide, rfl, rfl⟩, dcc_1, (fm_c ⟨true, fun _ => rfl, fg_X2_9⟩ (fm_c ⟨true, fun _ => rfl, fg_X2_15⟩ (fm_c ⟨true, fun _ => rfl, fg_X2_18⟩ (fm_c ⟨true, fun _ => rfl, fg_X2_21⟩ (fm_c ⟨true, fun _ => rfl, fg_X2_24⟩ (fm_c ⟨true, fun _ => rfl, fg_X2_27⟩ (fm_c ⟨true, fun _ => rfl, fg_X2_30⟩ fm_n))))))), fm_n, fm_n, fm_n, (fm_c wc_589 fm_n)⟩
theorem cte_2 : ∀ t, ctb 2 = some t → CTok t := by
  intro t h
  cases h
  exact ⟨⟨by decide +kernel, by decide, rfl, rfl⟩, dcc_2, (fm_c ⟨true, fun _ => rfl, fg_X6_9⟩ (fm_c ⟨true, fun _ => rfl, fg_X6_15⟩ (fm_c ⟨true, fun _ => rfl, fg_X6_18⟩ (fm_c ⟨true, fun _ => rfl, fg_X6_21⟩ (fm_c ⟨true, fun _ => rfl, fg_X6_25⟩ (fm_c ⟨true, fun _ => rfl, fg_X6_28⟩ (fm_c ⟨true, fun _ => rfl, fg_X6_31⟩ (fm_c ⟨true, fun _ => rfl, fg_X6_34⟩ (fm_c ⟨true, fun _ => rfl, fg_X6_37⟩ (fm_c ⟨true, fun _ => rfl, fg_X6_40⟩ (fm_c ⟨true, fun _ => rfl, fg_X6_43⟩ fm_n))))))))))), fm_n, fm_n, fm_n, (fm_c wc_597 fm_n)⟩
theorem cte_3 : ∀ t, ctb 3 = some t → CTok t := by
  intro t h
  cases h
  exact ⟨⟨by decide +kernel, by decide, rfl, rfl⟩, dcc_3, (fm_c ⟨true, fun _ => rfl, fg_X3_9⟩ (fm_c ⟨true, fun _ => rfl, fg_X3_15⟩ (fm_c ⟨true, fun _ => rfl, fg_X3_19⟩ (fm_c ⟨true, fun _ => rfl, fg_X3_23⟩ (fm_c ⟨true, fun _ => rfl, fg_X3_26⟩ fm_n))))), fm_n, fm_n, fm_n, (fm_c wc_609 fm_n)⟩
theorem cte_4 : ∀ t, ctb 4 = some t → CTok t := by
  intro t h
  cases h
  exact ⟨⟨by decide +kernel, by decide, rfl, rfl⟩, dcc_4, (fm_c ⟨true, fun _ => rfl, fg_X5_9⟩ (fm_c ⟨true, fun _ => rfl, fg_X5_15⟩ (fm_c ⟨true, fun _ => rfl, fg_X5_18⟩ (fm_c ⟨true, fun _ => rfl, fg_X5_22⟩ (fm_c ⟨true, fun _ => rfl, fg_X5_26⟩ fm_n))))), fm_n, fm_n, fm_n, (fm_c wc_615 fm_n)⟩
theorem cte_5 : ∀ t, ctb 5 = some t → CTok t := by
  intro t h
  cases h
  exact ⟨⟨by decide +kernel, by decide, rfl, rfl⟩, dcc_5, (fm_c ⟨true, fun _ => rfl, fg_X7_9⟩ (fm_c ⟨true, fun _ => rfl, fg_X7_15⟩ (fm_c ⟨true, fun _ => rfl, fg_X7_19⟩ (fm_c ⟨true, fun _ => rfl, fg_X7_23⟩ fm_n)))), fm_n, fm_n, fm_n, (fm_c wc_621 fm_n)⟩
theorem cte_6 : ∀ t, ctb 6 = some t → CTok t := by
  intro t h
  cases h
  exact ⟨⟨by decide +kernel, by decide, rfl, rfl⟩, dcc_6, (fm_c ⟨true, fun _ => rfl, fg_X9_9⟩ (fm_c ⟨true, fun _ => rfl, fg_X9_15⟩ (fm_c ⟨true, fun _ => rfl, fg_X9_18⟩ (fm_c ⟨true, fun _ => rfl, fg_X9_21⟩ (fm_c ⟨true, fun _ => rfl, fg_X9_24⟩ (fm_c ⟨true, fun _ => rfl, fg_X9_27⟩ (fm_c ⟨true, fun _ => rfl, fg_X9_30⟩ (fm_c ⟨true, fun _ => rfl, fg_X9_34⟩ (fm_c ⟨true, fun _ => rfl, fg_X9_38⟩ fm_n))))))))), fm_n, fm_n, fm_n, (fm_c wc_626 fm_n)⟩
theorem cte_7 : ∀ t, ctb 7 = some t → CTok t := by
  intro t h
  cases h
  exact ⟨⟨by decide +kernel, by decide, rfl, rfl⟩, dcc_7, (fm_c ⟨true, fun _ => rfl, fg_X0_9⟩ (fm_c ⟨true, fun _ => rfl, fg_X0_15⟩ (fm_c ⟨true, fun _ => rfl, fg_X0_18⟩ (fm_c ⟨true, fun _ => rfl, fg_X0_22⟩ (fm_c ⟨true, fun _ => rfl, fg_X0_26⟩ (fm_c ⟨true, fun _ => rfl, fg_X0_29⟩ (fm_c ⟨true, fun _ => rfl, fg_X0_32⟩ (fm_c ⟨true, fun _ => rfl, fg_X0_36⟩ (fm_c ⟨true, fun _ => rfl, fg_X0_40⟩ fm_n))))))))), fm_n, fm_n, fm_n, (fm_c wc_636 fm_n)⟩
theorem cte_8 : ∀ t, ctb 8 = some t → CTok t := by
  intro t h
  cases h
  exact ⟨⟨by decide +kernel, by decide, rfl, rfl⟩, dcc_8, (fm_c ⟨true, fun _ => rfl, fg_X8_9⟩ (fm_c ⟨true, fun _ => rfl, fg_X8_15⟩ (fm_c ⟨true, fun _ => rfl, fg_X8_19⟩ (fm_c ⟨true, fun _ => rfl, fg_X8_23⟩ (fm_c ⟨true, fun _ => rfl, fg_X8_26⟩ fm_n))))), fm_n, fm_n, fm_n, (fm_c wc_646 fm_n)⟩
theorem cte_9 : ∀ t, ctb 9 = some t → CTok t := by
  intro t h
  cases h
  exact ⟨⟨by decide +kernel, by decide, rfl, rfl⟩, dcc_9, (fm_c ⟨true, fun _ => rfl, fg_X10_9⟩ (fm_c ⟨true, fun _ => rfl, fg_X10_15⟩ (fm_c ⟨true, fun _ => rfl, fg_X10_19⟩ fm_n))), fm_n, fm_n, fm_n, (fm_c wc_652 fm_n)⟩
theorem cte_10 : ∀ t, ctb 10 = some t → CTok t := by
  intro t h
  cases h
  exact ⟨⟨by decide +kernel, by decide, rfl, rfl⟩, dcc_10, (fm_c ⟨true, fun _ => rfl, fg_X1_9⟩ (fm_c ⟨true, fun _ => rfl, fg_X1_15⟩ (fm_c ⟨true, fun _ => rfl, fg_X1_20⟩ fm_n))), (fm_c nw_X1_18 fm_n), (fm_c wc_659 fm_n), (fm_c ⟨mic_2, rfl, fun _ => cI_X1_24, fun h => absurd h.symm Bool.false_ne_true⟩ fm_n), (fm_c wc_656 fm_n)⟩
theorem cte_11 : ∀ t, ctb 11 = some t → CTok t := by
  intro t h
  cases h
  exact ⟨⟨by decide +kernel, by decide, rfl, rfl⟩, dcc_11, (fm_c ⟨true, fun _ => rfl, fg_X12_7⟩ (fm_c ⟨true, fun _ => rfl, fg_X12_13⟩ (fm_c ⟨true, fun _ => rfl, fg_X12_16⟩ (fm_c ⟨true, fun _ => rfl, fg_X12_20⟩ (fm_c ⟨true, fun _ => rfl, fg_X12_23⟩ (fm_c ⟨true, fun _ => rfl, fg_X12_27⟩ (fm_c ⟨true, fun _ => rfl, fg_X12_30⟩ (fm_c ⟨true, fun _ => rfl, fg_X12_33⟩ (fm_c ⟨true, fun _ => rfl, fg_X12_36⟩ (fm_c ⟨true, fun _ => rfl, fg_X12_39⟩ (fm_c ⟨true, fun _ => rfl, fg_X12_42⟩ (fm_c ⟨true, fun _ => rfl, fg_X12_46⟩ (fm_c ⟨true, fun _ => rfl, fg_X12_49⟩ (fm_c ⟨true, fun _ => rfl, fg_X12_52⟩ (fm_c ⟨true, fun _ => rfl, fg_X12_55⟩ (fm_c ⟨true, fun _ => rfl, fg_X12_58⟩ (fm_c ⟨true, fun _ => rfl, fg_X12_61⟩ (fm_c ⟨true, fun _ => rfl, fg_X12_64⟩ (fm_c ⟨true, fun _ => rfl, fg_X12_67⟩ (fm_c ⟨true, fun _ => rfl, fg_X12_70⟩ (fm_c ⟨true, fun _ => rfl, fg_X12_73⟩ (fm_c ⟨true, fun _ => rfl, fg_X12_76⟩ fm_n)))))))))))))))))))))), fm_n, fm_n, fm_n, (fm_c wc_661 fm_n)⟩
theorem ctb_ok : ∀ (k : Nat) (t : CTb), ctb k = some t → CTok t := by
  intro k t h
  match k, h with
  | 0, h => exact cte_0 t h
  | 1, h => exact cte_1 t h
  | 2, h => exact cte_2 t h
  | 3, h => exact cte_3 t h
  | 4, h => exact cte_4 t h
  | 5, h => exact cte_5 t h
  | 6, h => exact cte_6 t h
  | 7, h => exact cte_7 t h
  | 8, h => exact cte_8 t h
  | 9, h => exact cte_9 t h
  | 10, h => exact cte_10 t h
  | 11, h => exact cte_11 t h
  | n + 12, h => exact absurd h (by rw [show ctb (n + 12) = none from rfl]; exact fun q => nomatch q)
theorem arw_int : Cond.arrayClass .int ∈ Big := wc_429
theorem arw_boolean : Cond.arrayClass .boolean ∈ Big := wc_430
theorem arw_long : Cond.arrayClass .long ∈ Big := wc_431
theorem obw_1 : Cond.instanceMethod objectInit ∈ Big := wc_432
theorem obw_2 : Cond.code objectInit ⟨#[0xb1]⟩ 1 none ∈ Big := wc_433
