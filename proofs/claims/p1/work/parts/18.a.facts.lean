theorem w_555 : Cond.methodLink RX11 119 yX2_addWord ∈ Big := big_t 376 (by decide +kernel) rfl
theorem w_556 : Cond.instanceMethod yX2_addWord ∈ Big := big_t 377 (by decide +kernel) rfl
theorem w_557 : Cond.selects RX2 yX2_addWord yX2_addWord ∈ Big := big_t 378 (by decide +kernel) rfl
theorem w_558 : Cond.code yX2_addWord cX2_addWord 3 none ∈ Big := big_t 379 (by decide +kernel) rfl
theorem w_559 : Cond.methodLink RX2 45 Lib.Math.max.name ∈ Big := big_t 509 (by decide +kernel) rfl
theorem w_560 : Cond.static Lib.Math.max.name ∈ Big := big_t 510 (by decide +kernel) rfl
theorem w_561 : Cond.initialized RJ9 ∈ Big := big_t 17 (by decide +kernel) rfl
theorem w_562 : Cond.code Lib.Math.max.name Lib.Math.max.code 2 (some .int) ∈ Big := big_t 511 (by decide +kernel) rfl
theorem w_563 : Cond.methodLink RX2 37 yX2_runEnd ∈ Big := big_t 505 (by decide +kernel) rfl
theorem w_564 : Cond.instanceMethod yX2_runEnd ∈ Big := big_t 507 (by decide +kernel) rfl
theorem w_565 : Cond.selects RX2 yX2_runEnd yX2_runEnd ∈ Big := big_s 1 (y := yX2_runEnd) (k := 7) (by decide +kernel)
theorem w_566 : Cond.code yX2_runEnd cX2_runEnd 5 (some .int) ∈ Big := big_t 508 (by decide +kernel) rfl
theorem w_567 : Cond.methodLink RX2 34 yX2_readToken ∈ Big := big_t 501 (by decide +kernel) rfl
theorem w_568 : Cond.instanceMethod yX2_readToken ∈ Big := big_t 502 (by decide +kernel) rfl
theorem w_569 : Cond.selects RX2 yX2_readToken yX2_readToken ∈ Big := big_t 503 (by decide +kernel) rfl
theorem w_570 : Cond.code yX2_readToken cX2_readToken 2 none ∈ Big := big_t 504 (by decide +kernel) rfl
theorem w_571 : Cond.methodLink RX5 30 yX6_clear ∈ Big := big_t 493 (by decide +kernel) rfl
theorem w_572 : Cond.instanceMethod yX6_clear ∈ Big := big_t 494 (by decide +kernel) rfl
theorem w_573 : Cond.selects RX6 yX6_clear yX6_clear ∈ Big := big_t 495 (by decide +kernel) rfl
theorem w_574 : Cond.code yX6_clear cX6_clear 1 none ∈ Big := big_t 496 (by decide +kernel) rfl
theorem w_575 : Cond.methodLink RX5 35 yX2_startText ∈ Big := big_t 497 (by decide +kernel) rfl
theorem w_576 : Cond.instanceMethod yX2_startText ∈ Big := big_t 498 (by decide +kernel) rfl
theorem w_577 : Cond.selects RX2 yX2_startText yX2_startText ∈ Big := big_t 499 (by decide +kernel) rfl
theorem w_578 : Cond.code yX2_startText cX2_startText 2 none ∈ Big := big_t 500 (by decide +kernel) rfl
theorem w_579 : Cond.methodLink RX5 43 yX2_isWord ∈ Big := big_t 517 (by decide +kernel) rfl
theorem w_580 : Cond.instanceMethod yX2_isWord ∈ Big := big_t 518 (by decide +kernel) rfl
theorem w_581 : Cond.selects RX2 yX2_isWord yX2_isWord ∈ Big := big_t 519 (by decide +kernel) rfl
theorem w_582 : Cond.code yX2_isWord cX2_isWord 4 (some .boolean) ∈ Big := big_t 520 (by decide +kernel) rfl
theorem w_583 : Cond.methodLink RX11 130 yX5_parse ∈ Big := big_t 489 (by decide +kernel) rfl
theorem w_584 : Cond.instanceMethod yX5_parse ∈ Big := big_t 490 (by decide +kernel) rfl
theorem w_585 : Cond.selects RX5 yX5_parse yX5_parse ∈ Big := big_t 491 (by decide +kernel) rfl
theorem w_586 : Cond.code yX5_parse cX5_parse 3 (some .int) ∈ Big := big_t 492 (by decide +kernel) rfl
theorem w_587 : Cond.fieldLink RX11 134 "GalleryGuards$Input" "tokenStart" "I" ∈ Big := big_t 47 (by decide +kernel) rfl
theorem w_588 : Cond.classLink RX11 137 "java/lang/IllegalArgumentException" ∈ Big := big_t 660 (by decide +kernel) rfl
theorem w_589 : Cond.initialized "java/lang/IllegalArgumentException" ∈ Big := big_t 23 (by decide +kernel) rfl
theorem w_590 : Cond.methodLink RL 7 yX11_load ∈ Big := big_t 417 (by decide +kernel) rfl
theorem w_591 : Cond.instanceMethod yX11_load ∈ Big := big_t 418 (by decide +kernel) rfl
theorem w_592 : Cond.selects RX11 yX11_load yX11_load ∈ Big := big_t 419 (by decide +kernel) rfl
theorem w_593 : Cond.code yX11_load cX11_load 2 (some .int) ∈ Big := big_t 420 (by decide +kernel) rfl
theorem w_594 : Cond.classLink RL 15 "java/lang/IllegalArgumentException" ∈ Big := big_t 416 (by decide +kernel) rfl
theorem w_595 : Cond.fieldLink RX12 96 "GalleryGuardsModel" "size" "I" ∈ Big := big_t 1515 (by decide +kernel) rfl
theorem w_596 : Cond.fieldLink RX12 99 "GalleryGuardsModel" "next" "I" ∈ Big := big_t 1516 (by decide +kernel) rfl
theorem w_597 : Cond.methodLink RX12 102 yX12_seen ∈ Big := big_t 1669 (by decide +kernel) rfl
theorem w_598 : Cond.instanceMethod yX12_seen ∈ Big := big_t 1671 (by decide +kernel) rfl
theorem w_599 : Cond.selects RX12 yX12_seen yX12_seen ∈ Big := big_s 38 (y := yX12_seen) (k := 41) (by decide +kernel)
theorem w_600 : Cond.code yX12_seen cX12_seen 2 (some .int) ∈ Big := big_t 1672 (by decide +kernel) rfl
theorem w_601 : Cond.fieldLink RX12 106 "GalleryGuardsModel" "from" "I" ∈ Big := big_t 1517 (by decide +kernel) rfl
theorem w_602 : Cond.fieldLink RX12 109 "GalleryGuardsModel" "sort" "I" ∈ Big := big_t 1518 (by decide +kernel) rfl
theorem w_603 : Cond.fieldLink RX12 125 "GalleryGuardsModel" "wrong" "I" ∈ Big := big_t 1522 (by decide +kernel) rfl
theorem w_604 : Cond.fieldLink RX12 128 "GalleryGuardsModel" "wrongAt" "I" ∈ Big := big_t 1523 (by decide +kernel) rfl
theorem w_605 : Cond.methodLink RX12 161 yX12_isWord ∈ Big := big_t 1684 (by decide +kernel) rfl
theorem w_606 : Cond.instanceMethod yX12_isWord ∈ Big := big_t 1686 (by decide +kernel) rfl
theorem w_607 : Cond.selects RX12 yX12_isWord yX12_isWord ∈ Big := big_s 40 (y := yX12_isWord) (k := 41) (by decide +kernel)
theorem w_608 : Cond.code yX12_isWord cX12_isWord 3 (some .boolean) ∈ Big := big_t 1687 (by decide +kernel) rfl
theorem w_609 : Cond.methodLink RX12 144 yX12_fails ∈ Big := big_t 1690 (by decide +kernel) rfl
theorem w_610 : Cond.instanceMethod yX12_fails ∈ Big := big_t 1692 (by decide +kernel) rfl
theorem w_611 : Cond.selects RX12 yX12_fails yX12_fails ∈ Big := big_s 41 (y := yX12_fails) (k := 41) (by decide +kernel)
theorem w_612 : Cond.code yX12_fails cX12_fails 2 none ∈ Big := big_t 1693 (by decide +kernel) rfl
theorem w_613 : Cond.methodLink RX12 156 yX12_goesOn ∈ Big := big_t 1694 (by decide +kernel) rfl
theorem w_614 : Cond.instanceMethod yX12_goesOn ∈ Big := big_t 1696 (by decide +kernel) rfl
theorem w_615 : Cond.selects RX12 yX12_goesOn yX12_goesOn ∈ Big := big_s 42 (y := yX12_goesOn) (k := 41) (by decide +kernel)
theorem w_616 : Cond.code yX12_goesOn cX12_goesOn 1 none ∈ Big := big_t 1697 (by decide +kernel) rfl
theorem w_617 : Cond.methodLink RX12 131 yX12_token ∈ Big := big_t 1665 (by decide +kernel) rfl
theorem w_618 : Cond.instanceMethod yX12_token ∈ Big := big_t 1667 (by decide +kernel) rfl
theorem w_619 : Cond.selects RX12 yX12_token yX12_token ∈ Big := big_s 37 (y := yX12_token) (k := 41) (by decide +kernel)
theorem w_620 : Cond.code yX12_token cX12_token 3 none ∈ Big := big_t 1668 (by decide +kernel) rfl
theorem w_621 : Cond.methodLink RX12 178 yX12_polygonLine ∈ Big := big_t 1679 (by decide +kernel) rfl
theorem w_622 : Cond.instanceMethod yX12_polygonLine ∈ Big := big_t 1681 (by decide +kernel) rfl
theorem w_623 : Cond.selects RX12 yX12_polygonLine yX12_polygonLine ∈ Big := big_s 39 (y := yX12_polygonLine) (k := 41) (by decide +kernel)
theorem w_624 : Cond.code yX12_polygonLine cX12_polygonLine 3 none ∈ Big := big_t 1682 (by decide +kernel) rfl
theorem w_625 : Cond.methodLink RX12 189 yX12_reads ∈ Big := big_t 1661 (by decide +kernel) rfl
theorem w_626 : Cond.instanceMethod yX12_reads ∈ Big := big_t 1663 (by decide +kernel) rfl
theorem w_627 : Cond.selects RX12 yX12_reads yX12_reads ∈ Big := big_s 36 (y := yX12_reads) (k := 41) (by decide +kernel)
theorem w_628 : Cond.code yX12_reads cX12_reads 3 none ∈ Big := big_t 1664 (by decide +kernel) rfl
theorem cd_yX2_addWord : Cd yX2_addWord 1 := ⟨by decide +kernel, by decide +kernel, by decide +kernel⟩
theorem cV_X11_119 : CV RX11 119 yX2_addWord cX2_addWord 3 none 1 := ⟨w_555, w_556, w_557, w_439, w_558, cd_yX2_addWord⟩
theorem cd_yX2_runEnd : Cd yX2_runEnd 3 := ⟨by decide +kernel, by decide +kernel, by decide +kernel⟩
theorem cV_X2_37 : CV RX2 37 yX2_runEnd cX2_runEnd 5 (some .int) 3 := ⟨w_563, w_564, w_565, w_439, w_566, cd_yX2_runEnd⟩
theorem cd_yX2_readToken : Cd yX2_readToken 0 := ⟨by decide +kernel, by decide +kernel, by decide +kernel⟩
theorem cV_X2_34 : CV RX2 34 yX2_readToken cX2_readToken 2 none 0 := ⟨w_567, w_568, w_569, w_439, w_570, cd_yX2_readToken⟩
theorem cd_yX6_clear : Cd yX6_clear 0 := ⟨by decide +kernel, by decide +kernel, by decide +kernel⟩
theorem cV_X5_30 : CV RX5 30 yX6_clear cX6_clear 1 none 0 := ⟨w_571, w_572, w_573, w_433, w_574, cd_yX6_clear⟩
theorem cd_yX2_startText : Cd yX2_startText 1 := ⟨by decide +kernel, by decide +kernel, by decide +kernel⟩
theorem cV_X5_35 : CV RX5 35 yX2_startText cX2_startText 2 none 1 := ⟨w_575, w_576, w_577, w_439, w_578, cd_yX2_startText⟩
theorem cd_yX2_isWord : Cd yX2_isWord 1 := ⟨by decide +kernel, by decide +kernel, by decide +kernel⟩
theorem cV_X5_43 : CV RX5 43 yX2_isWord cX2_isWord 4 (some .boolean) 1 := ⟨w_579, w_580, w_581, w_439, w_582, cd_yX2_isWord⟩
theorem cd_yX5_parse : Cd yX5_parse 1 := ⟨by decide +kernel, by decide +kernel, by decide +kernel⟩
theorem cV_X11_130 : CV RX11 130 yX5_parse cX5_parse 3 (some .int) 1 := ⟨w_583, w_584, w_585, w_454, w_586, cd_yX5_parse⟩
theorem fg_X11_134 : Fg RX11 134 2 2 (.int) false false := ⟨_, _, _, _, kc_X2, by decide, w_587, by decide +kernel, rfl, fun h => nomatch h⟩
theorem cd_yX11_load : Cd yX11_load 1 := ⟨by decide +kernel, by decide +kernel, by decide +kernel⟩
theorem cV_L_7 : CV RL 7 yX11_load cX11_load 2 (some .int) 1 := ⟨w_590, w_591, w_592, w_36, w_593, cd_yX11_load⟩
theorem fg_X12_96 : Fg RX12 96 11 10 (.int) false true := ⟨_, _, _, _, kc_X12, by decide, w_595, by decide +kernel, rfl, fun _ => rfl⟩
theorem fg_X12_99 : Fg RX12 99 11 11 (.int) false true := ⟨_, _, _, _, kc_X12, by decide, w_596, by decide +kernel, rfl, fun _ => rfl⟩
theorem cd_yX12_seen : Cd yX12_seen 1 := ⟨by decide +kernel, by decide +kernel, by decide +kernel⟩
theorem cV_X12_102 : CV RX12 102 yX12_seen cX12_seen 2 (some .int) 1 := ⟨w_597, w_598, w_599, w_269, w_600, cd_yX12_seen⟩
theorem fg_X12_106 : Fg RX12 106 11 12 (.int) false true := ⟨_, _, _, _, kc_X12, by decide, w_601, by decide +kernel, rfl, fun _ => rfl⟩
theorem fg_X12_109 : Fg RX12 109 11 13 (.int) false true := ⟨_, _, _, _, kc_X12, by decide, w_602, by decide +kernel, rfl, fun _ => rfl⟩
theorem fg_X12_125 : Fg RX12 125 11 17 (.int) false true := ⟨_, _, _, _, kc_X12, by decide, w_603, by decide +kernel, rfl, fun _ => rfl⟩
theorem fg_X12_128 : Fg RX12 128 11 18 (.int) false true := ⟨_, _, _, _, kc_X12, by decide, w_604, by decide +kernel, rfl, fun _ => rfl⟩
theorem cd_yX12_isWord : Cd yX12_isWord 1 := ⟨by decide +kernel, by decide +kernel, by decide +kernel⟩
theorem cV_X12_161 : CV RX12 161 yX12_isWord cX12_isWord 3 (some .boolean) 1 := ⟨w_605, w_606, w_607, w_269, w_608, cd_yX12_isWord⟩
theorem cd_yX12_fails : Cd yX12_fails 1 := ⟨by decide +kernel, by decide +kernel, by decide +kernel⟩
theorem cV_X12_144 : CV RX12 144 yX12_fails cX12_fails 2 none 1 := ⟨w_609, w_610, w_611, w_269, w_612, cd_yX12_fails⟩
theorem cd_yX12_goesOn : Cd yX12_goesOn 0 := ⟨by decide +kernel, by decide +kernel, by decide +kernel⟩
theorem cV_X12_156 : CV RX12 156 yX12_goesOn cX12_goesOn 1 none 0 := ⟨w_613, w_614, w_615, w_269, w_616, cd_yX12_goesOn⟩
theorem cd_yX12_token : Cd yX12_token 0 := ⟨by decide +kernel, by decide +kernel, by decide +kernel⟩
theorem cV_X12_131 : CV RX12 131 yX12_token cX12_token 3 none 0 := ⟨w_617, w_618, w_619, w_269, w_620, cd_yX12_token⟩
theorem cd_yX12_polygonLine : Cd yX12_polygonLine 0 := ⟨by decide +kernel, by decide +kernel, by decide +kernel⟩
theorem cV_X12_178 : CV RX12 178 yX12_polygonLine cX12_polygonLine 3 none 0 := ⟨w_621, w_622, w_623, w_269, w_624, cd_yX12_polygonLine⟩
theorem cd_yX12_reads : Cd yX12_reads 1 := ⟨by decide +kernel, by decide +kernel, by decide +kernel⟩
theorem cV_X12_189 : CV RX12 189 yX12_reads cX12_reads 3 none 1 := ⟨w_625, w_626, w_627, w_269, w_628, cd_yX12_reads⟩
theorem dL_load_0 : decode cL_load 0 = .ok (.aload_n 2, 1) := by decide +kernel
theorem dL_load_1 : decode cL_load 1 = .ok (.iconst 0, 1) := by decide +kernel
theorem dL_load_2 : decode cL_load 2 = .ok (.aload_n 0, 1) := by decide +kernel
theorem dL_load_3 : decode cL_load 3 = .ok (.iload_n 1, 1) := by decide +kernel
theorem dL_load_4 : decode cL_load 4 = .ok (.invokevirtual 7, 3) := by decide +kernel
theorem dL_load_12 : decode cL_load 12 = .ok (.astore_n 3, 1) := by decide +kernel
theorem dL_load_13 : decode cL_load 13 = .ok (.iconst 1, 1) := by decide +kernel
theorem dL_load_14 : decode cL_load 14 = .ok (.ireturn, 1) := by decide +kernel
theorem dL_load_15 : decode cL_load 15 = .ok (.astore_n 3, 1) := by decide +kernel
theorem dL_load_16 : decode cL_load 16 = .ok (.iconst 2, 1) := by decide +kernel
theorem dL_load_17 : decode cL_load 17 = .ok (.ireturn, 1) := by decide +kernel
theorem dX11_append_0 : decode cX11_append 0 = .ok (.aload_n 0, 1) := by decide +kernel
theorem dX11_append_1 : decode cX11_append 1 = .ok (.getfield 12, 3) := by decide +kernel
theorem dX11_append_4 : decode cX11_append 4 = .ok (.getfield 116, 3) := by decide +kernel
theorem dX11_append_7 : decode cX11_append 7 = .ok (.bipush 20, 2) := by decide +kernel
theorem dX11_append_9 : decode cX11_append 9 = .ok (.iadd, 1) := by decide +kernel
theorem dX11_append_10 : decode cX11_append 10 = .ok (.sipush 600, 3) := by decide +kernel
theorem dX11_append_13 : decode cX11_append 13 = .ok (.if_icmp .le 5, 3) := by decide +kernel
theorem dX11_append_18 : decode cX11_append 18 = .ok (.aload_n 0, 1) := by decide +kernel
theorem dX11_append_19 : decode cX11_append 19 = .ok (.getfield 12, 3) := by decide +kernel
theorem dX11_append_22 : decode cX11_append 22 = .ok (.iload_n 1, 1) := by decide +kernel
theorem dX11_append_23 : decode cX11_append 23 = .ok (.invokevirtual 119, 3) := by decide +kernel
theorem dX11_append_26 : decode cX11_append 26 = .ok (.aload_n 0, 1) := by decide +kernel
theorem dX11_append_27 : decode cX11_append 27 = .ok (.getfield 12, 3) := by decide +kernel
theorem dX11_append_30 : decode cX11_append 30 = .ok (.iload_n 2, 1) := by decide +kernel
theorem dX11_append_31 : decode cX11_append 31 = .ok (.invokevirtual 119, 3) := by decide +kernel
theorem dX11_append_34 : decode cX11_append 34 = .ok (.aload_n 0, 1) := by decide +kernel
theorem dX11_append_35 : decode cX11_append 35 = .ok (.getfield 12, 3) := by decide +kernel
theorem dX11_append_38 : decode cX11_append 38 = .ok (.iload_n 3, 1) := by decide +kernel
theorem dX11_append_39 : decode cX11_append 39 = .ok (.invokevirtual 119, 3) := by decide +kernel
theorem dX11_append_42 : decode cX11_append 42 = .ok (.aload_n 0, 1) := by decide +kernel
theorem dX11_append_43 : decode cX11_append 43 = .ok (.getfield 12, 3) := by decide +kernel
theorem dX11_append_46 : decode cX11_append 46 = .ok (.iload 4, 2) := by decide +kernel
theorem dX11_append_48 : decode cX11_append 48 = .ok (.invokevirtual 119, 3) := by decide +kernel
theorem dX11_append_51 : decode cX11_append 51 = .ok (.aload_n 0, 1) := by decide +kernel
theorem dX11_append_52 : decode cX11_append 52 = .ok (.getfield 12, 3) := by decide +kernel
theorem dX11_append_55 : decode cX11_append 55 = .ok (.iload 5, 2) := by decide +kernel
theorem dX11_append_57 : decode cX11_append 57 = .ok (.invokevirtual 119, 3) := by decide +kernel
theorem dX11_append_60 : decode cX11_append 60 = .ok (.aload_n 0, 1) := by decide +kernel
theorem dX11_append_61 : decode cX11_append 61 = .ok (.getfield 12, 3) := by decide +kernel
theorem dX11_append_64 : decode cX11_append 64 = .ok (.getfield 116, 3) := by decide +kernel
theorem dX11_append_67 : decode cX11_append 67 = .ok (.ireturn, 1) := by decide +kernel
theorem dX11_load_0 : decode cX11_load 0 = .ok (.iload_n 1, 1) := by decide +kernel
theorem dX11_load_1 : decode cX11_load 1 = .ok (.ifCond .lt 14, 3) := by decide +kernel
theorem dX11_load_4 : decode cX11_load 4 = .ok (.iload_n 1, 1) := by decide +kernel
theorem dX11_load_5 : decode cX11_load 5 = .ok (.aload_n 0, 1) := by decide +kernel
theorem dX11_load_6 : decode cX11_load 6 = .ok (.getfield 12, 3) := by decide +kernel
theorem dX11_load_9 : decode cX11_load 9 = .ok (.getfield 116, 3) := by decide +kernel
theorem dX11_load_12 : decode cX11_load 12 = .ok (.if_icmp .le 13, 3) := by decide +kernel
theorem dX11_load_15 : decode cX11_load 15 = .ok (.new 123, 3) := by decide +kernel
theorem dX11_load_18 : decode cX11_load 18 = .ok (.dup, 1) := by decide +kernel
theorem dX11_load_19 : decode cX11_load 19 = .ok (.ldc 125, 2) := by decide +kernel
theorem dX11_load_21 : decode cX11_load 21 = .ok (.invokespecial 127, 3) := by decide +kernel
theorem dX11_load_24 : decode cX11_load 24 = .ok (.athrow, 1) := by decide +kernel
theorem dX11_load_25 : decode cX11_load 25 = .ok (.aload_n 0, 1) := by decide +kernel
theorem dX11_load_26 : decode cX11_load 26 = .ok (.aload_n 0, 1) := by decide +kernel
theorem dX11_load_27 : decode cX11_load 27 = .ok (.getfield 41, 3) := by decide +kernel
theorem dX11_load_30 : decode cX11_load 30 = .ok (.iload_n 1, 1) := by decide +kernel
theorem dX11_load_31 : decode cX11_load 31 = .ok (.invokevirtual 130, 3) := by decide +kernel
theorem dX11_load_34 : decode cX11_load 34 = .ok (.putfield 109, 3) := by decide +kernel
theorem dX11_load_37 : decode cX11_load 37 = .ok (.aload_n 0, 1) := by decide +kernel
theorem dX11_load_38 : decode cX11_load 38 = .ok (.aload_n 0, 1) := by decide +kernel
theorem dX11_load_39 : decode cX11_load 39 = .ok (.getfield 109, 3) := by decide +kernel
theorem dX11_load_42 : decode cX11_load 42 = .ok (.ifCond .ne 7, 3) := by decide +kernel
theorem dX11_load_49 : decode cX11_load 49 = .ok (.aload_n 0, 1) := by decide +kernel
theorem dX11_load_50 : decode cX11_load 50 = .ok (.getfield 12, 3) := by decide +kernel
theorem dX11_load_53 : decode cX11_load 53 = .ok (.getfield 134, 3) := by decide +kernel
theorem dX11_load_56 : decode cX11_load 56 = .ok (.putfield 113, 3) := by decide +kernel
theorem dX11_load_59 : decode cX11_load 59 = .ok (.aload_n 0, 1) := by decide +kernel
theorem dX11_load_60 : decode cX11_load 60 = .ok (.getfield 12, 3) := by decide +kernel
theorem dX11_load_63 : decode cX11_load 63 = .ok (.iconst 0, 1) := by decide +kernel
theorem dX11_load_64 : decode cX11_load 64 = .ok (.putfield 116, 3) := by decide +kernel
theorem dX11_load_67 : decode cX11_load 67 = .ok (.aload_n 0, 1) := by decide +kernel
theorem dX11_load_68 : decode cX11_load 68 = .ok (.getfield 109, 3) := by decide +kernel
theorem dX11_load_71 : decode cX11_load 71 = .ok (.ifCond .eq 13, 3) := by decide +kernel
theorem dX11_load_74 : decode cX11_load 74 = .ok (.new 137, 3) := by decide +kernel
theorem dX11_load_77 : decode cX11_load 77 = .ok (.dup, 1) := by decide +kernel
theorem dX11_load_78 : decode cX11_load 78 = .ok (.ldc 139, 2) := by decide +kernel
theorem dX11_load_80 : decode cX11_load 80 = .ok (.invokespecial 141, 3) := by decide +kernel
theorem dX11_load_83 : decode cX11_load 83 = .ok (.athrow, 1) := by decide +kernel
theorem dX12_append_0 : decode cX12_append 0 = .ok (.aload_n 0, 1) := by decide +kernel
theorem dX12_append_1 : decode cX12_append 1 = .ok (.iconst 0, 1) := by decide +kernel
theorem dX12_append_2 : decode cX12_append 2 = .ok (.putfield 79, 3) := by decide +kernel
theorem dX12_append_5 : decode cX12_append 5 = .ok (.aload_n 0, 1) := by decide +kernel
theorem dX12_append_6 : decode cX12_append 6 = .ok (.getfield 90, 3) := by decide +kernel
theorem dX12_append_9 : decode cX12_append 9 = .ok (.bipush 20, 2) := by decide +kernel
theorem dX12_append_11 : decode cX12_append 11 = .ok (.iadd, 1) := by decide +kernel
theorem dX12_append_12 : decode cX12_append 12 = .ok (.sipush 600, 3) := by decide +kernel
theorem dX12_append_15 : decode cX12_append 15 = .ok (.if_icmp .le 5, 3) := by decide +kernel
theorem dX12_append_20 : decode cX12_append 20 = .ok (.iconst 0, 1) := by decide +kernel
theorem dX12_append_21 : decode cX12_append 21 = .ok (.istore 6, 2) := by decide +kernel
theorem dX12_append_23 : decode cX12_append 23 = .ok (.iload 6, 2) := by decide +kernel
theorem dX12_append_25 : decode cX12_append 25 = .ok (.bipush 20, 2) := by decide +kernel
theorem dX12_append_27 : decode cX12_append 27 = .ok (.if_icmp .ge 86, 3) := by decide +kernel
theorem dX12_append_30 : decode cX12_append 30 = .ok (.iload 6, 2) := by decide +kernel
theorem dX12_append_32 : decode cX12_append 32 = .ok (.iconst 4, 1) := by decide +kernel
theorem dX12_append_33 : decode cX12_append 33 = .ok (.if_icmp .ge 7, 3) := by decide +kernel
theorem dX12_append_36 : decode cX12_append 36 = .ok (.iload_n 1, 1) := by decide +kernel
theorem dX12_append_37 : decode cX12_append 37 = .ok (.goto 39, 3) := by decide +kernel
theorem dX12_append_40 : decode cX12_append 40 = .ok (.iload 6, 2) := by decide +kernel
theorem dX12_append_42 : decode cX12_append 42 = .ok (.bipush 8, 2) := by decide +kernel
theorem dX12_append_44 : decode cX12_append 44 = .ok (.if_icmp .ge 7, 3) := by decide +kernel
theorem dX12_append_47 : decode cX12_append 47 = .ok (.iload_n 2, 1) := by decide +kernel
theorem dX12_append_48 : decode cX12_append 48 = .ok (.goto 28, 3) := by decide +kernel
theorem dX12_append_51 : decode cX12_append 51 = .ok (.iload 6, 2) := by decide +kernel
theorem dX12_append_53 : decode cX12_append 53 = .ok (.bipush 12, 2) := by decide +kernel
theorem dX12_append_55 : decode cX12_append 55 = .ok (.if_icmp .ge 7, 3) := by decide +kernel
theorem dX12_append_58 : decode cX12_append 58 = .ok (.iload_n 3, 1) := by decide +kernel
theorem dX12_append_59 : decode cX12_append 59 = .ok (.goto 17, 3) := by decide +kernel
theorem dX12_append_62 : decode cX12_append 62 = .ok (.iload 6, 2) := by decide +kernel
theorem dX12_append_64 : decode cX12_append 64 = .ok (.bipush 16, 2) := by decide +kernel
theorem dX12_append_66 : decode cX12_append 66 = .ok (.if_icmp .ge 8, 3) := by decide +kernel
theorem dX12_append_69 : decode cX12_append 69 = .ok (.iload 4, 2) := by decide +kernel
theorem dX12_append_71 : decode cX12_append 71 = .ok (.goto 5, 3) := by decide +kernel
theorem dX12_append_74 : decode cX12_append 74 = .ok (.iload 5, 2) := by decide +kernel
theorem dX12_append_76 : decode cX12_append 76 = .ok (.istore 7, 2) := by decide +kernel
theorem dX12_append_78 : decode cX12_append 78 = .ok (.aload_n 0, 1) := by decide +kernel
theorem dX12_append_79 : decode cX12_append 79 = .ok (.getfield 20, 3) := by decide +kernel
theorem dX12_append_82 : decode cX12_append 82 = .ok (.aload_n 0, 1) := by decide +kernel
theorem dX12_append_83 : decode cX12_append 83 = .ok (.getfield 90, 3) := by decide +kernel
theorem dX12_append_86 : decode cX12_append 86 = .ok (.iload 6, 2) := by decide +kernel
theorem dX12_append_88 : decode cX12_append 88 = .ok (.iadd, 1) := by decide +kernel
theorem dX12_append_89 : decode cX12_append 89 = .ok (.iload 7, 2) := by decide +kernel
theorem dX12_append_91 : decode cX12_append 91 = .ok (.bipush 24, 2) := by decide +kernel
theorem dX12_append_93 : decode cX12_append 93 = .ok (.bipush 8, 2) := by decide +kernel
theorem dX12_append_95 : decode cX12_append 95 = .ok (.iload 6, 2) := by decide +kernel
theorem dX12_append_97 : decode cX12_append 97 = .ok (.iconst 4, 1) := by decide +kernel
theorem dX12_append_98 : decode cX12_append 98 = .ok (.irem, 1) := by decide +kernel
theorem dX12_append_99 : decode cX12_append 99 = .ok (.imul, 1) := by decide +kernel
theorem dX12_append_100 : decode cX12_append 100 = .ok (.isub, 1) := by decide +kernel
theorem dX12_append_101 : decode cX12_append 101 = .ok (.ishr, 1) := by decide +kernel
theorem dX12_append_102 : decode cX12_append 102 = .ok (.sipush 255, 3) := by decide +kernel
theorem dX12_append_105 : decode cX12_append 105 = .ok (.iand, 1) := by decide +kernel
theorem dX12_append_106 : decode cX12_append 106 = .ok (.iastore, 1) := by decide +kernel
theorem dX12_append_107 : decode cX12_append 107 = .ok (.iinc 6 1, 3) := by decide +kernel
theorem dX12_append_110 : decode cX12_append 110 = .ok (.goto (-87), 3) := by decide +kernel
theorem dX12_append_113 : decode cX12_append 113 = .ok (.aload_n 0, 1) := by decide +kernel
theorem dX12_append_114 : decode cX12_append 114 = .ok (.dup, 1) := by decide +kernel
theorem dX12_append_115 : decode cX12_append 115 = .ok (.getfield 90, 3) := by decide +kernel
theorem dX12_append_118 : decode cX12_append 118 = .ok (.bipush 20, 2) := by decide +kernel
theorem dX12_append_120 : decode cX12_append 120 = .ok (.iadd, 1) := by decide +kernel
theorem dX12_append_121 : decode cX12_append 121 = .ok (.putfield 90, 3) := by decide +kernel
theorem dX12_append_124 : decode cX12_append 124 = .ok (.aload_n 0, 1) := by decide +kernel
theorem dX12_append_125 : decode cX12_append 125 = .ok (.getfield 90, 3) := by decide +kernel
theorem dX12_append_128 : decode cX12_append 128 = .ok (.ireturn, 1) := by decide +kernel
theorem dX12_fails_0 : decode cX12_fails 0 = .ok (.aload_n 0, 1) := by decide +kernel
theorem dX12_fails_1 : decode cX12_fails 1 = .ok (.getfield 125, 3) := by decide +kernel
theorem dX12_fails_4 : decode cX12_fails 4 = .ok (.ifCond .ne 16, 3) := by decide +kernel
theorem dX12_fails_7 : decode cX12_fails 7 = .ok (.aload_n 0, 1) := by decide +kernel
theorem dX12_fails_8 : decode cX12_fails 8 = .ok (.iload_n 1, 1) := by decide +kernel
theorem dX12_fails_9 : decode cX12_fails 9 = .ok (.putfield 125, 3) := by decide +kernel
theorem dX12_fails_12 : decode cX12_fails 12 = .ok (.aload_n 0, 1) := by decide +kernel
theorem dX12_fails_13 : decode cX12_fails 13 = .ok (.aload_n 0, 1) := by decide +kernel
theorem dX12_fails_14 : decode cX12_fails 14 = .ok (.getfield 106, 3) := by decide +kernel
theorem dX12_fails_17 : decode cX12_fails 17 = .ok (.putfield 128, 3) := by decide +kernel
theorem dX12_fails_20 : decode cX12_fails 20 = .ok (.return_, 1) := by decide +kernel
theorem dX12_goesOn_0 : decode cX12_goesOn 0 = .ok (.aload_n 0, 1) := by decide +kernel
theorem dX12_goesOn_1 : decode cX12_goesOn 1 = .ok (.getfield 125, 3) := by decide +kernel
theorem dX12_goesOn_4 : decode cX12_goesOn 4 = .ok (.ifCond .ne 7, 3) := by decide +kernel
theorem dX12_goesOn_11 : decode cX12_goesOn 11 = .ok (.return_, 1) := by decide +kernel
theorem dX12_isWord_0 : decode cX12_isWord 0 = .ok (.aload_n 0, 1) := by decide +kernel
theorem dX12_isWord_1 : decode cX12_isWord 1 = .ok (.getfield 125, 3) := by decide +kernel
theorem dX12_isWord_4 : decode cX12_isWord 4 = .ok (.ifCond .ne 22, 3) := by decide +kernel
theorem dX12_isWord_7 : decode cX12_isWord 7 = .ok (.aload_n 0, 1) := by decide +kernel
theorem dX12_isWord_8 : decode cX12_isWord 8 = .ok (.getfield 109, 3) := by decide +kernel
theorem dX12_isWord_11 : decode cX12_isWord 11 = .ok (.iconst 1, 1) := by decide +kernel
theorem dX12_isWord_12 : decode cX12_isWord 12 = .ok (.if_icmp .ne 14, 3) := by decide +kernel
theorem dX12_isWord_26 : decode cX12_isWord 26 = .ok (.iconst 0, 1) := by decide +kernel
theorem dX12_isWord_27 : decode cX12_isWord 27 = .ok (.ireturn, 1) := by decide +kernel
theorem dX12_load_0 : decode cX12_load 0 = .ok (.aload_n 0, 1) := by decide +kernel
theorem dX12_load_1 : decode cX12_load 1 = .ok (.iconst 0, 1) := by decide +kernel
theorem dX12_load_2 : decode cX12_load 2 = .ok (.putfield 79, 3) := by decide +kernel
theorem dX12_load_5 : decode cX12_load 5 = .ok (.aload_n 0, 1) := by decide +kernel
theorem dX12_load_6 : decode cX12_load 6 = .ok (.iload_n 1, 1) := by decide +kernel
theorem dX12_load_7 : decode cX12_load 7 = .ok (.iconst 0, 1) := by decide +kernel
theorem dX12_load_8 : decode cX12_load 8 = .ok (.aload_n 0, 1) := by decide +kernel
theorem dX12_load_9 : decode cX12_load 9 = .ok (.getfield 90, 3) := by decide +kernel
theorem dX12_load_12 : decode cX12_load 12 = .ok (.invokestatic 148, 3) := by decide +kernel
theorem dX12_load_15 : decode cX12_load 15 = .ok (.ifCond .ne 7, 3) := by decide +kernel
theorem dX12_load_18 : decode cX12_load 18 = .ok (.iconst 1, 1) := by decide +kernel
theorem dX12_load_19 : decode cX12_load 19 = .ok (.goto 4, 3) := by decide +kernel
theorem dX12_load_22 : decode cX12_load 22 = .ok (.iconst 0, 1) := by decide +kernel
theorem dX12_load_23 : decode cX12_load 23 = .ok (.iconst 1, 1) := by decide +kernel
theorem dX12_load_24 : decode cX12_load 24 = .ok (.invokevirtual 86, 3) := by decide +kernel
theorem dX12_load_27 : decode cX12_load 27 = .ok (.ifCond .eq 5, 3) := by decide +kernel
theorem dX12_load_30 : decode cX12_load 30 = .ok (.iconst 0, 1) := by decide +kernel
theorem dX12_load_31 : decode cX12_load 31 = .ok (.ireturn, 1) := by decide +kernel
theorem dX12_load_32 : decode cX12_load 32 = .ok (.aload_n 0, 1) := by decide +kernel
theorem dX12_load_33 : decode cX12_load 33 = .ok (.iconst 0, 1) := by decide +kernel
theorem dX12_load_34 : decode cX12_load 34 = .ok (.putfield 90, 3) := by decide +kernel
theorem dX12_load_37 : decode cX12_load 37 = .ok (.aload_n 0, 1) := by decide +kernel
theorem dX12_load_38 : decode cX12_load 38 = .ok (.iload_n 1, 1) := by decide +kernel
theorem dX12_load_39 : decode cX12_load 39 = .ok (.invokevirtual 189, 3) := by decide +kernel
theorem dX12_load_42 : decode cX12_load 42 = .ok (.aload_n 0, 1) := by decide +kernel
theorem dX12_load_43 : decode cX12_load 43 = .ok (.aload_n 0, 1) := by decide +kernel
theorem dX12_load_44 : decode cX12_load 44 = .ok (.getfield 125, 3) := by decide +kernel
theorem dX12_load_47 : decode cX12_load 47 = .ok (.putfield 93, 3) := by decide +kernel
theorem dX12_load_50 : decode cX12_load 50 = .ok (.aload_n 0, 1) := by decide +kernel
theorem dX12_load_51 : decode cX12_load 51 = .ok (.aload_n 0, 1) := by decide +kernel
theorem dX12_load_52 : decode cX12_load 52 = .ok (.getfield 125, 3) := by decide +kernel
theorem dX12_load_55 : decode cX12_load 55 = .ok (.ifCond .ne 7, 3) := by decide +kernel
theorem dX12_load_62 : decode cX12_load 62 = .ok (.aload_n 0, 1) := by decide +kernel
theorem dX12_load_63 : decode cX12_load 63 = .ok (.getfield 128, 3) := by decide +kernel
theorem dX12_load_66 : decode cX12_load 66 = .ok (.putfield 23, 3) := by decide +kernel
theorem dX12_load_69 : decode cX12_load 69 = .ok (.aload_n 0, 1) := by decide +kernel
theorem dX12_load_70 : decode cX12_load 70 = .ok (.aload_n 0, 1) := by decide +kernel
theorem dX12_load_71 : decode cX12_load 71 = .ok (.getfield 125, 3) := by decide +kernel
theorem dX12_load_74 : decode cX12_load 74 = .ok (.ifCond .eq 7, 3) := by decide +kernel
theorem dX12_load_77 : decode cX12_load 77 = .ok (.iconst 1, 1) := by decide +kernel
theorem dX12_load_78 : decode cX12_load 78 = .ok (.goto 4, 3) := by decide +kernel
theorem dX12_load_82 : decode cX12_load 82 = .ok (.iconst 2, 1) := by decide +kernel
theorem dX12_load_83 : decode cX12_load 83 = .ok (.invokevirtual 86, 3) := by decide +kernel
theorem dX12_load_86 : decode cX12_load 86 = .ok (.ifCond .eq 5, 3) := by decide +kernel
theorem dX12_load_89 : decode cX12_load 89 = .ok (.iconst 0, 1) := by decide +kernel
theorem dX12_load_90 : decode cX12_load 90 = .ok (.ireturn, 1) := by decide +kernel
theorem dX12_polygonLine_0 : decode cX12_polygonLine 0 = .ok (.aload_n 0, 1) := by decide +kernel
theorem dX12_polygonLine_1 : decode cX12_polygonLine 1 = .ok (.ldc 159, 2) := by decide +kernel
theorem dX12_polygonLine_3 : decode cX12_polygonLine 3 = .ok (.invokevirtual 161, 3) := by decide +kernel
theorem dX12_polygonLine_6 : decode cX12_polygonLine 6 = .ok (.ifCond .ne 8, 3) := by decide +kernel
theorem dX12_polygonLine_9 : decode cX12_polygonLine 9 = .ok (.aload_n 0, 1) := by decide +kernel
theorem dX12_polygonLine_10 : decode cX12_polygonLine 10 = .ok (.iconst 1, 1) := by decide +kernel
theorem dX12_polygonLine_11 : decode cX12_polygonLine 11 = .ok (.invokevirtual 144, 3) := by decide +kernel
theorem dX12_polygonLine_14 : decode cX12_polygonLine 14 = .ok (.aload_n 0, 1) := by decide +kernel
theorem dX12_polygonLine_15 : decode cX12_polygonLine 15 = .ok (.invokevirtual 156, 3) := by decide +kernel
theorem dX12_polygonLine_18 : decode cX12_polygonLine 18 = .ok (.aload_n 0, 1) := by decide +kernel
theorem dX12_polygonLine_19 : decode cX12_polygonLine 19 = .ok (.getfield 125, 3) := by decide +kernel
theorem dX12_polygonLine_22 : decode cX12_polygonLine 22 = .ok (.ifCond .ne 113, 3) := by decide +kernel
theorem dX12_polygonLine_135 : decode cX12_polygonLine 135 = .ok (.aload_n 0, 1) := by decide +kernel
theorem dX12_polygonLine_136 : decode cX12_polygonLine 136 = .ok (.getfield 109, 3) := by decide +kernel
theorem dX12_polygonLine_139 : decode cX12_polygonLine 139 = .ok (.iconst 3, 1) := by decide +kernel
theorem dX12_polygonLine_140 : decode cX12_polygonLine 140 = .ok (.if_icmp .eq 15, 3) := by decide +kernel
theorem dX12_polygonLine_143 : decode cX12_polygonLine 143 = .ok (.aload_n 0, 1) := by decide +kernel
theorem dX12_polygonLine_144 : decode cX12_polygonLine 144 = .ok (.getfield 109, 3) := by decide +kernel
theorem dX12_polygonLine_147 : decode cX12_polygonLine 147 = .ok (.ifCond .eq 8, 3) := by decide +kernel
theorem dX12_polygonLine_155 : decode cX12_polygonLine 155 = .ok (.aload_n 0, 1) := by decide +kernel
theorem dX12_polygonLine_156 : decode cX12_polygonLine 156 = .ok (.getfield 125, 3) := by decide +kernel
theorem dX12_polygonLine_159 : decode cX12_polygonLine 159 = .ok (.ifCond .ne 18, 3) := by decide +kernel
theorem dX12_polygonLine_177 : decode cX12_polygonLine 177 = .ok (.return_, 1) := by decide +kernel
theorem dX12_reads_0 : decode cX12_reads 0 = .ok (.aload_n 0, 1) := by decide +kernel
theorem dX12_reads_1 : decode cX12_reads 1 = .ok (.iload_n 1, 1) := by decide +kernel
theorem dX12_reads_2 : decode cX12_reads 2 = .ok (.putfield 96, 3) := by decide +kernel
theorem dX12_reads_5 : decode cX12_reads 5 = .ok (.aload_n 0, 1) := by decide +kernel
theorem dX12_reads_6 : decode cX12_reads 6 = .ok (.iconst 0, 1) := by decide +kernel
theorem dX12_reads_7 : decode cX12_reads 7 = .ok (.putfield 99, 3) := by decide +kernel
theorem dX12_reads_10 : decode cX12_reads 10 = .ok (.aload_n 0, 1) := by decide +kernel
theorem dX12_reads_11 : decode cX12_reads 11 = .ok (.iconst 0, 1) := by decide +kernel
theorem dX12_reads_12 : decode cX12_reads 12 = .ok (.putfield 125, 3) := by decide +kernel
theorem dX12_reads_15 : decode cX12_reads 15 = .ok (.aload_n 0, 1) := by decide +kernel
theorem dX12_reads_16 : decode cX12_reads 16 = .ok (.iconst (-1), 1) := by decide +kernel
theorem dX12_reads_17 : decode cX12_reads 17 = .ok (.putfield 128, 3) := by decide +kernel
theorem dX12_reads_20 : decode cX12_reads 20 = .ok (.iconst 0, 1) := by decide +kernel
theorem dX12_reads_21 : decode cX12_reads 21 = .ok (.istore_n 2, 1) := by decide +kernel
theorem dX12_reads_22 : decode cX12_reads 22 = .ok (.iload_n 2, 1) := by decide +kernel
theorem dX12_reads_23 : decode cX12_reads 23 = .ok (.bipush 63, 2) := by decide +kernel
theorem dX12_reads_25 : decode cX12_reads 25 = .ok (.if_icmp .ge 16, 3) := by decide +kernel
theorem dX12_reads_28 : decode cX12_reads 28 = .ok (.aload_n 0, 1) := by decide +kernel
theorem dX12_reads_29 : decode cX12_reads 29 = .ok (.getfield 30, 3) := by decide +kernel
theorem dX12_reads_32 : decode cX12_reads 32 = .ok (.iload_n 2, 1) := by decide +kernel
theorem dX12_reads_33 : decode cX12_reads 33 = .ok (.iconst 0, 1) := by decide +kernel
theorem dX12_reads_34 : decode cX12_reads 34 = .ok (.iastore, 1) := by decide +kernel
theorem dX12_reads_35 : decode cX12_reads 35 = .ok (.iinc 2 1, 3) := by decide +kernel
theorem dX12_reads_38 : decode cX12_reads 38 = .ok (.goto (-16), 3) := by decide +kernel
theorem dX12_reads_41 : decode cX12_reads 41 = .ok (.aload_n 0, 1) := by decide +kernel
theorem dX12_reads_42 : decode cX12_reads 42 = .ok (.invokevirtual 131, 3) := by decide +kernel
theorem dX12_reads_45 : decode cX12_reads 45 = .ok (.aload_n 0, 1) := by decide +kernel
theorem dX12_reads_46 : decode cX12_reads 46 = .ok (.invokevirtual 178, 3) := by decide +kernel
theorem dX12_reads_49 : decode cX12_reads 49 = .ok (.aload_n 0, 1) := by decide +kernel
theorem dX12_reads_50 : decode cX12_reads 50 = .ok (.getfield 125, 3) := by decide +kernel
theorem dX12_reads_53 : decode cX12_reads 53 = .ok (.ifCond .ne 54, 3) := by decide +kernel
theorem dX12_reads_107 : decode cX12_reads 107 = .ok (.aload_n 0, 1) := by decide +kernel
theorem dX12_reads_108 : decode cX12_reads 108 = .ok (.getfield 109, 3) := by decide +kernel
theorem dX12_reads_111 : decode cX12_reads 111 = .ok (.ifCond .eq 8, 3) := by decide +kernel
theorem dX12_reads_119 : decode cX12_reads 119 = .ok (.return_, 1) := by decide +kernel
theorem dX12_seen_0 : decode cX12_seen 0 = .ok (.iload_n 1, 1) := by decide +kernel
theorem dX12_seen_1 : decode cX12_seen 1 = .ok (.aload_n 0, 1) := by decide +kernel
theorem dX12_seen_2 : decode cX12_seen 2 = .ok (.getfield 96, 3) := by decide +kernel
theorem dX12_seen_5 : decode cX12_seen 5 = .ok (.if_icmp .ge 12, 3) := by decide +kernel
theorem dX12_seen_17 : decode cX12_seen 17 = .ok (.iconst (-1), 1) := by decide +kernel
theorem dX12_seen_18 : decode cX12_seen 18 = .ok (.ireturn, 1) := by decide +kernel
theorem dX12_token_0 : decode cX12_token 0 = .ok (.aload_n 0, 1) := by decide +kernel
theorem dX12_token_1 : decode cX12_token 1 = .ok (.aload_n 0, 1) := by decide +kernel
theorem dX12_token_2 : decode cX12_token 2 = .ok (.getfield 99, 3) := by decide +kernel
theorem dX12_token_5 : decode cX12_token 5 = .ok (.invokevirtual 102, 3) := by decide +kernel
theorem dX12_token_8 : decode cX12_token 8 = .ok (.bipush 32, 2) := by decide +kernel
theorem dX12_token_10 : decode cX12_token 10 = .ok (.if_icmp .ne 16, 3) := by decide +kernel
theorem dX12_token_26 : decode cX12_token 26 = .ok (.aload_n 0, 1) := by decide +kernel
theorem dX12_token_27 : decode cX12_token 27 = .ok (.aload_n 0, 1) := by decide +kernel
theorem dX12_token_28 : decode cX12_token 28 = .ok (.getfield 99, 3) := by decide +kernel
theorem dX12_token_31 : decode cX12_token 31 = .ok (.putfield 106, 3) := by decide +kernel
theorem dX12_token_34 : decode cX12_token 34 = .ok (.aload_n 0, 1) := by decide +kernel
theorem dX12_token_35 : decode cX12_token 35 = .ok (.aload_n 0, 1) := by decide +kernel
theorem dX12_token_36 : decode cX12_token 36 = .ok (.getfield 99, 3) := by decide +kernel
theorem dX12_token_39 : decode cX12_token 39 = .ok (.invokevirtual 102, 3) := by decide +kernel
theorem dX12_token_42 : decode cX12_token 42 = .ok (.istore_n 1, 1) := by decide +kernel
theorem dX12_token_43 : decode cX12_token 43 = .ok (.iload_n 1, 1) := by decide +kernel
theorem dX12_token_44 : decode cX12_token 44 = .ok (.iconst (-1), 1) := by decide +kernel
theorem dX12_token_45 : decode cX12_token 45 = .ok (.if_icmp .ne 11, 3) := by decide +kernel
theorem dX12_token_48 : decode cX12_token 48 = .ok (.aload_n 0, 1) := by decide +kernel
theorem dX12_token_49 : decode cX12_token 49 = .ok (.iconst 0, 1) := by decide +kernel
theorem dX12_token_50 : decode cX12_token 50 = .ok (.putfield 109, 3) := by decide +kernel
theorem dX12_token_53 : decode cX12_token 53 = .ok (.goto 217, 3) := by decide +kernel
theorem dX12_token_270 : decode cX12_token 270 = .ok (.return_, 1) := by decide +kernel
theorem dX2_addWord_0 : decode cX2_addWord 0 = .ok (.bipush 24, 2) := by decide +kernel
theorem dX2_addWord_2 : decode cX2_addWord 2 = .ok (.istore_n 2, 1) := by decide +kernel
theorem dX2_addWord_3 : decode cX2_addWord 3 = .ok (.iload_n 2, 1) := by decide +kernel
theorem dX2_addWord_4 : decode cX2_addWord 4 = .ok (.ifCond .lt 45, 3) := by decide +kernel
theorem dX2_addWord_7 : decode cX2_addWord 7 = .ok (.aload_n 0, 1) := by decide +kernel
theorem dX2_addWord_8 : decode cX2_addWord 8 = .ok (.getfield 9, 3) := by decide +kernel
theorem dX2_addWord_11 : decode cX2_addWord 11 = .ok (.sipush 600, 3) := by decide +kernel
theorem dX2_addWord_14 : decode cX2_addWord 14 = .ok (.if_icmp .ge 29, 3) := by decide +kernel
theorem dX2_addWord_17 : decode cX2_addWord 17 = .ok (.aload_n 0, 1) := by decide +kernel
theorem dX2_addWord_18 : decode cX2_addWord 18 = .ok (.getfield 30, 3) := by decide +kernel
theorem dX2_addWord_21 : decode cX2_addWord 21 = .ok (.aload_n 0, 1) := by decide +kernel
theorem dX2_addWord_22 : decode cX2_addWord 22 = .ok (.getfield 9, 3) := by decide +kernel
theorem dX2_addWord_25 : decode cX2_addWord 25 = .ok (.iload_n 1, 1) := by decide +kernel
theorem dX2_addWord_26 : decode cX2_addWord 26 = .ok (.iload_n 2, 1) := by decide +kernel
theorem dX2_addWord_27 : decode cX2_addWord 27 = .ok (.iushr, 1) := by decide +kernel
theorem dX2_addWord_28 : decode cX2_addWord 28 = .ok (.sipush 255, 3) := by decide +kernel
theorem dX2_addWord_31 : decode cX2_addWord 31 = .ok (.iand, 1) := by decide +kernel
theorem dX2_addWord_32 : decode cX2_addWord 32 = .ok (.iastore, 1) := by decide +kernel
theorem dX2_addWord_33 : decode cX2_addWord 33 = .ok (.aload_n 0, 1) := by decide +kernel
theorem dX2_addWord_34 : decode cX2_addWord 34 = .ok (.dup, 1) := by decide +kernel
theorem dX2_addWord_35 : decode cX2_addWord 35 = .ok (.getfield 9, 3) := by decide +kernel
theorem dX2_addWord_38 : decode cX2_addWord 38 = .ok (.iconst 1, 1) := by decide +kernel
theorem dX2_addWord_39 : decode cX2_addWord 39 = .ok (.iadd, 1) := by decide +kernel
theorem dX2_addWord_40 : decode cX2_addWord 40 = .ok (.putfield 9, 3) := by decide +kernel
theorem dX2_addWord_43 : decode cX2_addWord 43 = .ok (.iinc 2 (-8), 3) := by decide +kernel
theorem dX2_addWord_46 : decode cX2_addWord 46 = .ok (.goto (-43), 3) := by decide +kernel
theorem dX2_addWord_49 : decode cX2_addWord 49 = .ok (.return_, 1) := by decide +kernel
theorem dX2_isWord_0 : decode cX2_isWord 0 = .ok (.aload_n 0, 1) := by decide +kernel
theorem dX2_isWord_1 : decode cX2_isWord 1 = .ok (.getfield 15, 3) := by decide +kernel
theorem dX2_isWord_4 : decode cX2_isWord 4 = .ok (.iconst 1, 1) := by decide +kernel
theorem dX2_isWord_5 : decode cX2_isWord 5 = .ok (.if_icmp .ne 19, 3) := by decide +kernel
theorem dX2_isWord_24 : decode cX2_isWord 24 = .ok (.iconst 0, 1) := by decide +kernel
theorem dX2_isWord_25 : decode cX2_isWord 25 = .ok (.ireturn, 1) := by decide +kernel
theorem dX2_readToken_0 : decode cX2_readToken 0 = .ok (.aload_n 0, 1) := by decide +kernel
theorem dX2_readToken_1 : decode cX2_readToken 1 = .ok (.aload_n 0, 1) := by decide +kernel
theorem dX2_readToken_2 : decode cX2_readToken 2 = .ok (.aload_n 0, 1) := by decide +kernel
theorem dX2_readToken_3 : decode cX2_readToken 3 = .ok (.getfield 24, 3) := by decide +kernel
theorem dX2_readToken_6 : decode cX2_readToken 6 = .ok (.bipush 32, 2) := by decide +kernel
theorem dX2_readToken_8 : decode cX2_readToken 8 = .ok (.bipush 32, 2) := by decide +kernel
theorem dX2_readToken_10 : decode cX2_readToken 10 = .ok (.invokevirtual 37, 3) := by decide +kernel
theorem dX2_readToken_13 : decode cX2_readToken 13 = .ok (.putfield 18, 3) := by decide +kernel
theorem dX2_readToken_16 : decode cX2_readToken 16 = .ok (.aload_n 0, 1) := by decide +kernel
theorem dX2_readToken_17 : decode cX2_readToken 17 = .ok (.getfield 18, 3) := by decide +kernel
theorem dX2_readToken_20 : decode cX2_readToken 20 = .ok (.aload_n 0, 1) := by decide +kernel
theorem dX2_readToken_21 : decode cX2_readToken 21 = .ok (.getfield 27, 3) := by decide +kernel
theorem dX2_readToken_24 : decode cX2_readToken 24 = .ok (.if_icmp .ge 13, 3) := by decide +kernel
theorem dX2_readToken_37 : decode cX2_readToken 37 = .ok (.aload_n 0, 1) := by decide +kernel
theorem dX2_readToken_38 : decode cX2_readToken 38 = .ok (.iconst 0, 1) := by decide +kernel
theorem dX2_readToken_39 : decode cX2_readToken 39 = .ok (.putfield 15, 3) := by decide +kernel
theorem dX2_readToken_42 : decode cX2_readToken 42 = .ok (.aload_n 0, 1) := by decide +kernel
theorem dX2_readToken_43 : decode cX2_readToken 43 = .ok (.aload_n 0, 1) := by decide +kernel
theorem dX2_readToken_44 : decode cX2_readToken 44 = .ok (.getfield 18, 3) := by decide +kernel
theorem dX2_readToken_47 : decode cX2_readToken 47 = .ok (.putfield 24, 3) := by decide +kernel
theorem dX2_readToken_50 : decode cX2_readToken 50 = .ok (.return_, 1) := by decide +kernel
theorem dX2_runEnd_0 : decode cX2_runEnd 0 = .ok (.iload_n 1, 1) := by decide +kernel
theorem dX2_runEnd_1 : decode cX2_runEnd 1 = .ok (.iconst 0, 1) := by decide +kernel
theorem dX2_runEnd_2 : decode cX2_runEnd 2 = .ok (.invokestatic 45, 3) := by decide +kernel
theorem dX2_runEnd_5 : decode cX2_runEnd 5 = .ok (.istore 4, 2) := by decide +kernel
theorem dX2_runEnd_7 : decode cX2_runEnd 7 = .ok (.iload 4, 2) := by decide +kernel
theorem dX2_runEnd_9 : decode cX2_runEnd 9 = .ok (.aload_n 0, 1) := by decide +kernel
theorem dX2_runEnd_10 : decode cX2_runEnd 10 = .ok (.getfield 27, 3) := by decide +kernel
theorem dX2_runEnd_13 : decode cX2_runEnd 13 = .ok (.if_icmp .ge 42, 3) := by decide +kernel
theorem dX2_runEnd_55 : decode cX2_runEnd 55 = .ok (.aload_n 0, 1) := by decide +kernel
theorem dX2_runEnd_56 : decode cX2_runEnd 56 = .ok (.getfield 27, 3) := by decide +kernel
theorem dX2_runEnd_59 : decode cX2_runEnd 59 = .ok (.ireturn, 1) := by decide +kernel
theorem dX2_startText_0 : decode cX2_startText 0 = .ok (.aload_n 0, 1) := by decide +kernel
theorem dX2_startText_1 : decode cX2_startText 1 = .ok (.iload_n 1, 1) := by decide +kernel
theorem dX2_startText_2 : decode cX2_startText 2 = .ok (.putfield 27, 3) := by decide +kernel
theorem dX2_startText_5 : decode cX2_startText 5 = .ok (.aload_n 0, 1) := by decide +kernel
theorem dX2_startText_6 : decode cX2_startText 6 = .ok (.iconst 0, 1) := by decide +kernel
theorem dX2_startText_7 : decode cX2_startText 7 = .ok (.putfield 24, 3) := by decide +kernel
theorem dX2_startText_10 : decode cX2_startText 10 = .ok (.aload_n 0, 1) := by decide +kernel
theorem dX2_startText_11 : decode cX2_startText 11 = .ok (.invokevirtual 34, 3) := by decide +kernel
theorem dX2_startText_14 : decode cX2_startText 14 = .ok (.return_, 1) := by decide +kernel
theorem dX5_parse_0 : decode cX5_parse 0 = .ok (.aload_n 0, 1) := by decide +kernel
theorem dX5_parse_1 : decode cX5_parse 1 = .ok (.getfield 22, 3) := by decide +kernel
theorem dX5_parse_4 : decode cX5_parse 4 = .ok (.invokevirtual 30, 3) := by decide +kernel
theorem dX5_parse_7 : decode cX5_parse 7 = .ok (.aload_n 0, 1) := by decide +kernel
theorem dX5_parse_8 : decode cX5_parse 8 = .ok (.getfield 18, 3) := by decide +kernel
theorem dX5_parse_11 : decode cX5_parse 11 = .ok (.iload_n 1, 1) := by decide +kernel
theorem dX5_parse_12 : decode cX5_parse 12 = .ok (.invokevirtual 35, 3) := by decide +kernel
theorem dX5_parse_15 : decode cX5_parse 15 = .ok (.aload_n 0, 1) := by decide +kernel
theorem dX5_parse_16 : decode cX5_parse 16 = .ok (.getfield 18, 3) := by decide +kernel
theorem dX5_parse_19 : decode cX5_parse 19 = .ok (.ldc 41, 2) := by decide +kernel
theorem dX5_parse_21 : decode cX5_parse 21 = .ok (.invokevirtual 43, 3) := by decide +kernel
theorem dX5_parse_24 : decode cX5_parse 24 = .ok (.ifCond .ne 5, 3) := by decide +kernel
theorem dX5_parse_27 : decode cX5_parse 27 = .ok (.iconst 1, 1) := by decide +kernel
theorem dX5_parse_28 : decode cX5_parse 28 = .ok (.ireturn, 1) := by decide +kernel
theorem dX6_clear_0 : decode cX6_clear 0 = .ok (.aload_n 0, 1) := by decide +kernel
theorem dX6_clear_1 : decode cX6_clear 1 = .ok (.iconst 0, 1) := by decide +kernel
theorem dX6_clear_2 : decode cX6_clear 2 = .ok (.putfield 9, 3) := by decide +kernel
theorem dX6_clear_5 : decode cX6_clear 5 = .ok (.aload_n 0, 1) := by decide +kernel
theorem dX6_clear_6 : decode cX6_clear 6 = .ok (.iconst 0, 1) := by decide +kernel
theorem dX6_clear_7 : decode cX6_clear 7 = .ok (.putfield 15, 3) := by decide +kernel
theorem dX6_clear_10 : decode cX6_clear 10 = .ok (.aload_n 0, 1) := by decide +kernel
theorem dX6_clear_11 : decode cX6_clear 11 = .ok (.iconst 0, 1) := by decide +kernel
theorem dX6_clear_12 : decode cX6_clear 12 = .ok (.putfield 18, 3) := by decide +kernel
theorem dX6_clear_15 : decode cX6_clear 15 = .ok (.return_, 1) := by decide +kernel
