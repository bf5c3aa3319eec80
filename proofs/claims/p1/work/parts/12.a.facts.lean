theorem vin2 {x : Int32} (h1 : ¬ x < 0) (h2 : ¬ (1 : Int32) < x) : vp_in x 2 := by
  rw [vp_in_iff]
  rw [Int32.lt_iff_toInt_lt] at h1 h2
  have e0 : (0 : Int32).toInt = 0 := by decide
  have e1 : (1 : Int32).toInt = 1 := by decide
  rw [e0] at h1
  rw [e1] at h2
  omega
theorem ge2 {x : Int32} (h : ¬ x < 2) : (1 : Int32) < x := by
  rw [Int32.lt_iff_toInt_lt] at h ⊢
  have e2 : (2 : Int32).toInt = 2 := by decide
  have e1 : (1 : Int32).toInt = 1 := by decide
  rw [e2] at h
  rw [e1]
  omega
theorem lt2 {x : Int32} (h : x < 2) : ¬ (1 : Int32) < x := by
  rw [Int32.lt_iff_toInt_lt] at h ⊢
  have e2 : (2 : Int32).toInt = 2 := by decide
  have e1 : (1 : Int32).toInt = 1 := by decide
  rw [e2] at h
  rw [e1]
  omega
theorem eq0 {x : Int32} (h1 : ¬ x < 0) (h2 : ¬ (0 : Int32) < x) : x = 0 := by
  rw [Int32.lt_iff_toInt_lt] at h1 h2
  have e0 : (0 : Int32).toInt = 0 := by decide
  rw [e0] at h1 h2
  exact Int32.toInt_inj.mp (by rw [e0]; omega)

theorem w_223 : Cond.lays RX12 "GalleryGuardsModel" "thrown" "I" ∈ Big := big_t 1546 (by decide +kernel) rfl
theorem w_224 : Cond.lays RX12 "GalleryGuardsModel" "hasPolygon" "Z" ∈ Big := big_t 1548 (by decide +kernel) rfl
theorem w_225 : Cond.laysFinal RX12 "GalleryGuardsModel" "s" "[I" ∈ Big := big_t 1550 (by decide +kernel) rfl
theorem w_226 : Cond.laysFinal RX12 "GalleryGuardsModel" "stores" "[I" ∈ Big := big_t 1552 (by decide +kernel) rfl
theorem w_227 : Cond.lays RX12 "GalleryGuardsModel" "changes" "I" ∈ Big := big_t 1554 (by decide +kernel) rfl
theorem w_228 : Cond.laysFinal RX12 "GalleryGuardsModel" "isKept" "[Z" ∈ Big := big_t 1556 (by decide +kernel) rfl
theorem w_229 : Cond.laysFinal RX12 "GalleryGuardsModel" "buffe\x72" "[I" ∈ Big := big_t 1558 (by decide +kernel) rfl
theorem w_230 : Cond.lays RX12 "GalleryGuardsModel" "buffered" "I" ∈ Big := big_t 1560 (by decide +kernel) rfl
theorem w_231 : Cond.lays RX12 "GalleryGuardsModel" "parseErro\x72" "I" ∈ Big := big_t 1562 (by decide +kernel) rfl
theorem w_232 : Cond.lays RX12 "GalleryGuardsModel" "errorPosition" "I" ∈ Big := big_t 1564 (by decide +kernel) rfl
theorem w_233 : Cond.lays RX12 "GalleryGuardsModel" "size" "I" ∈ Big := big_t 1566 (by decide +kernel) rfl
theorem w_234 : Cond.lays RX12 "GalleryGuardsModel" "next" "I" ∈ Big := big_t 1568 (by decide +kernel) rfl
theorem w_235 : Cond.lays RX12 "GalleryGuardsModel" "from" "I" ∈ Big := big_t 1570 (by decide +kernel) rfl
theorem w_236 : Cond.lays RX12 "GalleryGuardsModel" "sort" "I" ∈ Big := big_t 1572 (by decide +kernel) rfl
theorem w_237 : Cond.laysFinal RX12 "GalleryGuardsModel" "word" "[I" ∈ Big := big_t 1574 (by decide +kernel) rfl
theorem w_238 : Cond.lays RX12 "GalleryGuardsModel" "wordLong" "I" ∈ Big := big_t 1576 (by decide +kernel) rfl
theorem w_239 : Cond.lays RX12 "GalleryGuardsModel" "numbe\x72" "I" ∈ Big := big_t 1578 (by decide +kernel) rfl
theorem w_240 : Cond.lays RX12 "GalleryGuardsModel" "wrong" "I" ∈ Big := big_t 1580 (by decide +kernel) rfl
theorem w_241 : Cond.lays RX12 "GalleryGuardsModel" "wrongAt" "I" ∈ Big := big_t 1582 (by decide +kernel) rfl
theorem w_242 : Cond.laysFinal RX12 "GalleryGuardsModel" "\x72" "[I" ∈ Big := big_t 1584 (by decide +kernel) rfl
theorem w_243 : Cond.lays RX12 "GalleryGuardsModel" "points" "I" ∈ Big := big_t 1586 (by decide +kernel) rfl
theorem w_244 : Cond.laysFinal RX12 "GalleryGuardsModel" "px" "[I" ∈ Big := big_t 1588 (by decide +kernel) rfl
theorem w_245 : Cond.laysFinal RX12 "GalleryGuardsModel" "py" "[I" ∈ Big := big_t 1590 (by decide +kernel) rfl
theorem w_246 : Cond.laysFinal RX12 "GalleryGuardsModel" "numberAt" "[I" ∈ Big := big_t 1592 (by decide +kernel) rfl
theorem w_247 : Cond.laysFinal RX12 "GalleryGuardsModel" "wayX" "[J" ∈ Big := big_t 1594 (by decide +kernel) rfl
theorem w_248 : Cond.laysFinal RX12 "GalleryGuardsModel" "wayY" "[J" ∈ Big := big_t 1596 (by decide +kernel) rfl
theorem w_249 : Cond.laysFinal RX12 "GalleryGuardsModel" "wayFa\x72" "[J" ∈ Big := big_t 1598 (by decide +kernel) rfl
theorem w_250 : Cond.lays RX12 "GalleryGuardsModel" "isLaid" "Z" ∈ Big := big_t 1600 (by decide +kernel) rfl
theorem w_251 : Cond.laysFinal RX12 "GalleryGuardsModel" "sight" "[J" ∈ Big := big_t 1602 (by decide +kernel) rfl
theorem w_252 : Cond.laysFinal RX12 "GalleryGuardsModel" "edgeSight" "[J" ∈ Big := big_t 1604 (by decide +kernel) rfl
theorem w_253 : Cond.laysFinal RX12 "GalleryGuardsModel" "links" "[I" ∈ Big := big_t 1606 (by decide +kernel) rfl
theorem w_254 : Cond.laysFinal RX12 "GalleryGuardsModel" "ring" "[I" ∈ Big := big_t 1608 (by decide +kernel) rfl
theorem w_255 : Cond.laysFinal RX12 "GalleryGuardsModel" "corners" "[I" ∈ Big := big_t 1610 (by decide +kernel) rfl
theorem w_256 : Cond.laysFinal RX12 "GalleryGuardsModel" "colours" "[I" ∈ Big := big_t 1612 (by decide +kernel) rfl
theorem w_257 : Cond.lays RX12 "GalleryGuardsModel" "guardMany" "I" ∈ Big := big_t 1614 (by decide +kernel) rfl
theorem w_258 : Cond.laysFinal RX12 "GalleryGuardsModel" "guardSet" "[I" ∈ Big := big_t 1616 (by decide +kernel) rfl
theorem w_259 : Cond.lays RX12 "GalleryGuardsModel" "witnessMany" "I" ∈ Big := big_t 1618 (by decide +kernel) rfl
theorem w_260 : Cond.laysFinal RX12 "GalleryGuardsModel" "witnessSet" "[I" ∈ Big := big_t 1620 (by decide +kernel) rfl
theorem w_261 : Cond.lays RX12 "GalleryGuardsModel" "hidden" "I" ∈ Big := big_t 1622 (by decide +kernel) rfl
theorem w_262 : Cond.laysFinal RX12 "GalleryGuardsModel" "map" "[I" ∈ Big := big_t 1624 (by decide +kernel) rfl
theorem w_263 : Cond.lays RX12 "GalleryGuardsModel" "isDrawn" "Z" ∈ Big := big_t 1626 (by decide +kernel) rfl
theorem w_264 : Cond.fieldLink RX12 79 "GalleryGuardsModel" "thrown" "I" ∈ Big := big_t 1505 (by decide +kernel) rfl
theorem w_265 : Cond.fieldLink RX12 82 "GalleryGuardsModel" "hasPolygon" "Z" ∈ Big := big_t 1506 (by decide +kernel) rfl
theorem w_266 : Cond.methodLink RX12 86 yX12_refuse ∈ Big := big_t 1657 (by decide +kernel) rfl
theorem w_267 : Cond.instanceMethod yX12_refuse ∈ Big := big_t 1659 (by decide +kernel) rfl
theorem w_268 : Cond.selects RX12 yX12_refuse yX12_refuse ∈ Big := big_s 35 (y := yX12_refuse) (k := 41) (by decide +kernel)
theorem w_269 : Cond.initialized RX12 ∈ Big := big_t 12 (by decide +kernel) rfl
theorem w_270 : Cond.code yX12_refuse cX12_refuse 3 (some .boolean) ∈ Big := big_t 1660 (by decide +kernel) rfl
theorem w_271 : Cond.methodLink RX12 247 yX12_noPolygon ∈ Big := big_t 1785 (by decide +kernel) rfl
theorem w_272 : Cond.instanceMethod yX12_noPolygon ∈ Big := big_t 1787 (by decide +kernel) rfl
theorem w_273 : Cond.selects RX12 yX12_noPolygon yX12_noPolygon ∈ Big := big_s 49 (y := yX12_noPolygon) (k := 41) (by decide +kernel)
theorem w_274 : Cond.code yX12_noPolygon cX12_noPolygon 1 (some .boolean) ∈ Big := big_t 1788 (by decide +kernel) rfl
theorem w_275 : Cond.methodLink RX12 251 yX12_noVertex ∈ Big := big_t 1781 (by decide +kernel) rfl
theorem w_276 : Cond.instanceMethod yX12_noVertex ∈ Big := big_t 1783 (by decide +kernel) rfl
theorem w_277 : Cond.selects RX12 yX12_noVertex yX12_noVertex ∈ Big := big_s 48 (y := yX12_noVertex) (k := 41) (by decide +kernel)
theorem w_278 : Cond.code yX12_noVertex cX12_noVertex 2 (some .boolean) ∈ Big := big_t 1784 (by decide +kernel) rfl
theorem w_279 : Cond.methodLink RX12 254 yX12_noPoint ∈ Big := big_t 1797 (by decide +kernel) rfl
theorem w_280 : Cond.instanceMethod yX12_noPoint ∈ Big := big_t 1799 (by decide +kernel) rfl
theorem w_281 : Cond.selects RX12 yX12_noPoint yX12_noPoint ∈ Big := big_s 50 (y := yX12_noPoint) (k := 41) (by decide +kernel)
theorem w_282 : Cond.code yX12_noPoint cX12_noPoint 2 (some .boolean) ∈ Big := big_t 1800 (by decide +kernel) rfl
theorem w_283 : Cond.methodLink RX12 301 yX12_noTriangle ∈ Big := big_t 1886 (by decide +kernel) rfl
theorem w_284 : Cond.instanceMethod yX12_noTriangle ∈ Big := big_t 1888 (by decide +kernel) rfl
theorem w_285 : Cond.selects RX12 yX12_noTriangle yX12_noTriangle ∈ Big := big_s 58 (y := yX12_noTriangle) (k := 41) (by decide +kernel)
theorem w_286 : Cond.code yX12_noTriangle cX12_noTriangle 2 (some .boolean) ∈ Big := big_t 1889 (by decide +kernel) rfl
theorem w_287 : Cond.methodLink RX12 356 yX12_noGuard ∈ Big := big_t 1992 (by decide +kernel) rfl
theorem w_288 : Cond.instanceMethod yX12_noGuard ∈ Big := big_t 1994 (by decide +kernel) rfl
theorem w_289 : Cond.selects RX12 yX12_noGuard yX12_noGuard ∈ Big := big_s 72 (y := yX12_noGuard) (k := 41) (by decide +kernel)
theorem w_290 : Cond.code yX12_noGuard cX12_noGuard 2 (some .boolean) ∈ Big := big_t 1995 (by decide +kernel) rfl
theorem w_291 : Cond.fieldLink RX12 93 "GalleryGuardsModel" "parseErro\x72" "I" ∈ Big := big_t 1513 (by decide +kernel) rfl
theorem w_292 : Cond.fieldLink RX12 23 "GalleryGuardsModel" "errorPosition" "I" ∈ Big := big_t 1514 (by decide +kernel) rfl
theorem w_293 : Cond.fieldLink RX12 90 "GalleryGuardsModel" "buffered" "I" ∈ Big := big_t 1512 (by decide +kernel) rfl
theorem w_294 : Cond.fieldLink RX12 201 "GalleryGuardsModel" "points" "I" ∈ Big := big_t 1525 (by decide +kernel) rfl
theorem w_295 : Cond.methodLink RX12 244 yX12_told ∈ Big := big_t 1757 (by decide +kernel) rfl
theorem w_296 : Cond.instanceMethod yX12_told ∈ Big := big_t 1759 (by decide +kernel) rfl
theorem w_297 : Cond.selects RX12 yX12_told yX12_told ∈ Big := big_s 47 (y := yX12_told) (k := 41) (by decide +kernel)
theorem w_298 : Cond.code yX12_told cX12_told 2 (some .int) ∈ Big := big_t 1760 (by decide +kernel) rfl
theorem w_299 : Cond.fieldLink RX12 192 "GalleryGuardsModel" "changes" "I" ∈ Big := big_t 1509 (by decide +kernel) rfl
theorem w_300 : Cond.fieldLink RX12 7 "GalleryGuardsModel" "s" "[I" ∈ Big := big_t 1507 (by decide +kernel) rfl
theorem w_301 : Cond.fieldLink RX12 370 "GalleryGuardsModel" "isDrawn" "Z" ∈ Big := big_t 1545 (by decide +kernel) rfl
theorem w_302 : Cond.methodLink RX12 148 yX12_in ∈ Big := big_t 1654 (by decide +kernel) rfl
theorem w_303 : Cond.static yX12_in ∈ Big := big_t 1655 (by decide +kernel) rfl
theorem w_304 : Cond.code yX12_in cX12_in 3 (some .boolean) ∈ Big := big_t 1656 (by decide +kernel) rfl
theorem w_305 : Cond.fieldLink RX12 16 "GalleryGuardsModel" "isKept" "[Z" ∈ Big := big_t 1510 (by decide +kernel) rfl
theorem kc_X12 : Kc 11 RX12 TX12 41 tyX12 := ⟨rfl, big_ws (lt_s (lt_s (lt_s (lt_s (lt_s (lt_s (lt_s (lt_s (lt_s (lt_s (lt_s (lt_s (lt_s (lt_s (lt_s (lt_s (lt_s (lt_s (lt_s (lt_s (lt_s (lt_s (lt_s (lt_s (lt_s (lt_s (lt_s (lt_s (lt_s (lt_s (lt_s (lt_s (lt_s (lt_s (lt_s (lt_s (lt_s (lt_s (lt_s (lt_s (lt_s lt_0 w_223) w_224) w_225) w_226) w_227) w_228) w_229) w_230) w_231) w_232) w_233) w_234) w_235) w_236) w_237) w_238) w_239) w_240) w_241) w_242) w_243) w_244) w_245) w_246) w_247) w_248) w_249) w_250) w_251) w_252) w_253) w_254) w_255) w_256) w_257) w_258) w_259) w_260) w_261) w_262) w_263), tyX12_ok, nmX12⟩
theorem fg_X12_79 : Fg RX12 79 11 0 (.int) false true := ⟨_, _, _, _, kc_X12, by decide, w_264, by decide +kernel, rfl, fun _ => rfl⟩
theorem fg_X12_82 : Fg RX12 82 11 1 (.boolean) false true := ⟨_, _, _, _, kc_X12, by decide, w_265, by decide +kernel, rfl, fun _ => rfl⟩
theorem cd_yX12_refuse : Cd yX12_refuse 2 := ⟨by decide +kernel, by decide +kernel, by decide +kernel⟩
theorem cV_X12_86 : CV RX12 86 yX12_refuse cX12_refuse 3 (some .boolean) 2 := ⟨w_266, w_267, w_268, w_269, w_270, cd_yX12_refuse⟩
theorem cd_yX12_noPolygon : Cd yX12_noPolygon 0 := ⟨by decide +kernel, by decide +kernel, by decide +kernel⟩
theorem cV_X12_247 : CV RX12 247 yX12_noPolygon cX12_noPolygon 1 (some .boolean) 0 := ⟨w_271, w_272, w_273, w_269, w_274, cd_yX12_noPolygon⟩
theorem cd_yX12_noVertex : Cd yX12_noVertex 1 := ⟨by decide +kernel, by decide +kernel, by decide +kernel⟩
theorem cV_X12_251 : CV RX12 251 yX12_noVertex cX12_noVertex 2 (some .boolean) 1 := ⟨w_275, w_276, w_277, w_269, w_278, cd_yX12_noVertex⟩
theorem cd_yX12_noPoint : Cd yX12_noPoint 1 := ⟨by decide +kernel, by decide +kernel, by decide +kernel⟩
theorem cV_X12_254 : CV RX12 254 yX12_noPoint cX12_noPoint 2 (some .boolean) 1 := ⟨w_279, w_280, w_281, w_269, w_282, cd_yX12_noPoint⟩
theorem cd_yX12_noTriangle : Cd yX12_noTriangle 1 := ⟨by decide +kernel, by decide +kernel, by decide +kernel⟩
theorem cV_X12_301 : CV RX12 301 yX12_noTriangle cX12_noTriangle 2 (some .boolean) 1 := ⟨w_283, w_284, w_285, w_269, w_286, cd_yX12_noTriangle⟩
theorem cd_yX12_noGuard : Cd yX12_noGuard 1 := ⟨by decide +kernel, by decide +kernel, by decide +kernel⟩
theorem cV_X12_356 : CV RX12 356 yX12_noGuard cX12_noGuard 2 (some .boolean) 1 := ⟨w_287, w_288, w_289, w_269, w_290, cd_yX12_noGuard⟩
theorem fg_X12_93 : Fg RX12 93 11 8 (.int) false true := ⟨_, _, _, _, kc_X12, by decide, w_291, by decide +kernel, rfl, fun _ => rfl⟩
theorem fg_X12_23 : Fg RX12 23 11 9 (.int) false true := ⟨_, _, _, _, kc_X12, by decide, w_292, by decide +kernel, rfl, fun _ => rfl⟩
theorem fg_X12_90 : Fg RX12 90 11 7 (.int) false true := ⟨_, _, _, _, kc_X12, by decide, w_293, by decide +kernel, rfl, fun _ => rfl⟩
theorem fg_X12_201 : Fg RX12 201 11 20 (.int) false true := ⟨_, _, _, _, kc_X12, by decide, w_294, by decide +kernel, rfl, fun _ => rfl⟩
theorem cd_yX12_told : Cd yX12_told 1 := ⟨by decide +kernel, by decide +kernel, by decide +kernel⟩
theorem cV_X12_244 : CV RX12 244 yX12_told cX12_told 2 (some .int) 1 := ⟨w_295, w_296, w_297, w_269, w_298, cd_yX12_told⟩
theorem fg_X12_192 : Fg RX12 192 11 4 (.int) false true := ⟨_, _, _, _, kc_X12, by decide, w_299, by decide +kernel, rfl, fun _ => rfl⟩
theorem fg_X12_7 : Fg RX12 7 11 2 (.array .int) true true := ⟨_, _, _, _, kc_X12, by decide, w_300, by decide +kernel, rfl, fun _ => rfl⟩
theorem fg_X12_370 : Fg RX12 370 11 40 (.boolean) false true := ⟨_, _, _, _, kc_X12, by decide, w_301, by decide +kernel, rfl, fun _ => rfl⟩
theorem cd_yX12_in : Cd yX12_in 3 := ⟨by decide +kernel, by decide +kernel, by decide +kernel⟩
theorem cS_X12_148 : CS RX12 148 yX12_in cX12_in 3 (some .boolean) 3 := ⟨w_302, w_303, w_269, w_304, cd_yX12_in⟩
theorem fg_X12_16 : Fg RX12 16 11 5 (.array .boolean) true true := ⟨_, _, _, _, kc_X12, by decide, w_305, by decide +kernel, rfl, fun _ => rfl⟩
theorem dX12_addGuard_0 : decode cX12_addGuard 0 = .ok (.aload_n 0, 1) := by decide +kernel
theorem dX12_addGuard_1 : decode cX12_addGuard 1 = .ok (.iload_n 1, 1) := by decide +kernel
theorem dX12_addGuard_2 : decode cX12_addGuard 2 = .ok (.invokevirtual 254, 3) := by decide +kernel
theorem dX12_addGuard_5 : decode cX12_addGuard 5 = .ok (.ifCond .ne 50, 3) := by decide +kernel
theorem dX12_addGuard_55 : decode cX12_addGuard 55 = .ok (.iconst 0, 1) := by decide +kernel
theorem dX12_addGuard_56 : decode cX12_addGuard 56 = .ok (.ireturn, 1) := by decide +kernel
theorem dX12_bestPoint_0 : decode cX12_bestPoint 0 = .ok (.aload_n 0, 1) := by decide +kernel
theorem dX12_bestPoint_1 : decode cX12_bestPoint 1 = .ok (.invokevirtual 247, 3) := by decide +kernel
theorem dX12_bestPoint_4 : decode cX12_bestPoint 4 = .ok (.ifCond .eq 7, 3) := by decide +kernel
theorem dX12_bestPoint_7 : decode cX12_bestPoint 7 = .ok (.iconst 0, 1) := by decide +kernel
theorem dX12_bestPoint_8 : decode cX12_bestPoint 8 = .ok (.goto 21, 3) := by decide +kernel
theorem dX12_bestPoint_29 : decode cX12_bestPoint 29 = .ok (.ireturn, 1) := by decide +kernel
theorem dX12_bestValue_0 : decode cX12_bestValue 0 = .ok (.aload_n 0, 1) := by decide +kernel
theorem dX12_bestValue_1 : decode cX12_bestValue 1 = .ok (.invokevirtual 247, 3) := by decide +kernel
theorem dX12_bestValue_4 : decode cX12_bestValue 4 = .ok (.ifCond .eq 5, 3) := by decide +kernel
theorem dX12_bestValue_7 : decode cX12_bestValue 7 = .ok (.iconst 0, 1) := by decide +kernel
theorem dX12_bestValue_8 : decode cX12_bestValue 8 = .ok (.ireturn, 1) := by decide +kernel
theorem dX12_boundary_0 : decode cX12_boundary 0 = .ok (.aload_n 0, 1) := by decide +kernel
theorem dX12_boundary_1 : decode cX12_boundary 1 = .ok (.invokevirtual 247, 3) := by decide +kernel
theorem dX12_boundary_4 : decode cX12_boundary 4 = .ok (.ifCond .eq 5, 3) := by decide +kernel
theorem dX12_boundary_7 : decode cX12_boundary 7 = .ok (.lconst 0, 1) := by decide +kernel
theorem dX12_boundary_8 : decode cX12_boundary 8 = .ok (.lreturn, 1) := by decide +kernel
theorem dX12_buffered_0 : decode cX12_buffered 0 = .ok (.aload_n 0, 1) := by decide +kernel
theorem dX12_buffered_1 : decode cX12_buffered 1 = .ok (.iconst 0, 1) := by decide +kernel
theorem dX12_buffered_2 : decode cX12_buffered 2 = .ok (.putfield 79, 3) := by decide +kernel
theorem dX12_buffered_5 : decode cX12_buffered 5 = .ok (.aload_n 0, 1) := by decide +kernel
theorem dX12_buffered_6 : decode cX12_buffered 6 = .ok (.getfield 90, 3) := by decide +kernel
theorem dX12_buffered_9 : decode cX12_buffered 9 = .ok (.ireturn, 1) := by decide +kernel
theorem dX12_colour_0 : decode cX12_colour 0 = .ok (.aload_n 0, 1) := by decide +kernel
theorem dX12_colour_1 : decode cX12_colour 1 = .ok (.iload_n 1, 1) := by decide +kernel
theorem dX12_colour_2 : decode cX12_colour 2 = .ok (.invokevirtual 251, 3) := by decide +kernel
theorem dX12_colour_5 : decode cX12_colour 5 = .ok (.ifCond .eq 5, 3) := by decide +kernel
theorem dX12_colour_8 : decode cX12_colour 8 = .ok (.iconst 0, 1) := by decide +kernel
theorem dX12_colour_9 : decode cX12_colour 9 = .ok (.ireturn, 1) := by decide +kernel
theorem dX12_colourGuards_0 : decode cX12_colourGuards 0 = .ok (.aload_n 0, 1) := by decide +kernel
theorem dX12_colourGuards_1 : decode cX12_colourGuards 1 = .ok (.invokevirtual 247, 3) := by decide +kernel
theorem dX12_colourGuards_4 : decode cX12_colourGuards 4 = .ok (.ifCond .eq 5, 3) := by decide +kernel
theorem dX12_colourGuards_7 : decode cX12_colourGuards 7 = .ok (.iconst 0, 1) := by decide +kernel
theorem dX12_colourGuards_8 : decode cX12_colourGuards 8 = .ok (.ireturn, 1) := by decide +kernel
theorem dX12_deleteVertex_0 : decode cX12_deleteVertex 0 = .ok (.aload_n 0, 1) := by decide +kernel
theorem dX12_deleteVertex_1 : decode cX12_deleteVertex 1 = .ok (.iload_n 1, 1) := by decide +kernel
theorem dX12_deleteVertex_2 : decode cX12_deleteVertex 2 = .ok (.invokevirtual 251, 3) := by decide +kernel
theorem dX12_deleteVertex_5 : decode cX12_deleteVertex 5 = .ok (.ifCond .ne 26, 3) := by decide +kernel
theorem dX12_deleteVertex_31 : decode cX12_deleteVertex 31 = .ok (.iconst 0, 1) := by decide +kernel
theorem dX12_deleteVertex_32 : decode cX12_deleteVertex 32 = .ok (.ireturn, 1) := by decide +kernel
theorem dX12_diameter_0 : decode cX12_diameter 0 = .ok (.aload_n 0, 1) := by decide +kernel
theorem dX12_diameter_1 : decode cX12_diameter 1 = .ok (.invokevirtual 247, 3) := by decide +kernel
theorem dX12_diameter_4 : decode cX12_diameter 4 = .ok (.ifCond .eq 5, 3) := by decide +kernel
theorem dX12_diameter_7 : decode cX12_diameter 7 = .ok (.iconst 0, 1) := by decide +kernel
theorem dX12_diameter_8 : decode cX12_diameter 8 = .ok (.ireturn, 1) := by decide +kernel
theorem dX12_doubleArea_0 : decode cX12_doubleArea 0 = .ok (.aload_n 0, 1) := by decide +kernel
theorem dX12_doubleArea_1 : decode cX12_doubleArea 1 = .ok (.invokevirtual 247, 3) := by decide +kernel
theorem dX12_doubleArea_4 : decode cX12_doubleArea 4 = .ok (.ifCond .eq 5, 3) := by decide +kernel
theorem dX12_doubleArea_7 : decode cX12_doubleArea 7 = .ok (.iconst 0, 1) := by decide +kernel
theorem dX12_doubleArea_8 : decode cX12_doubleArea 8 = .ok (.ireturn, 1) := by decide +kernel
theorem dX12_draw_0 : decode cX12_draw 0 = .ok (.aload_n 0, 1) := by decide +kernel
theorem dX12_draw_1 : decode cX12_draw 1 = .ok (.invokevirtual 247, 3) := by decide +kernel
theorem dX12_draw_4 : decode cX12_draw 4 = .ok (.ifCond .ne 26, 3) := by decide +kernel
theorem dX12_draw_30 : decode cX12_draw 30 = .ok (.iconst 0, 1) := by decide +kernel
theorem dX12_draw_31 : decode cX12_draw 31 = .ok (.ireturn, 1) := by decide +kernel
theorem dX12_drawnByte_0 : decode cX12_drawnByte 0 = .ok (.aload_n 0, 1) := by decide +kernel
theorem dX12_drawnByte_1 : decode cX12_drawnByte 1 = .ok (.iconst 0, 1) := by decide +kernel
theorem dX12_drawnByte_2 : decode cX12_drawnByte 2 = .ok (.putfield 79, 3) := by decide +kernel
theorem dX12_drawnByte_5 : decode cX12_drawnByte 5 = .ok (.aload_n 0, 1) := by decide +kernel
theorem dX12_drawnByte_6 : decode cX12_drawnByte 6 = .ok (.aload_n 0, 1) := by decide +kernel
theorem dX12_drawnByte_7 : decode cX12_drawnByte 7 = .ok (.getfield 370, 3) := by decide +kernel
theorem dX12_drawnByte_10 : decode cX12_drawnByte 10 = .ok (.ifCond .eq 13, 3) := by decide +kernel
theorem dX12_drawnByte_23 : decode cX12_drawnByte 23 = .ok (.iconst 1, 1) := by decide +kernel
theorem dX12_drawnByte_24 : decode cX12_drawnByte 24 = .ok (.goto 4, 3) := by decide +kernel
theorem dX12_drawnByte_28 : decode cX12_drawnByte 28 = .ok (.iconst 1, 1) := by decide +kernel
theorem dX12_drawnByte_29 : decode cX12_drawnByte 29 = .ok (.invokevirtual 86, 3) := by decide +kernel
theorem dX12_drawnByte_32 : decode cX12_drawnByte 32 = .ok (.ifCond .eq 7, 3) := by decide +kernel
theorem dX12_drawnByte_35 : decode cX12_drawnByte 35 = .ok (.iconst 0, 1) := by decide +kernel
theorem dX12_drawnByte_36 : decode cX12_drawnByte 36 = .ok (.goto 9, 3) := by decide +kernel
theorem dX12_drawnByte_45 : decode cX12_drawnByte 45 = .ok (.ireturn, 1) := by decide +kernel
theorem dX12_edgeGuards_0 : decode cX12_edgeGuards 0 = .ok (.aload_n 0, 1) := by decide +kernel
theorem dX12_edgeGuards_1 : decode cX12_edgeGuards 1 = .ok (.invokevirtual 247, 3) := by decide +kernel
theorem dX12_edgeGuards_4 : decode cX12_edgeGuards 4 = .ok (.ifCond .eq 7, 3) := by decide +kernel
theorem dX12_edgeGuards_7 : decode cX12_edgeGuards 7 = .ok (.iconst 0, 1) := by decide +kernel
theorem dX12_edgeGuards_8 : decode cX12_edgeGuards 8 = .ok (.goto 8, 3) := by decide +kernel
theorem dX12_edgeGuards_16 : decode cX12_edgeGuards 16 = .ok (.ireturn, 1) := by decide +kernel
theorem dX12_errorPosition_0 : decode cX12_errorPosition 0 = .ok (.aload_n 0, 1) := by decide +kernel
theorem dX12_errorPosition_1 : decode cX12_errorPosition 1 = .ok (.iconst 0, 1) := by decide +kernel
theorem dX12_errorPosition_2 : decode cX12_errorPosition 2 = .ok (.putfield 79, 3) := by decide +kernel
theorem dX12_errorPosition_5 : decode cX12_errorPosition 5 = .ok (.aload_n 0, 1) := by decide +kernel
theorem dX12_errorPosition_6 : decode cX12_errorPosition 6 = .ok (.getfield 23, 3) := by decide +kernel
theorem dX12_errorPosition_9 : decode cX12_errorPosition 9 = .ok (.ireturn, 1) := by decide +kernel
theorem dX12_farthest_0 : decode cX12_farthest 0 = .ok (.aload_n 0, 1) := by decide +kernel
theorem dX12_farthest_1 : decode cX12_farthest 1 = .ok (.iload_n 1, 1) := by decide +kernel
theorem dX12_farthest_2 : decode cX12_farthest 2 = .ok (.invokevirtual 254, 3) := by decide +kernel
theorem dX12_farthest_5 : decode cX12_farthest 5 = .ok (.ifCond .eq 5, 3) := by decide +kernel
theorem dX12_farthest_8 : decode cX12_farthest 8 = .ok (.iconst 0, 1) := by decide +kernel
theorem dX12_farthest_9 : decode cX12_farthest 9 = .ok (.ireturn, 1) := by decide +kernel
theorem dX12_greedyGuards_0 : decode cX12_greedyGuards 0 = .ok (.aload_n 0, 1) := by decide +kernel
theorem dX12_greedyGuards_1 : decode cX12_greedyGuards 1 = .ok (.invokevirtual 247, 3) := by decide +kernel
theorem dX12_greedyGuards_4 : decode cX12_greedyGuards 4 = .ok (.ifCond .eq 5, 3) := by decide +kernel
theorem dX12_greedyGuards_7 : decode cX12_greedyGuards 7 = .ok (.iconst 0, 1) := by decide +kernel
theorem dX12_greedyGuards_8 : decode cX12_greedyGuards 8 = .ok (.ireturn, 1) := by decide +kernel
theorem dX12_guardAt_0 : decode cX12_guardAt 0 = .ok (.aload_n 0, 1) := by decide +kernel
theorem dX12_guardAt_1 : decode cX12_guardAt 1 = .ok (.iload_n 1, 1) := by decide +kernel
theorem dX12_guardAt_2 : decode cX12_guardAt 2 = .ok (.invokevirtual 356, 3) := by decide +kernel
theorem dX12_guardAt_5 : decode cX12_guardAt 5 = .ok (.ifCond .eq 7, 3) := by decide +kernel
theorem dX12_guardAt_8 : decode cX12_guardAt 8 = .ok (.iconst 0, 1) := by decide +kernel
theorem dX12_guardAt_9 : decode cX12_guardAt 9 = .ok (.goto 19, 3) := by decide +kernel
theorem dX12_guardAt_28 : decode cX12_guardAt 28 = .ok (.ireturn, 1) := by decide +kernel
theorem dX12_guardNumber_0 : decode cX12_guardNumber 0 = .ok (.aload_n 0, 1) := by decide +kernel
theorem dX12_guardNumber_1 : decode cX12_guardNumber 1 = .ok (.invokevirtual 247, 3) := by decide +kernel
theorem dX12_guardNumber_4 : decode cX12_guardNumber 4 = .ok (.ifCond .eq 5, 3) := by decide +kernel
theorem dX12_guardNumber_7 : decode cX12_guardNumber 7 = .ok (.iconst 0, 1) := by decide +kernel
theorem dX12_guardNumber_8 : decode cX12_guardNumber 8 = .ok (.ireturn, 1) := by decide +kernel
theorem dX12_guardPoint_0 : decode cX12_guardPoint 0 = .ok (.aload_n 0, 1) := by decide +kernel
theorem dX12_guardPoint_1 : decode cX12_guardPoint 1 = .ok (.invokevirtual 247, 3) := by decide +kernel
theorem dX12_guardPoint_4 : decode cX12_guardPoint 4 = .ok (.ifCond .eq 5, 3) := by decide +kernel
theorem dX12_guardPoint_7 : decode cX12_guardPoint 7 = .ok (.iconst 0, 1) := by decide +kernel
theorem dX12_guardPoint_8 : decode cX12_guardPoint 8 = .ok (.ireturn, 1) := by decide +kernel
theorem dX12_guardRange_0 : decode cX12_guardRange 0 = .ok (.aload_n 0, 1) := by decide +kernel
theorem dX12_guardRange_1 : decode cX12_guardRange 1 = .ok (.iload_n 1, 1) := by decide +kernel
theorem dX12_guardRange_2 : decode cX12_guardRange 2 = .ok (.invokevirtual 356, 3) := by decide +kernel
theorem dX12_guardRange_5 : decode cX12_guardRange 5 = .ok (.ifCond .eq 7, 3) := by decide +kernel
theorem dX12_guardRange_8 : decode cX12_guardRange 8 = .ok (.iconst 0, 1) := by decide +kernel
theorem dX12_guardRange_9 : decode cX12_guardRange 9 = .ok (.goto 9, 3) := by decide +kernel
theorem dX12_guardRange_18 : decode cX12_guardRange 18 = .ok (.ireturn, 1) := by decide +kernel
theorem dX12_guards_0 : decode cX12_guards 0 = .ok (.aload_n 0, 1) := by decide +kernel
theorem dX12_guards_1 : decode cX12_guards 1 = .ok (.aload_n 0, 1) := by decide +kernel
theorem dX12_guards_2 : decode cX12_guards 2 = .ok (.getfield 7, 3) := by decide +kernel
theorem dX12_guards_5 : decode cX12_guards 5 = .ok (.iconst 1, 1) := by decide +kernel
theorem dX12_guards_6 : decode cX12_guards 6 = .ok (.iaload, 1) := by decide +kernel
theorem dX12_guards_7 : decode cX12_guards 7 = .ok (.invokevirtual 244, 3) := by decide +kernel
theorem dX12_guards_10 : decode cX12_guards 10 = .ok (.ireturn, 1) := by decide +kernel
theorem dX12_hiddenNumber_0 : decode cX12_hiddenNumber 0 = .ok (.aload_n 0, 1) := by decide +kernel
theorem dX12_hiddenNumber_1 : decode cX12_hiddenNumber 1 = .ok (.invokevirtual 247, 3) := by decide +kernel
theorem dX12_hiddenNumber_4 : decode cX12_hiddenNumber 4 = .ok (.ifCond .eq 5, 3) := by decide +kernel
theorem dX12_hiddenNumber_7 : decode cX12_hiddenNumber 7 = .ok (.iconst 0, 1) := by decide +kernel
theorem dX12_hiddenNumber_8 : decode cX12_hiddenNumber 8 = .ok (.ireturn, 1) := by decide +kernel
theorem dX12_in_0 : decode cX12_in 0 = .ok (.iload_n 0, 1) := by decide +kernel
theorem dX12_in_1 : decode cX12_in 1 = .ok (.iload_n 1, 1) := by decide +kernel
theorem dX12_in_2 : decode cX12_in 2 = .ok (.if_icmp .lt 12, 3) := by decide +kernel
theorem dX12_in_5 : decode cX12_in 5 = .ok (.iload_n 0, 1) := by decide +kernel
theorem dX12_in_6 : decode cX12_in 6 = .ok (.iload_n 2, 1) := by decide +kernel
theorem dX12_in_7 : decode cX12_in 7 = .ok (.if_icmp .gt 7, 3) := by decide +kernel
theorem dX12_in_10 : decode cX12_in 10 = .ok (.iconst 1, 1) := by decide +kernel
theorem dX12_in_11 : decode cX12_in 11 = .ok (.goto 4, 3) := by decide +kernel
theorem dX12_in_14 : decode cX12_in 14 = .ok (.iconst 0, 1) := by decide +kernel
theorem dX12_in_15 : decode cX12_in 15 = .ok (.ireturn, 1) := by decide +kernel
theorem dX12_insertVertex_0 : decode cX12_insertVertex 0 = .ok (.aload_n 0, 1) := by decide +kernel
theorem dX12_insertVertex_1 : decode cX12_insertVertex 1 = .ok (.iload_n 1, 1) := by decide +kernel
theorem dX12_insertVertex_2 : decode cX12_insertVertex 2 = .ok (.invokevirtual 251, 3) := by decide +kernel
theorem dX12_insertVertex_5 : decode cX12_insertVertex 5 = .ok (.ifCond .ne 36, 3) := by decide +kernel
theorem dX12_insertVertex_41 : decode cX12_insertVertex 41 = .ok (.iconst 0, 1) := by decide +kernel
theorem dX12_insertVertex_42 : decode cX12_insertVertex 42 = .ok (.ireturn, 1) := by decide +kernel
theorem dX12_kernel_0 : decode cX12_kernel 0 = .ok (.aload_n 0, 1) := by decide +kernel
theorem dX12_kernel_1 : decode cX12_kernel 1 = .ok (.invokevirtual 247, 3) := by decide +kernel
theorem dX12_kernel_4 : decode cX12_kernel 4 = .ok (.ifCond .eq 5, 3) := by decide +kernel
theorem dX12_kernel_7 : decode cX12_kernel 7 = .ok (.lconst 0, 1) := by decide +kernel
theorem dX12_kernel_8 : decode cX12_kernel 8 = .ok (.lreturn, 1) := by decide +kernel
theorem dX12_linkDistance_0 : decode cX12_linkDistance 0 = .ok (.aload_n 0, 1) := by decide +kernel
theorem dX12_linkDistance_1 : decode cX12_linkDistance 1 = .ok (.iload_n 1, 1) := by decide +kernel
theorem dX12_linkDistance_2 : decode cX12_linkDistance 2 = .ok (.invokevirtual 254, 3) := by decide +kernel
theorem dX12_linkDistance_5 : decode cX12_linkDistance 5 = .ok (.ifCond .ne 30, 3) := by decide +kernel
theorem dX12_linkDistance_35 : decode cX12_linkDistance 35 = .ok (.iconst 0, 1) := by decide +kernel
theorem dX12_linkDistance_36 : decode cX12_linkDistance 36 = .ok (.ireturn, 1) := by decide +kernel
theorem dX12_moveGuard_0 : decode cX12_moveGuard 0 = .ok (.aload_n 0, 1) := by decide +kernel
theorem dX12_moveGuard_1 : decode cX12_moveGuard 1 = .ok (.iload_n 1, 1) := by decide +kernel
theorem dX12_moveGuard_2 : decode cX12_moveGuard 2 = .ok (.invokevirtual 356, 3) := by decide +kernel
theorem dX12_moveGuard_5 : decode cX12_moveGuard 5 = .ok (.ifCond .ne 30, 3) := by decide +kernel
theorem dX12_moveGuard_35 : decode cX12_moveGuard 35 = .ok (.iconst 0, 1) := by decide +kernel
theorem dX12_moveGuard_36 : decode cX12_moveGuard 36 = .ok (.ireturn, 1) := by decide +kernel
theorem dX12_moveVertex_0 : decode cX12_moveVertex 0 = .ok (.aload_n 0, 1) := by decide +kernel
theorem dX12_moveVertex_1 : decode cX12_moveVertex 1 = .ok (.iload_n 1, 1) := by decide +kernel
theorem dX12_moveVertex_2 : decode cX12_moveVertex 2 = .ok (.invokevirtual 251, 3) := by decide +kernel
theorem dX12_moveVertex_5 : decode cX12_moveVertex 5 = .ok (.ifCond .ne 17, 3) := by decide +kernel
theorem dX12_moveVertex_22 : decode cX12_moveVertex 22 = .ok (.iconst 0, 1) := by decide +kernel
theorem dX12_moveVertex_23 : decode cX12_moveVertex 23 = .ok (.ireturn, 1) := by decide +kernel
theorem dX12_noGuard_0 : decode cX12_noGuard 0 = .ok (.aload_n 0, 1) := by decide +kernel
theorem dX12_noGuard_1 : decode cX12_noGuard 1 = .ok (.invokevirtual 247, 3) := by decide +kernel
theorem dX12_noGuard_4 : decode cX12_noGuard 4 = .ok (.ifCond .ne 32, 3) := by decide +kernel
theorem dX12_noGuard_36 : decode cX12_noGuard 36 = .ok (.iconst 1, 1) := by decide +kernel
theorem dX12_noGuard_37 : decode cX12_noGuard 37 = .ok (.goto 4, 3) := by decide +kernel
theorem dX12_noGuard_41 : decode cX12_noGuard 41 = .ok (.ireturn, 1) := by decide +kernel
theorem dX12_noPoint_0 : decode cX12_noPoint 0 = .ok (.aload_n 0, 1) := by decide +kernel
theorem dX12_noPoint_1 : decode cX12_noPoint 1 = .ok (.invokevirtual 247, 3) := by decide +kernel
theorem dX12_noPoint_4 : decode cX12_noPoint 4 = .ok (.ifCond .ne 30, 3) := by decide +kernel
theorem dX12_noPoint_34 : decode cX12_noPoint 34 = .ok (.iconst 1, 1) := by decide +kernel
theorem dX12_noPoint_35 : decode cX12_noPoint 35 = .ok (.goto 4, 3) := by decide +kernel
theorem dX12_noPoint_39 : decode cX12_noPoint 39 = .ok (.ireturn, 1) := by decide +kernel
theorem dX12_noPolygon_0 : decode cX12_noPolygon 0 = .ok (.aload_n 0, 1) := by decide +kernel
theorem dX12_noPolygon_1 : decode cX12_noPolygon 1 = .ok (.iconst 0, 1) := by decide +kernel
theorem dX12_noPolygon_2 : decode cX12_noPolygon 2 = .ok (.putfield 79, 3) := by decide +kernel
theorem dX12_noPolygon_5 : decode cX12_noPolygon 5 = .ok (.aload_n 0, 1) := by decide +kernel
theorem dX12_noPolygon_6 : decode cX12_noPolygon 6 = .ok (.aload_n 0, 1) := by decide +kernel
theorem dX12_noPolygon_7 : decode cX12_noPolygon 7 = .ok (.getfield 82, 3) := by decide +kernel
theorem dX12_noPolygon_10 : decode cX12_noPolygon 10 = .ok (.ifCond .ne 7, 3) := by decide +kernel
theorem dX12_noPolygon_13 : decode cX12_noPolygon 13 = .ok (.iconst 1, 1) := by decide +kernel
theorem dX12_noPolygon_14 : decode cX12_noPolygon 14 = .ok (.goto 4, 3) := by decide +kernel
theorem dX12_noPolygon_18 : decode cX12_noPolygon 18 = .ok (.iconst 1, 1) := by decide +kernel
theorem dX12_noPolygon_19 : decode cX12_noPolygon 19 = .ok (.invokevirtual 86, 3) := by decide +kernel
theorem dX12_noPolygon_22 : decode cX12_noPolygon 22 = .ok (.ireturn, 1) := by decide +kernel
theorem dX12_noTriangle_0 : decode cX12_noTriangle 0 = .ok (.aload_n 0, 1) := by decide +kernel
theorem dX12_noTriangle_1 : decode cX12_noTriangle 1 = .ok (.invokevirtual 247, 3) := by decide +kernel
theorem dX12_noTriangle_4 : decode cX12_noTriangle 4 = .ok (.ifCond .ne 32, 3) := by decide +kernel
theorem dX12_noTriangle_36 : decode cX12_noTriangle 36 = .ok (.iconst 1, 1) := by decide +kernel
theorem dX12_noTriangle_37 : decode cX12_noTriangle 37 = .ok (.goto 4, 3) := by decide +kernel
theorem dX12_noTriangle_41 : decode cX12_noTriangle 41 = .ok (.ireturn, 1) := by decide +kernel
theorem dX12_noVertex_0 : decode cX12_noVertex 0 = .ok (.aload_n 0, 1) := by decide +kernel
theorem dX12_noVertex_1 : decode cX12_noVertex 1 = .ok (.invokevirtual 247, 3) := by decide +kernel
theorem dX12_noVertex_4 : decode cX12_noVertex 4 = .ok (.ifCond .ne 32, 3) := by decide +kernel
theorem dX12_noVertex_36 : decode cX12_noVertex 36 = .ok (.iconst 1, 1) := by decide +kernel
theorem dX12_noVertex_37 : decode cX12_noVertex 37 = .ok (.goto 4, 3) := by decide +kernel
theorem dX12_noVertex_41 : decode cX12_noVertex 41 = .ok (.ireturn, 1) := by decide +kernel
theorem dX12_parseError_0 : decode cX12_parseError 0 = .ok (.aload_n 0, 1) := by decide +kernel
theorem dX12_parseError_1 : decode cX12_parseError 1 = .ok (.iconst 0, 1) := by decide +kernel
theorem dX12_parseError_2 : decode cX12_parseError 2 = .ok (.putfield 79, 3) := by decide +kernel
theorem dX12_parseError_5 : decode cX12_parseError 5 = .ok (.aload_n 0, 1) := by decide +kernel
theorem dX12_parseError_6 : decode cX12_parseError 6 = .ok (.getfield 93, 3) := by decide +kernel
theorem dX12_parseError_9 : decode cX12_parseError 9 = .ok (.ireturn, 1) := by decide +kernel
theorem dX12_pointAt_0 : decode cX12_pointAt 0 = .ok (.aload_n 0, 1) := by decide +kernel
theorem dX12_pointAt_1 : decode cX12_pointAt 1 = .ok (.invokevirtual 247, 3) := by decide +kernel
theorem dX12_pointAt_4 : decode cX12_pointAt 4 = .ok (.ifCond .eq 7, 3) := by decide +kernel
theorem dX12_pointAt_7 : decode cX12_pointAt 7 = .ok (.iconst 0, 1) := by decide +kernel
theorem dX12_pointAt_8 : decode cX12_pointAt 8 = .ok (.goto 9, 3) := by decide +kernel
theorem dX12_pointAt_17 : decode cX12_pointAt 17 = .ok (.ireturn, 1) := by decide +kernel
theorem dX12_pointX_0 : decode cX12_pointX 0 = .ok (.aload_n 0, 1) := by decide +kernel
theorem dX12_pointX_1 : decode cX12_pointX 1 = .ok (.iload_n 1, 1) := by decide +kernel
theorem dX12_pointX_2 : decode cX12_pointX 2 = .ok (.invokevirtual 254, 3) := by decide +kernel
theorem dX12_pointX_5 : decode cX12_pointX 5 = .ok (.ifCond .eq 7, 3) := by decide +kernel
theorem dX12_pointX_8 : decode cX12_pointX 8 = .ok (.iconst 0, 1) := by decide +kernel
theorem dX12_pointX_9 : decode cX12_pointX 9 = .ok (.goto 9, 3) := by decide +kernel
theorem dX12_pointX_18 : decode cX12_pointX 18 = .ok (.ireturn, 1) := by decide +kernel
theorem dX12_pointY_0 : decode cX12_pointY 0 = .ok (.aload_n 0, 1) := by decide +kernel
theorem dX12_pointY_1 : decode cX12_pointY 1 = .ok (.iload_n 1, 1) := by decide +kernel
theorem dX12_pointY_2 : decode cX12_pointY 2 = .ok (.invokevirtual 254, 3) := by decide +kernel
theorem dX12_pointY_5 : decode cX12_pointY 5 = .ok (.ifCond .eq 7, 3) := by decide +kernel
theorem dX12_pointY_8 : decode cX12_pointY 8 = .ok (.iconst 0, 1) := by decide +kernel
theorem dX12_pointY_9 : decode cX12_pointY 9 = .ok (.goto 9, 3) := by decide +kernel
theorem dX12_pointY_18 : decode cX12_pointY 18 = .ok (.ireturn, 1) := by decide +kernel
theorem dX12_points_0 : decode cX12_points 0 = .ok (.aload_n 0, 1) := by decide +kernel
theorem dX12_points_1 : decode cX12_points 1 = .ok (.aload_n 0, 1) := by decide +kernel
theorem dX12_points_2 : decode cX12_points 2 = .ok (.getfield 201, 3) := by decide +kernel
theorem dX12_points_5 : decode cX12_points 5 = .ok (.invokevirtual 244, 3) := by decide +kernel
theorem dX12_points_8 : decode cX12_points 8 = .ok (.ireturn, 1) := by decide +kernel
theorem dX12_redundantGuards_0 : decode cX12_redundantGuards 0 = .ok (.aload_n 0, 1) := by decide +kernel
theorem dX12_redundantGuards_1 : decode cX12_redundantGuards 1 = .ok (.invokevirtual 247, 3) := by decide +kernel
theorem dX12_redundantGuards_4 : decode cX12_redundantGuards 4 = .ok (.ifCond .eq 5, 3) := by decide +kernel
theorem dX12_redundantGuards_7 : decode cX12_redundantGuards 7 = .ok (.iconst 0, 1) := by decide +kernel
theorem dX12_redundantGuards_8 : decode cX12_redundantGuards 8 = .ok (.ireturn, 1) := by decide +kernel
theorem dX12_reflexVertices_0 : decode cX12_reflexVertices 0 = .ok (.aload_n 0, 1) := by decide +kernel
theorem dX12_reflexVertices_1 : decode cX12_reflexVertices 1 = .ok (.invokevirtual 247, 3) := by decide +kernel
theorem dX12_reflexVertices_4 : decode cX12_reflexVertices 4 = .ok (.ifCond .eq 5, 3) := by decide +kernel
theorem dX12_reflexVertices_7 : decode cX12_reflexVertices 7 = .ok (.iconst 0, 1) := by decide +kernel
theorem dX12_reflexVertices_8 : decode cX12_reflexVertices 8 = .ok (.ireturn, 1) := by decide +kernel
theorem dX12_refuse_0 : decode cX12_refuse 0 = .ok (.aload_n 0, 1) := by decide +kernel
theorem dX12_refuse_1 : decode cX12_refuse 1 = .ok (.getfield 79, 3) := by decide +kernel
theorem dX12_refuse_4 : decode cX12_refuse 4 = .ok (.ifCond .ne 12, 3) := by decide +kernel
theorem dX12_refuse_7 : decode cX12_refuse 7 = .ok (.iload_n 1, 1) := by decide +kernel
theorem dX12_refuse_8 : decode cX12_refuse 8 = .ok (.ifCond .eq 8, 3) := by decide +kernel
theorem dX12_refuse_11 : decode cX12_refuse 11 = .ok (.aload_n 0, 1) := by decide +kernel
theorem dX12_refuse_12 : decode cX12_refuse 12 = .ok (.iload_n 2, 1) := by decide +kernel
theorem dX12_refuse_13 : decode cX12_refuse 13 = .ok (.putfield 79, 3) := by decide +kernel
theorem dX12_refuse_16 : decode cX12_refuse 16 = .ok (.aload_n 0, 1) := by decide +kernel
theorem dX12_refuse_17 : decode cX12_refuse 17 = .ok (.getfield 79, 3) := by decide +kernel
theorem dX12_refuse_20 : decode cX12_refuse 20 = .ok (.ifCond .eq 7, 3) := by decide +kernel
theorem dX12_refuse_23 : decode cX12_refuse 23 = .ok (.iconst 1, 1) := by decide +kernel
theorem dX12_refuse_24 : decode cX12_refuse 24 = .ok (.goto 4, 3) := by decide +kernel
theorem dX12_refuse_27 : decode cX12_refuse 27 = .ok (.iconst 0, 1) := by decide +kernel
theorem dX12_refuse_28 : decode cX12_refuse 28 = .ok (.ireturn, 1) := by decide +kernel
theorem dX12_removeGuard_0 : decode cX12_removeGuard 0 = .ok (.aload_n 0, 1) := by decide +kernel
theorem dX12_removeGuard_1 : decode cX12_removeGuard 1 = .ok (.iload_n 1, 1) := by decide +kernel
theorem dX12_removeGuard_2 : decode cX12_removeGuard 2 = .ok (.invokevirtual 356, 3) := by decide +kernel
theorem dX12_removeGuard_5 : decode cX12_removeGuard 5 = .ok (.ifCond .eq 5, 3) := by decide +kernel
theorem dX12_removeGuard_8 : decode cX12_removeGuard 8 = .ok (.iconst 0, 1) := by decide +kernel
theorem dX12_removeGuard_9 : decode cX12_removeGuard 9 = .ok (.ireturn, 1) := by decide +kernel
theorem dX12_restore_0 : decode cX12_restore 0 = .ok (.aload_n 0, 1) := by decide +kernel
theorem dX12_restore_1 : decode cX12_restore 1 = .ok (.iconst 0, 1) := by decide +kernel
theorem dX12_restore_2 : decode cX12_restore 2 = .ok (.putfield 79, 3) := by decide +kernel
theorem dX12_restore_5 : decode cX12_restore 5 = .ok (.aload_n 0, 1) := by decide +kernel
theorem dX12_restore_6 : decode cX12_restore 6 = .ok (.iload_n 1, 1) := by decide +kernel
theorem dX12_restore_7 : decode cX12_restore 7 = .ok (.iconst 0, 1) := by decide +kernel
theorem dX12_restore_8 : decode cX12_restore 8 = .ok (.iconst 1, 1) := by decide +kernel
theorem dX12_restore_9 : decode cX12_restore 9 = .ok (.invokestatic 148, 3) := by decide +kernel
theorem dX12_restore_12 : decode cX12_restore 12 = .ok (.ifCond .ne 7, 3) := by decide +kernel
theorem dX12_restore_15 : decode cX12_restore 15 = .ok (.iconst 1, 1) := by decide +kernel
theorem dX12_restore_16 : decode cX12_restore 16 = .ok (.goto 4, 3) := by decide +kernel
theorem dX12_restore_19 : decode cX12_restore 19 = .ok (.iconst 0, 1) := by decide +kernel
theorem dX12_restore_20 : decode cX12_restore 20 = .ok (.iconst 1, 1) := by decide +kernel
theorem dX12_restore_21 : decode cX12_restore 21 = .ok (.invokevirtual 86, 3) := by decide +kernel
theorem dX12_restore_24 : decode cX12_restore 24 = .ok (.ifCond .ne 25, 3) := by decide +kernel
theorem dX12_restore_27 : decode cX12_restore 27 = .ok (.aload_n 0, 1) := by decide +kernel
theorem dX12_restore_28 : decode cX12_restore 28 = .ok (.aload_n 0, 1) := by decide +kernel
theorem dX12_restore_29 : decode cX12_restore 29 = .ok (.getfield 16, 3) := by decide +kernel
theorem dX12_restore_32 : decode cX12_restore 32 = .ok (.iload_n 1, 1) := by decide +kernel
theorem dX12_restore_33 : decode cX12_restore 33 = .ok (.baload, 1) := by decide +kernel
theorem dX12_restore_34 : decode cX12_restore 34 = .ok (.ifCond .ne 7, 3) := by decide +kernel
theorem dX12_restore_37 : decode cX12_restore 37 = .ok (.iconst 1, 1) := by decide +kernel
theorem dX12_restore_38 : decode cX12_restore 38 = .ok (.goto 4, 3) := by decide +kernel
theorem dX12_restore_42 : decode cX12_restore 42 = .ok (.iconst 2, 1) := by decide +kernel
theorem dX12_restore_43 : decode cX12_restore 43 = .ok (.invokevirtual 86, 3) := by decide +kernel
theorem dX12_restore_46 : decode cX12_restore 46 = .ok (.ifCond .eq 5, 3) := by decide +kernel
theorem dX12_restore_49 : decode cX12_restore 49 = .ok (.iconst 0, 1) := by decide +kernel
theorem dX12_restore_50 : decode cX12_restore 50 = .ok (.ireturn, 1) := by decide +kernel
theorem dX12_save_0 : decode cX12_save 0 = .ok (.aload_n 0, 1) := by decide +kernel
theorem dX12_save_1 : decode cX12_save 1 = .ok (.invokevirtual 247, 3) := by decide +kernel
theorem dX12_save_4 : decode cX12_save 4 = .ok (.ifCond .ne 25, 3) := by decide +kernel
theorem dX12_save_29 : decode cX12_save 29 = .ok (.iconst 0, 1) := by decide +kernel
theorem dX12_save_30 : decode cX12_save 30 = .ok (.ireturn, 1) := by decide +kernel
theorem dX12_seenFromEdge_0 : decode cX12_seenFromEdge 0 = .ok (.aload_n 0, 1) := by decide +kernel
theorem dX12_seenFromEdge_1 : decode cX12_seenFromEdge 1 = .ok (.iload_n 1, 1) := by decide +kernel
theorem dX12_seenFromEdge_2 : decode cX12_seenFromEdge 2 = .ok (.invokevirtual 251, 3) := by decide +kernel
theorem dX12_seenFromEdge_5 : decode cX12_seenFromEdge 5 = .ok (.ifCond .eq 5, 3) := by decide +kernel
theorem dX12_seenFromEdge_8 : decode cX12_seenFromEdge 8 = .ok (.lconst 0, 1) := by decide +kernel
theorem dX12_seenFromEdge_9 : decode cX12_seenFromEdge 9 = .ok (.lreturn, 1) := by decide +kernel
theorem dX12_sees_0 : decode cX12_sees 0 = .ok (.aload_n 0, 1) := by decide +kernel
theorem dX12_sees_1 : decode cX12_sees 1 = .ok (.iload_n 1, 1) := by decide +kernel
theorem dX12_sees_2 : decode cX12_sees 2 = .ok (.invokevirtual 254, 3) := by decide +kernel
theorem dX12_sees_5 : decode cX12_sees 5 = .ok (.ifCond .ne 30, 3) := by decide +kernel
theorem dX12_sees_35 : decode cX12_sees 35 = .ok (.iconst 0, 1) := by decide +kernel
theorem dX12_sees_36 : decode cX12_sees 36 = .ok (.ireturn, 1) := by decide +kernel
theorem dX12_setRange_0 : decode cX12_setRange 0 = .ok (.aload_n 0, 1) := by decide +kernel
theorem dX12_setRange_1 : decode cX12_setRange 1 = .ok (.iload_n 1, 1) := by decide +kernel
theorem dX12_setRange_2 : decode cX12_setRange 2 = .ok (.invokevirtual 356, 3) := by decide +kernel
theorem dX12_setRange_5 : decode cX12_setRange 5 = .ok (.ifCond .ne 26, 3) := by decide +kernel
theorem dX12_setRange_31 : decode cX12_setRange 31 = .ok (.iconst 0, 1) := by decide +kernel
theorem dX12_setRange_32 : decode cX12_setRange 32 = .ok (.ireturn, 1) := by decide +kernel
theorem dX12_thrown_0 : decode cX12_thrown 0 = .ok (.aload_n 0, 1) := by decide +kernel
theorem dX12_thrown_1 : decode cX12_thrown 1 = .ok (.getfield 79, 3) := by decide +kernel
theorem dX12_thrown_4 : decode cX12_thrown 4 = .ok (.ireturn, 1) := by decide +kernel
theorem dX12_told_0 : decode cX12_told 0 = .ok (.aload_n 0, 1) := by decide +kernel
theorem dX12_told_1 : decode cX12_told 1 = .ok (.iconst 0, 1) := by decide +kernel
theorem dX12_told_2 : decode cX12_told 2 = .ok (.putfield 79, 3) := by decide +kernel
theorem dX12_told_5 : decode cX12_told 5 = .ok (.aload_n 0, 1) := by decide +kernel
theorem dX12_told_6 : decode cX12_told 6 = .ok (.getfield 82, 3) := by decide +kernel
theorem dX12_told_9 : decode cX12_told 9 = .ok (.ifCond .eq 7, 3) := by decide +kernel
theorem dX12_told_16 : decode cX12_told 16 = .ok (.iconst 0, 1) := by decide +kernel
theorem dX12_told_17 : decode cX12_told 17 = .ok (.ireturn, 1) := by decide +kernel
theorem dX12_treasureAt_0 : decode cX12_treasureAt 0 = .ok (.aload_n 0, 1) := by decide +kernel
theorem dX12_treasureAt_1 : decode cX12_treasureAt 1 = .ok (.invokevirtual 247, 3) := by decide +kernel
theorem dX12_treasureAt_4 : decode cX12_treasureAt 4 = .ok (.ifCond .ne 32, 3) := by decide +kernel
theorem dX12_treasureAt_36 : decode cX12_treasureAt 36 = .ok (.iconst 0, 1) := by decide +kernel
theorem dX12_treasureAt_37 : decode cX12_treasureAt 37 = .ok (.goto 19, 3) := by decide +kernel
theorem dX12_treasureAt_56 : decode cX12_treasureAt 56 = .ok (.ireturn, 1) := by decide +kernel
theorem dX12_treasures_0 : decode cX12_treasures 0 = .ok (.aload_n 0, 1) := by decide +kernel
theorem dX12_treasures_1 : decode cX12_treasures 1 = .ok (.aload_n 0, 1) := by decide +kernel
theorem dX12_treasures_2 : decode cX12_treasures 2 = .ok (.getfield 7, 3) := by decide +kernel
theorem dX12_treasures_5 : decode cX12_treasures 5 = .ok (.iconst 2, 1) := by decide +kernel
theorem dX12_treasures_6 : decode cX12_treasures 6 = .ok (.iaload, 1) := by decide +kernel
theorem dX12_treasures_7 : decode cX12_treasures 7 = .ok (.invokevirtual 244, 3) := by decide +kernel
theorem dX12_treasures_10 : decode cX12_treasures 10 = .ok (.ireturn, 1) := by decide +kernel
theorem dX12_triangleArea_0 : decode cX12_triangleArea 0 = .ok (.aload_n 0, 1) := by decide +kernel
theorem dX12_triangleArea_1 : decode cX12_triangleArea 1 = .ok (.iload_n 1, 1) := by decide +kernel
theorem dX12_triangleArea_2 : decode cX12_triangleArea 2 = .ok (.invokevirtual 301, 3) := by decide +kernel
theorem dX12_triangleArea_5 : decode cX12_triangleArea 5 = .ok (.ifCond .eq 5, 3) := by decide +kernel
theorem dX12_triangleArea_8 : decode cX12_triangleArea 8 = .ok (.iconst 0, 1) := by decide +kernel
theorem dX12_triangleArea_9 : decode cX12_triangleArea 9 = .ok (.ireturn, 1) := by decide +kernel
theorem dX12_triangleVertex_0 : decode cX12_triangleVertex 0 = .ok (.aload_n 0, 1) := by decide +kernel
theorem dX12_triangleVertex_1 : decode cX12_triangleVertex 1 = .ok (.iload_n 1, 1) := by decide +kernel
theorem dX12_triangleVertex_2 : decode cX12_triangleVertex 2 = .ok (.invokevirtual 301, 3) := by decide +kernel
theorem dX12_triangleVertex_5 : decode cX12_triangleVertex 5 = .ok (.ifCond .ne 25, 3) := by decide +kernel
theorem dX12_triangleVertex_30 : decode cX12_triangleVertex 30 = .ok (.iconst 0, 1) := by decide +kernel
theorem dX12_triangleVertex_31 : decode cX12_triangleVertex 31 = .ok (.ireturn, 1) := by decide +kernel
theorem dX12_undo_0 : decode cX12_undo 0 = .ok (.aload_n 0, 1) := by decide +kernel
theorem dX12_undo_1 : decode cX12_undo 1 = .ok (.iconst 0, 1) := by decide +kernel
theorem dX12_undo_2 : decode cX12_undo 2 = .ok (.putfield 79, 3) := by decide +kernel
theorem dX12_undo_5 : decode cX12_undo 5 = .ok (.aload_n 0, 1) := by decide +kernel
theorem dX12_undo_6 : decode cX12_undo 6 = .ok (.aload_n 0, 1) := by decide +kernel
theorem dX12_undo_7 : decode cX12_undo 7 = .ok (.getfield 192, 3) := by decide +kernel
theorem dX12_undo_10 : decode cX12_undo 10 = .ok (.ifCond .ne 7, 3) := by decide +kernel
theorem dX12_undo_13 : decode cX12_undo 13 = .ok (.iconst 1, 1) := by decide +kernel
theorem dX12_undo_14 : decode cX12_undo 14 = .ok (.goto 4, 3) := by decide +kernel
theorem dX12_undo_18 : decode cX12_undo 18 = .ok (.iconst 1, 1) := by decide +kernel
theorem dX12_undo_19 : decode cX12_undo 19 = .ok (.invokevirtual 86, 3) := by decide +kernel
theorem dX12_undo_22 : decode cX12_undo 22 = .ok (.ifCond .eq 5, 3) := by decide +kernel
theorem dX12_undo_25 : decode cX12_undo 25 = .ok (.iconst 0, 1) := by decide +kernel
theorem dX12_undo_26 : decode cX12_undo 26 = .ok (.ireturn, 1) := by decide +kernel
theorem dX12_undoable_0 : decode cX12_undoable 0 = .ok (.aload_n 0, 1) := by decide +kernel
theorem dX12_undoable_1 : decode cX12_undoable 1 = .ok (.aload_n 0, 1) := by decide +kernel
theorem dX12_undoable_2 : decode cX12_undoable 2 = .ok (.getfield 192, 3) := by decide +kernel
theorem dX12_undoable_5 : decode cX12_undoable 5 = .ok (.invokevirtual 244, 3) := by decide +kernel
theorem dX12_undoable_8 : decode cX12_undoable 8 = .ok (.ireturn, 1) := by decide +kernel
theorem dX12_unwatched_0 : decode cX12_unwatched 0 = .ok (.aload_n 0, 1) := by decide +kernel
theorem dX12_unwatched_1 : decode cX12_unwatched 1 = .ok (.invokevirtual 247, 3) := by decide +kernel
theorem dX12_unwatched_4 : decode cX12_unwatched 4 = .ok (.ifCond .eq 7, 3) := by decide +kernel
theorem dX12_unwatched_7 : decode cX12_unwatched 7 = .ok (.lconst 0, 1) := by decide +kernel
theorem dX12_unwatched_8 : decode cX12_unwatched 8 = .ok (.goto 17, 3) := by decide +kernel
theorem dX12_unwatched_25 : decode cX12_unwatched 25 = .ok (.lreturn, 1) := by decide +kernel
theorem dX12_vertexGuards_0 : decode cX12_vertexGuards 0 = .ok (.aload_n 0, 1) := by decide +kernel
theorem dX12_vertexGuards_1 : decode cX12_vertexGuards 1 = .ok (.invokevirtual 247, 3) := by decide +kernel
theorem dX12_vertexGuards_4 : decode cX12_vertexGuards 4 = .ok (.ifCond .eq 7, 3) := by decide +kernel
theorem dX12_vertexGuards_7 : decode cX12_vertexGuards 7 = .ok (.iconst 0, 1) := by decide +kernel
theorem dX12_vertexGuards_8 : decode cX12_vertexGuards 8 = .ok (.goto 8, 3) := by decide +kernel
theorem dX12_vertexGuards_16 : decode cX12_vertexGuards 16 = .ok (.ireturn, 1) := by decide +kernel
theorem dX12_vertexX_0 : decode cX12_vertexX 0 = .ok (.aload_n 0, 1) := by decide +kernel
theorem dX12_vertexX_1 : decode cX12_vertexX 1 = .ok (.iload_n 1, 1) := by decide +kernel
theorem dX12_vertexX_2 : decode cX12_vertexX 2 = .ok (.invokevirtual 251, 3) := by decide +kernel
theorem dX12_vertexX_5 : decode cX12_vertexX 5 = .ok (.ifCond .eq 7, 3) := by decide +kernel
theorem dX12_vertexX_8 : decode cX12_vertexX 8 = .ok (.iconst 0, 1) := by decide +kernel
theorem dX12_vertexX_9 : decode cX12_vertexX 9 = .ok (.goto 11, 3) := by decide +kernel
theorem dX12_vertexX_20 : decode cX12_vertexX 20 = .ok (.ireturn, 1) := by decide +kernel
theorem dX12_vertexY_0 : decode cX12_vertexY 0 = .ok (.aload_n 0, 1) := by decide +kernel
theorem dX12_vertexY_1 : decode cX12_vertexY 1 = .ok (.iload_n 1, 1) := by decide +kernel
theorem dX12_vertexY_2 : decode cX12_vertexY 2 = .ok (.invokevirtual 251, 3) := by decide +kernel
theorem dX12_vertexY_5 : decode cX12_vertexY 5 = .ok (.ifCond .eq 7, 3) := by decide +kernel
theorem dX12_vertexY_8 : decode cX12_vertexY 8 = .ok (.iconst 0, 1) := by decide +kernel
theorem dX12_vertexY_9 : decode cX12_vertexY 9 = .ok (.goto 12, 3) := by decide +kernel
theorem dX12_vertexY_21 : decode cX12_vertexY 21 = .ok (.ireturn, 1) := by decide +kernel
theorem dX12_vertices_0 : decode cX12_vertices 0 = .ok (.aload_n 0, 1) := by decide +kernel
theorem dX12_vertices_1 : decode cX12_vertices 1 = .ok (.aload_n 0, 1) := by decide +kernel
theorem dX12_vertices_2 : decode cX12_vertices 2 = .ok (.getfield 7, 3) := by decide +kernel
theorem dX12_vertices_5 : decode cX12_vertices 5 = .ok (.iconst 0, 1) := by decide +kernel
theorem dX12_vertices_6 : decode cX12_vertices 6 = .ok (.iaload, 1) := by decide +kernel
theorem dX12_vertices_7 : decode cX12_vertices 7 = .ok (.invokevirtual 244, 3) := by decide +kernel
theorem dX12_vertices_10 : decode cX12_vertices 10 = .ok (.ireturn, 1) := by decide +kernel
theorem dX12_visible_0 : decode cX12_visible 0 = .ok (.aload_n 0, 1) := by decide +kernel
theorem dX12_visible_1 : decode cX12_visible 1 = .ok (.iload_n 1, 1) := by decide +kernel
theorem dX12_visible_2 : decode cX12_visible 2 = .ok (.invokevirtual 254, 3) := by decide +kernel
theorem dX12_visible_5 : decode cX12_visible 5 = .ok (.ifCond .eq 5, 3) := by decide +kernel
theorem dX12_visible_8 : decode cX12_visible 8 = .ok (.lconst 0, 1) := by decide +kernel
theorem dX12_visible_9 : decode cX12_visible 9 = .ok (.lreturn, 1) := by decide +kernel
theorem dX12_watched_0 : decode cX12_watched 0 = .ok (.aload_n 0, 1) := by decide +kernel
theorem dX12_watched_1 : decode cX12_watched 1 = .ok (.iload_n 1, 1) := by decide +kernel
theorem dX12_watched_2 : decode cX12_watched 2 = .ok (.invokevirtual 356, 3) := by decide +kernel
theorem dX12_watched_5 : decode cX12_watched 5 = .ok (.ifCond .eq 5, 3) := by decide +kernel
theorem dX12_watched_8 : decode cX12_watched 8 = .ok (.lconst 0, 1) := by decide +kernel
theorem dX12_watched_9 : decode cX12_watched 9 = .ok (.lreturn, 1) := by decide +kernel
theorem dX12_watchedValue_0 : decode cX12_watchedValue 0 = .ok (.aload_n 0, 1) := by decide +kernel
theorem dX12_watchedValue_1 : decode cX12_watchedValue 1 = .ok (.invokevirtual 247, 3) := by decide +kernel
theorem dX12_watchedValue_4 : decode cX12_watchedValue 4 = .ok (.ifCond .eq 7, 3) := by decide +kernel
theorem dX12_watchedValue_7 : decode cX12_watchedValue 7 = .ok (.iconst 0, 1) := by decide +kernel
theorem dX12_watchedValue_8 : decode cX12_watchedValue 8 = .ok (.goto 12, 3) := by decide +kernel
theorem dX12_watchedValue_20 : decode cX12_watchedValue 20 = .ok (.ireturn, 1) := by decide +kernel
theorem dX12_watchers_0 : decode cX12_watchers 0 = .ok (.aload_n 0, 1) := by decide +kernel
theorem dX12_watchers_1 : decode cX12_watchers 1 = .ok (.iload_n 1, 1) := by decide +kernel
theorem dX12_watchers_2 : decode cX12_watchers 2 = .ok (.invokevirtual 254, 3) := by decide +kernel
theorem dX12_watchers_5 : decode cX12_watchers 5 = .ok (.ifCond .eq 5, 3) := by decide +kernel
theorem dX12_watchers_8 : decode cX12_watchers 8 = .ok (.iconst 0, 1) := by decide +kernel
theorem dX12_watchers_9 : decode cX12_watchers 9 = .ok (.ireturn, 1) := by decide +kernel
theorem dX12_witness_0 : decode cX12_witness 0 = .ok (.aload_n 0, 1) := by decide +kernel
theorem dX12_witness_1 : decode cX12_witness 1 = .ok (.invokevirtual 247, 3) := by decide +kernel
theorem dX12_witness_4 : decode cX12_witness 4 = .ok (.ifCond .eq 5, 3) := by decide +kernel
theorem dX12_witness_7 : decode cX12_witness 7 = .ok (.iconst 0, 1) := by decide +kernel
theorem dX12_witness_8 : decode cX12_witness 8 = .ok (.ireturn, 1) := by decide +kernel
theorem dX12_witnessNumber_0 : decode cX12_witnessNumber 0 = .ok (.aload_n 0, 1) := by decide +kernel
theorem dX12_witnessNumber_1 : decode cX12_witnessNumber 1 = .ok (.invokevirtual 247, 3) := by decide +kernel
theorem dX12_witnessNumber_4 : decode cX12_witnessNumber 4 = .ok (.ifCond .eq 5, 3) := by decide +kernel
theorem dX12_witnessNumber_7 : decode cX12_witnessNumber 7 = .ok (.iconst 0, 1) := by decide +kernel
theorem dX12_witnessNumber_8 : decode cX12_witnessNumber 8 = .ok (.ireturn, 1) := by decide +kernel
